section
/-- a private method of a class that the tables say can be made, by its rows of tables_1 -/
def lw_okq (q : MethodName × Nat) : Prop := (q.1.cls ≠ "java/lang/invoke/MethodHandle" ∧ q.1.cls ≠ "java/lang/invoke/VarHandle") ∧ Cond.instantiable q.1.cls q.2 ∈ tables_1 ∧ Cond.privateMethod q.1 ∈ tables_1 ∧ Cond.instanceMethod q.1 ∈ tables_1
theorem lw_p0 : lw_okq (⟨"PolicyForge$Reader", "readPart", "(I)LPolicyForge$Part;"⟩, 8) := ⟨⟨by decide +kernel, by decide +kernel⟩, List.mem_of_getElem? (i := 32) (by decide +kernel), List.mem_of_getElem? (i := 326) (by decide +kernel), List.mem_of_getElem? (i := 327) (by decide +kernel)⟩
theorem lw_p1 : lw_okq (⟨"PolicyForge$Reader", "refuse", "(I)Z"⟩, 8) := ⟨⟨by decide +kernel, by decide +kernel⟩, List.mem_of_getElem? (i := 32) (by decide +kernel), List.mem_of_getElem? (i := 330) (by decide +kernel), List.mem_of_getElem? (i := 331) (by decide +kernel)⟩
theorem lw_p2 : lw_okq (⟨"PolicyForge$Reader", "kindHere", "()I"⟩, 8) := ⟨⟨by decide +kernel, by decide +kernel⟩, List.mem_of_getElem? (i := 32) (by decide +kernel), List.mem_of_getElem? (i := 334) (by decide +kernel), List.mem_of_getElem? (i := 335) (by decide +kernel)⟩
theorem lw_p3 : lw_okq (⟨"PolicyForge$Reader", "countSame", "(Ljava/lang/String;)I"⟩, 8) := ⟨⟨by decide +kernel, by decide +kernel⟩, List.mem_of_getElem? (i := 32) (by decide +kernel), List.mem_of_getElem? (i := 350) (by decide +kernel), List.mem_of_getElem? (i := 351) (by decide +kernel)⟩
theorem lw_p4 : lw_okq (⟨"PolicyForge$Reader", "newPart", "(I)LPolicyForge$Part;"⟩, 8) := ⟨⟨by decide +kernel, by decide +kernel⟩, List.mem_of_getElem? (i := 32) (by decide +kernel), List.mem_of_getElem? (i := 405) (by decide +kernel), List.mem_of_getElem? (i := 406) (by decide +kernel)⟩
theorem lw_p5 : lw_okq (⟨"PolicyForge$Reader", "readLeaf", "(LPolicyForge$Part;I)Z"⟩, 8) := ⟨⟨by decide +kernel, by decide +kernel⟩, List.mem_of_getElem? (i := 32) (by decide +kernel), List.mem_of_getElem? (i := 416) (by decide +kernel), List.mem_of_getElem? (i := 417) (by decide +kernel)⟩
theorem lw_p6 : lw_okq (⟨"PolicyForge$Reader", "oneOf", "(CC)I"⟩, 8) := ⟨⟨by decide +kernel, by decide +kernel⟩, List.mem_of_getElem? (i := 32) (by decide +kernel), List.mem_of_getElem? (i := 420) (by decide +kernel), List.mem_of_getElem? (i := 421) (by decide +kernel)⟩
theorem lw_p7 : lw_okq (⟨"PolicyForge$Reader", "readTime", "()I"⟩, 8) := ⟨⟨by decide +kernel, by decide +kernel⟩, List.mem_of_getElem? (i := 32) (by decide +kernel), List.mem_of_getElem? (i := 424) (by decide +kernel), List.mem_of_getElem? (i := 425) (by decide +kernel)⟩
theorem lw_p8 : lw_okq (⟨"PolicyForge$Reader", "isHere", "(C)Z"⟩, 8) := ⟨⟨by decide +kernel, by decide +kernel⟩, List.mem_of_getElem? (i := 32) (by decide +kernel), List.mem_of_getElem? (i := 428) (by decide +kernel), List.mem_of_getElem? (i := 429) (by decide +kernel)⟩
theorem lw_p9 : lw_okq (⟨"PolicyForge$Reader", "expect", "(C)Z"⟩, 8) := ⟨⟨by decide +kernel, by decide +kernel⟩, List.mem_of_getElem? (i := 32) (by decide +kernel), List.mem_of_getElem? (i := 432) (by decide +kernel), List.mem_of_getElem? (i := 433) (by decide +kernel)⟩
theorem lw_p10 : lw_okq (⟨"PolicyForge$Reader", "readBranches", "(LPolicyForge$Part;II)Z"⟩, 8) := ⟨⟨by decide +kernel, by decide +kernel⟩, List.mem_of_getElem? (i := 32) (by decide +kernel), List.mem_of_getElem? (i := 436) (by decide +kernel), List.mem_of_getElem? (i := 437) (by decide +kernel)⟩
theorem lw_p11 : lw_okq (⟨"java/lang/Throwable", "fillInStackTrace", "(I)Ljava/lang/Throwable;"⟩, 6) := ⟨⟨by decide +kernel, by decide +kernel⟩, List.mem_of_getElem? (i := 483) (by decide +kernel), List.mem_of_getElem? (i := 481) (by decide +kernel), List.mem_of_getElem? (i := 482) (by decide +kernel)⟩
theorem lw_p12 : lw_okq (⟨"PolicyForge$Part", "offerWaysOfB", "(LPolicyForge$Form;)V"⟩, 8) := ⟨⟨by decide +kernel, by decide +kernel⟩, List.mem_of_getElem? (i := 39) (by decide +kernel), List.mem_of_getElem? (i := 513) (by decide +kernel), List.mem_of_getElem? (i := 514) (by decide +kernel)⟩
theorem lw_p13 : lw_okq (⟨"PolicyForge$Form", "countWords", "()I"⟩, 10) := ⟨⟨by decide +kernel, by decide +kernel⟩, List.mem_of_getElem? (i := 46) (by decide +kernel), List.mem_of_getElem? (i := 526) (by decide +kernel), List.mem_of_getElem? (i := 527) (by decide +kernel)⟩
theorem lw_p14 : lw_okq (⟨"PolicyForge$Form", "greatestWeight", "()I"⟩, 10) := ⟨⟨by decide +kernel, by decide +kernel⟩, List.mem_of_getElem? (i := 46) (by decide +kernel), List.mem_of_getElem? (i := 530) (by decide +kernel), List.mem_of_getElem? (i := 531) (by decide +kernel)⟩
theorem lw_p15 : lw_okq (⟨"PolicyForge$Form", "leafWeight", "()I"⟩, 10) := ⟨⟨by decide +kernel, by decide +kernel⟩, List.mem_of_getElem? (i := 46) (by decide +kernel), List.mem_of_getElem? (i := 534) (by decide +kernel), List.mem_of_getElem? (i := 535) (by decide +kernel)⟩
def lw_privs_1 : List (MethodName × Nat) := [(⟨"PolicyForge$Reader", "readPart", "(I)LPolicyForge$Part;"⟩, 8), (⟨"PolicyForge$Reader", "refuse", "(I)Z"⟩, 8), (⟨"PolicyForge$Reader", "kindHere", "()I"⟩, 8), (⟨"PolicyForge$Reader", "countSame", "(Ljava/lang/String;)I"⟩, 8), (⟨"PolicyForge$Reader", "newPart", "(I)LPolicyForge$Part;"⟩, 8), (⟨"PolicyForge$Reader", "readLeaf", "(LPolicyForge$Part;I)Z"⟩, 8), (⟨"PolicyForge$Reader", "oneOf", "(CC)I"⟩, 8), (⟨"PolicyForge$Reader", "readTime", "()I"⟩, 8), (⟨"PolicyForge$Reader", "isHere", "(C)Z"⟩, 8), (⟨"PolicyForge$Reader", "expect", "(C)Z"⟩, 8), (⟨"PolicyForge$Reader", "readBranches", "(LPolicyForge$Part;II)Z"⟩, 8), (⟨"java/lang/Throwable", "fillInStackTrace", "(I)Ljava/lang/Throwable;"⟩, 6), (⟨"PolicyForge$Part", "offerWaysOfB", "(LPolicyForge$Form;)V"⟩, 8), (⟨"PolicyForge$Form", "countWords", "()I"⟩, 10), (⟨"PolicyForge$Form", "greatestWeight", "()I"⟩, 10), (⟨"PolicyForge$Form", "leafWeight", "()I"⟩, 10)]
theorem lw_r1 : ∀ q ∈ lw_privs_1, lw_okq q := List.forall_mem_cons.mpr ⟨lw_p0, List.forall_mem_cons.mpr ⟨lw_p1, List.forall_mem_cons.mpr ⟨lw_p2, List.forall_mem_cons.mpr ⟨lw_p3, List.forall_mem_cons.mpr ⟨lw_p4, List.forall_mem_cons.mpr ⟨lw_p5, List.forall_mem_cons.mpr ⟨lw_p6, List.forall_mem_cons.mpr ⟨lw_p7, List.forall_mem_cons.mpr ⟨lw_p8, List.forall_mem_cons.mpr ⟨lw_p9, List.forall_mem_cons.mpr ⟨lw_p10, List.forall_mem_cons.mpr ⟨lw_p11, List.forall_mem_cons.mpr ⟨lw_p12, List.forall_mem_cons.mpr ⟨lw_p13, List.forall_mem_cons.mpr ⟨lw_p14, List.forall_mem_cons.mpr ⟨lw_p15, fun _ h => absurd h List.not_mem_nil⟩⟩⟩⟩⟩⟩⟩⟩⟩⟩⟩⟩⟩⟩⟩⟩
theorem lw_p16 : lw_okq (⟨"PolicyForge$Form", "greatestOfChoices", "()I"⟩, 10) := ⟨⟨by decide +kernel, by decide +kernel⟩, List.mem_of_getElem? (i := 46) (by decide +kernel), List.mem_of_getElem? (i := 542) (by decide +kernel), List.mem_of_getElem? (i := 543) (by decide +kernel)⟩
theorem lw_p17 : lw_okq (⟨"PolicyForge$Part", "offerRowOfAll", "(LPolicyForge$Form;)V"⟩, 8) := ⟨⟨by decide +kernel, by decide +kernel⟩, List.mem_of_getElem? (i := 39) (by decide +kernel), List.mem_of_getElem? (i := 561) (by decide +kernel), List.mem_of_getElem? (i := 562) (by decide +kernel)⟩
theorem lw_p18 : lw_okq (⟨"PolicyForge$Part", "offerWaysOfD", "(LPolicyForge$Form;LPolicyForge$Form;)V"⟩, 8) := ⟨⟨by decide +kernel, by decide +kernel⟩, List.mem_of_getElem? (i := 39) (by decide +kernel), List.mem_of_getElem? (i := 565) (by decide +kernel), List.mem_of_getElem? (i := 566) (by decide +kernel)⟩
theorem lw_p19 : lw_okq (⟨"PolicyForge$Part", "offerAside", "(LPolicyForge$Form;LPolicyForge$Form;)V"⟩, 8) := ⟨⟨by decide +kernel, by decide +kernel⟩, List.mem_of_getElem? (i := 39) (by decide +kernel), List.mem_of_getElem? (i := 569) (by decide +kernel), List.mem_of_getElem? (i := 570) (by decide +kernel)⟩
theorem lw_p20 : lw_okq (⟨"PolicyForge$Part", "offerWaysOfV", "(LPolicyForge$Form;)V"⟩, 8) := ⟨⟨by decide +kernel, by decide +kernel⟩, List.mem_of_getElem? (i := 39) (by decide +kernel), List.mem_of_getElem? (i := 587) (by decide +kernel), List.mem_of_getElem? (i := 588) (by decide +kernel)⟩
theorem lw_p21 : lw_okq (⟨"PolicyForge$Script", "addWord", "(I)V"⟩, 4) := ⟨⟨by decide +kernel, by decide +kernel⟩, List.mem_of_getElem? (i := 187) (by decide +kernel), List.mem_of_getElem? (i := 595) (by decide +kernel), List.mem_of_getElem? (i := 596) (by decide +kernel)⟩
theorem lw_p22 : lw_okq (⟨"PolicyForge$Script", "writeRow", "(LPolicyForge$Form;I)V"⟩, 4) := ⟨⟨by decide +kernel, by decide +kernel⟩, List.mem_of_getElem? (i := 187) (by decide +kernel), List.mem_of_getElem? (i := 599) (by decide +kernel), List.mem_of_getElem? (i := 600) (by decide +kernel)⟩
theorem lw_p23 : lw_okq (⟨"PolicyForge$Script", "addOperation", "(I)V"⟩, 4) := ⟨⟨by decide +kernel, by decide +kernel⟩, List.mem_of_getElem? (i := 187) (by decide +kernel), List.mem_of_getElem? (i := 604) (by decide +kernel), List.mem_of_getElem? (i := 605) (by decide +kernel)⟩
theorem lw_p24 : lw_okq (⟨"PolicyForge$Script", "writeAside", "(LPolicyForge$Form;I)V"⟩, 4) := ⟨⟨by decide +kernel, by decide +kernel⟩, List.mem_of_getElem? (i := 187) (by decide +kernel), List.mem_of_getElem? (i := 608) (by decide +kernel), List.mem_of_getElem? (i := 609) (by decide +kernel)⟩
theorem lw_p25 : lw_okq (⟨"PolicyForge$Script", "writeIf", "(LPolicyForge$Form;I)V"⟩, 4) := ⟨⟨by decide +kernel, by decide +kernel⟩, List.mem_of_getElem? (i := 187) (by decide +kernel), List.mem_of_getElem? (i := 612) (by decide +kernel), List.mem_of_getElem? (i := 613) (by decide +kernel)⟩
theorem lw_p26 : lw_okq (⟨"PolicyForge$Script", "writeUnless", "(LPolicyForge$Form;I)V"⟩, 4) := ⟨⟨by decide +kernel, by decide +kernel⟩, List.mem_of_getElem? (i := 187) (by decide +kernel), List.mem_of_getElem? (i := 616) (by decide +kernel), List.mem_of_getElem? (i := 617) (by decide +kernel)⟩
theorem lw_p27 : lw_okq (⟨"PolicyForge$Script", "keepForm", "(LPolicyForge$Form;)V"⟩, 4) := ⟨⟨by decide +kernel, by decide +kernel⟩, List.mem_of_getElem? (i := 187) (by decide +kernel), List.mem_of_getElem? (i := 620) (by decide +kernel), List.mem_of_getElem? (i := 621) (by decide +kernel)⟩
theorem lw_p28 : lw_okq (⟨"PolicyForge$Form", "lightenLeaf", "(LPolicyForge$Facts;)V"⟩, 10) := ⟨⟨by decide +kernel, by decide +kernel⟩, List.mem_of_getElem? (i := 46) (by decide +kernel), List.mem_of_getElem? (i := 700) (by decide +kernel), List.mem_of_getElem? (i := 701) (by decide +kernel)⟩
theorem lw_p29 : lw_okq (⟨"PolicyForge$Form", "tryBranch", "(LPolicyForge$Row;ILPolicyForge$Form;)V"⟩, 10) := ⟨⟨by decide +kernel, by decide +kernel⟩, List.mem_of_getElem? (i := 46) (by decide +kernel), List.mem_of_getElem? (i := 705) (by decide +kernel), List.mem_of_getElem? (i := 706) (by decide +kernel)⟩
theorem lw_p30 : lw_okq (⟨"PolicyForge$Row", "isLesser", "(LPolicyForge$Row;)Z"⟩, 4) := ⟨⟨by decide +kernel, by decide +kernel⟩, List.mem_of_getElem? (i := 54) (by decide +kernel), List.mem_of_getElem? (i := 713) (by decide +kernel), List.mem_of_getElem? (i := 714) (by decide +kernel)⟩
theorem lw_p31 : lw_okq (⟨"PolicyForge$Form", "lightenChoices", "(LPolicyForge$Row;)V"⟩, 10) := ⟨⟨by decide +kernel, by decide +kernel⟩, List.mem_of_getElem? (i := 46) (by decide +kernel), List.mem_of_getElem? (i := 724) (by decide +kernel), List.mem_of_getElem? (i := 725) (by decide +kernel)⟩
def lw_privs_2 : List (MethodName × Nat) := [(⟨"PolicyForge$Form", "greatestOfChoices", "()I"⟩, 10), (⟨"PolicyForge$Part", "offerRowOfAll", "(LPolicyForge$Form;)V"⟩, 8), (⟨"PolicyForge$Part", "offerWaysOfD", "(LPolicyForge$Form;LPolicyForge$Form;)V"⟩, 8), (⟨"PolicyForge$Part", "offerAside", "(LPolicyForge$Form;LPolicyForge$Form;)V"⟩, 8), (⟨"PolicyForge$Part", "offerWaysOfV", "(LPolicyForge$Form;)V"⟩, 8), (⟨"PolicyForge$Script", "addWord", "(I)V"⟩, 4), (⟨"PolicyForge$Script", "writeRow", "(LPolicyForge$Form;I)V"⟩, 4), (⟨"PolicyForge$Script", "addOperation", "(I)V"⟩, 4), (⟨"PolicyForge$Script", "writeAside", "(LPolicyForge$Form;I)V"⟩, 4), (⟨"PolicyForge$Script", "writeIf", "(LPolicyForge$Form;I)V"⟩, 4), (⟨"PolicyForge$Script", "writeUnless", "(LPolicyForge$Form;I)V"⟩, 4), (⟨"PolicyForge$Script", "keepForm", "(LPolicyForge$Form;)V"⟩, 4), (⟨"PolicyForge$Form", "lightenLeaf", "(LPolicyForge$Facts;)V"⟩, 10), (⟨"PolicyForge$Form", "tryBranch", "(LPolicyForge$Row;ILPolicyForge$Form;)V"⟩, 10), (⟨"PolicyForge$Row", "isLesser", "(LPolicyForge$Row;)Z"⟩, 4), (⟨"PolicyForge$Form", "lightenChoices", "(LPolicyForge$Row;)V"⟩, 10)]
theorem lw_r2 : ∀ q ∈ lw_privs_2, lw_okq q := List.forall_mem_cons.mpr ⟨lw_p16, List.forall_mem_cons.mpr ⟨lw_p17, List.forall_mem_cons.mpr ⟨lw_p18, List.forall_mem_cons.mpr ⟨lw_p19, List.forall_mem_cons.mpr ⟨lw_p20, List.forall_mem_cons.mpr ⟨lw_p21, List.forall_mem_cons.mpr ⟨lw_p22, List.forall_mem_cons.mpr ⟨lw_p23, List.forall_mem_cons.mpr ⟨lw_p24, List.forall_mem_cons.mpr ⟨lw_p25, List.forall_mem_cons.mpr ⟨lw_p26, List.forall_mem_cons.mpr ⟨lw_p27, List.forall_mem_cons.mpr ⟨lw_p28, List.forall_mem_cons.mpr ⟨lw_p29, List.forall_mem_cons.mpr ⟨lw_p30, List.forall_mem_cons.mpr ⟨lw_p31, fun _ h => absurd h List.not_mem_nil⟩⟩⟩⟩⟩⟩⟩⟩⟩⟩⟩⟩⟩⟩⟩⟩
theorem lw_p32 : lw_okq (⟨"PolicyForge$Form", "tryChoice", "(LPolicyForge$Row;I)V"⟩, 10) := ⟨⟨by decide +kernel, by decide +kernel⟩, List.mem_of_getElem? (i := 46) (by decide +kernel), List.mem_of_getElem? (i := 728) (by decide +kernel), List.mem_of_getElem? (i := 729) (by decide +kernel)⟩
theorem lw_p33 : lw_okq (⟨"PolicyForge$Machine", "load", "(LPolicyForge$Row;)V"⟩, 7) := ⟨⟨by decide +kernel, by decide +kernel⟩, List.mem_of_getElem? (i := 232) (by decide +kernel), List.mem_of_getElem? (i := 778) (by decide +kernel), List.mem_of_getElem? (i := 779) (by decide +kernel)⟩
theorem lw_p34 : lw_okq (⟨"PolicyForge$Machine", "push", "(I)V"⟩, 7) := ⟨⟨by decide +kernel, by decide +kernel⟩, List.mem_of_getElem? (i := 232) (by decide +kernel), List.mem_of_getElem? (i := 782) (by decide +kernel), List.mem_of_getElem? (i := 783) (by decide +kernel)⟩
theorem lw_p35 : lw_okq (⟨"PolicyForge$Machine", "step", "(IILPolicyForge$Script;LPolicyForge$Facts;)V"⟩, 7) := ⟨⟨by decide +kernel, by decide +kernel⟩, List.mem_of_getElem? (i := 232) (by decide +kernel), List.mem_of_getElem? (i := 786) (by decide +kernel), List.mem_of_getElem? (i := 787) (by decide +kernel)⟩
theorem lw_p36 : lw_okq (⟨"PolicyForge$Machine", "tryKey", "(I)V"⟩, 7) := ⟨⟨by decide +kernel, by decide +kernel⟩, List.mem_of_getElem? (i := 232) (by decide +kernel), List.mem_of_getElem? (i := 790) (by decide +kernel), List.mem_of_getElem? (i := 791) (by decide +kernel)⟩
theorem lw_p37 : lw_okq (⟨"PolicyForge$Machine", "take", "()I"⟩, 7) := ⟨⟨by decide +kernel, by decide +kernel⟩, List.mem_of_getElem? (i := 232) (by decide +kernel), List.mem_of_getElem? (i := 794) (by decide +kernel), List.mem_of_getElem? (i := 795) (by decide +kernel)⟩
theorem lw_p38 : lw_okq (⟨"PolicyForge$Machine", "takeNumber", "()I"⟩, 7) := ⟨⟨by decide +kernel, by decide +kernel⟩, List.mem_of_getElem? (i := 232) (by decide +kernel), List.mem_of_getElem? (i := 799) (by decide +kernel), List.mem_of_getElem? (i := 800) (by decide +kernel)⟩
theorem lw_p39 : lw_okq (⟨"PolicyForge$Machine", "stepAround", "(ILPolicyForge$Script;)V"⟩, 7) := ⟨⟨by decide +kernel, by decide +kernel⟩, List.mem_of_getElem? (i := 232) (by decide +kernel), List.mem_of_getElem? (i := 806) (by decide +kernel), List.mem_of_getElem? (i := 807) (by decide +kernel)⟩
theorem lw_p40 : lw_okq (⟨"PolicyForge$Machine", "pushAside", "(I)V"⟩, 7) := ⟨⟨by decide +kernel, by decide +kernel⟩, List.mem_of_getElem? (i := 232) (by decide +kernel), List.mem_of_getElem? (i := 810) (by decide +kernel), List.mem_of_getElem? (i := 811) (by decide +kernel)⟩
theorem lw_p41 : lw_okq (⟨"PolicyForge$Machine", "takeBack", "()I"⟩, 7) := ⟨⟨by decide +kernel, by decide +kernel⟩, List.mem_of_getElem? (i := 232) (by decide +kernel), List.mem_of_getElem? (i := 814) (by decide +kernel), List.mem_of_getElem? (i := 815) (by decide +kernel)⟩
theorem lw_p42 : lw_okq (⟨"PolicyForge$Machine", "repeatTop", "()V"⟩, 7) := ⟨⟨by decide +kernel, by decide +kernel⟩, List.mem_of_getElem? (i := 232) (by decide +kernel), List.mem_of_getElem? (i := 818) (by decide +kernel), List.mem_of_getElem? (i := 819) (by decide +kernel)⟩
theorem lw_p43 : lw_okq (⟨"PolicyForge$Machine", "tryIf", "(LPolicyForge$Script;)V"⟩, 7) := ⟨⟨by decide +kernel, by decide +kernel⟩, List.mem_of_getElem? (i := 232) (by decide +kernel), List.mem_of_getElem? (i := 822) (by decide +kernel), List.mem_of_getElem? (i := 823) (by decide +kernel)⟩
theorem lw_p44 : lw_okq (⟨"PolicyForge$Machine", "findBehind", "(ILPolicyForge$Script;)I"⟩, 7) := ⟨⟨by decide +kernel, by decide +kernel⟩, List.mem_of_getElem? (i := 232) (by decide +kernel), List.mem_of_getElem? (i := 826) (by decide +kernel), List.mem_of_getElem? (i := 827) (by decide +kernel)⟩
theorem lw_p45 : lw_okq (⟨"PolicyForgeModel", "bytesOf", "(I)V"⟩, 44) := ⟨⟨by decide +kernel, by decide +kernel⟩, List.mem_of_getElem? (i := 830) (by decide +kernel), List.mem_of_getElem? (i := 974) (by decide +kernel), List.mem_of_getElem? (i := 975) (by decide +kernel)⟩
theorem lw_p46 : lw_okq (⟨"PolicyForgeModel", "readAll", "()I"⟩, 44) := ⟨⟨by decide +kernel, by decide +kernel⟩, List.mem_of_getElem? (i := 830) (by decide +kernel), List.mem_of_getElem? (i := 982) (by decide +kernel), List.mem_of_getElem? (i := 983) (by decide +kernel)⟩
theorem lw_p47 : lw_okq (⟨"PolicyForgeModel", "begin", "(I)I"⟩, 44) := ⟨⟨by decide +kernel, by decide +kernel⟩, List.mem_of_getElem? (i := 830) (by decide +kernel), List.mem_of_getElem? (i := 986) (by decide +kernel), List.mem_of_getElem? (i := 987) (by decide +kernel)⟩
def lw_privs_3 : List (MethodName × Nat) := [(⟨"PolicyForge$Form", "tryChoice", "(LPolicyForge$Row;I)V"⟩, 10), (⟨"PolicyForge$Machine", "load", "(LPolicyForge$Row;)V"⟩, 7), (⟨"PolicyForge$Machine", "push", "(I)V"⟩, 7), (⟨"PolicyForge$Machine", "step", "(IILPolicyForge$Script;LPolicyForge$Facts;)V"⟩, 7), (⟨"PolicyForge$Machine", "tryKey", "(I)V"⟩, 7), (⟨"PolicyForge$Machine", "take", "()I"⟩, 7), (⟨"PolicyForge$Machine", "takeNumber", "()I"⟩, 7), (⟨"PolicyForge$Machine", "stepAround", "(ILPolicyForge$Script;)V"⟩, 7), (⟨"PolicyForge$Machine", "pushAside", "(I)V"⟩, 7), (⟨"PolicyForge$Machine", "takeBack", "()I"⟩, 7), (⟨"PolicyForge$Machine", "repeatTop", "()V"⟩, 7), (⟨"PolicyForge$Machine", "tryIf", "(LPolicyForge$Script;)V"⟩, 7), (⟨"PolicyForge$Machine", "findBehind", "(ILPolicyForge$Script;)I"⟩, 7), (⟨"PolicyForgeModel", "bytesOf", "(I)V"⟩, 44), (⟨"PolicyForgeModel", "readAll", "()I"⟩, 44), (⟨"PolicyForgeModel", "begin", "(I)I"⟩, 44)]
theorem lw_r3 : ∀ q ∈ lw_privs_3, lw_okq q := List.forall_mem_cons.mpr ⟨lw_p32, List.forall_mem_cons.mpr ⟨lw_p33, List.forall_mem_cons.mpr ⟨lw_p34, List.forall_mem_cons.mpr ⟨lw_p35, List.forall_mem_cons.mpr ⟨lw_p36, List.forall_mem_cons.mpr ⟨lw_p37, List.forall_mem_cons.mpr ⟨lw_p38, List.forall_mem_cons.mpr ⟨lw_p39, List.forall_mem_cons.mpr ⟨lw_p40, List.forall_mem_cons.mpr ⟨lw_p41, List.forall_mem_cons.mpr ⟨lw_p42, List.forall_mem_cons.mpr ⟨lw_p43, List.forall_mem_cons.mpr ⟨lw_p44, List.forall_mem_cons.mpr ⟨lw_p45, List.forall_mem_cons.mpr ⟨lw_p46, List.forall_mem_cons.mpr ⟨lw_p47, fun _ h => absurd h List.not_mem_nil⟩⟩⟩⟩⟩⟩⟩⟩⟩⟩⟩⟩⟩⟩⟩⟩
theorem lw_p48 : lw_okq (⟨"PolicyForgeModel", "fits", "(IJ)I"⟩, 44) := ⟨⟨by decide +kernel, by decide +kernel⟩, List.mem_of_getElem? (i := 830) (by decide +kernel), List.mem_of_getElem? (i := 1000) (by decide +kernel), List.mem_of_getElem? (i := 1001) (by decide +kernel)⟩
theorem lw_p49 : lw_okq (⟨"PolicyForgeModel", "at", "(I)I"⟩, 44) := ⟨⟨by decide +kernel, by decide +kernel⟩, List.mem_of_getElem? (i := 830) (by decide +kernel), List.mem_of_getElem? (i := 1004) (by decide +kernel), List.mem_of_getElem? (i := 1005) (by decide +kernel)⟩
theorem lw_p50 : lw_okq (⟨"PolicyForgeModel", "leaf", "(II)I"⟩, 44) := ⟨⟨by decide +kernel, by decide +kernel⟩, List.mem_of_getElem? (i := 830) (by decide +kernel), List.mem_of_getElem? (i := 1011) (by decide +kernel), List.mem_of_getElem? (i := 1012) (by decide +kernel)⟩
theorem lw_p51 : lw_okq (⟨"PolicyForgeModel", "mayGoOn", "(I)Z"⟩, 44) := ⟨⟨by decide +kernel, by decide +kernel⟩, List.mem_of_getElem? (i := 830) (by decide +kernel), List.mem_of_getElem? (i := 1015) (by decide +kernel), List.mem_of_getElem? (i := 1016) (by decide +kernel)⟩
theorem lw_p52 : lw_okq (⟨"PolicyForgeModel", "mayEnd", "(I)Z"⟩, 44) := ⟨⟨by decide +kernel, by decide +kernel⟩, List.mem_of_getElem? (i := 830) (by decide +kernel), List.mem_of_getElem? (i := 1019) (by decide +kernel), List.mem_of_getElem? (i := 1020) (by decide +kernel)⟩
theorem lw_p53 : lw_okq (⟨"PolicyForgeModel", "forms", "(I)V"⟩, 44) := ⟨⟨by decide +kernel, by decide +kernel⟩, List.mem_of_getElem? (i := 830) (by decide +kernel), List.mem_of_getElem? (i := 1023) (by decide +kernel), List.mem_of_getElem? (i := 1024) (by decide +kernel)⟩
theorem lw_p54 : lw_okq (⟨"PolicyForgeModel", "choose", "(IIIIII)V"⟩, 44) := ⟨⟨by decide +kernel, by decide +kernel⟩, List.mem_of_getElem? (i := 830) (by decide +kernel), List.mem_of_getElem? (i := 1030) (by decide +kernel), List.mem_of_getElem? (i := 1031) (by decide +kernel)⟩
theorem lw_p55 : lw_okq (⟨"PolicyForgeModel", "tries", "(II)Z"⟩, 44) := ⟨⟨by decide +kernel, by decide +kernel⟩, List.mem_of_getElem? (i := 830) (by decide +kernel), List.mem_of_getElem? (i := 1034) (by decide +kernel), List.mem_of_getElem? (i := 1035) (by decide +kernel)⟩
theorem lw_p56 : lw_okq (⟨"PolicyForgeModel", "is", "(II)V"⟩, 44) := ⟨⟨by decide +kernel, by decide +kernel⟩, List.mem_of_getElem? (i := 830) (by decide +kernel), List.mem_of_getElem? (i := 1038) (by decide +kernel), List.mem_of_getElem? (i := 1039) (by decide +kernel)⟩
theorem lw_p57 : lw_okq (⟨"PolicyForgeModel", "both", "(III)V"⟩, 44) := ⟨⟨by decide +kernel, by decide +kernel⟩, List.mem_of_getElem? (i := 830) (by decide +kernel), List.mem_of_getElem? (i := 1045) (by decide +kernel), List.mem_of_getElem? (i := 1046) (by decide +kernel)⟩
theorem lw_p58 : lw_okq (⟨"PolicyForgeModel", "allOf", "(I)V"⟩, 44) := ⟨⟨by decide +kernel, by decide +kernel⟩, List.mem_of_getElem? (i := 830) (by decide +kernel), List.mem_of_getElem? (i := 1052) (by decide +kernel), List.mem_of_getElem? (i := 1053) (by decide +kernel)⟩
theorem lw_p59 : lw_okq (⟨"PolicyForgeModel", "threshold", "(I)V"⟩, 44) := ⟨⟨by decide +kernel, by decide +kernel⟩, List.mem_of_getElem? (i := 830) (by decide +kernel), List.mem_of_getElem? (i := 1056) (by decide +kernel), List.mem_of_getElem? (i := 1057) (by decide +kernel)⟩
theorem lw_p60 : lw_okq (⟨"PolicyForgeModel", "gain", "(II)I"⟩, 44) := ⟨⟨by decide +kernel, by decide +kernel⟩, List.mem_of_getElem? (i := 830) (by decide +kernel), List.mem_of_getElem? (i := 1060) (by decide +kernel), List.mem_of_getElem? (i := 1061) (by decide +kernel)⟩
theorem lw_p61 : lw_okq (⟨"PolicyForgeModel", "triesOr", "(III)V"⟩, 44) := ⟨⟨by decide +kernel, by decide +kernel⟩, List.mem_of_getElem? (i := 830) (by decide +kernel), List.mem_of_getElem? (i := 1064) (by decide +kernel), List.mem_of_getElem? (i := 1065) (by decide +kernel)⟩
theorem lw_p62 : lw_okq (⟨"PolicyForgeModel", "either", "(IIII)V"⟩, 44) := ⟨⟨by decide +kernel, by decide +kernel⟩, List.mem_of_getElem? (i := 830) (by decide +kernel), List.mem_of_getElem? (i := 1071) (by decide +kernel), List.mem_of_getElem? (i := 1072) (by decide +kernel)⟩
theorem lw_p63 : lw_okq (⟨"PolicyForgeModel", "choice", "(II)V"⟩, 44) := ⟨⟨by decide +kernel, by decide +kernel⟩, List.mem_of_getElem? (i := 830) (by decide +kernel), List.mem_of_getElem? (i := 1075) (by decide +kernel), List.mem_of_getElem? (i := 1076) (by decide +kernel)⟩
def lw_privs_4 : List (MethodName × Nat) := [(⟨"PolicyForgeModel", "fits", "(IJ)I"⟩, 44), (⟨"PolicyForgeModel", "at", "(I)I"⟩, 44), (⟨"PolicyForgeModel", "leaf", "(II)I"⟩, 44), (⟨"PolicyForgeModel", "mayGoOn", "(I)Z"⟩, 44), (⟨"PolicyForgeModel", "mayEnd", "(I)Z"⟩, 44), (⟨"PolicyForgeModel", "forms", "(I)V"⟩, 44), (⟨"PolicyForgeModel", "choose", "(IIIIII)V"⟩, 44), (⟨"PolicyForgeModel", "tries", "(II)Z"⟩, 44), (⟨"PolicyForgeModel", "is", "(II)V"⟩, 44), (⟨"PolicyForgeModel", "both", "(III)V"⟩, 44), (⟨"PolicyForgeModel", "allOf", "(I)V"⟩, 44), (⟨"PolicyForgeModel", "threshold", "(I)V"⟩, 44), (⟨"PolicyForgeModel", "gain", "(II)I"⟩, 44), (⟨"PolicyForgeModel", "triesOr", "(III)V"⟩, 44), (⟨"PolicyForgeModel", "either", "(IIII)V"⟩, 44), (⟨"PolicyForgeModel", "choice", "(II)V"⟩, 44)]
theorem lw_r4 : ∀ q ∈ lw_privs_4, lw_okq q := List.forall_mem_cons.mpr ⟨lw_p48, List.forall_mem_cons.mpr ⟨lw_p49, List.forall_mem_cons.mpr ⟨lw_p50, List.forall_mem_cons.mpr ⟨lw_p51, List.forall_mem_cons.mpr ⟨lw_p52, List.forall_mem_cons.mpr ⟨lw_p53, List.forall_mem_cons.mpr ⟨lw_p54, List.forall_mem_cons.mpr ⟨lw_p55, List.forall_mem_cons.mpr ⟨lw_p56, List.forall_mem_cons.mpr ⟨lw_p57, List.forall_mem_cons.mpr ⟨lw_p58, List.forall_mem_cons.mpr ⟨lw_p59, List.forall_mem_cons.mpr ⟨lw_p60, List.forall_mem_cons.mpr ⟨lw_p61, List.forall_mem_cons.mpr ⟨lw_p62, List.forall_mem_cons.mpr ⟨lw_p63, fun _ h => absurd h List.not_mem_nil⟩⟩⟩⟩⟩⟩⟩⟩⟩⟩⟩⟩⟩⟩⟩⟩
theorem lw_p64 : lw_okq (⟨"PolicyForgeModel", "write", "(II)V"⟩, 44) := ⟨⟨by decide +kernel, by decide +kernel⟩, List.mem_of_getElem? (i := 830) (by decide +kernel), List.mem_of_getElem? (i := 1079) (by decide +kernel), List.mem_of_getElem? (i := 1080) (by decide +kernel)⟩
theorem lw_p65 : lw_okq (⟨"PolicyForgeModel", "say", "(II)V"⟩, 44) := ⟨⟨by decide +kernel, by decide +kernel⟩, List.mem_of_getElem? (i := 830) (by decide +kernel), List.mem_of_getElem? (i := 1083) (by decide +kernel), List.mem_of_getElem? (i := 1084) (by decide +kernel)⟩
theorem lw_p66 : lw_okq (⟨"PolicyForgeModel", "sayAside", "(III)V"⟩, 44) := ⟨⟨by decide +kernel, by decide +kernel⟩, List.mem_of_getElem? (i := 830) (by decide +kernel), List.mem_of_getElem? (i := 1087) (by decide +kernel), List.mem_of_getElem? (i := 1088) (by decide +kernel)⟩
theorem lw_p67 : lw_okq (⟨"PolicyForgeModel", "sayForm", "(I)V"⟩, 44) := ⟨⟨by decide +kernel, by decide +kernel⟩, List.mem_of_getElem? (i := 830) (by decide +kernel), List.mem_of_getElem? (i := 1091) (by decide +kernel), List.mem_of_getElem? (i := 1092) (by decide +kernel)⟩
theorem lw_p68 : lw_okq (⟨"PolicyForgeModel", "sayTwice", "(II)V"⟩, 44) := ⟨⟨by decide +kernel, by decide +kernel⟩, List.mem_of_getElem? (i := 830) (by decide +kernel), List.mem_of_getElem? (i := 1095) (by decide +kernel), List.mem_of_getElem? (i := 1096) (by decide +kernel)⟩
theorem lw_p69 : lw_okq (⟨"PolicyForgeModel", "sayIf", "(II)V"⟩, 44) := ⟨⟨by decide +kernel, by decide +kernel⟩, List.mem_of_getElem? (i := 830) (by decide +kernel), List.mem_of_getElem? (i := 1099) (by decide +kernel), List.mem_of_getElem? (i := 1100) (by decide +kernel)⟩
theorem lw_p70 : lw_okq (⟨"PolicyForgeModel", "sayThreshold", "(I)V"⟩, 44) := ⟨⟨by decide +kernel, by decide +kernel⟩, List.mem_of_getElem? (i := 830) (by decide +kernel), List.mem_of_getElem? (i := 1103) (by decide +kernel), List.mem_of_getElem? (i := 1104) (by decide +kernel)⟩
theorem lw_p71 : lw_okq (⟨"PolicyForgeModel", "writeMore", "(IIII)V"⟩, 44) := ⟨⟨by decide +kernel, by decide +kernel⟩, List.mem_of_getElem? (i := 830) (by decide +kernel), List.mem_of_getElem? (i := 1107) (by decide +kernel), List.mem_of_getElem? (i := 1108) (by decide +kernel)⟩
theorem lw_p72 : lw_okq (⟨"PolicyForgeModel", "leafHolds", "(IIIII)Z"⟩, 44) := ⟨⟨by decide +kernel, by decide +kernel⟩, List.mem_of_getElem? (i := 830) (by decide +kernel), List.mem_of_getElem? (i := 1119) (by decide +kernel), List.mem_of_getElem? (i := 1120) (by decide +kernel)⟩
theorem lw_p73 : lw_okq (⟨"PolicyForgeModel", "dissatisfied", "(I)V"⟩, 44) := ⟨⟨by decide +kernel, by decide +kernel⟩, List.mem_of_getElem? (i := 830) (by decide +kernel), List.mem_of_getElem? (i := 1135) (by decide +kernel), List.mem_of_getElem? (i := 1136) (by decide +kernel)⟩
theorem lw_p74 : lw_okq (⟨"PolicyForgeModel", "newRow", "()V"⟩, 44) := ⟨⟨by decide +kernel, by decide +kernel⟩, List.mem_of_getElem? (i := 830) (by decide +kernel), List.mem_of_getElem? (i := 1139) (by decide +kernel), List.mem_of_getElem? (i := 1140) (by decide +kernel)⟩
theorem lw_p75 : lw_okq (⟨"PolicyForgeModel", "item1", "(I)V"⟩, 44) := ⟨⟨by decide +kernel, by decide +kernel⟩, List.mem_of_getElem? (i := 830) (by decide +kernel), List.mem_of_getElem? (i := 1143) (by decide +kernel), List.mem_of_getElem? (i := 1144) (by decide +kernel)⟩
theorem lw_p76 : lw_okq (⟨"PolicyForgeModel", "no", "(I)V"⟩, 44) := ⟨⟨by decide +kernel, by decide +kernel⟩, List.mem_of_getElem? (i := 830) (by decide +kernel), List.mem_of_getElem? (i := 1150) (by decide +kernel), List.mem_of_getElem? (i := 1151) (by decide +kernel)⟩
theorem lw_p77 : lw_okq (⟨"PolicyForgeModel", "satisfied", "(IIZ)V"⟩, 44) := ⟨⟨by decide +kernel, by decide +kernel⟩, List.mem_of_getElem? (i := 830) (by decide +kernel), List.mem_of_getElem? (i := 1154) (by decide +kernel), List.mem_of_getElem? (i := 1155) (by decide +kernel)⟩
theorem lw_p78 : lw_okq (⟨"PolicyForgeModel", "offer", "()V"⟩, 44) := ⟨⟨by decide +kernel, by decide +kernel⟩, List.mem_of_getElem? (i := 830) (by decide +kernel), List.mem_of_getElem? (i := 1159) (by decide +kernel), List.mem_of_getElem? (i := 1160) (by decide +kernel)⟩
theorem lw_p79 : lw_okq (⟨"PolicyForgeModel", "offerBoth", "(II)V"⟩, 44) := ⟨⟨by decide +kernel, by decide +kernel⟩, List.mem_of_getElem? (i := 830) (by decide +kernel), List.mem_of_getElem? (i := 1163) (by decide +kernel), List.mem_of_getElem? (i := 1164) (by decide +kernel)⟩
def lw_privs_5 : List (MethodName × Nat) := [(⟨"PolicyForgeModel", "write", "(II)V"⟩, 44), (⟨"PolicyForgeModel", "say", "(II)V"⟩, 44), (⟨"PolicyForgeModel", "sayAside", "(III)V"⟩, 44), (⟨"PolicyForgeModel", "sayForm", "(I)V"⟩, 44), (⟨"PolicyForgeModel", "sayTwice", "(II)V"⟩, 44), (⟨"PolicyForgeModel", "sayIf", "(II)V"⟩, 44), (⟨"PolicyForgeModel", "sayThreshold", "(I)V"⟩, 44), (⟨"PolicyForgeModel", "writeMore", "(IIII)V"⟩, 44), (⟨"PolicyForgeModel", "leafHolds", "(IIIII)Z"⟩, 44), (⟨"PolicyForgeModel", "dissatisfied", "(I)V"⟩, 44), (⟨"PolicyForgeModel", "newRow", "()V"⟩, 44), (⟨"PolicyForgeModel", "item1", "(I)V"⟩, 44), (⟨"PolicyForgeModel", "no", "(I)V"⟩, 44), (⟨"PolicyForgeModel", "satisfied", "(IIZ)V"⟩, 44), (⟨"PolicyForgeModel", "offer", "()V"⟩, 44), (⟨"PolicyForgeModel", "offerBoth", "(II)V"⟩, 44)]
theorem lw_r5 : ∀ q ∈ lw_privs_5, lw_okq q := List.forall_mem_cons.mpr ⟨lw_p64, List.forall_mem_cons.mpr ⟨lw_p65, List.forall_mem_cons.mpr ⟨lw_p66, List.forall_mem_cons.mpr ⟨lw_p67, List.forall_mem_cons.mpr ⟨lw_p68, List.forall_mem_cons.mpr ⟨lw_p69, List.forall_mem_cons.mpr ⟨lw_p70, List.forall_mem_cons.mpr ⟨lw_p71, List.forall_mem_cons.mpr ⟨lw_p72, List.forall_mem_cons.mpr ⟨lw_p73, List.forall_mem_cons.mpr ⟨lw_p74, List.forall_mem_cons.mpr ⟨lw_p75, List.forall_mem_cons.mpr ⟨lw_p76, List.forall_mem_cons.mpr ⟨lw_p77, List.forall_mem_cons.mpr ⟨lw_p78, List.forall_mem_cons.mpr ⟨lw_p79, fun _ h => absurd h List.not_mem_nil⟩⟩⟩⟩⟩⟩⟩⟩⟩⟩⟩⟩⟩⟩⟩⟩
theorem lw_p80 : lw_okq (⟨"PolicyForgeModel", "yes", "(I)V"⟩, 44) := ⟨⟨by decide +kernel, by decide +kernel⟩, List.mem_of_getElem? (i := 830) (by decide +kernel), List.mem_of_getElem? (i := 1167) (by decide +kernel), List.mem_of_getElem? (i := 1168) (by decide +kernel)⟩
theorem lw_p81 : lw_okq (⟨"PolicyForgeModel", "offerEither", "(III)V"⟩, 44) := ⟨⟨by decide +kernel, by decide +kernel⟩, List.mem_of_getElem? (i := 830) (by decide +kernel), List.mem_of_getElem? (i := 1171) (by decide +kernel), List.mem_of_getElem? (i := 1172) (by decide +kernel)⟩
theorem lw_p82 : lw_okq (⟨"PolicyForgeModel", "offerChoice", "(II)V"⟩, 44) := ⟨⟨by decide +kernel, by decide +kernel⟩, List.mem_of_getElem? (i := 830) (by decide +kernel), List.mem_of_getElem? (i := 1175) (by decide +kernel), List.mem_of_getElem? (i := 1176) (by decide +kernel)⟩
theorem lw_p83 : lw_okq (⟨"PolicyForgeModel", "offerThreshold", "(I)V"⟩, 44) := ⟨⟨by decide +kernel, by decide +kernel⟩, List.mem_of_getElem? (i := 830) (by decide +kernel), List.mem_of_getElem? (i := 1179) (by decide +kernel), List.mem_of_getElem? (i := 1180) (by decide +kernel)⟩
theorem lw_p84 : lw_okq (⟨"PolicyForgeModel", "satisfiedMore", "(IIII)V"⟩, 44) := ⟨⟨by decide +kernel, by decide +kernel⟩, List.mem_of_getElem? (i := 830) (by decide +kernel), List.mem_of_getElem? (i := 1183) (by decide +kernel), List.mem_of_getElem? (i := 1184) (by decide +kernel)⟩
theorem lw_p85 : lw_okq (⟨"PolicyForgeModel", "putOn", "(I)V"⟩, 44) := ⟨⟨by decide +kernel, by decide +kernel⟩, List.mem_of_getElem? (i := 830) (by decide +kernel), List.mem_of_getElem? (i := 1203) (by decide +kernel), List.mem_of_getElem? (i := 1204) (by decide +kernel)⟩
theorem lw_p86 : lw_okq (⟨"PolicyForgeModel", "step", "(III)I"⟩, 44) := ⟨⟨by decide +kernel, by decide +kernel⟩, List.mem_of_getElem? (i := 830) (by decide +kernel), List.mem_of_getElem? (i := 1207) (by decide +kernel), List.mem_of_getElem? (i := 1208) (by decide +kernel)⟩
theorem lw_p87 : lw_okq (⟨"PolicyForgeModel", "take", "()I"⟩, 44) := ⟨⟨by decide +kernel, by decide +kernel⟩, List.mem_of_getElem? (i := 830) (by decide +kernel), List.mem_of_getElem? (i := 1211) (by decide +kernel), List.mem_of_getElem? (i := 1212) (by decide +kernel)⟩
theorem lw_p88 : lw_okq (⟨"PolicyForgeModel", "takeNumber", "()I"⟩, 44) := ⟨⟨by decide +kernel, by decide +kernel⟩, List.mem_of_getElem? (i := 830) (by decide +kernel), List.mem_of_getElem? (i := 1215) (by decide +kernel), List.mem_of_getElem? (i := 1216) (by decide +kernel)⟩
theorem lw_p89 : lw_okq (⟨"PolicyForgeModel", "join", "(I)V"⟩, 44) := ⟨⟨by decide +kernel, by decide +kernel⟩, List.mem_of_getElem? (i := 830) (by decide +kernel), List.mem_of_getElem? (i := 1219) (by decide +kernel), List.mem_of_getElem? (i := 1220) (by decide +kernel)⟩
theorem lw_p90 : lw_okq (⟨"PolicyForgeModel", "behind", "(II)I"⟩, 44) := ⟨⟨by decide +kernel, by decide +kernel⟩, List.mem_of_getElem? (i := 830) (by decide +kernel), List.mem_of_getElem? (i := 1223) (by decide +kernel), List.mem_of_getElem? (i := 1224) (by decide +kernel)⟩
def lw_privs_6 : List (MethodName × Nat) := [(⟨"PolicyForgeModel", "yes", "(I)V"⟩, 44), (⟨"PolicyForgeModel", "offerEither", "(III)V"⟩, 44), (⟨"PolicyForgeModel", "offerChoice", "(II)V"⟩, 44), (⟨"PolicyForgeModel", "offerThreshold", "(I)V"⟩, 44), (⟨"PolicyForgeModel", "satisfiedMore", "(IIII)V"⟩, 44), (⟨"PolicyForgeModel", "putOn", "(I)V"⟩, 44), (⟨"PolicyForgeModel", "step", "(III)I"⟩, 44), (⟨"PolicyForgeModel", "take", "()I"⟩, 44), (⟨"PolicyForgeModel", "takeNumber", "()I"⟩, 44), (⟨"PolicyForgeModel", "join", "(I)V"⟩, 44), (⟨"PolicyForgeModel", "behind", "(II)I"⟩, 44)]
theorem lw_r6 : ∀ q ∈ lw_privs_6, lw_okq q := List.forall_mem_cons.mpr ⟨lw_p80, List.forall_mem_cons.mpr ⟨lw_p81, List.forall_mem_cons.mpr ⟨lw_p82, List.forall_mem_cons.mpr ⟨lw_p83, List.forall_mem_cons.mpr ⟨lw_p84, List.forall_mem_cons.mpr ⟨lw_p85, List.forall_mem_cons.mpr ⟨lw_p86, List.forall_mem_cons.mpr ⟨lw_p87, List.forall_mem_cons.mpr ⟨lw_p88, List.forall_mem_cons.mpr ⟨lw_p89, List.forall_mem_cons.mpr ⟨lw_p90, fun _ h => absurd h List.not_mem_nil⟩⟩⟩⟩⟩⟩⟩⟩⟩⟩⟩
def lw_privs : List (MethodName × Nat) := lw_privs_1 ++ (lw_privs_2 ++ (lw_privs_3 ++ (lw_privs_4 ++ (lw_privs_5 ++ (lw_privs_6)))))
def lw_tbl : List Cond := k2_sels lw_privs ++ tables_1
theorem lw_privs_ok : ∀ q ∈ lw_privs, lw_okq q := by
  show ∀ q ∈ lw_privs_1 ++ (lw_privs_2 ++ (lw_privs_3 ++ (lw_privs_4 ++ (lw_privs_5 ++ (lw_privs_6))))), lw_okq q
  exact List.forall_mem_append.mpr ⟨lw_r1, List.forall_mem_append.mpr ⟨lw_r2, List.forall_mem_append.mpr ⟨lw_r3, List.forall_mem_append.mpr ⟨lw_r4, List.forall_mem_append.mpr ⟨lw_r5, lw_r6⟩⟩⟩⟩⟩
-- ===== end of PART A; then your names; then what follows =====
end
section
def R_PF : String := "PolicyForge"
def T_PF : u_T := fun k => match k with
  | 0 => ("PolicyForge", "reader", "LPolicyForge$Reader;", true)
  | 1 => ("PolicyForge", "trialForm", "LPolicyForge$Form;", true)
  | 2 => ("PolicyForge", "trialRow", "LPolicyForge$Row;", true)
  | 3 => ("PolicyForge", "script", "LPolicyForge$Script;", true)
  | 4 => ("PolicyForge", "facts", "LPolicyForge$Facts;", true)
  | 5 => ("PolicyForge", "witness", "LPolicyForge$Row;", true)
  | 6 => ("PolicyForge", "machine", "LPolicyForge$Machine;", true)
  | _ => ("PolicyForge", "policy", "LPolicyForge$Part;", false)
def t_PF : Nat → FieldType := fun k => match k with
  | 0 => .object "PolicyForge$Reader"
  | 1 => .object "PolicyForge$Form"
  | 2 => .object "PolicyForge$Row"
  | 3 => .object "PolicyForge$Script"
  | 4 => .object "PolicyForge$Facts"
  | 5 => .object "PolicyForge$Row"
  | 6 => .object "PolicyForge$Machine"
  | _ => .object "PolicyForge$Part"
theorem n_PF : ∀ a, a < 8 → ∀ b, b < 8 → a ≠ b → (T_PF a).2.1 ≠ (T_PF b).2.1 := by decide +kernel
theorem t_PF_ok : ∀ k, k < 8 → parseFieldDescriptor (T_PF k).2.2.1 = some (t_PF k) := by decide +kernel
def R_RD : String := "PolicyForge$Reader"
def T_RD : u_T := fun k => match k with
  | 0 => ("PolicyForge$Reader", "characters", "[I", true)
  | 1 => ("PolicyForge$Reader", "parts", "[LPolicyForge$Part;", true)
  | 2 => ("PolicyForge$Reader", "spare", "LPolicyForge$Part;", true)
  | 3 => ("PolicyForge$Reader", "length", "I", false)
  | 4 => ("PolicyForge$Reader", "at", "I", false)
  | 5 => ("PolicyForge$Reader", "place", "I", false)
  | 6 => ("PolicyForge$Reader", "leaves", "I", false)
  | _ => ("PolicyForge$Reader", "used", "I", false)
def t_RD : Nat → FieldType := fun k => match k with
  | 0 => .array .int
  | 1 => .array (.object "PolicyForge$Part")
  | 2 => .object "PolicyForge$Part"
  | 3 => .int
  | 4 => .int
  | 5 => .int
  | 6 => .int
  | _ => .int
theorem n_RD : ∀ a, a < 8 → ∀ b, b < 8 → a ≠ b → (T_RD a).2.1 ≠ (T_RD b).2.1 := by decide +kernel
theorem t_RD_ok : ∀ k, k < 8 → parseFieldDescriptor (T_RD k).2.2.1 = some (t_RD k) := by decide +kernel
def R_PT : String := "PolicyForge$Part"
def T_PT : u_T := fun k => match k with
  | 0 => ("PolicyForge$Part", "parts", "[LPolicyForge$Part;", true)
  | 1 => ("PolicyForge$Part", "formB", "LPolicyForge$Form;", true)
  | 2 => ("PolicyForge$Part", "formD", "LPolicyForge$Form;", true)
  | 3 => ("PolicyForge$Part", "formV", "LPolicyForge$Form;", true)
  | 4 => ("PolicyForge$Part", "kind", "I", false)
  | 5 => ("PolicyForge$Part", "number", "I", false)
  | 6 => ("PolicyForge$Part", "count", "I", false)
  | _ => ("PolicyForge$Part", "held", "Z", false)
def t_PT : Nat → FieldType := fun k => match k with
  | 0 => .array (.object "PolicyForge$Part")
  | 1 => .object "PolicyForge$Form"
  | 2 => .object "PolicyForge$Form"
  | 3 => .object "PolicyForge$Form"
  | 4 => .int
  | 5 => .int
  | 6 => .int
  | _ => .boolean
theorem n_PT : ∀ a, a < 8 → ∀ b, b < 8 → a ≠ b → (T_PT a).2.1 ≠ (T_PT b).2.1 := by decide +kernel
theorem t_PT_ok : ∀ k, k < 8 → parseFieldDescriptor (T_PT k).2.2.1 = some (t_PT k) := by decide +kernel
def R_FM : String := "PolicyForge$Form"
def T_FM : u_T := fun k => match k with
  | 0 => ("PolicyForge$Form", "taken", "[LPolicyForge$Form;", true)
  | 1 => ("PolicyForge$Form", "denies", "Z", true)
  | 2 => ("PolicyForge$Form", "refusal", "LPolicyForge$Row;", true)
  | 3 => ("PolicyForge$Form", "lightest", "LPolicyForge$Row;", true)
  | 4 => ("PolicyForge$Form", "rule", "I", false)
  | 5 => ("PolicyForge$Form", "mark", "I", false)
  | 6 => ("PolicyForge$Form", "need", "I", false)
  | 7 => ("PolicyForge$Form", "count", "I", false)
  | 8 => ("PolicyForge$Form", "words", "I", false)
  | _ => ("PolicyForge$Form", "weight", "I", false)
def t_FM : Nat → FieldType := fun k => match k with
  | 0 => .array (.object "PolicyForge$Form")
  | 1 => .boolean
  | 2 => .object "PolicyForge$Row"
  | 3 => .object "PolicyForge$Row"
  | 4 => .int
  | 5 => .int
  | 6 => .int
  | 7 => .int
  | 8 => .int
  | _ => .int
theorem n_FM : ∀ a, a < 10 → ∀ b, b < 10 → a ≠ b → (T_FM a).2.1 ≠ (T_FM b).2.1 := by decide +kernel
theorem t_FM_ok : ∀ k, k < 10 → parseFieldDescriptor (T_FM k).2.2.1 = some (t_FM k) := by decide +kernel
def R_RW : String := "PolicyForge$Row"
def T_RW : u_T := fun k => match k with
  | 0 => ("PolicyForge$Row", "items", "[I", true)
  | 1 => ("PolicyForge$Row", "count", "I", false)
  | 2 => ("PolicyForge$Row", "weight", "I", false)
  | _ => ("PolicyForge$Row", "made", "Z", false)
def t_RW : Nat → FieldType := fun k => match k with
  | 0 => .array .int
  | 1 => .int
  | 2 => .int
  | _ => .boolean
theorem n_RW : ∀ a, a < 4 → ∀ b, b < 4 → a ≠ b → (T_RW a).2.1 ≠ (T_RW b).2.1 := by decide +kernel
theorem t_RW_ok : ∀ k, k < 4 → parseFieldDescriptor (T_RW k).2.2.1 = some (t_RW k) := by decide +kernel
def R_SC : String := "PolicyForge$Script"
def T_SC : u_T := fun k => match k with
  | 0 => ("PolicyForge$Script", "words", "[I", true)
  | 1 => ("PolicyForge$Script", "forms", "[LPolicyForge$Form;", true)
  | 2 => ("PolicyForge$Script", "count", "I", false)
  | _ => ("PolicyForge$Script", "formCount", "I", false)
def t_SC : Nat → FieldType := fun k => match k with
  | 0 => .array .int
  | 1 => .array (.object "PolicyForge$Form")
  | 2 => .int
  | _ => .int
theorem n_SC : ∀ a, a < 4 → ∀ b, b < 4 → a ≠ b → (T_SC a).2.1 ≠ (T_SC b).2.1 := by decide +kernel
theorem t_SC_ok : ∀ k, k < 4 → parseFieldDescriptor (T_SC k).2.2.1 = some (t_SC k) := by decide +kernel
def R_FA : String := "PolicyForge$Facts"
def T_FA : u_T := fun k => match k with
  | 0 => ("PolicyForge$Facts", "keys", "I", false)
  | 1 => ("PolicyForge$Facts", "secrets", "I", false)
  | 2 => ("PolicyForge$Facts", "height", "I", false)
  | _ => ("PolicyForge$Facts", "age", "I", false)
def t_FA : Nat → FieldType := fun k => match k with
  | 0 => .int
  | 1 => .int
  | 2 => .int
  | _ => .int
theorem n_FA : ∀ a, a < 4 → ∀ b, b < 4 → a ≠ b → (T_FA a).2.1 ≠ (T_FA b).2.1 := by decide +kernel
theorem t_FA_ok : ∀ k, k < 4 → parseFieldDescriptor (T_FA k).2.2.1 = some (t_FA k) := by decide +kernel
def R_MA : String := "PolicyForge$Machine"
def T_MA : u_T := fun k => match k with
  | 0 => ("PolicyForge$Machine", "stack", "[I", true)
  | 1 => ("PolicyForge$Machine", "side", "[I", true)
  | 2 => ("PolicyForge$Machine", "depth", "I", false)
  | 3 => ("PolicyForge$Machine", "sideDepth", "I", false)
  | 4 => ("PolicyForge$Machine", "at", "I", false)
  | 5 => ("PolicyForge$Machine", "steps", "I", false)
  | _ => ("PolicyForge$Machine", "failed", "Z", false)
def t_MA : Nat → FieldType := fun k => match k with
  | 0 => .array .int
  | 1 => .array .int
  | 2 => .int
  | 3 => .int
  | 4 => .int
  | 5 => .int
  | _ => .boolean
theorem n_MA : ∀ a, a < 7 → ∀ b, b < 7 → a ≠ b → (T_MA a).2.1 ≠ (T_MA b).2.1 := by decide +kernel
theorem t_MA_ok : ∀ k, k < 7 → parseFieldDescriptor (T_MA k).2.2.1 = some (t_MA k) := by decide +kernel
def R_MO : String := "PolicyForgeModel"
def T_MO : u_T := fun k => match k with
  | 0 => ("PolicyForgeModel", "thrownCode", "I", false)
  | 1 => ("PolicyForgeModel", "typed", "[I", true)
  | 2 => ("PolicyForgeModel", "typedCount", "I", false)
  | 3 => ("PolicyForgeModel", "faultNow", "I", false)
  | 4 => ("PolicyForgeModel", "there", "Z", false)
  | 5 => ("PolicyForgeModel", "parts", "I", false)
  | 6 => ("PolicyForgeModel", "leaves", "I", false)
  | 7 => ("PolicyForgeModel", "kind", "[I", true)
  | 8 => ("PolicyForgeModel", "arg", "[I", true)
  | 9 => ("PolicyForgeModel", "count", "[I", true)
  | 10 => ("PolicyForgeModel", "child", "[I", true)
  | 11 => ("PolicyForgeModel", "way", "[I", true)
  | 12 => ("PolicyForgeModel", "length", "[I", true)
  | 13 => ("PolicyForgeModel", "weight", "[I", true)
  | 14 => ("PolicyForgeModel", "noWeight", "[I", true)
  | 15 => ("PolicyForgeModel", "script", "[I", true)
  | 16 => ("PolicyForgeModel", "written", "I", false)
  | 17 => ("PolicyForgeModel", "base", "I", false)
  | 18 => ("PolicyForgeModel", "tryLength", "I", false)
  | 19 => ("PolicyForgeModel", "tryWeight", "I", false)
  | 20 => ("PolicyForgeModel", "sat", "[I", true)
  | 21 => ("PolicyForgeModel", "satLength", "[I", true)
  | 22 => ("PolicyForgeModel", "satWeight", "[I", true)
  | 23 => ("PolicyForgeModel", "dis", "[I", true)
  | 24 => ("PolicyForgeModel", "disLength", "[I", true)
  | 25 => ("PolicyForgeModel", "row", "[I", true)
  | 26 => ("PolicyForgeModel", "rowLength", "I", false)
  | 27 => ("PolicyForgeModel", "rowWeight", "I", false)
  | 28 => ("PolicyForgeModel", "best", "[I", true)
  | 29 => ("PolicyForgeModel", "bestLength", "I", false)
  | 30 => ("PolicyForgeModel", "bestWeight", "I", false)
  | 31 => ("PolicyForgeModel", "witness", "[I", true)
  | 32 => ("PolicyForgeModel", "items", "I", false)
  | 33 => ("PolicyForgeModel", "doneNow", "I", false)
  | 34 => ("PolicyForgeModel", "stack", "[I", true)
  | 35 => ("PolicyForgeModel", "high", "I", false)
  | 36 => ("PolicyForgeModel", "side", "[I", true)
  | 37 => ("PolicyForgeModel", "sides", "I", false)
  | 38 => ("PolicyForgeModel", "open", "[I", true)
  | 39 => ("PolicyForgeModel", "opens", "I", false)
  | 40 => ("PolicyForgeModel", "failed", "Z", false)
  | 41 => ("PolicyForgeModel", "letters", "I", false)
  | 42 => ("PolicyForgeModel", "bad", "Z", false)
  | _ => ("PolicyForgeModel", "truth", "[Z", true)
def t_MO : Nat → FieldType := fun k => match k with
  | 0 => .int
  | 1 => .array .int
  | 2 => .int
  | 3 => .int
  | 4 => .boolean
  | 5 => .int
  | 6 => .int
  | 7 => .array .int
  | 8 => .array .int
  | 9 => .array .int
  | 10 => .array .int
  | 11 => .array .int
  | 12 => .array .int
  | 13 => .array .int
  | 14 => .array .int
  | 15 => .array .int
  | 16 => .int
  | 17 => .int
  | 18 => .int
  | 19 => .int
  | 20 => .array .int
  | 21 => .array .int
  | 22 => .array .int
  | 23 => .array .int
  | 24 => .array .int
  | 25 => .array .int
  | 26 => .int
  | 27 => .int
  | 28 => .array .int
  | 29 => .int
  | 30 => .int
  | 31 => .array .int
  | 32 => .int
  | 33 => .int
  | 34 => .array .int
  | 35 => .int
  | 36 => .array .int
  | 37 => .int
  | 38 => .array .int
  | 39 => .int
  | 40 => .boolean
  | 41 => .int
  | 42 => .boolean
  | _ => .array .boolean
theorem n_MO : ∀ a, a < 44 → ∀ b, b < 44 → a ≠ b → (T_MO a).2.1 ≠ (T_MO b).2.1 := by decide +kernel
theorem t_MO_ok : ∀ k, k < 44 → parseFieldDescriptor (T_MO k).2.2.1 = some (t_MO k) := by decide +kernel
abbrev vwCl : List vw_C := [(R_PF, T_PF, 8), (R_RD, T_RD, 8), (R_PT, T_PT, 8), (R_FM, T_FM, 10), (R_RW, T_RW, 4), (R_SC, T_SC, 4), (R_FA, T_FA, 4), (R_MA, T_MA, 7), (R_MO, T_MO, 44)]
/-! kinds: 0 PolicyForge, 1 Reader, 2 Part, 3 Form, 4 Row, 5 Script, 6 Facts, 7 Machine, 8 Row.items, 9 Form.taken, 10 Part.parts, 11 Reader.characters, 12 Reader.parts, 13 Script.words, 14 Script.forms, 15 Machine.stack, 16 Machine.side, 17 the reference, 18 its arrays of ints, 19 its array of booleans, 20 out -/
def ab_tag (c : Nat) : Nat := ([0, 0, 0, 0, 0, 0, 0, 0, 1, 3, 3, 1, 3, 1, 3, 1, 1, 0, 1, 1, 2] : List Nat).getD c 9
def ab_ci (c : Nat) : Nat := ([0, 1, 2, 3, 4, 5, 6, 7, 0, 3, 4, 0, 4, 0, 3, 0, 0, 8, 0, 1, 2] : List Nat).getD c 99
def ab_ts (c : Nat) : List Nat := ([[1, 1, 1, 1, 1, 1, 1, 1], [1, 1, 1, 0, 0, 0, 0, 0], [1, 1, 1, 1, 0, 0, 0, 0], [1, 0, 1, 1, 0, 0, 0, 0, 0, 0], [1, 0, 0, 0], [1, 1, 0, 0], [0, 0, 0, 0], [1, 1, 0, 0, 0, 0, 0], [], [], [], [], [], [], [], [], [], [0, 1, 0, 0, 0, 0, 0, 1, 1, 1, 1, 1, 1, 1, 1, 1, 0, 0, 0, 0, 1, 1, 1, 1, 1, 1, 0, 0, 1, 0, 0, 1, 0, 0, 1, 0, 1, 0, 1, 0, 0, 0, 0, 1]] : List (List Nat)).getD c []
def ab_ln (c i : Nat) : Nat := if c = 8 then (if i < 122 ∧ i % 2 = 1 ∧ i / 2 % 3 ≠ 1 then 0 else 40) else if c = 18 then ([100, 40, 40, 40, 160, 72, 72, 72, 24, 7200, 3600, 72, 72, 1200, 24, 64, 64, 64, 128, 64, 40] : List Nat).getD i 0 else ([0, 0, 0, 0, 0, 0, 0, 0, 40, 4, 4, 120, 19, 128, 38, 168, 128, 0, 0, 24, 1] : List Nat).getD c 0
def ab_tys (ca : Nat → ClassId) : List (ClassId × FieldType) := [(ca 0, .int), (ca 1, .boolean), (ca 2, .long), (ca 3, .object R_FM), (ca 4, .object R_PT)]
/-- the words that every contract asks of the tables -/
def ab_T : List Cond := lw_tbl.filter goodWord
theorem ab_T_good : GoodIn ab_T ab_T := fun w h => ⟨h, good_of_word (List.mem_filter.mp h).2⟩
theorem ab_in {w : Cond} (i : Nat) (h : lw_tbl[i]? = some w) (g : goodWord w = true) : w ∈ ab_T := List.mem_filter.mpr ⟨List.mem_of_getElem? h, g⟩
theorem ab_tw {args : Array Value} {s : State} (h : ∀ w ∈ lw_tbl, w.before args s = true) : ∀ w ∈ ab_T, w.before args s = true := fun w hw => h w (List.mem_filter.mp hw).1
end
section
/-! The abstract layer: values, states, worlds, one judgement J over the kit's W. -/
abbrev ab_V : Type := Int32 ⊕ Int64 ⊕ Option (Nat × Nat)
abbrev ab_I (x : Int32) : ab_V := Sum.inl x
abbrev ab_L (x : Int64) : ab_V := Sum.inr (Sum.inl x)
abbrev ab_R (r : Option (Nat × Nat)) : ab_V := Sum.inr (Sum.inr r)
abbrev ab_O (c i : Nat) : ab_V := Sum.inr (Sum.inr (some (c, i)))
abbrev ab_Ad : Type := Nat → Nat → Nat
def ab_rf (ad : ab_Ad) (r : Option (Nat × Nat)) : Value := va_rf (r.map fun q => ad q.1 q.2)
def ab_cv (ad : ab_Ad) (v : ab_V) : Value := match v with
  | .inl x => .int x
  | .inr (.inl x) => .long x
  | .inr (.inr r) => ab_rf ad r
def ab_is2 (v : ab_V) : Bool := match v with
  | .inr (.inl _) => true
  | _ => false
theorem ab_cat (ad : ab_Ad) (v : ab_V) : ((ab_cv ad v).category == 2) = ab_is2 v := by
  rcases v with x | x | r
  · rfl
  · rfl
  · cases r <;> rfl
/-- ints (and booleans), references, longs: by kind, number, place -/
abbrev ab_S : Type := (Nat → Nat → Nat → Int32) × (Nat → Nat → Nat → Option (Nat × Nat)) × (Nat → Nat → Nat → Int64)
def ab_up {α : Type} (f : Nat → Nat → Nat → α) (c i k : Nat) (v : α) : Nat → Nat → Nat → α := fun c' i' k' => if c' = c ∧ i' = i ∧ k' = k then v else f c' i' k'
theorem ab_up_s {α : Type} (f : Nat → Nat → Nat → α) (c i k : Nat) (v : α) : ab_up f c i k v c i k = v := by simp [ab_up]
theorem ab_up_n {α : Type} (f : Nat → Nat → Nat → α) {c i k c' i' k' : Nat} (v : α) (h : ¬ (c' = c ∧ i' = i ∧ k' = k)) : ab_up f c i k v c' i' k' = f c' i' k' := by simp [ab_up, h]
abbrev ab_ui (u : ab_S) (c i k : Nat) (v : Int32) : ab_S := (ab_up u.1 c i k v, u.2)
abbrev ab_ur (u : ab_S) (c i k : Nat) (r : Option (Nat × Nat)) : ab_S := (u.1, ab_up u.2.1 c i k r, u.2.2)
abbrev ab_ul (u : ab_S) (c i k : Nat) (v : Int64) : ab_S := (u.1, u.2.1, ab_up u.2.2 c i k v)
def ab_fv (ad : ab_Ad) (u : ab_S) (c i k t : Nat) : Value := if t = 0 then .int (u.1 c i k) else ab_rf ad (u.2.1 c i k)
def ab_fs (ad : ab_Ad) (u : ab_S) (c i : Nat) (ts : List Nat) : List Value := ts.mapIdx fun k t => ab_fv ad u c i k t
theorem ab_fs_get {ad : ab_Ad} {u : ab_S} {c i k t : Nat} {ts : List Nat} (h : ts[k]? = some t) : (ab_fs ad u c i ts)[k]? = some (ab_fv ad u c i k t) := by
  simp [ab_fs, List.getElem?_mapIdx, h]
theorem ab_fs_len {ad : ab_Ad} {u : ab_S} {c i : Nat} {ts : List Nat} : (ab_fs ad u c i ts).length = ts.length := by simp [ab_fs]
theorem ab_fs_set {ad : ab_Ad} {u u' : ab_S} {c i k t : Nat} {ts : List Nat} {v : Value} (h : ts[k]? = some t) (hv : ab_fv ad u' c i k t = v) (ho : ∀ j t', j ≠ k → ab_fv ad u' c i j t' = ab_fv ad u c i j t') : (ab_fs ad u c i ts).set k v = ab_fs ad u' c i ts := by
  have hl : k < (ab_fs ad u c i ts).length := by rw [ab_fs_len]; exact (List.getElem?_eq_some_iff.mp h).1
  apply List.ext_getElem?
  intro j
  by_cases hj : j = k
  · subst hj
    rw [List.getElem?_set_self hl, ab_fs_get h, hv]
  · rw [List.getElem?_set_ne (Ne.symm hj)]
    simp only [ab_fs, List.getElem?_mapIdx]
    cases ts[j]? with
    | none => rfl
    | some t' => simp only [Option.map_some]; rw [ho j t' hj]
/-- what the cell (c, i) holds -/
def ab_ent (ca : Nat → ClassId) (ad : ab_Ad) (u : ab_S) (c i : Nat) : va_E :=
  if ab_tag c = 0 then .inr (ab_ci c, ab_fs ad u c i (ab_ts c))
  else if ab_tag c = 1 then .inl (ca (ab_ci c), ab_ln c i, .inl (u.1 c i))
  else if ab_tag c = 2 then .inl (ca (ab_ci c), ab_ln c i, .inr (.inl (u.2.2 c i)))
  else .inl (ca (ab_ci c), ab_ln c i, .inr (.inr (.inr (.inr fun j => (u.2.1 c i j).map fun q => ad q.1 q.2))))
section AbE
variable {ca : Nat → ClassId} {ad : ab_Ad} {u : ab_S} {c i : Nat}
theorem ab_ent_o (h : ab_tag c = 0) : ab_ent ca ad u c i = .inr (ab_ci c, ab_fs ad u c i (ab_ts c)) := by unfold ab_ent; rw [if_pos h]
theorem ab_ent_i (h : ab_tag c = 1) : ab_ent ca ad u c i = .inl (ca (ab_ci c), ab_ln c i, .inl (u.1 c i)) := by unfold ab_ent; rw [if_neg (by omega), if_pos h]
theorem ab_ent_l (h : ab_tag c = 2) : ab_ent ca ad u c i = .inl (ca (ab_ci c), ab_ln c i, .inr (.inl (u.2.2 c i))) := by unfold ab_ent; rw [if_neg (by omega), if_neg (by omega), if_pos h]
theorem ab_ent_r (h : ab_tag c = 3) : ab_ent ca ad u c i = .inl (ca (ab_ci c), ab_ln c i, .inr (.inr (.inr (.inr fun j => (u.2.1 c i j).map fun q => ad q.1 q.2)))) := by unfold ab_ent; rw [if_neg (by omega), if_neg (by omega), if_neg (by omega)]
/-- a write at (c, i) leaves every other cell -/
theorem ab_ent_ui {k : Nat} {v : Int32} {c' i' : Nat} (h : ¬ (c' = c ∧ i' = i)) : ab_ent ca ad (ab_ui u c i k v) c' i' = ab_ent ca ad u c' i' := by
  have e : ∀ j, ab_up u.1 c i k v c' i' j = u.1 c' i' j := fun j => ab_up_n _ _ fun q => h ⟨q.1, q.2.1⟩
  have e2 : ab_up u.1 c i k v c' i' = u.1 c' i' := funext e
  simp only [ab_ent, ab_fs, ab_fv, e, e2]
theorem ab_ent_ur {k : Nat} {v : Option (Nat × Nat)} {c' i' : Nat} (h : ¬ (c' = c ∧ i' = i)) : ab_ent ca ad (ab_ur u c i k v) c' i' = ab_ent ca ad u c' i' := by
  have e : ∀ j, ab_up u.2.1 c i k v c' i' j = u.2.1 c' i' j := fun j => ab_up_n _ _ fun q => h ⟨q.1, q.2.1⟩
  simp only [ab_ent, ab_fs, ab_fv, e]
theorem ab_ent_ul {k : Nat} {v : Int64} {c' i' : Nat} (h : ¬ (c' = c ∧ i' = i)) : ab_ent ca ad (ab_ul u c i k v) c' i' = ab_ent ca ad u c' i' := by
  have e : ∀ j, ab_up u.2.2 c i k v c' i' j = u.2.2 c' i' j := fun j => ab_up_n _ _ fun q => h ⟨q.1, q.2.1⟩
  have e2 : ab_up u.2.2 c i k v c' i' = u.2.2 c' i' := funext e
  simp only [ab_ent, ab_fs, ab_fv, e2]
end AbE
/-- the world: the cells (c, i), i < N c, and no others, each as the state u has it -/
def ab_W (D : va_G) (ca : Nat → ClassId) (ad : ab_Ad) (N : Nat → Nat) (u : ab_S) (A : Nat → Prop) (H : Heap) : Prop :=
  (∀ c i c' i' : Nat, i < N c → i' < N c' → ad c i = ad c' i' → c = c' ∧ i = i') ∧
  ∃ ws : va_W, va_P D vwCl ws H ∧ va_D A ws ∧ (∀ c i : Nat, i < N c → (ad c i, ab_ent ca ad u c i) ∈ ws) ∧ (∀ q ∈ ws, ∃ c i : Nat, i < N c ∧ q = (ad c i, ab_ent ca ad u c i))
section AbW
variable {D : va_G} {ca : Nat → ClassId} {ad : ab_Ad} {N : Nat → Nat} {u u' : ab_S} {A B : Nat → Prop} {H H1 : Heap}
theorem ab_W.weaken (h : ab_W D ca ad N u A H) (hAB : ∀ c i : Nat, i < N c → B (ad c i)) : ab_W D ca ad N u B H := by
  obtain ⟨h0, ws, hP, hD, h1, h2⟩ := h
  refine ⟨h0, ws, hP, ⟨hD.1, fun k q hk => ?_⟩, h1, h2⟩
  obtain ⟨c, i, hi, rfl⟩ := h2 q (List.mem_of_getElem? hk)
  exact hAB c i hi
theorem ab_W.inA (h : ab_W D ca ad N u A H) {c i : Nat} (hi : i < N c) : A (ad c i) := by
  obtain ⟨h0, ws, hP, hD, h1, h2⟩ := h
  obtain ⟨k, hk⟩ := List.getElem?_of_mem (h1 c i hi)
  exact hD.2 k _ hk
theorem ab_W.at (h : ab_W D ca ad N u A H) {c i : Nat} (hi : i < N c) : ∃ (ws : va_W) (k : Nat), va_P D vwCl ws H ∧ va_D A ws ∧ ws[k]? = some (ad c i, ab_ent ca ad u c i) := by
  obtain ⟨-, ws, hP, hD, h1, -⟩ := h
  obtain ⟨k, hk⟩ := List.getElem?_of_mem (h1 c i hi)
  exact ⟨ws, k, hP, hD, hk⟩
theorem ab_W.put (h : ab_W D ca ad N u A H) {c i : Nat} (hi : i < N c) : ∃ (ws : va_W) (k : Nat), va_P D vwCl ws H ∧ va_D A ws ∧ ws[k]? = some (ad c i, ab_ent ca ad u c i) ∧ (∀ c' i' : Nat, i' < N c' → (ad c' i', ab_ent ca ad u c' i') ∈ ws) ∧
    ∀ (H1 : Heap) (u' : ab_S) (e : va_E), va_P D vwCl (ws.set k (ad c i, e)) H1 → va_D A (ws.set k (ad c i, e)) → e = ab_ent ca ad u' c i → (∀ c' i' : Nat, ¬ (c' = c ∧ i' = i) → ab_ent ca ad u' c' i' = ab_ent ca ad u c' i') → ab_W D ca ad N u' A H1 := by
  obtain ⟨h0, ws, hP, hD, h1, h2⟩ := h
  obtain ⟨k, hk⟩ := List.getElem?_of_mem (h1 c i hi)
  refine ⟨ws, k, hP, hD, hk, h1, fun H1 u' e hP' hD' he ho => ⟨h0, _, hP', hD', fun c' i' hi' => ?_, fun q hq => ?_⟩⟩
  · have hl := (List.getElem?_eq_some_iff.mp hk).1
    by_cases hc : c' = c ∧ i' = i
    · obtain ⟨rfl, rfl⟩ := hc
      rw [← he]
      exact List.mem_of_getElem? (i := k) (List.getElem?_set_self hl)
    · rw [ho c' i' hc]
      obtain ⟨k', hk'⟩ := List.getElem?_of_mem (h1 c' i' hi')
      have hne : k' ≠ k := by
        intro e
        subst e
        rw [hk] at hk'
        have q := (Prod.mk.inj (Option.some.inj hk')).1
        obtain ⟨a, b⟩ := h0 c i c' i' hi hi' q
        exact hc ⟨a.symm, b.symm⟩
      exact List.mem_of_getElem? (i := k') (by rw [List.getElem?_set_ne (Ne.symm hne)]; exact hk')
  · have hl := (List.getElem?_eq_some_iff.mp hk).1
    obtain ⟨j, hj⟩ := List.getElem?_of_mem hq
    by_cases hjk : j = k
    · subst hjk
      rw [List.getElem?_set_self hl] at hj
      cases hj
      exact ⟨c, i, hi, by rw [he]⟩
    · rw [List.getElem?_set_ne (Ne.symm hjk)] at hj
      obtain ⟨c', i', hi', rfl⟩ := h2 q (List.mem_of_getElem? hj)
      have hn : ¬ (c' = c ∧ i' = i) := fun ⟨a, b⟩ => by
        subst a; subst b
        exact hjk (hD.1 j k _ _ hj hk rfl)
      exact ⟨c', i', hi', by rw [ho c' i' hn]⟩
end AbW
/-! what stands outside of the world and is never written: the statics of Throwable (null or a reference), the table of kinds; (21, 0) is that table -/
def ab_kinds (j : Nat) : Int32 := ([1, 2, 3, 4, 6, 7, 8] : List Int32).getD j 0
def ab_LS (C n d : String) (A : Nat → Prop) (U : State) (H : Heap) : Prop := ∃ (c : ClassId) (k : Class) (i : Nat) (f : Field) (a : Nat) (cell : Cell), U.vm.findClass C = some c ∧ U.fieldFound? C n d = some (c, k, i, f) ∧ f.isStatic = true ∧ k.statics = some a ∧ H[a]? = some cell ∧ cell.vm.isStatics = true ∧ cell.cls = c ∧ f.slot < cell.slots.size ∧ k.staticTypes[f.slot]? = some f.type ∧ ¬ A a
theorem ab_LS.moved {C n d : String} {A : Nat → Prop} {u U : State} {H : Heap} (hvm : u.vm.Alike U.vm) (h : ab_LS C n d A u H) : ab_LS C n d A U H := by
  obtain ⟨c, k, i, f, a, cell, h1, h2, h3, h4, h5, h6, h7, h8, h9, h10⟩ := h
  obtain ⟨k', hi', hek⟩ := State.fieldFound?_setVm hvm h2
  exact ⟨c, k', i, f, a, cell, by rw [hvm.findClass]; exact h1, hi', h3, by rw [hek]; exact h4, h5, h6, h7, h8, by rw [hek]; exact h9, h10⟩
theorem ab_LS.kept {C n d : String} {A : Nat → Prop} {U : State} {H H1 : Heap} (h : ab_LS C n d A U H) (hq : ∀ a : Nat, a < H.size → ¬ A a → H1[a]? = H[a]?) : ab_LS C n d A U H1 := by
  obtain ⟨c, k, i, f, a, cell, h1, h2, h3, h4, h5, h6, h7, h8, h9, h10⟩ := h
  exact ⟨c, k, i, f, a, cell, h1, h2, h3, h4, by rw [hq a (Array.getElem?_eq_some_iff.mp h5).1 h10]; exact h5, h6, h7, h8, h9, h10⟩
theorem ab_LS.narrow {C n d : String} {A B : Nat → Prop} {U : State} {H : Heap} (h : ab_LS C n d A U H) (hAB : ∀ q, B q → A q) : ab_LS C n d B U H := by
  obtain ⟨c, k, i, f, a, cell, h1, h2, h3, h4, h5, h6, h7, h8, h9, h10⟩ := h
  exact ⟨c, k, i, f, a, cell, h1, h2, h3, h4, h5, h6, h7, h8, h9, fun q => h10 (hAB a q)⟩
theorem ab_LS.use {C n d : String} {A : Nat → Prop} {U : State} {args : Array Value} (h : ab_LS C n d A U U.heap) : (Cond.laysStatic C n d).before args U = true := by
  obtain ⟨c, k, i, f, a, cell, h1, h2, h3, h4, h5, h6, h7, h8, h9, h10⟩ := h
  exact Cond.laysStatic_of h1 h2 h3 h4 h5 h6 h7 h8 h9
theorem ab_Zq.use {C n d : String} {A : Nat → Prop} {U : State} {args : Array Value} (h : va_Zq C n d A U U.heap) : (Cond.isRef (.static C n d)).before args U = true := by
  rcases h with h | ⟨t, h⟩ <;>
  · obtain ⟨cf, kf, fi, f, a, cell, h1, h2, h3, h4, h5, h6, h7, h8⟩ := h
    simp [Cond.before, Cond.holds, Cond.value, Term.eval, State.fieldNamed?, h1, h2, h4, h5, h6, h7]
/-! the seven names, (22, i), and their bytes, (24, i) -/
def ab_sl : List Nat := [4, 5, 6, 6, 4, 3, 4]
def ab_sb : List (List Int32) := [[107, 101, 121, 40], [104, 97, 115, 104, 40], [97, 102, 116, 101, 114, 40], [111, 108, 100, 101, 114, 40], [97, 110, 100, 40], [111, 114, 40], [116, 104, 114, 40]]
def ab_st (i : Nat) : String := (["key(", "hash(", "after(", "older(", "and(", "or(", "thr("] : List String).getD i ""
def ab_Ss (ad : ab_Ad) (A : Nat → Prop) (U : State) (H : Heap) : Prop :=
  vk_S 7 ab_sl ab_sb (ad 22) (ad 24) A U H ∧ va_Z "java/lang/String" "COMPACT_STRINGS" "Z" (.int 1) A U H ∧ va_Zq "jdk/internal/util/Preconditions" "SIOOBE_FORMATTER" "Ljava/util/function/BiFunction;" A U H ∧
  ∀ i : Nat, i < 7 → vk_R "PolicyForge$Reader" (93 + 2 * i) (ab_st i) (ad 22 i) U
theorem ab_Ss.moved {ad : ab_Ad} {A : Nat → Prop} {u U : State} {H : Heap} (hW : u.WarmedH U.vm) (h : ab_Ss ad A u H) : ab_Ss ad A U H := ⟨h.1.moved hW.alike, h.2.1.moved hW.alike, h.2.2.1.moved hW.alike, fun i hi => (h.2.2.2 i hi).warm hW⟩
theorem ab_Ss.kept {ad : ab_Ad} {A : Nat → Prop} {U : State} {H H1 : Heap} (h : ab_Ss ad A U H) (hq : ∀ a : Nat, a < H.size → ¬ A a → H1[a]? = H[a]?) : ab_Ss ad A U H1 := ⟨h.1.kept hq, h.2.1.kept hq, h.2.2.1.kept hq, h.2.2.2⟩
theorem ab_Ss.narrow {ad : ab_Ad} {A B : Nat → Prop} {U : State} {H : Heap} (h : ab_Ss ad A U H) (hAB : ∀ q, B q → A q) : ab_Ss ad B U H := ⟨h.1.narrow hAB, h.2.1.narrow hAB, h.2.2.1.narrow hAB, h.2.2.2⟩
def ab_Zs (ad : ab_Ad) (A : Nat → Prop) (U : State) (H : Heap) : Prop :=
  va_Zq "java/lang/Throwable" "UNASSIGNED_STACK" "[Ljava/lang/StackTraceElement;" A U H ∧ va_Zq "java/lang/Throwable" "SUPPRESSED_SENTINEL" "Ljava/util/List;" A U H ∧
  va_Z "PolicyForge" "KINDS" "[I" (.ref (ad 21 0)) A U H ∧ va_T .int (ad 21 0) 7 (fun j => .int (ab_kinds j)) A U H ∧
  ab_LS "java/lang/Throwable" "UNASSIGNED_STACK" "[Ljava/lang/StackTraceElement;" A U H ∧ ab_LS "java/lang/Throwable" "SUPPRESSED_SENTINEL" "Ljava/util/List;" A U H ∧ ab_Ss ad A U H
theorem ab_Zs.moved {ad : ab_Ad} {A : Nat → Prop} {u U : State} {H : Heap} (hW : u.WarmedH U.vm) (h : ab_Zs ad A u H) : ab_Zs ad A U H := ⟨h.1.moved hW.alike, h.2.1.moved hW.alike, h.2.2.1.moved hW.alike, h.2.2.2.1.moved hW.alike, h.2.2.2.2.1.moved hW.alike, h.2.2.2.2.2.1.moved hW.alike, h.2.2.2.2.2.2.moved hW⟩
theorem ab_Zs.kept {ad : ab_Ad} {A : Nat → Prop} {U : State} {H H1 : Heap} (h : ab_Zs ad A U H) (hq : ∀ a : Nat, a < H.size → ¬ A a → H1[a]? = H[a]?) : ab_Zs ad A U H1 := ⟨h.1.kept hq, h.2.1.kept hq, h.2.2.1.kept hq, h.2.2.2.1.kept hq, h.2.2.2.2.1.kept hq, h.2.2.2.2.2.1.kept hq, h.2.2.2.2.2.2.kept hq⟩
theorem ab_Zs.narrow {ad : ab_Ad} {A B : Nat → Prop} {U : State} {H : Heap} (h : ab_Zs ad A U H) (hAB : ∀ q, B q → A q) : ab_Zs ad B U H := ⟨h.1.narrow hAB, h.2.1.narrow hAB, h.2.2.1.narrow hAB, h.2.2.2.1.narrow hAB, h.2.2.2.2.1.narrow hAB, h.2.2.2.2.2.1.narrow hAB, h.2.2.2.2.2.2.narrow hAB⟩
/-! words of the tables that aren't carried along by the kit's own row: carried here -/
def ab_odd (w : Cond) : Bool := match w with
  | .methodLinkNest .. => true
  | .fieldLinkNest .. => true
  | .castable .. => true
  | .declares .. => true
  | .arrayOver (.object _) => true
  | _ => false
def ab_Nw (U : State) : Prop := ∀ w ∈ lw_tbl.filter ab_odd, va_Nw w U
theorem ab_Nw.moved {u U : State} (hW : u.WarmedH U.vm) (h : ab_Nw u) : ab_Nw U := fun w hw => by
  have h1 := h w hw
  have h2 := (List.mem_filter.mp hw).2
  cases w with
  | methodLinkNest a i y host => exact va_Nw.warmM hW h1
  | fieldLinkNest a i b n d hh => exact va_Nw.warmF hW h1
  | castable a b => exact va_Nw.warmC hW h1
  | declares x => exact va_Nw.warmD hW h1
  | arrayOver t =>
    cases t with
    | object C => exact va_AO.moved hW.alike h1
    | _ => cases h2
  | _ => cases h2
theorem ab_Nw.at {U : State} (h : ab_Nw U) {w : Cond} (i : Nat) (hi : lw_tbl[i]? = some w) (ho : ab_odd w = true) : va_Nw w U := h w (List.mem_filter.mpr ⟨List.mem_of_getElem? hi, ho⟩)
end
section
/-! The judgement and its rules, an instruction each. -/
/-- what stays the same in a method's body -/
def ab_X (p : Program) (s : State) (m : MethodId) (args : Array Value) (c : Code) (cc : ByteArray) (own : String) (nL : Nat) (D : va_G) (ca : Nat → ClassId) (A : Nat → Prop) (H0 : Heap) : Prop :=
  p.tables.exec = Jvm.exec ∧ c.code = cc ∧ c.maxLocals = nL ∧ s.vm.findClass own = some m.cls ∧ (∀ w ∈ ab_T, w.before args s = true) ∧ va_K D vwCl (ab_tys ca) s ∧ (∀ q : Nat, H0.size ≤ q → A q) ∧ ab_Nw s
def ab_J (p : Program) (l : Launch) (e : Env) (R : Room) (s : State) (m : MethodId) (args : Array Value) (below : List Frame) (meth : Method) (c : Code) (Q : State → Prop) (D : va_G) (ca : Nat → ClassId) (A : Nat → Prop) (H0 : Heap) (nL cells slots : Nat) (ad : ab_Ad) (N : Nat → Nat) (u : ab_S) (pc : Nat) (lv : List (Nat × ab_V)) (st : List ab_V) : Prop :=
  ∀ (H : Heap) (locs : List Loc) (ls : Array Slot), ab_W D ca ad N u A H → va_S A H0 H locs → lv_has ls nL (lv.map fun q => (q.1, ab_cv ad q.2)) → W p l e R s m args below meth c H locs cells slots Q (F0 m pc ls (st.map (ab_cv ad)))
def ab_ft (i : Nat) (lv : List (Nat × ab_V)) : List (Nat × ab_V) := lv.filter fun q => !(q.1 == i) && !(q.1 + 1 == i && ab_is2 q.2)
theorem ab_ft_map (ad : ab_Ad) (i : Nat) (lv : List (Nat × ab_V)) : (lv.map fun q => (q.1, ab_cv ad q.2)).filter (fun q => !(q.1 == i) && !(q.1 + 1 == i && q.2.category == 2)) = (ab_ft i lv).map fun q => (q.1, ab_cv ad q.2) := by
  unfold ab_ft
  rw [List.filter_map]
  congr 1
  apply List.filter_congr
  intro q _
  show (!(q.1 == i) && !(q.1 + 1 == i && (ab_cv ad q.2).category == 2)) = _
  rw [ab_cat]
def ab_ft2 (i : Nat) (lv : List (Nat × ab_V)) : List (Nat × ab_V) := lv.filter fun q => !(q.1 == i) && (!(q.1 == i + 1) && !(q.1 + 1 == i && ab_is2 q.2))
theorem ab_ft2_map (ad : ab_Ad) (i : Nat) (lv : List (Nat × ab_V)) : (lv.map fun q => (q.1, ab_cv ad q.2)).filter (fun q => !(q.1 == i) && (!(q.1 == i + 1) && !(q.1 + 1 == i && q.2.category == 2))) = (ab_ft2 i lv).map fun q => (q.1, ab_cv ad q.2) := by
  unfold ab_ft2
  rw [List.filter_map]
  congr 1
  apply List.filter_congr
  intro q _
  show (!(q.1 == i) && (!(q.1 == i + 1) && !(q.1 + 1 == i && (ab_cv ad q.2).category == 2))) = _
  rw [ab_cat]
theorem ab_lv_at {ad : ab_Ad} {lv : List (Nat × ab_V)} {k i : Nat} {v : ab_V} (hk : lv[k]? = some (i, v)) : (lv.map fun q => (q.1, ab_cv ad q.2))[k]? = some (i, ab_cv ad v) := by
  rw [List.getElem?_map, hk]; rfl
section AbJ
variable {p : Program} {l : Launch} {e : Env} {R : Room} {s : State} {m : MethodId} {args : Array Value} {below : List Frame} {meth : Method} {c : Code} {Q : State → Prop}
variable {cc : ByteArray} {own : String} {nL : Nat} {D : va_G} {ca : Nat → ClassId} {A : Nat → Prop} {H0 : Heap} {cells slots : Nat} {ad : ab_Ad} {N : Nat → Nat} {u : ab_S} {pc : Nat} {lv : List (Nat × ab_V)} {st : List ab_V}
theorem ab_iconst (X : ab_X p s m args c cc own nL D ca A H0) {n : Int} {v : Int32} (hd : decode cc pc = .ok (.iconst n, 1)) (hv : Int32.ofInt n = v) (k : ab_J p l e R s m args below meth c Q D ca A H0 nL cells slots ad N u (pc + 1) lv (ab_I v :: st)) : ab_J p l e R s m args below meth c Q D ca A H0 nL cells slots ad N u pc lv (st) := fun H locs ls hW hS hl => lv_iconst X.1 X.2.1 hd hv (k H locs ls hW hS hl)
theorem ab_bipush (X : ab_X p s m args c cc own nL D ca A H0) {n : Int} {v : Int32} (hd : decode cc pc = .ok (.bipush n, 2)) (hv : (Int8.ofInt n).toInt32 = v) (k : ab_J p l e R s m args below meth c Q D ca A H0 nL cells slots ad N u (pc + 2) lv (ab_I v :: st)) : ab_J p l e R s m args below meth c Q D ca A H0 nL cells slots ad N u pc lv (st) := fun H locs ls hW hS hl => lv_bipush X.1 X.2.1 hd hv (k H locs ls hW hS hl)
theorem ab_sipush (X : ab_X p s m args c cc own nL D ca A H0) {n : Int} {v : Int32} (hd : decode cc pc = .ok (.sipush n, 3)) (hv : (Int16.ofInt n).toInt32 = v) (k : ab_J p l e R s m args below meth c Q D ca A H0 nL cells slots ad N u (pc + 3) lv (ab_I v :: st)) : ab_J p l e R s m args below meth c Q D ca A H0 nL cells slots ad N u pc lv (st) := fun H locs ls hW hS hl => lv_sipush X.1 X.2.1 hd hv (k H locs ls hW hS hl)
theorem ab_lconst (X : ab_X p s m args c cc own nL D ca A H0) {n : Fin 2} {v : Int64} (hd : decode cc pc = .ok (.lconst n, 1)) (hv : Int64.ofNat (n : Nat) = v) (k : ab_J p l e R s m args below meth c Q D ca A H0 nL cells slots ad N u (pc + 1) lv (ab_L v :: st)) : ab_J p l e R s m args below meth c Q D ca A H0 nL cells slots ad N u pc lv (st) := fun H locs ls hW hS hl => lv_lconst X.1 X.2.1 hd hv (k H locs ls hW hS hl)
theorem ab_null (X : ab_X p s m args c cc own nL D ca A H0)  (hd : decode cc pc = .ok (.aconst_null, 1))  (k : ab_J p l e R s m args below meth c Q D ca A H0 nL cells slots ad N u (pc + 1) lv (ab_R none :: st)) : ab_J p l e R s m args below meth c Q D ca A H0 nL cells slots ad N u pc lv (st) := fun H locs ls hW hS hl => lv_null X.1 X.2.1 hd (k H locs ls hW hS hl)
theorem ab_iadd (X : ab_X p s m args c cc own nL D ca A H0) {x y : Int32} (hd : decode cc pc = .ok (.iadd, 1))  (k : ab_J p l e R s m args below meth c Q D ca A H0 nL cells slots ad N u (pc + 1) lv (ab_I (x + y) :: st)) : ab_J p l e R s m args below meth c Q D ca A H0 nL cells slots ad N u pc lv (ab_I y :: ab_I x :: st) := fun H locs ls hW hS hl => lv_iadd X.1 X.2.1 hd (k H locs ls hW hS hl)
theorem ab_isub (X : ab_X p s m args c cc own nL D ca A H0) {x y : Int32} (hd : decode cc pc = .ok (.isub, 1))  (k : ab_J p l e R s m args below meth c Q D ca A H0 nL cells slots ad N u (pc + 1) lv (ab_I (x - y) :: st)) : ab_J p l e R s m args below meth c Q D ca A H0 nL cells slots ad N u pc lv (ab_I y :: ab_I x :: st) := fun H locs ls hW hS hl => lv_isub X.1 X.2.1 hd (k H locs ls hW hS hl)
theorem ab_imul (X : ab_X p s m args c cc own nL D ca A H0) {x y : Int32} (hd : decode cc pc = .ok (.imul, 1))  (k : ab_J p l e R s m args below meth c Q D ca A H0 nL cells slots ad N u (pc + 1) lv (ab_I (x * y) :: st)) : ab_J p l e R s m args below meth c Q D ca A H0 nL cells slots ad N u pc lv (ab_I y :: ab_I x :: st) := fun H locs ls hW hS hl => lv_imul X.1 X.2.1 hd (k H locs ls hW hS hl)
theorem ab_iand (X : ab_X p s m args c cc own nL D ca A H0) {x y : Int32} (hd : decode cc pc = .ok (.iand, 1))  (k : ab_J p l e R s m args below meth c Q D ca A H0 nL cells slots ad N u (pc + 1) lv (ab_I (x &&& y) :: st)) : ab_J p l e R s m args below meth c Q D ca A H0 nL cells slots ad N u pc lv (ab_I y :: ab_I x :: st) := fun H locs ls hW hS hl => lv_iand X.1 X.2.1 hd (k H locs ls hW hS hl)
theorem ab_ior (X : ab_X p s m args c cc own nL D ca A H0) {x y : Int32} (hd : decode cc pc = .ok (.ior, 1))  (k : ab_J p l e R s m args below meth c Q D ca A H0 nL cells slots ad N u (pc + 1) lv (ab_I (x ||| y) :: st)) : ab_J p l e R s m args below meth c Q D ca A H0 nL cells slots ad N u pc lv (ab_I y :: ab_I x :: st) := fun H locs ls hW hS hl => lv_ior X.1 X.2.1 hd (k H locs ls hW hS hl)
theorem ab_ixor (X : ab_X p s m args c cc own nL D ca A H0) {x y : Int32} (hd : decode cc pc = .ok (.ixor, 1))  (k : ab_J p l e R s m args below meth c Q D ca A H0 nL cells slots ad N u (pc + 1) lv (ab_I (x ^^^ y) :: st)) : ab_J p l e R s m args below meth c Q D ca A H0 nL cells slots ad N u pc lv (ab_I y :: ab_I x :: st) := fun H locs ls hW hS hl => lv_ixor X.1 X.2.1 hd (k H locs ls hW hS hl)
theorem ab_ishl (X : ab_X p s m args c cc own nL D ca A H0) {x y : Int32} (hd : decode cc pc = .ok (.ishl, 1))  (k : ab_J p l e R s m args below meth c Q D ca A H0 nL cells slots ad N u (pc + 1) lv (ab_I (x <<< (y &&& 31)) :: st)) : ab_J p l e R s m args below meth c Q D ca A H0 nL cells slots ad N u pc lv (ab_I y :: ab_I x :: st) := fun H locs ls hW hS hl => lv_ishl X.1 X.2.1 hd (k H locs ls hW hS hl)
theorem ab_ishr (X : ab_X p s m args c cc own nL D ca A H0) {x y : Int32} (hd : decode cc pc = .ok (.ishr, 1))  (k : ab_J p l e R s m args below meth c Q D ca A H0 nL cells slots ad N u (pc + 1) lv (ab_I (x >>> (y &&& 31)) :: st)) : ab_J p l e R s m args below meth c Q D ca A H0 nL cells slots ad N u pc lv (ab_I y :: ab_I x :: st) := fun H locs ls hW hS hl => lv_ishr X.1 X.2.1 hd (k H locs ls hW hS hl)
theorem ab_iushr (X : ab_X p s m args c cc own nL D ca A H0) {x y : Int32} (hd : decode cc pc = .ok (.iushr, 1))  (k : ab_J p l e R s m args below meth c Q D ca A H0 nL cells slots ad N u (pc + 1) lv (ab_I (x.toUInt32 >>> (y.toUInt32 &&& Int32.toUInt32 31)).toInt32 :: st)) : ab_J p l e R s m args below meth c Q D ca A H0 nL cells slots ad N u pc lv (ab_I y :: ab_I x :: st) := fun H locs ls hW hS hl => lv_iushr X.1 X.2.1 hd rfl (k H locs ls hW hS hl)
theorem ab_idiv (X : ab_X p s m args c cc own nL D ca A H0) {x y : Int32} (hd : decode cc pc = .ok (.idiv, 1)) (hne : ¬ y = 0) (k : ab_J p l e R s m args below meth c Q D ca A H0 nL cells slots ad N u (pc + 1) lv (ab_I (x / y) :: st)) : ab_J p l e R s m args below meth c Q D ca A H0 nL cells slots ad N u pc lv (ab_I y :: ab_I x :: st) := fun H locs ls hW hS hl => lv_idiv X.1 X.2.1 hd hne (k H locs ls hW hS hl)
theorem ab_irem (X : ab_X p s m args c cc own nL D ca A H0) {x y : Int32} (hd : decode cc pc = .ok (.irem, 1)) (hne : ¬ y = 0) (k : ab_J p l e R s m args below meth c Q D ca A H0 nL cells slots ad N u (pc + 1) lv (ab_I (x - x / y * y) :: st)) : ab_J p l e R s m args below meth c Q D ca A H0 nL cells slots ad N u pc lv (ab_I y :: ab_I x :: st) := fun H locs ls hW hS hl => lv_irem X.1 X.2.1 hd hne (k H locs ls hW hS hl)
theorem ab_i2l (X : ab_X p s m args c cc own nL D ca A H0) {x : Int32} (hd : decode cc pc = .ok (.i2l, 1))  (k : ab_J p l e R s m args below meth c Q D ca A H0 nL cells slots ad N u (pc + 1) lv (ab_L x.toInt64 :: st)) : ab_J p l e R s m args below meth c Q D ca A H0 nL cells slots ad N u pc lv (ab_I x :: st) := fun H locs ls hW hS hl => lv_i2l X.1 X.2.1 hd rfl (k H locs ls hW hS hl)
theorem ab_l2i (X : ab_X p s m args c cc own nL D ca A H0) {x : Int64} (hd : decode cc pc = .ok (.l2i, 1))  (k : ab_J p l e R s m args below meth c Q D ca A H0 nL cells slots ad N u (pc + 1) lv (ab_I x.toInt32 :: st)) : ab_J p l e R s m args below meth c Q D ca A H0 nL cells slots ad N u pc lv (ab_L x :: st) := fun H locs ls hW hS hl => lv_l2i X.1 X.2.1 hd rfl (k H locs ls hW hS hl)
theorem ab_i2b (X : ab_X p s m args c cc own nL D ca A H0) {x : Int32} (hd : decode cc pc = .ok (.i2b, 1))  (k : ab_J p l e R s m args below meth c Q D ca A H0 nL cells slots ad N u (pc + 1) lv (ab_I x.toInt8.toInt32 :: st)) : ab_J p l e R s m args below meth c Q D ca A H0 nL cells slots ad N u pc lv (ab_I x :: st) := fun H locs ls hW hS hl => lv_i2b X.1 X.2.1 hd rfl (k H locs ls hW hS hl)
theorem ab_lshr (X : ab_X p s m args c cc own nL D ca A H0) {x : Int64} {y : Int32} (hd : decode cc pc = .ok (.lshr, 1))  (k : ab_J p l e R s m args below meth c Q D ca A H0 nL cells slots ad N u (pc + 1) lv (ab_L (x >>> (y.toInt64 &&& 63)) :: st)) : ab_J p l e R s m args below meth c Q D ca A H0 nL cells slots ad N u pc lv (ab_I y :: ab_L x :: st) := fun H locs ls hW hS hl => lv_lshr X.1 X.2.1 hd rfl (k H locs ls hW hS hl)
theorem ab_lcmp (X : ab_X p s m args c cc own nL D ca A H0) {x y : Int64} (hd : decode cc pc = .ok (.lcmp, 1))  (k : ab_J p l e R s m args below meth c Q D ca A H0 nL cells slots ad N u (pc + 1) lv (ab_I (lg_cmp x y) :: st)) : ab_J p l e R s m args below meth c Q D ca A H0 nL cells slots ad N u pc lv (ab_L y :: ab_L x :: st) := fun H locs ls hW hS hl => W.lcmp X.1 X.2.1 hd (k H locs ls hW hS hl)
theorem ab_cat1 {ad : ab_Ad} {v : ab_V} (h : ab_is2 v = false) : (ab_cv ad v).category = 1 := by
  rcases lv_cat (ab_cv ad v) with q | q
  · exact q
  · have := ab_cat ad v
    rw [h, q] at this
    cases this
theorem ab_dup (X : ab_X p s m args c cc own nL D ca A H0) {v : ab_V} (hd : decode cc pc = .ok (.dup, 1)) (hv : ab_is2 v = false) (k : ab_J p l e R s m args below meth c Q D ca A H0 nL cells slots ad N u (pc + 1) lv (v :: v :: st)) : ab_J p l e R s m args below meth c Q D ca A H0 nL cells slots ad N u pc lv (v :: st) := fun H locs ls hW hS hl => lv_dup X.1 X.2.1 hd (ab_cat1 hv) (k H locs ls hW hS hl)
theorem ab_pop (X : ab_X p s m args c cc own nL D ca A H0) {v : ab_V} (hd : decode cc pc = .ok (.pop, 1)) (hv : ab_is2 v = false) (k : ab_J p l e R s m args below meth c Q D ca A H0 nL cells slots ad N u (pc + 1) lv (st)) : ab_J p l e R s m args below meth c Q D ca A H0 nL cells slots ad N u pc lv (v :: st) := fun H locs ls hW hS hl => lv_pop X.1 X.2.1 hd (ab_cat1 hv) (k H locs ls hW hS hl)
theorem ab_dup_x1 (X : ab_X p s m args c cc own nL D ca A H0) {v w : ab_V} (hd : decode cc pc = .ok (.dup_x1, 1)) (hv : ab_is2 v = false) (hw : ab_is2 w = false) (k : ab_J p l e R s m args below meth c Q D ca A H0 nL cells slots ad N u (pc + 1) lv (v :: w :: v :: st)) : ab_J p l e R s m args below meth c Q D ca A H0 nL cells slots ad N u pc lv (v :: w :: st) := fun H locs ls hW hS hl => lv_dup_x1 X.1 X.2.1 hd (ab_cat1 hv) (ab_cat1 hw) (k H locs ls hW hS hl)
theorem ab_dup_x2 (X : ab_X p s m args c cc own nL D ca A H0) {v w x : ab_V} (hd : decode cc pc = .ok (.dup_x2, 1)) (hv : ab_is2 v = false) (hw : ab_is2 w = false) (hx : ab_is2 x = false) (k : ab_J p l e R s m args below meth c Q D ca A H0 nL cells slots ad N u (pc + 1) lv (v :: w :: x :: v :: st)) : ab_J p l e R s m args below meth c Q D ca A H0 nL cells slots ad N u pc lv (v :: w :: x :: st) := fun H locs ls hW hS hl => lv_dup_x2 X.1 X.2.1 hd (ab_cat1 hv) (ab_cat1 hw) (ab_cat1 hx) (k H locs ls hW hS hl)
theorem ab_dup2 (X : ab_X p s m args c cc own nL D ca A H0) {v w : ab_V} (hd : decode cc pc = .ok (.dup2, 1)) (hv : ab_is2 v = false) (hw : ab_is2 w = false) (k : ab_J p l e R s m args below meth c Q D ca A H0 nL cells slots ad N u (pc + 1) lv (v :: w :: v :: w :: st)) : ab_J p l e R s m args below meth c Q D ca A H0 nL cells slots ad N u pc lv (v :: w :: st) := fun H locs ls hW hS hl => lv_dup2_11 X.1 X.2.1 hd (ab_cat1 hv) (ab_cat1 hw) (k H locs ls hW hS hl)
theorem ab_iload_n (X : ab_X p s m args c cc own nL D ca A H0) {k : Fin 4} {i : Nat} {x : Int32} (j : Nat) (hd : decode cc pc = .ok (.iload_n k, 1)) (hi : (k : Nat) = i) (hk : lv[j]? = some (i, ab_I x)) (k : ab_J p l e R s m args below meth c Q D ca A H0 nL cells slots ad N u (pc + 1) lv (ab_I x :: st)) : ab_J p l e R s m args below meth c Q D ca A H0 nL cells slots ad N u pc lv st := fun H locs ls hW hS hl => lv_iload_n X.1 X.2.1 hd hi (lv_at hl j (ab_lv_at hk)) (k H locs ls hW hS hl)
theorem ab_lload_n (X : ab_X p s m args c cc own nL D ca A H0) {k : Fin 4} {i : Nat} {x : Int64} (j : Nat) (hd : decode cc pc = .ok (.lload_n k, 1)) (hi : (k : Nat) = i) (hk : lv[j]? = some (i, ab_L x)) (k : ab_J p l e R s m args below meth c Q D ca A H0 nL cells slots ad N u (pc + 1) lv (ab_L x :: st)) : ab_J p l e R s m args below meth c Q D ca A H0 nL cells slots ad N u pc lv st := fun H locs ls hW hS hl => lv_lload_n X.1 X.2.1 hd hi (lv_at hl j (ab_lv_at hk)) (k H locs ls hW hS hl)
theorem ab_iload (X : ab_X p s m args c cc own nL D ca A H0) {i : Nat} {x : Int32} (j : Nat) (hd : decode cc pc = .ok (.iload i, 2)) (hk : lv[j]? = some (i, ab_I x)) (k : ab_J p l e R s m args below meth c Q D ca A H0 nL cells slots ad N u (pc + 2) lv (ab_I x :: st)) : ab_J p l e R s m args below meth c Q D ca A H0 nL cells slots ad N u pc lv st := fun H locs ls hW hS hl => lv_iload X.1 X.2.1 hd (lv_at hl j (ab_lv_at hk)) (k H locs ls hW hS hl)
theorem ab_lload (X : ab_X p s m args c cc own nL D ca A H0) {i : Nat} {x : Int64} (j : Nat) (hd : decode cc pc = .ok (.lload i, 2)) (hk : lv[j]? = some (i, ab_L x)) (k : ab_J p l e R s m args below meth c Q D ca A H0 nL cells slots ad N u (pc + 2) lv (ab_L x :: st)) : ab_J p l e R s m args below meth c Q D ca A H0 nL cells slots ad N u pc lv st := fun H locs ls hW hS hl => lv_lload X.1 X.2.1 hd (lv_at hl j (ab_lv_at hk)) (k H locs ls hW hS hl)
theorem ab_aload_n (X : ab_X p s m args c cc own nL D ca A H0) {k : Fin 4} {i : Nat} {r : Option (Nat × Nat)} (j : Nat) (hd : decode cc pc = .ok (.aload_n k, 1)) (hi : (k : Nat) = i) (hk : lv[j]? = some (i, ab_R r)) (k : ab_J p l e R s m args below meth c Q D ca A H0 nL cells slots ad N u (pc + 1) lv (ab_R r :: st)) : ab_J p l e R s m args below meth c Q D ca A H0 nL cells slots ad N u pc lv st := fun H locs ls hW hS hl => by
  have h1 := lv_at hl j (ab_lv_at hk)
  have h2 := k H locs ls hW hS hl
  cases r with
  | none => exact lv_aload_nN X.1 X.2.1 hd hi h1 h2
  | some q => exact lv_aload_n X.1 X.2.1 hd hi h1 h2
theorem ab_aload (X : ab_X p s m args c cc own nL D ca A H0) {i : Nat} {r : Option (Nat × Nat)} (j : Nat) (hd : decode cc pc = .ok (.aload i, 2)) (hk : lv[j]? = some (i, ab_R r)) (k : ab_J p l e R s m args below meth c Q D ca A H0 nL cells slots ad N u (pc + 2) lv (ab_R r :: st)) : ab_J p l e R s m args below meth c Q D ca A H0 nL cells slots ad N u pc lv st := fun H locs ls hW hS hl => by
  have h1 := lv_at hl j (ab_lv_at hk)
  have h2 := k H locs ls hW hS hl
  cases r with
  | none => exact lv_aloadN X.1 X.2.1 hd h1 h2
  | some q => exact lv_aload X.1 X.2.1 hd h1 h2
theorem ab_istore_n (X : ab_X p s m args c cc own nL D ca A H0) {k : Fin 4} {i : Nat} {x : Int32} {lv' : List (Nat × ab_V)} (hd : decode cc pc = .ok (.istore_n k, 1)) (hi : (k : Nat) = i) (hn : i < nL) (hv : (i, ab_I x) :: ab_ft i lv = lv') (k : ab_J p l e R s m args below meth c Q D ca A H0 nL cells slots ad N u (pc + 1) lv' st) : ab_J p l e R s m args below meth c Q D ca A H0 nL cells slots ad N u pc lv (ab_I x :: st) := fun H locs ls hW hS hl => lv_istore_n X.1 X.2.1 hd hi hl hn rfl fun ls' h' => k H locs ls' hW hS (by rw [ab_ft_map] at h'; rw [← hv]; exact h')
theorem ab_istore (X : ab_X p s m args c cc own nL D ca A H0) {i : Nat} {x : Int32} {lv' : List (Nat × ab_V)} (hd : decode cc pc = .ok (.istore i, 2)) (hn : i < nL) (hv : (i, ab_I x) :: ab_ft i lv = lv') (k : ab_J p l e R s m args below meth c Q D ca A H0 nL cells slots ad N u (pc + 2) lv' st) : ab_J p l e R s m args below meth c Q D ca A H0 nL cells slots ad N u pc lv (ab_I x :: st) := fun H locs ls hW hS hl => lv_istore X.1 X.2.1 hd hl hn rfl fun ls' h' => k H locs ls' hW hS (by rw [ab_ft_map] at h'; rw [← hv]; exact h')
theorem ab_iinc (X : ab_X p s m args c cc own nL D ca A H0) {i : Nat} {n : Int} {x v : Int32} {lv' : List (Nat × ab_V)} (j : Nat) (hd : decode cc pc = .ok (.iinc i n, 3)) (hk : lv[j]? = some (i, ab_I x)) (hx : x + Int32.ofInt n = v) (hn : i < nL) (hv : (i, ab_I v) :: ab_ft i lv = lv') (k : ab_J p l e R s m args below meth c Q D ca A H0 nL cells slots ad N u (pc + 3) lv' st) : ab_J p l e R s m args below meth c Q D ca A H0 nL cells slots ad N u pc lv st := fun H locs ls hW hS hl => lv_iinc (k := j) X.1 X.2.1 hd hl (ab_lv_at hk) hx hn rfl fun ls' h' => k H locs ls' hW hS (by rw [ab_ft_map] at h'; rw [← hv]; exact h')
theorem ab_astore_n (X : ab_X p s m args c cc own nL D ca A H0) {k : Fin 4} {i : Nat} {r : Option (Nat × Nat)} {lv' : List (Nat × ab_V)} (hd : decode cc pc = .ok (.astore_n k, 1)) (hi : (k : Nat) = i) (hn : i < nL) (hv : (i, ab_R r) :: ab_ft i lv = lv') (k : ab_J p l e R s m args below meth c Q D ca A H0 nL cells slots ad N u (pc + 1) lv' st) : ab_J p l e R s m args below meth c Q D ca A H0 nL cells slots ad N u pc lv (ab_R r :: st) := fun H locs ls hW hS hl => by
  cases r with
  | none => exact lv_astore_nN X.1 X.2.1 hd hi hl hn rfl fun ls' h' => k H locs ls' hW hS (by rw [ab_ft_map] at h'; rw [← hv]; exact h')
  | some q => exact lv_astore_n X.1 X.2.1 hd hi hl hn rfl fun ls' h' => k H locs ls' hW hS (by rw [ab_ft_map] at h'; rw [← hv]; exact h')
theorem ab_astore (X : ab_X p s m args c cc own nL D ca A H0) {i : Nat} {r : Option (Nat × Nat)} {lv' : List (Nat × ab_V)} (hd : decode cc pc = .ok (.astore i, 2)) (hn : i < nL) (hv : (i, ab_R r) :: ab_ft i lv = lv') (k : ab_J p l e R s m args below meth c Q D ca A H0 nL cells slots ad N u (pc + 2) lv' st) : ab_J p l e R s m args below meth c Q D ca A H0 nL cells slots ad N u pc lv (ab_R r :: st) := fun H locs ls hW hS hl => by
  cases r with
  | none => exact lv_astoreN X.1 X.2.1 hd hl hn rfl fun ls' h' => k H locs ls' hW hS (by rw [ab_ft_map] at h'; rw [← hv]; exact h')
  | some q => exact lv_astore X.1 X.2.1 hd hl hn rfl fun ls' h' => k H locs ls' hW hS (by rw [ab_ft_map] at h'; rw [← hv]; exact h')
theorem ab_icmp_eq (X : ab_X p s m args c cc own nL D ca A H0) {x y : Int32} {off : Int} (tgt : Nat) (hd : decode cc pc = .ok (.if_icmp .eq off, 3)) (ht : (pc : Int) + off = (tgt : Int)) (kt : x = y → ab_J p l e R s m args below meth c Q D ca A H0 nL cells slots ad N u tgt lv st) (kf : ¬ x = y → ab_J p l e R s m args below meth c Q D ca A H0 nL cells slots ad N u (pc + 3) lv st) : ab_J p l e R s m args below meth c Q D ca A H0 nL cells slots ad N u pc lv (ab_I y :: ab_I x :: st) := fun H locs ls hW hS hl => lv_icmp_eq X.1 X.2.1 hd ht (fun h => kt h H locs ls hW hS hl) (fun h => kf h H locs ls hW hS hl)
theorem ab_icmp_ne (X : ab_X p s m args c cc own nL D ca A H0) {x y : Int32} {off : Int} (tgt : Nat) (hd : decode cc pc = .ok (.if_icmp .ne off, 3)) (ht : (pc : Int) + off = (tgt : Int)) (kt : ¬ x = y → ab_J p l e R s m args below meth c Q D ca A H0 nL cells slots ad N u tgt lv st) (kf : x = y → ab_J p l e R s m args below meth c Q D ca A H0 nL cells slots ad N u (pc + 3) lv st) : ab_J p l e R s m args below meth c Q D ca A H0 nL cells slots ad N u pc lv (ab_I y :: ab_I x :: st) := fun H locs ls hW hS hl => lv_icmp_ne X.1 X.2.1 hd ht (fun h => kt h H locs ls hW hS hl) (fun h => kf h H locs ls hW hS hl)
theorem ab_icmp_lt (X : ab_X p s m args c cc own nL D ca A H0) {x y : Int32} {off : Int} (tgt : Nat) (hd : decode cc pc = .ok (.if_icmp .lt off, 3)) (ht : (pc : Int) + off = (tgt : Int)) (kt : x < y → ab_J p l e R s m args below meth c Q D ca A H0 nL cells slots ad N u tgt lv st) (kf : ¬ x < y → ab_J p l e R s m args below meth c Q D ca A H0 nL cells slots ad N u (pc + 3) lv st) : ab_J p l e R s m args below meth c Q D ca A H0 nL cells slots ad N u pc lv (ab_I y :: ab_I x :: st) := fun H locs ls hW hS hl => lv_icmp_lt X.1 X.2.1 hd ht (fun h => kt h H locs ls hW hS hl) (fun h => kf h H locs ls hW hS hl)
theorem ab_icmp_ge (X : ab_X p s m args c cc own nL D ca A H0) {x y : Int32} {off : Int} (tgt : Nat) (hd : decode cc pc = .ok (.if_icmp .ge off, 3)) (ht : (pc : Int) + off = (tgt : Int)) (kt : y ≤ x → ab_J p l e R s m args below meth c Q D ca A H0 nL cells slots ad N u tgt lv st) (kf : ¬ y ≤ x → ab_J p l e R s m args below meth c Q D ca A H0 nL cells slots ad N u (pc + 3) lv st) : ab_J p l e R s m args below meth c Q D ca A H0 nL cells slots ad N u pc lv (ab_I y :: ab_I x :: st) := fun H locs ls hW hS hl => lv_icmp_ge X.1 X.2.1 hd ht (fun h => kt h H locs ls hW hS hl) (fun h => kf h H locs ls hW hS hl)
theorem ab_icmp_gt (X : ab_X p s m args c cc own nL D ca A H0) {x y : Int32} {off : Int} (tgt : Nat) (hd : decode cc pc = .ok (.if_icmp .gt off, 3)) (ht : (pc : Int) + off = (tgt : Int)) (kt : y < x → ab_J p l e R s m args below meth c Q D ca A H0 nL cells slots ad N u tgt lv st) (kf : ¬ y < x → ab_J p l e R s m args below meth c Q D ca A H0 nL cells slots ad N u (pc + 3) lv st) : ab_J p l e R s m args below meth c Q D ca A H0 nL cells slots ad N u pc lv (ab_I y :: ab_I x :: st) := fun H locs ls hW hS hl => lv_icmp_gt X.1 X.2.1 hd ht (fun h => kt h H locs ls hW hS hl) (fun h => kf h H locs ls hW hS hl)
theorem ab_icmp_le (X : ab_X p s m args c cc own nL D ca A H0) {x y : Int32} {off : Int} (tgt : Nat) (hd : decode cc pc = .ok (.if_icmp .le off, 3)) (ht : (pc : Int) + off = (tgt : Int)) (kt : x ≤ y → ab_J p l e R s m args below meth c Q D ca A H0 nL cells slots ad N u tgt lv st) (kf : ¬ x ≤ y → ab_J p l e R s m args below meth c Q D ca A H0 nL cells slots ad N u (pc + 3) lv st) : ab_J p l e R s m args below meth c Q D ca A H0 nL cells slots ad N u pc lv (ab_I y :: ab_I x :: st) := fun H locs ls hW hS hl => lv_icmp_le X.1 X.2.1 hd ht (fun h => kt h H locs ls hW hS hl) (fun h => kf h H locs ls hW hS hl)
theorem ab_if_eq (X : ab_X p s m args c cc own nL D ca A H0) {x : Int32} {off : Int} (tgt : Nat) (hd : decode cc pc = .ok (.ifCond .eq off, 3)) (ht : (pc : Int) + off = (tgt : Int)) (kt : x = 0 → ab_J p l e R s m args below meth c Q D ca A H0 nL cells slots ad N u tgt lv st) (kf : ¬ x = 0 → ab_J p l e R s m args below meth c Q D ca A H0 nL cells slots ad N u (pc + 3) lv st) : ab_J p l e R s m args below meth c Q D ca A H0 nL cells slots ad N u pc lv (ab_I x :: st) := fun H locs ls hW hS hl => lv_if_eq X.1 X.2.1 hd ht (fun h => kt h H locs ls hW hS hl) (fun h => kf h H locs ls hW hS hl)
theorem ab_if_ne (X : ab_X p s m args c cc own nL D ca A H0) {x : Int32} {off : Int} (tgt : Nat) (hd : decode cc pc = .ok (.ifCond .ne off, 3)) (ht : (pc : Int) + off = (tgt : Int)) (kt : ¬ x = 0 → ab_J p l e R s m args below meth c Q D ca A H0 nL cells slots ad N u tgt lv st) (kf : x = 0 → ab_J p l e R s m args below meth c Q D ca A H0 nL cells slots ad N u (pc + 3) lv st) : ab_J p l e R s m args below meth c Q D ca A H0 nL cells slots ad N u pc lv (ab_I x :: st) := fun H locs ls hW hS hl => lv_if_ne X.1 X.2.1 hd ht (fun h => kt h H locs ls hW hS hl) (fun h => kf h H locs ls hW hS hl)
theorem ab_if_lt (X : ab_X p s m args c cc own nL D ca A H0) {x : Int32} {off : Int} (tgt : Nat) (hd : decode cc pc = .ok (.ifCond .lt off, 3)) (ht : (pc : Int) + off = (tgt : Int)) (kt : x < 0 → ab_J p l e R s m args below meth c Q D ca A H0 nL cells slots ad N u tgt lv st) (kf : ¬ x < 0 → ab_J p l e R s m args below meth c Q D ca A H0 nL cells slots ad N u (pc + 3) lv st) : ab_J p l e R s m args below meth c Q D ca A H0 nL cells slots ad N u pc lv (ab_I x :: st) := fun H locs ls hW hS hl => lv_if_lt X.1 X.2.1 hd ht (fun h => kt h H locs ls hW hS hl) (fun h => kf h H locs ls hW hS hl)
theorem ab_if_ge (X : ab_X p s m args c cc own nL D ca A H0) {x : Int32} {off : Int} (tgt : Nat) (hd : decode cc pc = .ok (.ifCond .ge off, 3)) (ht : (pc : Int) + off = (tgt : Int)) (kt : 0 ≤ x → ab_J p l e R s m args below meth c Q D ca A H0 nL cells slots ad N u tgt lv st) (kf : ¬ 0 ≤ x → ab_J p l e R s m args below meth c Q D ca A H0 nL cells slots ad N u (pc + 3) lv st) : ab_J p l e R s m args below meth c Q D ca A H0 nL cells slots ad N u pc lv (ab_I x :: st) := fun H locs ls hW hS hl => lv_if_ge X.1 X.2.1 hd ht (fun h => kt h H locs ls hW hS hl) (fun h => kf h H locs ls hW hS hl)
theorem ab_if_gt (X : ab_X p s m args c cc own nL D ca A H0) {x : Int32} {off : Int} (tgt : Nat) (hd : decode cc pc = .ok (.ifCond .gt off, 3)) (ht : (pc : Int) + off = (tgt : Int)) (kt : 0 < x → ab_J p l e R s m args below meth c Q D ca A H0 nL cells slots ad N u tgt lv st) (kf : ¬ 0 < x → ab_J p l e R s m args below meth c Q D ca A H0 nL cells slots ad N u (pc + 3) lv st) : ab_J p l e R s m args below meth c Q D ca A H0 nL cells slots ad N u pc lv (ab_I x :: st) := fun H locs ls hW hS hl => lv_if_gt X.1 X.2.1 hd ht (fun h => kt h H locs ls hW hS hl) (fun h => kf h H locs ls hW hS hl)
theorem ab_if_le (X : ab_X p s m args c cc own nL D ca A H0) {x : Int32} {off : Int} (tgt : Nat) (hd : decode cc pc = .ok (.ifCond .le off, 3)) (ht : (pc : Int) + off = (tgt : Int)) (kt : x ≤ 0 → ab_J p l e R s m args below meth c Q D ca A H0 nL cells slots ad N u tgt lv st) (kf : ¬ x ≤ 0 → ab_J p l e R s m args below meth c Q D ca A H0 nL cells slots ad N u (pc + 3) lv st) : ab_J p l e R s m args below meth c Q D ca A H0 nL cells slots ad N u pc lv (ab_I x :: st) := fun H locs ls hW hS hl => lv_if_le X.1 X.2.1 hd ht (fun h => kt h H locs ls hW hS hl) (fun h => kf h H locs ls hW hS hl)
theorem ab_goto (X : ab_X p s m args c cc own nL D ca A H0) {off : Int} (tgt : Nat) (hd : decode cc pc = .ok (.goto off, 3)) (ht : (pc : Int) + off = (tgt : Int)) (k : ab_J p l e R s m args below meth c Q D ca A H0 nL cells slots ad N u tgt lv st) : ab_J p l e R s m args below meth c Q D ca A H0 nL cells slots ad N u pc lv st := fun H locs ls hW hS hl => lv_goto X.1 X.2.1 hd ht (k H locs ls hW hS hl)
theorem ab_ifnull (X : ab_X p s m args c cc own nL D ca A H0) {r : Option (Nat × Nat)} {off : Int} (tgt : Nat) (hd : decode cc pc = .ok (.ifnull off, 3)) (ht : (pc : Int) + off = (tgt : Int)) (kt : r = none → ab_J p l e R s m args below meth c Q D ca A H0 nL cells slots ad N u tgt lv st) (kf : ¬ r = none → ab_J p l e R s m args below meth c Q D ca A H0 nL cells slots ad N u (pc + 3) lv st) : ab_J p l e R s m args below meth c Q D ca A H0 nL cells slots ad N u pc lv (ab_R r :: st) := fun H locs ls hW hS hl => by
  cases r with
  | none => exact lv_ifnullN X.1 X.2.1 hd ht (kt rfl H locs ls hW hS hl)
  | some q => exact lv_ifnull X.1 X.2.1 hd (kf (fun h => by cases h) H locs ls hW hS hl)
theorem ab_ifnonnull (X : ab_X p s m args c cc own nL D ca A H0) {r : Option (Nat × Nat)} {off : Int} (tgt : Nat) (hd : decode cc pc = .ok (.ifnonnull off, 3)) (ht : (pc : Int) + off = (tgt : Int)) (kt : ¬ r = none → ab_J p l e R s m args below meth c Q D ca A H0 nL cells slots ad N u tgt lv st) (kf : r = none → ab_J p l e R s m args below meth c Q D ca A H0 nL cells slots ad N u (pc + 3) lv st) : ab_J p l e R s m args below meth c Q D ca A H0 nL cells slots ad N u pc lv (ab_R r :: st) := fun H locs ls hW hS hl => by
  cases r with
  | none => exact lv_ifnonnullN X.1 X.2.1 hd (kf rfl H locs ls hW hS hl)
  | some q => exact lv_ifnonnull X.1 X.2.1 hd ht (kt (fun h => by cases h) H locs ls hW hS hl)
theorem ab_tableOut (X : ab_X p s m args c cc own nL D ca A H0) {dflt lo hi : Int} {offs : Array Int} {len : Nat} {x : Int32} (tgt : Nat) (hd : decode cc pc = .ok (.tableswitch dflt lo hi offs, len)) (h : x.toInt < lo ∨ hi < x.toInt) (ht : (pc : Int) + dflt = (tgt : Int)) (k : ab_J p l e R s m args below meth c Q D ca A H0 nL cells slots ad N u tgt lv st) : ab_J p l e R s m args below meth c Q D ca A H0 nL cells slots ad N u pc lv (ab_I x :: st) := fun H locs ls hW hS hl => lv_tableOut X.1 X.2.1 hd h ht (k H locs ls hW hS hl)
theorem ab_tableIn (X : ab_X p s m args c cc own nL D ca A H0) {dflt lo hi : Int} {offs : Array Int} {len : Nat} {x : Int32} {off : Int} (tgt : Nat) (hd : decode cc pc = .ok (.tableswitch dflt lo hi offs, len)) (h1 : ¬ x.toInt < lo) (h2 : ¬ hi < x.toInt) (ho : offs[(x.toInt - lo).toNat]? = some off) (ht : (pc : Int) + off = (tgt : Int)) (k : ab_J p l e R s m args below meth c Q D ca A H0 nL cells slots ad N u tgt lv st) : ab_J p l e R s m args below meth c Q D ca A H0 nL cells slots ad N u pc lv (ab_I x :: st) := fun H locs ls hW hS hl => lv_tableIn X.1 X.2.1 hd h1 h2 ho ht (k H locs ls hW hS hl)
theorem ab_lookup (X : ab_X p s m args c cc own nL D ca A H0) {dflt : Int} {ps : Array (Int × Int)} {len : Nat} {x : Int32} {off : Int} (tgt : Nat) (hd : decode cc pc = .ok (.lookupswitch dflt ps, len)) (hp : (ps.toList.zip (ps.toList.drop 1)).all (fun (a, next) => a.1 < next.1) = true) (ho : Op.lookupswitch.offset ps.toList dflt x.toInt = off) (ht : (pc : Int) + off = (tgt : Int)) (k : ab_J p l e R s m args below meth c Q D ca A H0 nL cells slots ad N u tgt lv st) : ab_J p l e R s m args below meth c Q D ca A H0 nL cells slots ad N u pc lv (ab_I x :: st) := fun H locs ls hW hS hl => lv_lookup X.1 X.2.1 hd hp ho ht (k H locs ls hW hS hl)
theorem ab_ldc (X : ab_X p s m args c cc own nL D ca A H0) {idx : Nat} {v : Int32} (hc : Cond.constant own idx v ∈ ab_T) (hd : decode cc pc = .ok (.ldc idx, 2)) (k : ab_J p l e R s m args below meth c Q D ca A H0 nL cells slots ad N u (pc + 2) lv (ab_I v :: st)) : ab_J p l e R s m args below meth c Q D ca A H0 nL cells slots ad N u pc lv st := fun H locs ls hW hS hl => lv_ldc X.1 X.2.1 X.2.2.2.1 (X.2.2.2.2.1 _ hc) hd (k H locs ls hW hS hl)
theorem ab_ldc2 (X : ab_X p s m args c cc own nL D ca A H0) {idx : Nat} {v : Int64} (hc : Cond.constantLong own idx v ∈ ab_T) (hd : decode cc pc = .ok (.ldc2_w idx, 3)) (k : ab_J p l e R s m args below meth c Q D ca A H0 nL cells slots ad N u (pc + 3) lv (ab_L v :: st)) : ab_J p l e R s m args below meth c Q D ca A H0 nL cells slots ad N u pc lv st := fun H locs ls hW hS hl => lv_ldc2 X.1 X.2.1 X.2.2.2.1 (X.2.2.2.2.1 _ hc) hd (k H locs ls hW hS hl)
/-- fewer locals are remembered, in any order -/
theorem ab_lv {lv' : List (Nat × ab_V)} (h : ∀ q ∈ lv', q ∈ lv) (k : ab_J p l e R s m args below meth c Q D ca A H0 nL cells slots ad N u pc lv' st) : ab_J p l e R s m args below meth c Q D ca A H0 nL cells slots ad N u pc lv st := fun H locs ls hW hS hl => k H locs ls hW hS ⟨hl.1, hl.2.1, fun q hq => by
  obtain ⟨q', h1, rfl⟩ := List.mem_map.mp hq
  exact hl.2.2 _ (List.mem_map.mpr ⟨q', h q' h1, rfl⟩)⟩
theorem ab_widen {k n : Nat} (h1 : cells ≤ k) (h2 : slots ≤ n) (kk : ab_J p l e R s m args below meth c Q D ca A H0 nL k n ad N u pc lv st) : ab_J p l e R s m args below meth c Q D ca A H0 nL cells slots ad N u pc lv st := fun H locs ls hW hS hl => W.widen h1 h2 (kk H locs ls hW hS hl)
/-! fields and arrays -/
/-- the pool entry idx of the class own is the field k (of type t: 0 an int or boolean, 1 a reference) of the kind c -/
def ab_fl (own : String) (idx c k t : Nat) : Prop := ab_tag c = 0 ∧ ∃ (C : String) (T : u_T) (n : Nat), vwCl[ab_ci c]? = some (C, T, n) ∧ (∀ w ∈ u_ws C T n, w ∈ ab_T) ∧ k < n ∧ (ab_ts c)[k]? = some t ∧ Cond.fieldLink own idx (T k).1 (T k).2.1 (T k).2.2.1 ∈ ab_T
/-- it may be written: its type, not final -/
def ab_fp (own : String) (idx c k t : Nat) (ty : FieldType) : Prop := ab_tag c = 0 ∧ ∃ (C : String) (T : u_T) (n : Nat) (ty0 : Nat → FieldType), vwCl[ab_ci c]? = some (C, T, n) ∧ (∀ w ∈ u_ws C T n, w ∈ ab_T) ∧ k < n ∧ (ab_ts c)[k]? = some t ∧ Cond.fieldLink own idx (T k).1 (T k).2.1 (T k).2.2.1 ∈ ab_T ∧ (∀ k, k < n → parseFieldDescriptor (T k).2.2.1 = some (ty0 k)) ∧ (∀ a, a < n → ∀ b, b < n → a ≠ b → (T a).2.1 ≠ (T b).2.1) ∧ (T k).2.2.2 = false ∧ ty0 k = ty
theorem ab_getI (X : ab_X p s m args c cc own nL D ca A H0) {idx c' k i : Nat} (hf : ab_fl own idx c' k 0) (hd : decode cc pc = .ok (.getfield idx, 3)) (hi : i < N c') (kk : ab_J p l e R s m args below meth c Q D ca A H0 nL cells slots ad N u (pc + 3) lv (ab_I (u.1 c' i k) :: st)) : ab_J p l e R s m args below meth c Q D ca A H0 nL cells slots ad N u pc lv (ab_O c' i :: st) := fun H locs ls hW hS hl => by
  obtain ⟨h0, C, T, n, h1, h2, h3, h4, h5⟩ := hf
  obtain ⟨ws, q0, hP, hD, hk⟩ := hW.at hi
  rw [ab_ent_o h0] at hk
  exact va_get X.1 X.2.1 X.2.2.2.2.1 h2 X.2.2.2.1 X.2.2.2.2.2.1 hP q0 hk h1 k h3 (X.2.2.2.2.1 _ h5) (fun _ h => h) (ab_fs_get h4) hd (kk H locs ls hW hS hl)
theorem ab_getR (X : ab_X p s m args c cc own nL D ca A H0) {idx c' k i : Nat} (hf : ab_fl own idx c' k 1) (hd : decode cc pc = .ok (.getfield idx, 3)) (hi : i < N c') (kk : ab_J p l e R s m args below meth c Q D ca A H0 nL cells slots ad N u (pc + 3) lv (ab_R (u.2.1 c' i k) :: st)) : ab_J p l e R s m args below meth c Q D ca A H0 nL cells slots ad N u pc lv (ab_O c' i :: st) := fun H locs ls hW hS hl => by
  obtain ⟨h0, C, T, n, h1, h2, h3, h4, h5⟩ := hf
  obtain ⟨ws, q0, hP, hD, hk⟩ := hW.at hi
  rw [ab_ent_o h0] at hk
  exact va_get X.1 X.2.1 X.2.2.2.2.1 h2 X.2.2.2.1 X.2.2.2.2.2.1 hP q0 hk h1 k h3 (X.2.2.2.2.1 _ h5) (fun _ h => h) (ab_fs_get h4) hd (kk H locs ls hW hS hl)
theorem ab_putI (X : ab_X p s m args c cc own nL D ca A H0) {idx c' k i : Nat} {ty : FieldType} {v : Int32} (hf : ab_fp own idx c' k 0 ty) (hd : decode cc pc = .ok (.putfield idx, 3)) (hi : i < N c') (hn : narrow ty (.int v) = .int v) (hft : fits ty (.int v) = true) (kk : ab_J p l e R s m args below meth c Q D ca A H0 nL cells slots ad N (ab_ui u c' i k v) (pc + 3) lv st) : ab_J p l e R s m args below meth c Q D ca A H0 nL cells slots ad N u pc lv (ab_I v :: ab_O c' i :: st) := fun H locs ls hW hS hl => by
  obtain ⟨h0, C, T, n, ty0, h1, h2, h3, h4, h5, h6, h7, h8, h9⟩ := hf
  obtain ⟨ws, q0, hP, hD, hk, -, hset⟩ := hW.put hi
  rw [ab_ent_o h0] at hk
  refine va_put X.1 X.2.1 X.2.2.2.2.1 h2 ty0 h6 h7 X.2.2.2.1 X.2.2.2.2.2.1 hP hD hS q0 hk h1 k h3 (X.2.2.2.2.1 _ h5) (fun _ h => h) h8 (by rw [h6 k h3, h9]) hn hft (by rw [ab_fs_len]; exact (List.getElem?_eq_some_iff.mp h4).1) hd (fun H1 locs1 hP1 hD1 hS1 => kk H1 locs1 ls (hset H1 _ _ hP1 hD1 ?_ fun c2 i2 h => ab_ent_ui h) hS1 hl)
  rw [ab_ent_o h0, ab_fs_set h4]
  · simp [ab_fv, ab_up, ab_cv]
  · intro j t' hj
    have e : ab_up u.1 c' i k v c' i j = u.1 c' i j := ab_up_n _ _ fun q => hj q.2.2
    simp only [ab_fv, e]
theorem ab_putR (X : ab_X p s m args c cc own nL D ca A H0) {idx c' k i : Nat} {C0 : String} {r : Option (Nat × Nat)} (hf : ab_fp own idx c' k 1 (.object C0)) (hd : decode cc pc = .ok (.putfield idx, 3)) (hi : i < N c') (kk : ab_J p l e R s m args below meth c Q D ca A H0 nL cells slots ad N (ab_ur u c' i k r) (pc + 3) lv st) : ab_J p l e R s m args below meth c Q D ca A H0 nL cells slots ad N u pc lv (ab_R r :: ab_O c' i :: st) := fun H locs ls hW hS hl => by
  obtain ⟨h0, C, T, n, ty0, h1, h2, h3, h4, h5, h6, h7, h8, h9⟩ := hf
  obtain ⟨ws, q0, hP, hD, hk, -, hset⟩ := hW.put hi
  rw [ab_ent_o h0] at hk
  refine va_put X.1 X.2.1 X.2.2.2.2.1 h2 ty0 h6 h7 X.2.2.2.1 X.2.2.2.2.2.1 hP hD hS q0 hk h1 k h3 (X.2.2.2.2.1 _ h5) (fun _ h => h) h8 (by rw [h6 k h3, h9]) (by cases r <;> rfl) (by cases r <;> rfl) (by rw [ab_fs_len]; exact (List.getElem?_eq_some_iff.mp h4).1) hd (fun H1 locs1 hP1 hD1 hS1 => kk H1 locs1 ls (hset H1 _ _ hP1 hD1 ?_ fun c2 i2 h => ab_ent_ur h) hS1 hl)
  rw [ab_ent_o h0, ab_fs_set h4]
  · simp [ab_fv, ab_up, ab_cv]
  · intro j t' hj
    have e : ab_up u.2.1 c' i k r c' i j = u.2.1 c' i j := ab_up_n _ _ fun q => hj q.2.2
    simp only [ab_fv, e]
theorem ab_ix {j : Int32} {n L : Nat} (hj : j = nI n) (hn : n < L) (hL : L < 2 ^ 31) : vp_in j L ∧ j.toNatClampNeg = n := by
  subst hj
  exact ⟨vp_in_nI hn hL, nI_clamp (by omega)⟩
theorem ab_iald (X : ab_X p s m args c cc own nL D ca A H0) {c' i : Nat} {j : Int32} (n : Nat) (ha : ab_tag c' = 1 ∧ ab_ci c' = 0) (hd : decode cc pc = .ok (.iaload, 1)) (hi : i < N c') (hj : j = nI n) (hn : n < ab_ln c' i) (hL : ab_ln c' i < 2 ^ 31) (kk : ab_J p l e R s m args below meth c Q D ca A H0 nL cells slots ad N u (pc + 1) lv (ab_I (u.1 c' i n) :: st)) : ab_J p l e R s m args below meth c Q D ca A H0 nL cells slots ad N u pc lv (ab_I j :: ab_O c' i :: st) := fun H locs ls hW hS hl => by
  obtain ⟨ws, q0, hP, hD, hk⟩ := hW.at hi
  obtain ⟨hin, hcl⟩ := ab_ix hj hn hL
  rw [ab_ent_i ha.1, ha.2] at hk
  exact va_iald X.1 X.2.1 X.2.2.2.2.2.1 hP q0 0 hk rfl hin hd (by rw [hcl]; exact kk H locs ls hW hS hl)
theorem ab_zald (X : ab_X p s m args c cc own nL D ca A H0) {c' i : Nat} {j : Int32} (n : Nat) (ha : ab_tag c' = 1 ∧ ab_ci c' = 1) (hd : decode cc pc = .ok (.baload, 1)) (hi : i < N c') (hj : j = nI n) (hn : n < ab_ln c' i) (hL : ab_ln c' i < 2 ^ 31) (kk : ab_J p l e R s m args below meth c Q D ca A H0 nL cells slots ad N u (pc + 1) lv (ab_I (u.1 c' i n) :: st)) : ab_J p l e R s m args below meth c Q D ca A H0 nL cells slots ad N u pc lv (ab_I j :: ab_O c' i :: st) := fun H locs ls hW hS hl => by
  obtain ⟨ws, q0, hP, hD, hk⟩ := hW.at hi
  obtain ⟨hin, hcl⟩ := ab_ix hj hn hL
  rw [ab_ent_i ha.1, ha.2] at hk
  exact va_zald X.1 X.2.1 X.2.2.2.2.2.1 hP q0 1 hk rfl hin hd (by rw [hcl]; exact kk H locs ls hW hS hl)
theorem ab_lald (X : ab_X p s m args c cc own nL D ca A H0) {c' i : Nat} {j : Int32} (n : Nat) (ha : ab_tag c' = 2 ∧ ab_ci c' = 2) (hd : decode cc pc = .ok (.laload, 1)) (hi : i < N c') (hj : j = nI n) (hn : n < ab_ln c' i) (hL : ab_ln c' i < 2 ^ 31) (kk : ab_J p l e R s m args below meth c Q D ca A H0 nL cells slots ad N u (pc + 1) lv (ab_L (u.2.2 c' i n) :: st)) : ab_J p l e R s m args below meth c Q D ca A H0 nL cells slots ad N u pc lv (ab_I j :: ab_O c' i :: st) := fun H locs ls hW hS hl => by
  obtain ⟨ws, q0, hP, hD, hk⟩ := hW.at hi
  obtain ⟨hin, hcl⟩ := ab_ix hj hn hL
  rw [ab_ent_l ha.1, ha.2] at hk
  exact va_lald X.1 X.2.1 X.2.2.2.2.2.1 hP q0 2 hk rfl hin hd (by rw [hcl]; exact kk H locs ls hW hS hl)
theorem ab_aald (X : ab_X p s m args c cc own nL D ca A H0) {c' i : Nat} {j : Int32} (n : Nat) (ha : ab_tag c' = 3 ∧ ∃ C, ∀ ca : Nat → ClassId, (ab_tys ca)[ab_ci c']? = some (ca (ab_ci c'), .object C)) (hd : decode cc pc = .ok (.aaload, 1)) (hi : i < N c') (hj : j = nI n) (hn : n < ab_ln c' i) (hL : ab_ln c' i < 2 ^ 31) (kk : ab_J p l e R s m args below meth c Q D ca A H0 nL cells slots ad N u (pc + 1) lv (ab_R (u.2.1 c' i n) :: st)) : ab_J p l e R s m args below meth c Q D ca A H0 nL cells slots ad N u pc lv (ab_I j :: ab_O c' i :: st) := fun H locs ls hW hS hl => by
  obtain ⟨ws, q0, hP, hD, hk⟩ := hW.at hi
  obtain ⟨hin, hcl⟩ := ab_ix hj hn hL
  obtain ⟨h0, C, hC⟩ := ha
  rw [ab_ent_r h0] at hk
  exact va_aldq X.1 X.2.1 X.2.2.2.2.2.1 hP q0 (ab_ci c') hk (hC ca) hin hd (by rw [hcl]; exact kk H locs ls hW hS hl)
theorem ab_alen (X : ab_X p s m args c cc own nL D ca A H0) {c' i : Nat} {v : Int32} (ha : ¬ ab_tag c' = 0 ∧ ∃ ty, ∀ ca : Nat → ClassId, (ab_tys ca)[ab_ci c']? = some (ca (ab_ci c'), ty)) (hd : decode cc pc = .ok (.arraylength, 1)) (hi : i < N c') (hv : nI (ab_ln c' i) = v) (kk : ab_J p l e R s m args below meth c Q D ca A H0 nL cells slots ad N u (pc + 1) lv (ab_I v :: st)) : ab_J p l e R s m args below meth c Q D ca A H0 nL cells slots ad N u pc lv (ab_O c' i :: st) := fun H locs ls hW hS hl => by
  obtain ⟨ws, q0, hP, hD, hk⟩ := hW.at hi
  obtain ⟨h0, ty, hT⟩ := ha
  have he : ∃ x : vp_A, ab_ent ca ad u c' i = .inl (ca (ab_ci c'), x) ∧ x.1 = ab_ln c' i := by
    unfold ab_ent
    rw [if_neg h0]
    split
    · exact ⟨_, rfl, rfl⟩
    · split
      · exact ⟨_, rfl, rfl⟩
      · exact ⟨_, rfl, rfl⟩
  obtain ⟨x, he, hx⟩ := he
  rw [he] at hk
  exact va_alen X.1 X.2.1 X.2.2.2.2.2.1 hP q0 (ab_ci c') hk (hT ca) (by rw [hx]; exact hv) hd (kk H locs ls hW hS hl)
theorem ab_iast (X : ab_X p s m args c cc own nL D ca A H0) {c' i : Nat} {j x : Int32} (n : Nat) (ha : ab_tag c' = 1 ∧ ab_ci c' = 0) (hd : decode cc pc = .ok (.iastore, 1)) (hi : i < N c') (hj : j = nI n) (hn : n < ab_ln c' i) (hL : ab_ln c' i < 2 ^ 31) (kk : ab_J p l e R s m args below meth c Q D ca A H0 nL cells slots ad N (ab_ui u c' i n x) (pc + 1) lv st) : ab_J p l e R s m args below meth c Q D ca A H0 nL cells slots ad N u pc lv (ab_I x :: ab_I j :: ab_O c' i :: st) := fun H locs ls hW hS hl => by
  obtain ⟨ws, q0, hP, hD, hk, -, hset⟩ := hW.put hi
  obtain ⟨hin, hcl⟩ := ab_ix hj hn hL
  rw [ab_ent_i ha.1, ha.2] at hk
  refine va_iast X.1 X.2.1 X.2.2.2.2.2.1 hP hD hS q0 0 hk rfl hin hd (fun H1 locs1 hP1 hD1 hS1 => kk H1 locs1 ls (hset H1 _ _ hP1 hD1 ?_ fun c2 i2 h => ab_ent_ui h) hS1 hl)
  rw [ab_ent_i ha.1, ha.2, hcl]
  refine congrArg (fun f => (Sum.inl (ca 0, ab_ln c' i, Sum.inl f) : va_E)) ?_
  funext q
  by_cases hq : q = n
  · subst hq; simp [upd, ab_up]
  · simp [upd, ab_up, hq]
theorem ab_zast (X : ab_X p s m args c cc own nL D ca A H0) {c' i : Nat} {j x : Int32} (n : Nat) (ha : ab_tag c' = 1 ∧ ab_ci c' = 1) (hd : decode cc pc = .ok (.bastore, 1)) (hi : i < N c') (hj : j = nI n) (hn : n < ab_ln c' i) (hL : ab_ln c' i < 2 ^ 31) (hx : x = 0 ∨ x = 1) (kk : ab_J p l e R s m args below meth c Q D ca A H0 nL cells slots ad N (ab_ui u c' i n x) (pc + 1) lv st) : ab_J p l e R s m args below meth c Q D ca A H0 nL cells slots ad N u pc lv (ab_I x :: ab_I j :: ab_O c' i :: st) := fun H locs ls hW hS hl => by
  obtain ⟨ws, q0, hP, hD, hk, -, hset⟩ := hW.put hi
  obtain ⟨hin, hcl⟩ := ab_ix hj hn hL
  have hnx : vp_nar .boolean x = x := by rcases hx with rfl | rfl <;> decide +kernel
  rw [ab_ent_i ha.1, ha.2] at hk
  refine va_zast X.1 X.2.1 X.2.2.2.2.2.1 hP hD hS q0 1 hk rfl hin hd (fun H1 locs1 hP1 hD1 hS1 => kk H1 locs1 ls (hset H1 _ _ hP1 hD1 ?_ fun c2 i2 h => ab_ent_ui h) hS1 hl)
  rw [ab_ent_i ha.1, ha.2, hcl, hnx]
  refine congrArg (fun f => (Sum.inl (ca 1, ab_ln c' i, Sum.inl f) : va_E)) ?_
  funext q
  by_cases hq : q = n
  · subst hq; simp [upd, ab_up]
  · simp [upd, ab_up, hq]
theorem ab_last (X : ab_X p s m args c cc own nL D ca A H0) {c' i : Nat} {j : Int32} {x : Int64} (n : Nat) (ha : ab_tag c' = 2 ∧ ab_ci c' = 2) (hd : decode cc pc = .ok (.lastore, 1)) (hi : i < N c') (hj : j = nI n) (hn : n < ab_ln c' i) (hL : ab_ln c' i < 2 ^ 31) (kk : ab_J p l e R s m args below meth c Q D ca A H0 nL cells slots ad N (ab_ul u c' i n x) (pc + 1) lv st) : ab_J p l e R s m args below meth c Q D ca A H0 nL cells slots ad N u pc lv (ab_L x :: ab_I j :: ab_O c' i :: st) := fun H locs ls hW hS hl => by
  obtain ⟨ws, q0, hP, hD, hk, -, hset⟩ := hW.put hi
  obtain ⟨hin, hcl⟩ := ab_ix hj hn hL
  rw [ab_ent_l ha.1, ha.2] at hk
  refine va_last X.1 X.2.1 X.2.2.2.2.2.1 hP hD hS q0 2 hk rfl hin hd (fun H1 locs1 hP1 hD1 hS1 => kk H1 locs1 ls (hset H1 _ _ hP1 hD1 ?_ fun c2 i2 h => ab_ent_ul h) hS1 hl)
  rw [ab_ent_l ha.1, ha.2, hcl]
  refine congrArg (fun f => (Sum.inl (ca 2, ab_ln c' i, Sum.inr (Sum.inl f)) : va_E)) ?_
  funext q
  by_cases hq : q = n
  · subst hq; simp [vp_updL, ab_up]
  · simp [vp_updL, ab_up, hq]
theorem ab_aast (X : ab_X p s m args c cc own nL D ca A H0) {c' i c2 i2 : Nat} {j : Int32} (n : Nat) (ha : ab_tag c' = 3 ∧ ab_tag c2 = 0 ∧ ∃ r : vw_C, vwCl[ab_ci c2]? = some r ∧ ∀ ca : Nat → ClassId, (ab_tys ca)[ab_ci c']? = some (ca (ab_ci c'), .object r.1)) (hd : decode cc pc = .ok (.aastore, 1)) (hi : i < N c') (hi2 : i2 < N c2) (hj : j = nI n) (hn : n < ab_ln c' i) (hL : ab_ln c' i < 2 ^ 31) (kk : ab_J p l e R s m args below meth c Q D ca A H0 nL cells slots ad N (ab_ur u c' i n (some (c2, i2))) (pc + 1) lv st) : ab_J p l e R s m args below meth c Q D ca A H0 nL cells slots ad N u pc lv (ab_O c2 i2 :: ab_I j :: ab_O c' i :: st) := fun H locs ls hW hS hl => by
  obtain ⟨ws, q0, hP, hD, hk, h1, hset⟩ := hW.put hi
  obtain ⟨hin, hcl⟩ := ab_ix hj hn hL
  obtain ⟨t3, t0, r, hr, hT⟩ := ha
  obtain ⟨q2, hq2⟩ := List.getElem?_of_mem (h1 c2 i2 hi2)
  rw [ab_ent_o t0] at hq2
  rw [ab_ent_r t3] at hk
  refine va_astq X.1 X.2.1 X.2.2.2.2.2.1 hP hD hS q0 (ab_ci c') q2 (ab_ci c2) hk (hT ca) hq2 hr hin hd (fun H1 locs1 hP1 hD1 hS1 => kk H1 locs1 ls (hset H1 _ _ hP1 hD1 ?_ fun c2 i2 h => ab_ent_ur h) hS1 hl)
  rw [ab_ent_r t3, hcl]
  refine congrArg (fun f => (Sum.inl (ca (ab_ci c'), ab_ln c' i, Sum.inr (Sum.inr (Sum.inr (Sum.inr f)))) : va_E)) ?_
  funext q
  by_cases hq : q = n
  · subst hq; simp [va_up, ab_up]
  · simp [va_up, ab_up, hq]
end AbJ
end
section
/-! Contracts without new cells, their ends, and the calls of them. -/
def ab_A (ad : ab_Ad) (N : Nat → Nat) (sz : Nat) : Nat → Prop := fun q => (∃ c i : Nat, i < N c ∧ q = ad c i) ∨ sz ≤ q
def ab_rm (d mc ms : Nat) : Room := { frames := d, cells := mc, slots := ms, locals := 60 * d }
def ab_Pc (z : Bool) (D : va_G) (ca : Nat → ClassId) (ad : ab_Ad) (N : Nat → Nat) (u : ab_S) (sz : Nat) (av : List ab_V) : Array Value → State → Prop := va_Pc (av.map (ab_cv ad)) fun U => U.heap.size = sz ∧ ab_W D ca ad N u (fun _ => True) U.heap ∧ va_K D vwCl (ab_tys ca) U ∧ ab_Nw U ∧ (z = true → ab_Zs ad (ab_A ad N sz) U U.heap)
def ab_Q (D : va_G) (ca : Nat → ClassId) (ad : ab_Ad) (N : Nat → Nat) (sz : Nat) (Post : ab_S → Option ab_V → Prop) : Array Value → State → Outcome → State → Prop := fun _ st oc t => (∃ (u' : ab_S) (r : Option ab_V), oc = .returned (r.map (ab_cv ad)) ∧ Post u' r ∧ ab_W D ca ad N u' (fun _ => True) t.heap ∧ va_K D vwCl (ab_tys ca) t) ∧ va_F (ab_A ad N sz) st t
/-- the contract of a method that makes no cell: from the state u, with the arguments av, it returns, and Post -/
def ab_C (z : Bool) (l : Launch) (D : va_G) (ca : Nat → ClassId) (y : MethodName) (cc : ByteArray) (nL : Nat) (ret : Option FieldType) (d : Nat) (N : Nat → Nat) (u : ab_S) (av : List ab_V) (Post : ab_S → Option ab_V → Prop) : Prop :=
  ∀ (ad : ab_Ad) (sz : Nat), Met l y (Cond.code y cc nL ret :: ab_T) (ab_rm d 0 0) (ab_Pc z D ca ad N u sz av) (ab_Q D ca ad N sz Post) 0 0 (ab_A ad N sz)
theorem ab_Zs.go {p : Program} {s U : State} {m : MethodId} {args : Array Value} {c : Code} {cc : ByteArray} {own : String} {nL : Nat} {D : va_G} {ca : Nat → ClassId} {A : Nat → Prop} {H0 H : Heap} {ad : ab_Ad} {N : Nat → Nat} {u : ab_S} {locs : List Loc} (X : ab_X p s m args c cc own nL D ca A H0) (hZ : ab_Zs ad A s H0) (hW : ab_W D ca ad N u A H) (hS : va_S A H0 H locs) (hU : s.WarmedH U.vm) : ab_Zs ad (ab_A ad N H.size) U H :=
  ((hZ.kept hS.2.1).narrow fun q h => by
    rcases h with ⟨c', i', hi', rfl⟩ | h
    · exact hW.inA hi'
    · exact X.2.2.2.2.2.2.1 q (Nat.le_trans hS.1 h)).moved hU
theorem ab_Pc_blind {z : Bool} {D : va_G} {ca : Nat → ClassId} {ad : ab_Ad} {N : Nat → Nat} {u : ab_S} {sz : Nat} {av : List ab_V} : FrameBlind (ab_Pc z D ca ad N u sz av) := fun a U g mk q => by
  obtain ⟨q0, q1, q2, q3, q5, q4⟩ := q
  exact ⟨q0, q1, q2, va_K.moved (u := U) (U := U.calling g mk a) (Vm.Alike.refl U.vm) q3, ab_Nw.moved (u := U) (U := U.calling g mk a) (State.WarmedH.refl U) q5, fun h => ab_Zs.moved (u := U) (U := U.calling g mk a) (State.WarmedH.refl U) (q4 h)⟩
def ab_args : Nat → List ab_V → List (Nat × ab_V)
  | _, [] => []
  | i, v :: vs => (i, v) :: ab_args (if ab_is2 v = true then i + 2 else i + 1) vs
def ab_len : List ab_V → Nat
  | [] => 0
  | v :: vs => (if ab_is2 v = true then 2 else 1) + ab_len vs
theorem ab_cat2 (ad : ab_Ad) (v : ab_V) : ((ab_cv ad v).category = 2) ↔ ab_is2 v = true := by
  rw [← ab_cat ad v]; simp
theorem ab_args_map (ad : ab_Ad) : ∀ (vs : List ab_V) (i : Nat), lv_args i (vs.map (ab_cv ad)) = (ab_args i vs).map fun q => (q.1, ab_cv ad q.2)
  | [], _ => rfl
  | v :: vs, i => by
    show (i, ab_cv ad v) :: lv_args (if (ab_cv ad v).category = 2 then i + 2 else i + 1) (vs.map (ab_cv ad)) = (i, ab_cv ad v) :: _
    congr 1
    rw [ab_args_map ad vs]
    congr 2
    by_cases h : ab_is2 v = true
    · rw [if_pos h, if_pos ((ab_cat2 ad v).mpr h)]
    · rw [if_neg h, if_neg (fun q => h ((ab_cat2 ad v).mp q))]
theorem ab_len_eq (ad : ab_Ad) : ∀ vs : List ab_V, (lg_sl (vs.map (ab_cv ad))).length = ab_len vs
  | [] => rfl
  | v :: vs => by
    have ih := ab_len_eq ad vs
    have e : lg_sl ((v :: vs).map (ab_cv ad)) = (if (ab_cv ad v).category = 2 then [Slot.val (ab_cv ad v), Slot.second] else [Slot.val (ab_cv ad v)]) ++ lg_sl (vs.map (ab_cv ad)) := rfl
    rw [e, List.length_append, ih]
    show _ = (if ab_is2 v = true then 2 else 1) + ab_len vs
    by_cases h : ab_is2 v = true
    · rw [if_pos h, if_pos ((ab_cat2 ad v).mpr h)]; rfl
    · rw [if_neg h, if_neg (fun q => h ((ab_cat2 ad v).mp q))]; rfl
theorem ab_C.of {z : Bool} {l : Launch} {D : va_G} {ca : Nat → ClassId} {y : MethodName} {cc : ByteArray} {nL : Nat} {ret : Option FieldType} {d : Nat} {N : Nat → Nat} {u : ab_S} {av : List ab_V} {Post : ab_S → Option ab_V → Prop} (hy : plainName y.cls = true) (hn : ab_len av ≤ nL)
    (body : ∀ (p : Program) (e : Env) (s : State) (m : MethodId) (args : Array Value) (below : List Frame) (meth : Method) (c : Code) (ad : ab_Ad), ab_X p s m args c cc y.cls nL D ca (ab_A ad N s.heap.size) s.heap → (z = true → ab_Zs ad (ab_A ad N s.heap.size) s s.heap) → meth.sig.returnType = ret → meth.locks = false →
      ab_J p l e (ab_rm d 0 0) s m args below meth c (MQ below (ab_Q D ca ad N s.heap.size Post) args s 0 0 (ab_A ad N s.heap.size)) D ca (ab_A ad N s.heap.size) s.heap nL 0 0 ad N u 0 (ab_args 0 av) []) : ab_C z l D ca y cc nL ret d N u av Post := by
  intro ad sz
  refine Met.ofW (cc := cc) (maxL := nL) (ret := ret) hy rfl ?_
  intro p e s m args below meth c s₁ B hml hv
  obtain ⟨rfl, hsz, hW, hK, hNw, hZ⟩ := hv
  subst hsz
  have hts := atoms_spec (ws := Cond.code y cc nL ret :: ab_T) B.pre
  rw [lg_entry_eq]
  have hl := lv_entry (av.map (ab_cv ad)) (n := nL) (by rw [ab_len_eq]; exact hn)
  rw [ab_args_map] at hl
  exact body p e s m _ below meth c ad ⟨B.exec, B.bytes, hml, findClass_of_methodNamed B.named, fun w hw => hts w (List.mem_cons_of_mem _ hw), hK, fun q hq => Or.inr hq, hNw⟩ hZ B.returns B.notSynchronized s.heap [] _ (hW.weaken fun c i hi => Or.inl ⟨c, i, hi, rfl⟩) va_S.rf hl
section AbR
variable {p : Program} {l : Launch} {e : Env} {R : Room} {s : State} {m : MethodId} {args : Array Value} {below : List Frame} {meth : Method} {c : Code} {Q : State → Prop}
variable {cc : ByteArray} {own : String} {nL : Nat} {D : va_G} {ca : Nat → ClassId} {A : Nat → Prop} {H0 : Heap} {cells slots : Nat} {ad : ab_Ad} {N : Nat → Nat} {u : ab_S} {pc : Nat} {lv : List (Nat × ab_V)} {st : List ab_V} {Post : ab_S → Option ab_V → Prop}
theorem ab_reti (X : ab_X p s m args c cc own nL D ca (ab_A ad N s.heap.size) s.heap) (hr : meth.sig.returnType = some .int) (hlk : meth.locks = false) {v : Int32} (hd : decode cc pc = .ok (.ireturn, 1)) (hP : Post u (some (ab_I v))) : ab_J p l e R s m args below meth c (MQ below (ab_Q D ca ad N s.heap.size Post) args s cells slots (ab_A ad N s.heap.size)) D ca (ab_A ad N s.heap.size) s.heap nL cells slots ad N u pc lv [ab_I v] :=
  fun H locs ls hW hS hl => W.iret X.1 X.2.1 hr (fun t ht hWt => ⟨⟨u, some (ab_I v), rfl, hP, by rw [ht]; exact hW.weaken (fun _ _ _ => trivial), va_K.moved hWt.alike X.2.2.2.2.2.1⟩, hS.F ht⟩) hS.2.2 hd hlk
theorem ab_retz (X : ab_X p s m args c cc own nL D ca (ab_A ad N s.heap.size) s.heap) (hr : meth.sig.returnType = some .boolean) (hlk : meth.locks = false) {v : Int32} (hv : v = 0 ∨ v = 1) (hd : decode cc pc = .ok (.ireturn, 1)) (hP : Post u (some (ab_I v))) : ab_J p l e R s m args below meth c (MQ below (ab_Q D ca ad N s.heap.size Post) args s cells slots (ab_A ad N s.heap.size)) D ca (ab_A ad N s.heap.size) s.heap nL cells slots ad N u pc lv [ab_I v] :=
  fun H locs ls hW hS hl => W.zret X.1 X.2.1 hr (by rcases hv with rfl | rfl <;> decide +kernel) (fun t ht hWt => ⟨⟨u, some (ab_I v), rfl, hP, by rw [ht]; exact hW.weaken (fun _ _ _ => trivial), va_K.moved hWt.alike X.2.2.2.2.2.1⟩, hS.F ht⟩) hS.2.2 hd hlk
theorem ab_retl (X : ab_X p s m args c cc own nL D ca (ab_A ad N s.heap.size) s.heap) (hr : meth.sig.returnType = some .long) (hlk : meth.locks = false) {v : Int64} (hd : decode cc pc = .ok (.lreturn, 1)) (hP : Post u (some (ab_L v))) : ab_J p l e R s m args below meth c (MQ below (ab_Q D ca ad N s.heap.size Post) args s cells slots (ab_A ad N s.heap.size)) D ca (ab_A ad N s.heap.size) s.heap nL cells slots ad N u pc lv [ab_L v] :=
  fun H locs ls hW hS hl => W.lret X.1 X.2.1 hr (fun t ht hWt => ⟨⟨u, some (ab_L v), rfl, hP, by rw [ht]; exact hW.weaken (fun _ _ _ => trivial), va_K.moved hWt.alike X.2.2.2.2.2.1⟩, hS.F ht⟩) hS.2.2 hd hlk
theorem ab_retr (X : ab_X p s m args c cc own nL D ca (ab_A ad N s.heap.size) s.heap) {C : String} (hr : meth.sig.returnType = some (.object C)) (hlk : meth.locks = false) {r : Option (Nat × Nat)} (hd : decode cc pc = .ok (.areturn, 1)) (hP : Post u (some (ab_R r))) : ab_J p l e R s m args below meth c (MQ below (ab_Q D ca ad N s.heap.size Post) args s cells slots (ab_A ad N s.heap.size)) D ca (ab_A ad N s.heap.size) s.heap nL cells slots ad N u pc lv [ab_R r] :=
  fun H locs ls hW hS hl => W.aret X.1 X.2.1 hr (Or.inl ⟨C, rfl⟩) (va_rf_or _) (fun t ht hWt => ⟨⟨u, some (ab_R r), rfl, hP, by rw [ht]; exact hW.weaken (fun _ _ _ => trivial), va_K.moved hWt.alike X.2.2.2.2.2.1⟩, hS.F ht⟩) hS.2.2 hd hlk
theorem ab_retv (X : ab_X p s m args c cc own nL D ca (ab_A ad N s.heap.size) s.heap) (hr : meth.sig.returnType = none) (hlk : meth.locks = false) (hd : decode cc pc = .ok (.return_, 1)) (hP : Post u none) : ab_J p l e R s m args below meth c (MQ below (ab_Q D ca ad N s.heap.size Post) args s cells slots (ab_A ad N s.heap.size)) D ca (ab_A ad N s.heap.size) s.heap nL cells slots ad N u pc lv [] :=
  fun H locs ls hW hS hl => W.vret X.1 X.2.1 hr (fun t ht hWt => ⟨⟨u, none, rfl, hP, by rw [ht]; exact hW.weaken (fun _ _ _ => trivial), va_K.moved hWt.alike X.2.2.2.2.2.1⟩, hS.F ht⟩) hS.2.2 hd hlk
/-- behind a call -/
theorem ab_after {a : Array Value} {H : Heap} {locs : List Loc} {ls : Array Slot} {stk : List Value} (X : ab_X p s m args c cc own nL D ca A H0) (hW : ab_W D ca ad N u A H) (hS : va_S A H0 H locs) (hl : lv_has ls nL (lv.map fun q => (q.1, ab_cv ad q.2)))
    (hr : va_Run p l e R s m args below meth c H locs cells slots 0 0 (F0 m pc ls stk) (st.map (ab_cv ad)) (ab_Q D ca ad N H.size Post a) (ab_A ad N H.size))
    (kk : ∀ (u' : ab_S) (r : Option ab_V), Post u' r → ab_J p l e R s m args below meth c Q D ca A H0 nL cells slots ad N u' (pc + 3) lv (r.toList ++ st)) : W p l e R s m args below meth c H locs cells slots Q (F0 m pc ls stk) := by
  intro T hT Y
  obtain ⟨v, st₀, t, T', L, h0, Y', hL, e1, e2, ⟨⟨u', r, hv, hp, hw, hk'⟩, hz, hk⟩, go⟩ := hr T hT Y
  cases hv
  rw [h0] at hz hk
  have hin : ∀ q : Nat, ab_A ad N H.size q → A q := fun q h => by
    rcases h with ⟨c', i', hi', rfl⟩ | h
    · exact hW.inA hi'
    · exact X.2.2.2.2.2.2.1 q (Nat.le_trans hS.1 h)
  have hS' : va_S A H0 T'.heap (locs ++ L) := ⟨Nat.le_trans hS.1 (by rw [e1]; exact hz), fun q h1 h2 => by rw [e1, hk q (Nat.lt_of_lt_of_le h1 hS.1) (fun z => h2 (hin q z))]; exact hS.2.1 q h1 h2, fun q hq => by
      rcases List.mem_append.mp hq with h | h
      · exact hS.2.2 q h
      · exact hin _ (hL q h)⟩
  obtain ⟨t2, a1, b1⟩ := kk u' r hp T'.heap (locs ++ L) ls (by rw [e1]; exact hw.weaken fun c' i' hi' => hW.inA hi') hS' hl T' rfl Y'
  refine ⟨t2, go t2 ?_, b1⟩
  have e : (r.map (ab_cv ad)).toList ++ st.map (ab_cv ad) = (r.toList ++ st).map (ab_cv ad) := by cases r <;> simp
  rw [e]
  exact a1
theorem ab_wt (ad : ab_Ad) : ∀ vs : List ab_V, ((vs.map (ab_cv ad)).map fun v => v.category).sum = ab_len vs
  | [] => rfl
  | v :: vs => by
    have ih := ab_wt ad vs
    simp only [List.map_cons, List.sum_cons, ab_len]
    rw [ih]
    congr 1
    by_cases h : ab_is2 v = true
    · rw [if_pos h]; exact (ab_cat2 ad v).mpr h
    · rw [if_neg h]; exact ab_cat1 (by simpa using h)
/-- the static facts of a virtual call: the receiver is of the kind c' -/
def ab_lk (own : String) (idx : Nat) (y : MethodName) (cc' : ByteArray) (nL' : Nat) (ret' : Option FieldType) (n c' : Nat) : Prop :=
  (ab_tag c' = 0 ∧ ∃ (T : u_T) (k : Nat), vwCl[ab_ci c']? = some (y.cls, T, k)) ∧ (∀ w ∈ ([.methodLink own idx y, .instanceMethod y, .selects y.cls y y, .initialized y.cls, .code y cc' nL' ret'] : List Cond), w ∈ ab_T) ∧
  (y.cls ≠ "java/lang/invoke/MethodHandle" ∧ y.cls ≠ "java/lang/invoke/VarHandle" ∧ (parseMethodDescriptor y.desc).map (fun d => d.parameters.length) = some n) ∧ nL' ≤ 41
theorem ab_callV {z : Bool} (X : ab_X p s m args c cc own nL D ca A H0) {y : MethodName} {cc' : ByteArray} {nL' d' idx c' i n : Nat} {ret' : Option FieldType} {as stk : List ab_V} (hz : z = true → ab_Zs ad A s H0) (hC : ab_C z l D ca y cc' nL' ret' d' N u (ab_O c' i :: as) Post) (hk : ab_lk own idx y cc' nL' ret' n c') (hd : decode cc pc = .ok (.invokevirtual idx, 3)) (hst : stk = as.reverse ++ ab_O c' i :: st) (hn : as.length = n) (hi : i < N c') (hR : d' + 1 ≤ R.frames ∧ 60 * (d' + 1) ≤ R.locals) (hc : cells ≤ R.cells ∧ slots ≤ R.slots) (hw : ab_len st ≤ 8)
    (kk : ∀ (u' : ab_S) (r : Option ab_V), Post u' r → ab_J p l e R s m args below meth c Q D ca A H0 nL cells slots ad N u' (pc + 3) lv (r.toList ++ st)) : ab_J p l e R s m args below meth c Q D ca A H0 nL cells slots ad N u pc lv stk := fun H locs ls hW hS hl => by
  obtain ⟨⟨h0, T, k, h1⟩, hws, hy, hnL⟩ := hk
  subst hst; subst hn
  obtain ⟨ws, q0, hP, hD, hq⟩ := hW.at hi
  rw [ab_ent_o h0] at hq
  have hp : PreV s H y.cls (ad c' i) (ab_Pc z D ca ad N u H.size (ab_O c' i :: as)) (as.map (ab_cv ad)) := ⟨ab_Pc_blind, va_recv X.2.2.2.2.2.1 hP h1 hq, fun U hU hWU => ⟨rfl, by rw [hU], by rw [hU]; exact hW.weaken (fun _ _ _ => trivial), va_K.moved hWU.alike X.2.2.2.2.2.1, ab_Nw.moved hWU X.2.2.2.2.2.2.2, fun h => by rw [hU]; exact ab_Zs.go X (hz h) hW hS hWU⟩⟩
  have hG : GoodIn ab_T (wsV own idx y.cls y (Cond.code y cc' nL' ret' :: ab_T)) := fun w h => by
    refine ab_T_good w ?_
    rcases List.mem_append.mp h with h | h
    · exact hws w (List.mem_append_left [Cond.code y cc' nL' ret'] h)
    · rcases List.mem_cons.mp h with rfl | h
      · exact hws _ (by simp)
      · exact h
  have cw : CallW R s args own y.cls idx y cc' nL' ret' (Cond.code y cc' nL' ret' :: ab_T) (ab_rm d' 0 0) 0 0 as.length := cwV as.length X.2.2.2.2.1 hG rfl rfl rfl ⟨rfl, hy⟩ ⟨hR.1, by show 8 + (nL' + 11) + 60 * d' ≤ R.locals; omega⟩
  exact ab_after X hW hS hl (va_runV ⟨X.1, X.2.1, X.2.2.1, X.2.2.2.1, X.2.2.2.2.1⟩ (hC ad H.size) cw hp rfl (by simp) hl.1 (by show (as.reverse ++ ab_O c' i :: st).map (ab_cv ad) = _; rw [List.map_append, List.map_reverse]; rfl) (lv_room (by rw [ab_wt]; exact hw)) hd hc) kk
/-- the static facts of a static call -/
def ab_ls (own : String) (idx : Nat) (y : MethodName) (cc' : ByteArray) (nL' : Nat) (ret' : Option FieldType) (n : Nat) : Prop :=
  (∀ w ∈ ([.methodLink own idx y, .static y, .initialized y.cls, .code y cc' nL' ret'] : List Cond), w ∈ ab_T) ∧
  (y.cls ≠ "java/lang/invoke/MethodHandle" ∧ y.cls ≠ "java/lang/invoke/VarHandle" ∧ (parseMethodDescriptor y.desc).map (fun d => d.parameters.length) = some n) ∧ nL' ≤ 41
theorem ab_callS {z : Bool} (X : ab_X p s m args c cc own nL D ca A H0) {y : MethodName} {cc' : ByteArray} {nL' d' idx n : Nat} {ret' : Option FieldType} {as stk : List ab_V} (hz : z = true → ab_Zs ad A s H0) (hC : ab_C z l D ca y cc' nL' ret' d' N u as Post) (hk : ab_ls own idx y cc' nL' ret' n) (hd : decode cc pc = .ok (.invokestatic idx, 3)) (hst : stk = as.reverse ++ st) (hn : as.length = n) (hR : d' + 1 ≤ R.frames ∧ 60 * (d' + 1) ≤ R.locals) (hc : cells ≤ R.cells ∧ slots ≤ R.slots) (hw : ab_len st ≤ 8)
    (kk : ∀ (u' : ab_S) (r : Option ab_V), Post u' r → ab_J p l e R s m args below meth c Q D ca A H0 nL cells slots ad N u' (pc + 3) lv (r.toList ++ st)) : ab_J p l e R s m args below meth c Q D ca A H0 nL cells slots ad N u pc lv stk := fun H locs ls hW hS hl => by
  obtain ⟨hws, hy, hnL⟩ := hk
  subst hst; subst hn
  have hp : PreS s H (ab_Pc z D ca ad N u H.size as) (as.map (ab_cv ad)) := ⟨ab_Pc_blind, fun U hU hWU => ⟨rfl, by rw [hU], by rw [hU]; exact hW.weaken (fun _ _ _ => trivial), va_K.moved hWU.alike X.2.2.2.2.2.1, ab_Nw.moved hWU X.2.2.2.2.2.2.2, fun h => by rw [hU]; exact ab_Zs.go X (hz h) hW hS hWU⟩⟩
  have hG : GoodIn ab_T (Cond.code y cc' nL' ret' :: ab_T) := fun w h => by
    refine ab_T_good w ?_
    rcases List.mem_cons.mp h with rfl | h
    · exact hws _ (by simp)
    · exact h
  have cb : CallB R s args own idx y cc' nL' ret' (Cond.code y cc' nL' ret' :: ab_T) (ab_rm d' 0 0) 0 0 as.length := callB_of as.length X.2.2.2.2.1 hG rfl rfl rfl (X.2.2.2.2.1 _ (hws _ (by simp))) (X.2.2.2.2.1 _ (hws _ (by simp))) hy ⟨hR.1, by show 8 + (nL' + 11) + 60 * d' ≤ R.locals; omega⟩
  exact ab_after X hW hS hl (va_runS ⟨X.1, X.2.1, X.2.2.1, X.2.2.2.1, X.2.2.2.2.1⟩ (hC ad H.size) ⟨cb, X.2.2.2.2.1 _ (hws _ (by simp))⟩ hp rfl (by simp) hl.1 (by show (as.reverse ++ st).map (ab_cv ad) = _; rw [List.map_append, List.map_reverse]) (lv_room (by rw [ab_wt]; exact hw)) hd hc) kk
end AbR
end
section
/-! New cells. -/
def ab_live (N : Nat → Nat) (v : ab_V) : Prop := match v with
  | .inr (.inr (some q)) => q.2 < N q.1 ∨ 21 ≤ q.1
  | _ => True
/-- what isn't there yet holds nothing; no reference leads there -/
def ab_G (N : Nat → Nat) (u : ab_S) : Prop := (∀ c i k : Nat, N c ≤ i → u.1 c i k = 0 ∧ u.2.1 c i k = none ∧ u.2.2 c i k = 0) ∧ ∀ (c i k : Nat) (q : Nat × Nat), u.2.1 c i k = some q → q.2 < N q.1 ∨ 21 ≤ q.1
def ab_nx (N : Nat → Nat) (c : Nat) : Nat → Nat := fun c' => if c' = c then N c + 1 else N c'
def ab_ex (N : Nat → Nat) (ad ad' : ab_Ad) : Prop := ∀ c i : Nat, i < N c ∨ 21 ≤ c → ad' c i = ad c i
theorem ab_nx_le (N : Nat → Nat) (c c' : Nat) : N c' ≤ ab_nx N c c' := by
  unfold ab_nx; split
  · next h => rw [h]; omega
  · exact Nat.le_refl _
theorem ab_ex.trans {N N' : Nat → Nat} {a b c : ab_Ad} (h : ab_ex N a b) (hN : ∀ k, N k ≤ N' k) (h2 : ab_ex N' b c) : ab_ex N a c := fun k i hi => (h2 k i (hi.imp (fun z => Nat.lt_of_lt_of_le z (hN k)) id)).trans (h k i hi)
theorem ab_ex.rf {N : Nat → Nat} {a : ab_Ad} : ab_ex N a a := fun _ _ _ => rfl
theorem ab_rf_ex {N : Nat → Nat} {ad ad' : ab_Ad} (h : ab_ex N ad ad') {r : Option (Nat × Nat)} (hr : ∀ q, r = some q → q.2 < N q.1 ∨ 21 ≤ q.1) : (r.map fun q => ad' q.1 q.2) = r.map fun q => ad q.1 q.2 := by
  cases r with
  | none => rfl
  | some q => simp only [Option.map_some]; rw [h q.1 q.2 (hr q rfl)]
theorem ab_cv_ex {N : Nat → Nat} {ad ad' : ab_Ad} (h : ab_ex N ad ad') {v : ab_V} (hv : ab_live N v) : ab_cv ad' v = ab_cv ad v := by
  rcases v with x | x | r
  · rfl
  · rfl
  · show va_rf _ = va_rf _
    rw [ab_rf_ex h (r := r) (fun q e => by subst e; exact hv)]
theorem ab_map_ex {N : Nat → Nat} {ad ad' : ab_Ad} (h : ab_ex N ad ad') {st : List ab_V} (hv : ∀ v ∈ st, ab_live N v) : st.map (ab_cv ad') = st.map (ab_cv ad) := List.map_congr_left fun v hm => ab_cv_ex h (hv v hm)
theorem ab_lv_ex {N : Nat → Nat} {ad ad' : ab_Ad} (h : ab_ex N ad ad') {lv : List (Nat × ab_V)} (hv : ∀ q ∈ lv, ab_live N q.2) : (lv.map fun q => (q.1, ab_cv ad' q.2)) = lv.map fun q => (q.1, ab_cv ad q.2) := List.map_congr_left fun q hm => by rw [ab_cv_ex h (hv q hm)]
theorem ab_ent_ex {N : Nat → Nat} {ad ad' : ab_Ad} (h : ab_ex N ad ad') {u : ab_S} (hG : ab_G N u) (ca : Nat → ClassId) (c i : Nat) : ab_ent ca ad' u c i = ab_ent ca ad u c i := by
  have e : ∀ k, ((u.2.1 c i k).map fun q => ad' q.1 q.2) = (u.2.1 c i k).map fun q => ad q.1 q.2 := fun k => ab_rf_ex h fun q hq => hG.2 c i k q hq
  simp only [ab_ent, ab_fs, ab_fv, ab_rf, e]
theorem ab_G.ui {N : Nat → Nat} {u : ab_S} (h : ab_G N u) {c i k : Nat} (hi : i < N c) (v : Int32) : ab_G N (ab_ui u c i k v) := by
  refine ⟨fun c' i' k' hk => ?_, h.2⟩
  have hn : ¬ (c' = c ∧ i' = i ∧ k' = k) := fun ⟨a, b, _⟩ => by subst a; subst b; omega
  exact ⟨(ab_up_n _ _ hn).trans (h.1 c' i' k' hk).1, (h.1 c' i' k' hk).2⟩
theorem ab_G.ur {N : Nat → Nat} {u : ab_S} (h : ab_G N u) {c i k : Nat} (hi : i < N c) {r : Option (Nat × Nat)} (hr : ab_live N (ab_R r)) : ab_G N (ab_ur u c i k r) := by
  refine ⟨fun c' i' k' hk => ?_, fun c' i' k' q hq => ?_⟩
  · have hn : ¬ (c' = c ∧ i' = i ∧ k' = k) := fun ⟨a, b, _⟩ => by subst a; subst b; omega
    exact ⟨(h.1 c' i' k' hk).1, (ab_up_n _ _ hn).trans (h.1 c' i' k' hk).2.1, (h.1 c' i' k' hk).2.2⟩
  · by_cases hn : c' = c ∧ i' = i ∧ k' = k
    · obtain ⟨rfl, rfl, rfl⟩ := hn
      rw [show (ab_ur u c' i' k' r).2.1 c' i' k' = r from ab_up_s _ _ _ _ _] at hq
      subst hq
      exact hr
    · rw [show (ab_ur u c i k r).2.1 c' i' k' = u.2.1 c' i' k' from ab_up_n _ _ hn] at hq
      exact h.2 c' i' k' q hq
theorem ab_G.ul {N : Nat → Nat} {u : ab_S} (h : ab_G N u) {c i k : Nat} (hi : i < N c) (v : Int64) : ab_G N (ab_ul u c i k v) := by
  refine ⟨fun c' i' k' hk => ?_, h.2⟩
  have hn : ¬ (c' = c ∧ i' = i ∧ k' = k) := fun ⟨a, b, _⟩ => by subst a; subst b; omega
  exact ⟨(h.1 c' i' k' hk).1, (h.1 c' i' k' hk).2.1, (ab_up_n _ _ hn).trans (h.1 c' i' k' hk).2.2⟩
theorem ab_G.more {N N' : Nat → Nat} {u : ab_S} (h : ab_G N u) (hN : ∀ c, N c ≤ N' c) : ab_G N' u := ⟨fun c i k hk => h.1 c i k (Nat.le_trans (hN c) hk), fun c i k q hq => (h.2 c i k q hq).imp (fun z => Nat.lt_of_lt_of_le z (hN _)) id⟩
theorem ab_W.push {D : va_G} {ca : Nat → ClassId} {ad : ab_Ad} {N : Nat → Nat} {u : ab_S} {A : Nat → Prop} {H : Heap} (h : ab_W D ca ad N u A H) (hG : ab_G N u) (c : Nat) : ∃ ws : va_W, va_P D vwCl ws H ∧ va_D A ws ∧
    ∀ (H1 : Heap) (a : Nat) (ad' : ab_Ad), ab_ex N ad ad' → ad' c (N c) = a → va_P D vwCl (ws ++ [(a, ab_ent ca ad' u c (N c))]) H1 → va_D A (ws ++ [(a, ab_ent ca ad' u c (N c))]) → ab_W D ca ad' (ab_nx N c) u A H1 := by
  obtain ⟨h0, ws, hP, hD, h1, h2⟩ := h
  refine ⟨ws, hP, hD, fun H1 a ad' hx ha hP1 hD1 => ?_⟩
  have hold : ∀ c' i' : Nat, i' < N c' → (ad' c' i', ab_ent ca ad' u c' i') ∈ ws := fun c' i' hi' => by rw [ab_ent_ex hx hG, hx c' i' (Or.inl hi')]; exact h1 c' i' hi'
  have hcase : ∀ c' i' : Nat, i' < ab_nx N c c' → i' < N c' ∨ (c' = c ∧ i' = N c) := fun c' i' hi' => by
    unfold ab_nx at hi'
    by_cases hc : c' = c
    · subst hc; rw [if_pos rfl] at hi'
      by_cases hi : i' < N c'
      · exact Or.inl hi
      · exact Or.inr ⟨rfl, by omega⟩
    · rw [if_neg hc] at hi'; exact Or.inl hi'
  have hnew : (ws ++ [(a, ab_ent ca ad' u c (N c))])[ws.length]? = some (a, ab_ent ca ad' u c (N c)) := by simp
  have hap : ∀ c' i' : Nat, i' < N c' → ad' c' i' ≠ a := fun c' i' hi' e => by
    obtain ⟨k, hk⟩ := List.getElem?_of_mem (hold c' i' hi')
    have hl := (List.getElem?_eq_some_iff.mp hk).1
    have := hD1.1 k ws.length _ _ (by rw [List.getElem?_append_left hl]; exact hk) hnew e
    omega
  refine ⟨fun c1 i1 c2 i2 hi1 hi2 e => ?_, _, hP1, hD1, fun c' i' hi' => ?_, fun q hq => ?_⟩
  · rcases hcase c1 i1 hi1 with a1 | ⟨rfl, rfl⟩ <;> rcases hcase c2 i2 hi2 with a2 | ⟨rfl, rfl⟩
    · rw [hx c1 i1 (Or.inl a1), hx c2 i2 (Or.inl a2)] at e
      exact h0 c1 i1 c2 i2 a1 a2 e
    · exact absurd (e.trans ha) (hap c1 i1 a1)
    · exact absurd (e.symm.trans ha) (hap c2 i2 a2)
    · exact ⟨rfl, rfl⟩
  · rcases hcase c' i' hi' with a1 | ⟨rfl, rfl⟩
    · exact List.mem_append_left _ (hold c' i' a1)
    · rw [ha]; exact List.mem_append_right _ (List.mem_singleton.mpr rfl)
  · rcases List.mem_append.mp hq with hq | hq
    · obtain ⟨c', i', hi', rfl⟩ := h2 q hq
      exact ⟨c', i', Nat.lt_of_lt_of_le hi' (ab_nx_le N c c'), by rw [ab_ent_ex hx hG, hx c' i' (Or.inl hi')]⟩
    · rw [List.mem_singleton.mp hq]
      exact ⟨c, N c, by unfold ab_nx; rw [if_pos rfl]; omega, by rw [ha]⟩
def ab_adx (ad : ab_Ad) (c i a : Nat) : ab_Ad := fun c' i' => if c' = c ∧ i' = i then a else ad c' i'
theorem ab_adx_ex {ad : ab_Ad} {N : Nat → Nat} {c a : Nat} (hc : c < 21) : ab_ex N ad (ab_adx ad c (N c) a) := fun c' i' hi' => by
  unfold ab_adx
  rw [if_neg]
  rintro ⟨rfl, rfl⟩
  omega
theorem ab_adx_s {ad : ab_Ad} {c i a : Nat} : ab_adx ad c i a c i = a := by simp [ab_adx]
/-- the pool entry idx of own is the class of the kind c', of n fields -/
def ab_nw (own : String) (idx c' n : Nat) : Prop := ab_tag c' = 0 ∧ ∃ (C : String) (T : u_T) (ty0 : Nat → FieldType), vwCl[ab_ci c']? = some (C, T, n) ∧ (∀ w ∈ u_ws C T n, w ∈ ab_T) ∧ (∀ k, k < n → parseFieldDescriptor (T k).2.2.1 = some (ty0 k)) ∧ (∀ w ∈ ([.classLink own idx C, .instantiable C n, .initialized C] : List Cond), w ∈ ab_T) ∧ (ab_ts c').length = n ∧ ∀ k, k < n → defaultValue (ty0 k) = if (ab_ts c')[k]? = some 0 then .int 0 else .null
section AbN
variable {p : Program} {l : Launch} {e : Env} {R : Room} {s : State} {m : MethodId} {args : Array Value} {below : List Frame} {meth : Method} {c : Code} {Q : State → Prop}
variable {cc : ByteArray} {own : String} {nL : Nat} {D : va_G} {ca : Nat → ClassId} {A : Nat → Prop} {H0 : Heap} {cells slots : Nat} {ad : ab_Ad} {N : Nat → Nat} {u : ab_S} {pc : Nat} {lv : List (Nat × ab_V)} {st : List ab_V}
theorem ab_new (X : ab_X p s m args c cc own nL D ca A H0) {idx c' n : Nat} (hf : ab_nw own idx c' n) (hd : decode cc pc = .ok (.new idx, 3)) (h21 : c' < 21) (hG : ab_G N u) (hlv : ∀ q ∈ lv, ab_live N q.2) (hst : ∀ v ∈ st, ab_live N v) (hc : cells + 1 ≤ R.cells ∧ slots + n ≤ R.slots)
    (kk : ∀ ad' : ab_Ad, ab_ex N ad ad' → ab_J p l e R s m args below meth c Q D ca A H0 nL (cells + 1) (slots + n) ad' (ab_nx N c') u (pc + 3) lv (ab_O c' (N c') :: st)) : ab_J p l e R s m args below meth c Q D ca A H0 nL cells slots ad N u pc lv st := fun H locs ls hW hS hl => by
  obtain ⟨h0, C, T, ty0, h1, h2, h3, h4, h5, h6⟩ := hf
  obtain ⟨ws, hP, hD, hpush⟩ := hW.push hG c'
  have hfs : ∀ j : Nat, j < n → defaultValue (ty0 j) = vp_V (ab_fs ad u c' (N c') (ab_ts c')) j := fun j hj => by
    rw [h6 j hj]
    have hl' : j < (ab_ts c').length := by omega
    have hg : (ab_ts c')[j]? = some ((ab_ts c')[j]) := List.getElem?_eq_getElem hl'
    have z := hG.1 c' (N c') j (Nat.le_refl _)
    rw [vp_V, List.getD_eq_getElem?_getD, ab_fs_get hg, hg]
    simp only [Option.some.injEq, Option.getD_some, ab_fv, z.1, z.2.1]
    split <;> rfl
  refine va_new (ci := ab_ci c') (fs := ab_fs ad u c' (N c') (ab_ts c')) X.1 X.2.1 X.2.2.2.2.1 h2 ty0 h3 X.2.2.2.1 (X.2.2.2.2.1 _ (h4 _ (by simp))) (X.2.2.2.2.1 _ (h4 _ (by simp))) (X.2.2.2.2.1 _ (h4 _ (by simp))) X.2.2.2.2.2.1 hP hD hS X.2.2.2.2.2.2.1 h1 hfs hc.1 hc.2 hd (fun q H1 hP1 hD1 hS1 => ?_)
  have ex := ab_adx_ex (ad := ad) (N := N) (c := c') (a := q) h21
  have k1 := kk _ ex H1 locs ls (hpush H1 q _ ex ab_adx_s (by rw [ab_ent_ex ex hG, ab_ent_o h0]; exact hP1) (by rw [ab_ent_ex ex hG, ab_ent_o h0]; exact hD1)) hS1 (by rw [ab_lv_ex ex hlv]; exact hl)
  have e : (ab_O c' (N c') :: st).map (ab_cv (ab_adx ad c' (N c') q)) = Value.ref q :: st.map (ab_cv ad) := by
    rw [List.map_cons, ab_map_ex ex hst]
    show va_rf (some (ab_adx ad c' (N c') q c' (N c'))) :: _ = _
    rw [ab_adx_s]; rfl
  rw [e] at k1
  exact k1
theorem ab_caeq {tys : List (ClassId × FieldType)} {cA cB : ClassId} {ty : FieldType} {t : Nat} (hK : va_K D vwCl tys s) (hK' : va_K D vwCl (tys ++ [(cA, ty)]) s) (h : tys[t]? = some (cB, ty)) : cA = cB := by
  have a := (hK'.2 tys.length (cA, ty) (by simp)).2
  have b := (hK.2 t _ h).2
  cases ty with
  | object C =>
    obtain ⟨_, _, _, _, _, a4⟩ := a
    obtain ⟨_, _, _, _, _, b4⟩ := b
    exact Option.some.inj (a4.symm.trans b4)
  | _ => exact Option.some.inj (Eq.trans (Eq.symm a) b)
/-- a new array of ints, booleans or longs of the kind c' -/
theorem ab_newa (X : ab_X p s m args c cc own nL D ca A H0) {c' : Nat} {atype : ArrayType} {ty : FieldType} {j : Int32} (ht : newarray.typeOf atype = ty) (hw : Cond.arrayClass ty ∈ ab_T) (hk : (ab_tag c' = 1 ∧ (ty = .int ∨ ty = .boolean)) ∨ (ab_tag c' = 2 ∧ ty = .long)) (hty : ∀ ca : Nat → ClassId, (ab_tys ca)[ab_ci c']? = some (ca (ab_ci c'), ty)) (hd : decode cc pc = .ok (.newarray atype, 2)) (hj : j = nI (ab_ln c' (N c'))) (hL : ab_ln c' (N c') < 65536) (h21 : c' < 21) (hG : ab_G N u) (hlv : ∀ q ∈ lv, ab_live N q.2) (hst : ∀ v ∈ st, ab_live N v) (hc : cells + 1 ≤ R.cells ∧ slots + ab_ln c' (N c') ≤ R.slots)
    (kk : ∀ ad' : ab_Ad, ab_ex N ad ad' → ab_J p l e R s m args below meth c Q D ca A H0 nL (cells + 1) (slots + ab_ln c' (N c')) ad' (ab_nx N c') u (pc + 2) lv (ab_O c' (N c') :: st)) : ab_J p l e R s m args below meth c Q D ca A H0 nL cells slots ad N u pc lv (ab_I j :: st) := fun H locs ls hW hS hl => by
  obtain ⟨ws, hP, hD, hpush⟩ := hW.push hG c'
  subst hj
  have hcb : ab_ln c' (N c') * componentBytes ty ≤ 536870912 := by
    rcases hk with ⟨-, rfl | rfl⟩ | ⟨-, rfl⟩ <;> simp only [componentBytes] <;> omega
  have z := fun k => hG.1 c' (N c') k (Nat.le_refl _)
  have he : ∃ a0 : vp_A, ab_ent ca ad u c' (N c') = .inl (ca (ab_ci c'), a0) ∧ ∀ cA : ClassId, vp_cell cA a0 = arrV cA (ab_ln c' (N c')) (fun _ => defaultValue ty) := by
    rcases hk with ⟨h1, h2⟩ | ⟨h1, h2⟩
    · refine ⟨_, ab_ent_i h1, fun cA => ?_⟩
      rw [vp_cell_i]
      congr 1
      funext k
      rw [(z k).1]
      rcases h2 with rfl | rfl <;> rfl
    · refine ⟨_, ab_ent_l h1, fun cA => ?_⟩
      rw [vp_cell_l]
      congr 1
      funext k
      rw [(z k).2.2, h2]
      rfl
  obtain ⟨a0, he, ha0⟩ := he
  refine va_newa (a0 := a0) X.1 X.2.1 (by rw [ht]; exact X.2.2.2.2.1 _ hw) ht X.2.2.2.2.2.1 hP hD hS X.2.2.2.2.2.2.1 ha0 (nI_pos (by omega)) (nI_clamp (by omega)) hcb hc.1 hc.2 hd (fun q cA H1 hK1 hP1 hD1 hS1 => ?_)
  have hcA : cA = ca (ab_ci c') := ab_caeq X.2.2.2.2.2.1 hK1 (hty ca)
  subst hcA
  have ex := ab_adx_ex (ad := ad) (N := N) (c := c') (a := q) h21
  have k1 := kk _ ex H1 locs ls (hpush H1 q _ ex ab_adx_s (by rw [ab_ent_ex ex hG, he]; exact hP1) (by rw [ab_ent_ex ex hG, he]; exact hD1)) hS1 (by rw [ab_lv_ex ex hlv]; exact hl)
  have e : (ab_O c' (N c') :: st).map (ab_cv (ab_adx ad c' (N c') q)) = Value.ref q :: st.map (ab_cv ad) := by
    rw [List.map_cons, ab_map_ex ex hst]
    show va_rf (some (ab_adx ad c' (N c') q c' (N c'))) :: _ = _
    rw [ab_adx_s]; rfl
  rw [e] at k1
  exact k1
/-- a new array of references of the kind c' -/
theorem ab_newq (X : ab_X p s m args c cc own nL D ca A H0) {c' idx : Nat} {C : String} {j : Int32} (h3 : ab_tag c' = 3) (hw : Cond.classLink own idx C ∈ ab_T ∧ Cond.arrayOver (.object C) ∈ lw_tbl.filter ab_odd) (hty : ∀ ca : Nat → ClassId, (ab_tys ca)[ab_ci c']? = some (ca (ab_ci c'), .object C)) (hd : decode cc pc = .ok (.anewarray idx, 3)) (hj : j = nI (ab_ln c' (N c'))) (hL : ab_ln c' (N c') < 65536) (h21 : c' < 21) (hG : ab_G N u) (hlv : ∀ q ∈ lv, ab_live N q.2) (hst : ∀ v ∈ st, ab_live N v) (hc : cells + 1 ≤ R.cells ∧ slots + ab_ln c' (N c') ≤ R.slots)
    (kk : ∀ ad' : ab_Ad, ab_ex N ad ad' → ab_J p l e R s m args below meth c Q D ca A H0 nL (cells + 1) (slots + ab_ln c' (N c')) ad' (ab_nx N c') u (pc + 3) lv (ab_O c' (N c') :: st)) : ab_J p l e R s m args below meth c Q D ca A H0 nL cells slots ad N u pc lv (ab_I j :: st) := fun H locs ls hW hS hl => by
  obtain ⟨ws, hP, hD, hpush⟩ := hW.push hG c'
  subst hj
  have he : ab_ent ca ad u c' (N c') = .inl (ca (ab_ci c'), ab_ln c' (N c'), .inr (.inr (.inr (.inr (fun _ => none))))) := by
    rw [ab_ent_r h3]
    refine congrArg (fun f => (Sum.inl (ca (ab_ci c'), ab_ln c' (N c'), Sum.inr (Sum.inr (Sum.inr (Sum.inr f)))) : va_E)) ?_
    funext k
    rw [(hG.1 c' (N c') k (Nat.le_refl _)).2.1]
    rfl
  refine va_newq X.1 X.2.1 X.2.2.2.1 (X.2.2.2.2.1 _ hw.1) (X.2.2.2.2.2.2.2 _ hw.2) X.2.2.2.2.2.1 hP hD hS X.2.2.2.2.2.2.1 (nI_pos (by omega)) (nI_clamp (by omega)) (by omega) hc.1 hc.2 hd (fun q cA H1 hK1 hP1 hD1 hS1 => ?_)
  have hcA : cA = ca (ab_ci c') := ab_caeq X.2.2.2.2.2.1 hK1 (hty ca)
  subst hcA
  have ex := ab_adx_ex (ad := ad) (N := N) (c := c') (a := q) h21
  have k1 := kk _ ex H1 locs ls (hpush H1 q _ ex ab_adx_s (by rw [ab_ent_ex ex hG, he]; exact hP1) (by rw [ab_ent_ex ex hG, he]; exact hD1)) hS1 (by rw [ab_lv_ex ex hlv]; exact hl)
  have e : (ab_O c' (N c') :: st).map (ab_cv (ab_adx ad c' (N c') q)) = Value.ref q :: st.map (ab_cv ad) := by
    rw [List.map_cons, ab_map_ex ex hst]
    show va_rf (some (ab_adx ad c' (N c') q c' (N c'))) :: _ = _
    rw [ab_adx_s]; rfl
  rw [e] at k1
  exact k1
end AbN
end
section
/-! Constructors: contracts that make cells. -/
def ab_QA (D : va_G) (ca : Nat → ClassId) (ad : ab_Ad) (N N' : Nat → Nat) (sz : Nat) (Post : ab_S → Prop) : Array Value → State → Outcome → State → Prop := fun _ st oc t => (∃ (ad' : ab_Ad) (u' : ab_S), oc = .returned none ∧ ab_ex N ad ad' ∧ Post u' ∧ ab_W D ca ad' N' u' (ab_A ad N sz) t.heap ∧ va_K D vwCl (ab_tys ca) t) ∧ va_F (ab_A ad N sz) st t
def ab_CA (l : Launch) (D : va_G) (ca : Nat → ClassId) (y : MethodName) (cc : ByteArray) (nL d mc ms : Nat) (N : Nat → Nat) (u : ab_S) (av : List ab_V) (N' : Nat → Nat) (Post : ab_S → Prop) : Prop :=
  ∀ (ad : ab_Ad) (sz : Nat), Met l y (Cond.code y cc nL none :: ab_T) (ab_rm d mc ms) (ab_Pc false D ca ad N u sz av) (ab_QA D ca ad N N' sz Post) mc ms (ab_A ad N sz)
theorem ab_CA.of {l : Launch} {D : va_G} {ca : Nat → ClassId} {y : MethodName} {cc : ByteArray} {nL d mc ms : Nat} {N N' : Nat → Nat} {u : ab_S} {av : List ab_V} {Post : ab_S → Prop} (hy : plainName y.cls = true) (hyn : y.name = "<init>") (hn : ab_len av ≤ nL)
    (body : ∀ (p : Program) (e : Env) (s : State) (m : MethodId) (args : Array Value) (below : List Frame) (meth : Method) (c : Code) (ad : ab_Ad), ab_X p s m args c cc y.cls nL D ca (ab_A ad N s.heap.size) s.heap → meth.sig.returnType = none → meth.locks = false → meth.name = "<init>" →
      ab_J p l e (ab_rm d mc ms) s m args below meth c (MQ below (ab_QA D ca ad N N' s.heap.size Post) args s mc ms (ab_A ad N s.heap.size)) D ca (ab_A ad N s.heap.size) s.heap nL 0 0 ad N u 0 (ab_args 0 av) []) : ab_CA l D ca y cc nL d mc ms N u av N' Post := by
  intro ad sz
  refine Met.ofW (cc := cc) (maxL := nL) (ret := none) hy rfl ?_
  intro p e s m args below meth c s₁ B hml hv
  obtain ⟨rfl, hsz, hW, hK, hNw, -⟩ := hv
  subst hsz
  have hts := atoms_spec (ws := Cond.code y cc nL none :: ab_T) B.pre
  rw [lg_entry_eq]
  have hl := lv_entry (av.map (ab_cv ad)) (n := nL) (by rw [ab_len_eq]; exact hn)
  rw [ab_args_map] at hl
  exact body p e s m _ below meth c ad ⟨B.exec, B.bytes, hml, findClass_of_methodNamed B.named, fun w hw => hts w (List.mem_cons_of_mem _ hw), hK, fun q hq => Or.inr hq, hNw⟩ B.returns B.notSynchronized (by rw [(name_of_methodNamed B.named B.method).1]; exact hyn) s.heap [] _ (hW.weaken fun c i hi => Or.inl ⟨c, i, hi, rfl⟩) va_S.rf hl
/-- a final field, in the constructor -/
def ab_fF (own : String) (idx c k t : Nat) (ty : FieldType) : Prop := ab_tag c = 0 ∧ ∃ (C : String) (T : u_T) (n : Nat) (ty0 : Nat → FieldType), vwCl[ab_ci c]? = some (C, T, n) ∧ (∀ w ∈ u_ws C T n, w ∈ ab_T) ∧ k < n ∧ (ab_ts c)[k]? = some t ∧ Cond.fieldLink own idx (T k).1 (T k).2.1 (T k).2.2.1 ∈ ab_T ∧ (∀ k, k < n → parseFieldDescriptor (T k).2.2.1 = some (ty0 k)) ∧ (∀ a, a < n → ∀ b, b < n → a ≠ b → (T a).2.1 ≠ (T b).2.1) ∧ (T k).2.2.2 = true ∧ (T k).1 = own ∧ ty0 k = ty
section AbK
variable {p : Program} {l : Launch} {e : Env} {R : Room} {s : State} {m : MethodId} {args : Array Value} {below : List Frame} {meth : Method} {c : Code} {Q : State → Prop}
variable {cc : ByteArray} {own : String} {nL : Nat} {D : va_G} {ca : Nat → ClassId} {A : Nat → Prop} {H0 : Heap} {cells slots : Nat} {ad ad0 : ab_Ad} {N N0 N' : Nat → Nat} {u : ab_S} {pc : Nat} {lv : List (Nat × ab_V)} {st : List ab_V} {Post : ab_S → Prop}
theorem ab_putFI (X : ab_X p s m args c cc own nL D ca A H0) {idx c' k i : Nat} {ty : FieldType} {v : Int32} (hf : ab_fF own idx c' k 0 ty) (hin : meth.name = "<init>") (hd : decode cc pc = .ok (.putfield idx, 3)) (hi : i < N c') (hn : narrow ty (.int v) = .int v) (hft : fits ty (.int v) = true) (kk : ab_J p l e R s m args below meth c Q D ca A H0 nL cells slots ad N (ab_ui u c' i k v) (pc + 3) lv st) : ab_J p l e R s m args below meth c Q D ca A H0 nL cells slots ad N u pc lv (ab_I v :: ab_O c' i :: st) := fun H locs ls hW hS hl => by
  obtain ⟨h0, C, T, n, ty0, h1, h2, h3, h4, h5, h6, h7, h8, h9, h10⟩ := hf
  obtain ⟨ws, q0, hP, hD, hk, -, hset⟩ := hW.put hi
  rw [ab_ent_o h0] at hk
  refine va_putF X.1 X.2.1 X.2.2.2.2.1 h2 ty0 h6 h7 X.2.2.2.1 X.2.2.2.2.2.1 hP hD hS q0 hk h1 k h3 (X.2.2.2.2.1 _ h5) (fun _ h => h) h8 hin h9 (by rw [h6 k h3, h10]) hn hft (by rw [ab_fs_len]; exact (List.getElem?_eq_some_iff.mp h4).1) hd (fun H1 locs1 hP1 hD1 hS1 => kk H1 locs1 ls (hset H1 _ _ hP1 hD1 ?_ fun c2 i2 h => ab_ent_ui h) hS1 hl)
  rw [ab_ent_o h0, ab_fs_set h4]
  · simp [ab_fv, ab_up, ab_cv]
  · intro j t' hj
    have e : ab_up u.1 c' i k v c' i j = u.1 c' i j := ab_up_n _ _ fun q => hj q.2.2
    simp only [ab_fv, e]
theorem ab_putFR (X : ab_X p s m args c cc own nL D ca A H0) {idx c' k i : Nat} {ty : FieldType} {r : Option (Nat × Nat)} (hf : ab_fF own idx c' k 1 ty) (hty : (∃ C, ty = .object C) ∨ ∃ t, ty = .array t) (hin : meth.name = "<init>") (hd : decode cc pc = .ok (.putfield idx, 3)) (hi : i < N c') (kk : ab_J p l e R s m args below meth c Q D ca A H0 nL cells slots ad N (ab_ur u c' i k r) (pc + 3) lv st) : ab_J p l e R s m args below meth c Q D ca A H0 nL cells slots ad N u pc lv (ab_R r :: ab_O c' i :: st) := fun H locs ls hW hS hl => by
  obtain ⟨h0, C, T, n, ty0, h1, h2, h3, h4, h5, h6, h7, h8, h9, h10⟩ := hf
  obtain ⟨ws, q0, hP, hD, hk, -, hset⟩ := hW.put hi
  rw [ab_ent_o h0] at hk
  refine va_putF X.1 X.2.1 X.2.2.2.2.1 h2 ty0 h6 h7 X.2.2.2.1 X.2.2.2.2.2.1 hP hD hS q0 hk h1 k h3 (X.2.2.2.2.1 _ h5) (fun _ h => h) h8 hin h9 (by rw [h6 k h3, h10]) (by rcases hty with ⟨_, rfl⟩ | ⟨_, rfl⟩ <;> cases r <;> rfl) (by rcases hty with ⟨_, rfl⟩ | ⟨_, rfl⟩ <;> cases r <;> rfl) (by rw [ab_fs_len]; exact (List.getElem?_eq_some_iff.mp h4).1) hd (fun H1 locs1 hP1 hD1 hS1 => kk H1 locs1 ls (hset H1 _ _ hP1 hD1 ?_ fun c2 i2 h => ab_ent_ur h) hS1 hl)
  rw [ab_ent_o h0, ab_fs_set h4]
  · simp [ab_fv, ab_up, ab_cv]
  · intro j t' hj
    have e : ab_up u.2.1 c' i k r c' i j = u.2.1 c' i j := ab_up_n _ _ fun q => hj q.2.2
    simp only [ab_fv, e]
theorem ab_objInit (X : ab_X p s m args c cc own nL D ca A H0) {idx c' i : Nat} (hw : ∀ w ∈ ([.methodLink own idx objectInit, .instanceMethod objectInit, .code objectInit ⟨#[0xb1]⟩ 1 none] : List Cond), w ∈ ab_T) (hd : decode cc pc = .ok (.invokespecial idx, 3)) (hR : 1 ≤ R.frames ∧ 20 ≤ R.locals) (hst : ab_len st ≤ 8) (kk : ab_J p l e R s m args below meth c Q D ca A H0 nL cells slots ad N u (pc + 3) lv st) : ab_J p l e R s m args below meth c Q D ca A H0 nL cells slots ad N u pc lv (ab_O c' i :: st) := fun H locs ls hW hS hl =>
  W.objInit X.1 X.2.1 X.2.2.2.1 (X.2.2.2.2.1 _ (hw _ (by simp))) (X.2.2.2.2.1 _ (hw _ (by simp))) (X.2.2.2.2.1 _ (hw _ (by simp))) rfl (by rw [X.2.2.1]; exact hl.1) rfl hd hR.1 (by
    have h1 := ab_wt ad st
    show 2 * 0 + _ + 12 ≤ R.locals
    rw [h1]
    omega) (kk H locs ls hW hS hl)
theorem ab_retA (X : ab_X p s m args c cc own nL D ca (ab_A ad0 N0 s.heap.size) s.heap) (hr : meth.sig.returnType = none) (hlk : meth.locks = false) (hx : ab_ex N0 ad0 ad) (hd : decode cc pc = .ok (.return_, 1)) (hP : Post u) : ab_J p l e R s m args below meth c (MQ below (ab_QA D ca ad0 N0 N s.heap.size Post) args s cells slots (ab_A ad0 N0 s.heap.size)) D ca (ab_A ad0 N0 s.heap.size) s.heap nL cells slots ad N u pc lv [] :=
  fun H locs ls hW hS hl => W.vret X.1 X.2.1 hr (fun t ht hWt => ⟨⟨ad, u, rfl, hx, hP, by rw [ht]; exact hW, va_K.moved hWt.alike X.2.2.2.2.2.1⟩, hS.F ht⟩) hS.2.2 hd hlk
theorem ab_afterA {a : Array Value} {H : Heap} {locs : List Loc} {ls : Array Slot} {stk : List Value} {mc ms : Nat} (X : ab_X p s m args c cc own nL D ca A H0) (hW : ab_W D ca ad N u A H) (hS : va_S A H0 H locs) (hl : lv_has ls nL (lv.map fun q => (q.1, ab_cv ad q.2))) (hlv : ∀ q ∈ lv, ab_live N q.2) (hst : ∀ v ∈ st, ab_live N v)
    (hr : va_Run p l e R s m args below meth c H locs cells slots mc ms (F0 m pc ls stk) (st.map (ab_cv ad)) (ab_QA D ca ad N N' H.size Post a) (ab_A ad N H.size))
    (kk : ∀ (ad' : ab_Ad) (u' : ab_S), ab_ex N ad ad' → Post u' → ab_J p l e R s m args below meth c Q D ca A H0 nL (cells + mc) (slots + ms) ad' N' u' (pc + 3) lv st) : W p l e R s m args below meth c H locs cells slots Q (F0 m pc ls stk) := by
  intro T hT Y
  obtain ⟨v, st₀, t, T', L, h0, Y', hL, e1, e2, ⟨⟨ad', u', hv, hx, hp, hw, hk'⟩, hz, hk⟩, go⟩ := hr T hT Y
  cases hv
  rw [h0] at hz hk
  have hin : ∀ q : Nat, ab_A ad N H.size q → A q := fun q h => by
    rcases h with ⟨c', i', hi', rfl⟩ | h
    · exact hW.inA hi'
    · exact X.2.2.2.2.2.2.1 q (Nat.le_trans hS.1 h)
  have hS' : va_S A H0 T'.heap (locs ++ L) := ⟨Nat.le_trans hS.1 (by rw [e1]; exact hz), fun q h1 h2 => by rw [e1, hk q (Nat.lt_of_lt_of_le h1 hS.1) (fun z => h2 (hin q z))]; exact hS.2.1 q h1 h2, fun q hq => by
      rcases List.mem_append.mp hq with h | h
      · exact hS.2.2 q h
      · exact hin _ (hL q h)⟩
  obtain ⟨t2, a1, b1⟩ := kk ad' u' hx hp T'.heap (locs ++ L) ls (by rw [e1]; exact hw.weaken fun c' i' hi' => hin _ (hw.inA hi')) hS' (by rw [ab_lv_ex hx hlv]; exact hl) T' rfl Y'
  refine ⟨t2, go t2 ?_, b1⟩
  have e : ((none : Option Value).toList ++ st.map (ab_cv ad)) = st.map (ab_cv ad') := by rw [ab_map_ex hx hst]; rfl
  rw [e]
  exact a1
/-- the static facts of a constructor's call -/
def ab_lI (own : String) (idx : Nat) (y : MethodName) (cc' : ByteArray) (nL' n : Nat) : Prop :=
  (∀ w ∈ ([.methodLink own idx y, .instanceMethod y, .initialized y.cls, .code y cc' nL' none] : List Cond), w ∈ ab_T) ∧
  (y.name = "<init>" ∧ y.cls ≠ "java/lang/invoke/MethodHandle" ∧ y.cls ≠ "java/lang/invoke/VarHandle" ∧ (parseMethodDescriptor y.desc).map (fun d => d.parameters.length) = some n) ∧ nL' ≤ 41
theorem ab_callI (X : ab_X p s m args c cc own nL D ca A H0) {y : MethodName} {cc' : ByteArray} {nL' d' idx c' i n mc ms : Nat} {as stk : List ab_V} (hC : ab_CA l D ca y cc' nL' d' mc ms N u (ab_O c' i :: as) N' Post) (hk : ab_lI own idx y cc' nL' n) (hd : decode cc pc = .ok (.invokespecial idx, 3)) (hst : stk = as.reverse ++ ab_O c' i :: st) (hn : as.length = n) (hlv : ∀ q ∈ lv, ab_live N q.2) (hstl : ∀ v ∈ st, ab_live N v) (hR : d' + 1 ≤ R.frames ∧ 60 * (d' + 1) ≤ R.locals) (hc : cells + mc ≤ R.cells ∧ slots + ms ≤ R.slots) (hw : ab_len st ≤ 8)
    (kk : ∀ (ad' : ab_Ad) (u' : ab_S), ab_ex N ad ad' → Post u' → ab_J p l e R s m args below meth c Q D ca A H0 nL (cells + mc) (slots + ms) ad' N' u' (pc + 3) lv st) : ab_J p l e R s m args below meth c Q D ca A H0 nL cells slots ad N u pc lv stk := fun H locs ls hW hS hl => by
  obtain ⟨hws, ⟨hyn, hy⟩, hnL⟩ := hk
  subst hst; subst hn
  have hp : PreS s H (ab_Pc false D ca ad N u H.size (ab_O c' i :: as)) (Value.ref (ad c' i) :: as.map (ab_cv ad)) := ⟨ab_Pc_blind, fun U hU hWU => ⟨rfl, by rw [hU], by rw [hU]; exact hW.weaken (fun _ _ _ => trivial), va_K.moved hWU.alike X.2.2.2.2.2.1, ab_Nw.moved hWU X.2.2.2.2.2.2.2, fun h => by cases h⟩⟩
  have hG : GoodIn ab_T (Cond.code y cc' nL' none :: ab_T) := fun w h => by
    refine ab_T_good w ?_
    rcases List.mem_cons.mp h with rfl | h
    · exact hws _ (by simp)
    · exact h
  have cb : CallB R s args own idx y cc' nL' none (Cond.code y cc' nL' none :: ab_T) (ab_rm d' mc ms) mc ms as.length := callB_of as.length X.2.2.2.2.1 hG rfl rfl rfl (X.2.2.2.2.1 _ (hws _ (by simp))) (X.2.2.2.2.1 _ (hws _ (by simp))) hy ⟨hR.1, by show 8 + (nL' + 11) + 60 * d' ≤ R.locals; omega⟩
  exact ab_afterA X hW hS hl hlv hstl (va_runI ⟨X.1, X.2.1, X.2.2.1, X.2.2.2.1, X.2.2.2.2.1⟩ (hC ad H.size) ⟨cb, hyn, X.2.2.2.2.1 _ (hws _ (by simp))⟩ hp rfl (by simp) hl.1 (by show (as.reverse ++ ab_O c' i :: st).map (ab_cv ad) = _; rw [List.map_append, List.map_reverse]; rfl) (lv_room (by rw [ab_wt]; exact hw)) hd hc) kk
end AbK
end
section
/-! Methods that may throw, and who catches. -/
/-- the frame of an end, returned or thrown -/
def ab_FE (first : State) (t : State) (L : List Loc) (k n : Nat) : Prop := first.WarmedH t.vm ∧ first.sameButNew ({ t with vm := first.vm } : State) L k n
def ab_MT (l : Launch) (y : MethodName) (ws : List Cond) (rm : Room) (Pc : Array Value → State → Prop) (Qc : Array Value → State → Outcome → State → Prop) (mc ms : Nat) (free : Addr → Prop) : Prop :=
  MetFree l y (headSpec ws rm) Pc (fun _ _ _ _ _ => True) (fun a st o t => Qc a st o t ∧ ∃ L, ab_FE st t L mc ms ∧ ∀ q ∈ L, free q.base)
def ab_MQ (below : List Frame) (Qc : Array Value → State → Outcome → State → Prop) (a : Array Value) (s : State) (mc ms : Nat) (free : Addr → Prop) : State → Prop := fun t =>
  ∃ o, t.status = .running ∧ Ended t below o ∧ Qc a s o t ∧ ∃ L, ab_FE s t L mc ms ∧ ∀ q ∈ L, free q.base
theorem ab_MT.ofW {l : Launch} {y : MethodName} {ws ws' : List Cond} {rm : Room} {Pc : Array Value → State → Prop} {Qc : Array Value → State → Outcome → State → Prop} {mc ms : Nat} {free : Addr → Prop} {cc : ByteArray} {maxL : Nat} {ret : Option FieldType}
    (hy : plainName y.cls = true) (hw : ws = Cond.code y cc maxL ret :: ws')
    (body : ∀ p e s m args below meth c s₁, BodyLoose p l y (headSpec ws rm) cc maxL ret e s m args below meth c s₁ → c.maxLocals = maxL → Pc args s →
      W p l e (headSpec ws rm).room s m args below meth c s.heap [] 0 0 (ab_MQ below Qc args s mc ms free) (entryFrame m args maxL)) : ab_MT l y ws rm Pc Qc mc ms free := by
  refine MetFree.of_bodyS (code := cc) (maxLocals := maxL) (ret := ret) hy ?_ ?_
  · intro args s m h hn
    obtain ⟨meth, c, h1, h2, h3, h4, h5, h6, -, -⟩ := Cond.code_spec hn (atoms_spec (ws := ws) h _ (by rw [hw]; exact List.mem_cons_self))
    exact ⟨meth, c, h1, h2, h3, h4, h5, h6⟩
  · intro p e s m args below meth c s₁ B hml hP _
    have hh0 : s₁.heap = s.heap := by rw [B.state]; rfl
    obtain ⟨t, a1, o, b1, b2, b3⟩ := body p e s m args below meth c s₁ B hml hP s₁ hh0 (Stand.of_body B)
    exact ⟨t, o, a1, b1, b2, ⟨b3.1, b3.2⟩⟩
theorem ab_W_mono {p : Program} {l : Launch} {e : Env} {R : Room} {s : State} {m : MethodId} {args : Array Value} {below : List Frame} {meth : Method} {c : Code} {H : Heap} {locs : List Loc} {cells slots : Nat} {Q Q' : State → Prop} {g : JFrame} (h : ∀ t, Q t → Q' t) (k : W p l e R s m args below meth c H locs cells slots Q g) : W p l e R s m args below meth c H locs cells slots Q' g := fun T hT X => by
  obtain ⟨t, a, b⟩ := k T hT X
  exact ⟨t, a, h t b⟩
theorem ab_J_mono {p : Program} {l : Launch} {e : Env} {R : Room} {s : State} {m : MethodId} {args : Array Value} {below : List Frame} {meth : Method} {c : Code} {Q Q' : State → Prop} {nL : Nat} {D : va_G} {ca : Nat → ClassId} {A : Nat → Prop} {H0 : Heap} {cells slots : Nat} {ad : ab_Ad} {N : Nat → Nat} {u : ab_S} {pc : Nat} {lv : List (Nat × ab_V)} {st : List ab_V} (h : ∀ t, Q t → Q' t) (k : ab_J p l e R s m args below meth c Q D ca A H0 nL cells slots ad N u pc lv st) : ab_J p l e R s m args below meth c Q' D ca A H0 nL cells slots ad N u pc lv st := fun H locs ls hW hS hl => ab_W_mono h (k H locs ls hW hS hl)
/-- an ordinary end is an end -/
theorem ab_MQ_of {below : List Frame} {Qc Qc' : Array Value → State → Outcome → State → Prop} {a : Array Value} {s : State} {mc ms : Nat} {free : Addr → Prop} (h : ∀ o t, Qc a s o t → Qc' a s o t) (t : State) (k : MQ below Qc a s mc ms free t) : ab_MQ below Qc' a s mc ms free t := by
  obtain ⟨o, h1, h2, h3, L, h4, h5⟩ := k
  exact ⟨o, h1, h2, h o t h3, L, h4.2, h5⟩
/-- new X(), thrown: the tables' words of it; behind it every other cell is as it was -/
theorem ab_ctorThrow {p : Program} {l : Launch} {e : Env} {R : Room} {s : State} {m₀ : MethodId} {args : Array Value} {below : List Frame} {meth : Method} {c : Code} {V : State} {locs : List Loc} {cells slots : Nat} (X : Stand p l e R s m₀ args below meth c V locs cells slots) (hexec : p.tables.exec = Jvm.exec) (htr : e.platform.stackTraces = false) (hlocks : meth.locks = false) {own cls : String} {names : List String} {ic : Nat}
    (hown : s.vm.findClass own = some m₀.cls) (hcls : Bundle.fit cls = true) (hnames : ∀ n ∈ names, Bundle.fit n = true) (h : ∀ a ∈ Bundle.ownAtoms0 own ic cls names, a.before args s = true)
    (hlocs : ∀ x ∈ locs, ∀ cell, s.heap[x.base]? = some cell → cell.vm.isStatics = false)
    {a : Addr} {cX : ClassId} {kX : Class} (hfoundX : s.vm.findClass cls = some cX) (hkX : s.vm.classes[cX]? = some kX) (hcell : V.heap[a]? = some (freshCell cX kX)) (hnew : s.heap.size ≤ a)
    {g : JFrame} (hg : g.method = m₀) (hsize : g.locals.size = c.maxLocals) (hlocked : g.locked = none) (hentered : g.entered = []) {rest : List Value} (hstack : g.stack = .ref a :: .ref a :: rest)
    (hd6 : decode c.code g.pc = .ok (.invokespecial ic, 3)) (hd9 : decode c.code (g.pc + 3) = .ok (.athrow, 1)) (hout : ∀ x ∈ c.exceptionTable.toList, covers x (g.pc + 3) = false)
    (hRframes : names.length + 3 < R.frames) (hRlocals : 2 * g.monitorRoom + ((Value.ref a :: rest).map fun v => v.category).sum + (13 * (names.length + 1) + 41) ≤ R.locals) :
    ∃ U : State, Steps p.tables e below (V.setTop g) U ∧ U.status = .running ∧ Ended U below (.threw a) ∧ s.WarmedH U.vm ∧ s.sameButNew ({ U with vm := s.vm } : State) locs cells slots ∧
      (∃ ce, U.heap[a]? = some ce ∧ ce.cls = cX ∧ ce.vm = .none) ∧ U.heap.size = V.heap.size ∧ ∀ q : Nat, q ≠ a → U.heap[q]? = V.heap[q]? := by
  have howns : e.platform.frameOwnsMonitors = true := by rw [X.admits.platform]
  have hfin : e.platform.finalization = false := by rw [X.admits.platform]
  have hpl : e.platform.magicAccessors = ({} : Platform).magicAccessors := by rw [X.admits.platform]
  have a' : ∀ x, x ∈ Bundle.ownAtoms0 own ic cls names → x.holds args s none s [] = true := fun x hx => h x hx
  have mem : ∀ x, x ∈ ([.methodLink own ic (Bundle.init0 cls), .instantiable cls 6, .castable cls cls, .selects cls Bundle.tFill0 Bundle.tFill0, .selects cls Bundle.tFill Bundle.tFill,
   .lays cls Bundle.tN "cause" "Ljava/lang/Throwable;", .lays cls Bundle.tN "stackTrace" Bundle.steD, .lays cls Bundle.tN "suppressedExceptions" Bundle.listD, .lays cls Bundle.tN "detailMessage" "Ljava/lang/String;",
   .isRef (.static Bundle.tN "UNASSIGNED_STACK" Bundle.steD), .isRef (.static Bundle.tN "SUPPRESSED_SENTINEL" Bundle.listD),
   .fieldLink Bundle.tN 198 Bundle.tN "backtrace" "Ljava/lang/Object;", .lays Bundle.tN Bundle.tN "backtrace" "Ljava/lang/Object;", .lays cls Bundle.tN "backtrace" "Ljava/lang/Object;"] : List Cond) → x.holds args s none s [] = true := fun x hx => a' x (List.mem_append_right _ hx)
  obtain ⟨T, Z, L, LZ, Y⟩ := ThrowableC.of_atoms (args := args) howns hfin hpl (fun x hx => h x (by simp [Bundle.ownAtoms0, hx]))
  obtain ⟨P1, Ps, hlen, L1, hL, hP1m, hlink1, hlink⟩ := Bundle.chain0 (args := args) hpl Y.init0 names cls hcls hnames (fun x hx => h x (by simp [Bundle.ownAtoms0, hx]))
  have hfound : s.vm.findClass cls = some P1.m.cls := findClass_of_methodNamed hP1m
  have eX : cX = P1.m.cls := Option.some.inj (hfoundX.symm.trans hfound)
  subst eX
  obtain ⟨c1, kX', hc1, hk, hord, -, -, -⟩ := Cond.instantiable_spec (mem (.instantiable cls 6) (by simp))
  cases Option.some.inj (hc1.symm.trans hfound)
  cases Option.some.inj (hkX.symm.trans hk)
  have sel : ∀ f0 : MethodName, ∀ mid : MethodId, s.methodNamed? f0 = some mid → (f0.cls ≠ "java/lang/invoke/MethodHandle" ∧ f0.cls ≠ "java/lang/invoke/VarHandle") → (Cond.selects cls f0 f0).holds args s none s [] = true → selectMethod e.platform s.vm P1.m.cls mid = .method mid := fun f0 mid hm hn hs => by
    obtain ⟨c2, r2, m2, q1, q2, q3, q4, -⟩ := Cond.selects_spec hs
    cases Option.some.inj (q1.symm.trans hfound)
    cases Option.some.inj (q2.symm.trans (State.methodFound?_of_named hm hn))
    cases Option.some.inj (q3.symm.trans hm)
    rw [Launch.admits_selectMethod X.admits]; exact q4
  have hsel0 := sel _ _ Y.fill0 (by decide) (mem (.selects cls Bundle.tFill0 Bundle.tFill0) (by simp))
  have hselF := sel _ _ Y.fill (by decide) (mem (.selects cls Bundle.tFill Bundle.tFill) (by simp))
  obtain ⟨cellS0, hcS0, hiss⟩ := Y.statics
  obtain ⟨u0, hu0⟩ := Cond.staticRefV Y.unassigned L.unassignedStatic L.statics hcS0 hiss (mem (.isRef (.static Bundle.tN "UNASSIGNED_STACK" Bundle.steD)) (by simp))
  obtain ⟨sen, hsen⟩ := Cond.staticRefV Y.sentinel L.sentinelStatic L.statics hcS0 hiss (mem (.isRef (.static Bundle.tN "SUPPRESSED_SENTINEL" Bundle.listD)) (by simp))
  obtain ⟨ci198, i198, fB, hk198, hg198, ha198, hsB, -, hnB, htB, hffB⟩ := Cond.ownField (t := .object "java/lang/Object") Y.found L.cls (by decide +kernel) (mem (.fieldLink Bundle.tN 198 Bundle.tN "backtrace" "Ljava/lang/Object;") (by simp)) (mem (.lays Bundle.tN Bundle.tN "backtrace" "Ljava/lang/Object;") (by simp)) e.platform hpl
  obtain ⟨cellS, hcS', heS, -, hkeep⟩ := X.same.2.2.2.2.2 T.aS cellS0 hcS0
  have hcellS : V.heap[T.aS]? = some cellS := hcS'
  have hout' : ∀ i, (⟨T.aS, i⟩ : Loc) ∉ locs := fun i hmem => by
    have := hlocs _ hmem cellS0 hcS0
    rw [hiss] at this; cases this
  have hknownS : cellS.vm ≠ .unknown := by
    rw [heS]; intro hu
    rw [show cellS0.vm = .unknown from hu] at hiss
    cases hiss
  have hneS : T.aS ≠ a := Nat.ne_of_lt (Nat.lt_of_lt_of_le (Array.getElem?_eq_some_iff.mp hcS0).1 hnew)
  obtain ⟨tyC, dC, hdC, hdnC⟩ := Cond.laysAt hfound hk Y.cause (mem (.lays cls Bundle.tN "cause" "Ljava/lang/Throwable;") (by simp))
  obtain ⟨tyS, dS, hdS, hdnS⟩ := Cond.laysAt hfound hk Y.stack (mem (.lays cls Bundle.tN "stackTrace" Bundle.steD) (by simp))
  obtain ⟨tyP, dP, hdP, hdnP⟩ := Cond.laysAt hfound hk Y.supp (mem (.lays cls Bundle.tN "suppressedExceptions" Bundle.listD) (by simp))
  obtain ⟨tyB, dB, hdB, hdnB⟩ := Cond.laysAt hfound hk hffB (mem (.lays cls Bundle.tN "backtrace" "Ljava/lang/Object;") (by simp))
  have bC := Cond.laysApart hdB hdC hdnB hdnC (by rw [hnB, Y.causeName]; decide)
  have bS := Cond.laysApart hdB hdS hdnB hdnS (by rw [hnB, Y.stackName]; decide)
  have bP := Cond.laysApart hdB hdP hdnB hdnP (by rw [hnB, Y.suppName]; decide)
  have hskip : SkipFacts T e.platform s (fun u => u) u0 ((preparedCellV T.toThrowableT (freshCell P1.m.cls kX) a u0 sen).withEntry V.cur) :=
    ⟨{ ci198 := ci198, i198 := i198, fBack := fB }, ⟨hk198, hg198, ha198, hsB⟩, by
      have hd := fresh_default (c := P1.m.cls) tyB
      rw [htB] at hd
      simpa [preparedCellV, Cell.setSlot, Cell.withEntry, Array.getElem?_setIfInBounds, bC, bS, bP, bC.symm, bS.symm, bP.symm, defaultValue] using hd, fun _ _ => rfl⟩
  have cm : ∀ x, x ∈ Bundle.chain0Atoms cls names → x.before args s = true := fun x hx => h x (by simp [Bundle.ownAtoms0, hx])
  obtain ⟨tm, methC, cdC, kC, vm₁, hnC, -, -, -, -, -, -, -, hW₁, st1⟩ := Steps.initCold (tb := p.tables) (e := e) (below := below) (s := s) (U := V) X.here hexec X.warmed hpl hown (t := Bundle.init0 cls) rfl rfl (Bundle.fit_spec hcls).2
    (mem (.methodLink own ic (Bundle.init0 cls)) (by simp)) (cm _ (by cases names <;> simp [Bundle.chain0Atoms, Bundle.passAtoms])) (bytes := Bundle.five) (maxL := 1) (cm _ (by cases names <;> simp [Bundle.chain0Atoms, Bundle.passAtoms]))
    (f := g) hg (a := a) (rest := .ref a :: rest) hstack hd6
  cases Option.some.inj (hnC.symm.trans hP1m)
  have X₁ := X.noted hW₁
  obtain ⟨vm₂, X₂, st2⟩ := X₁.ctorPlainOffV hexec (g := { g with stack := .ref a :: rest }) hg hsize T L Z LZ (P1 :: Ps)
    (fun P hP => by rcases List.mem_cons.mp hP with rfl | hP; exact L1; exact hL P hP) ⟨hlink1, hlink⟩ (u0 := u0) (sen := sen) (self := a) (cell := freshCell P1.m.cls kX) (cellS := cellS)
    hcell (fun _ => by simp) (by simp) rfl rfl hsel0 hselF hcellS hneS hknownS (by rw [hkeep _ (hout' _)]; exact hu0) (by rw [hkeep _ (hout' _)]; exact hsen)
    (Takes.of_laid hk hord tyC (by rw [Y.causeType]; rfl)) (Takes.of_laid hk hord tyS (by rw [Y.stackType]; exact fits_refV_array _ u0)) (Takes.of_laid hk hord tyP (by rw [Y.suppType]; exact fits_refV_object _ sen)) Y.objLocals hskip htr [] hd6
    (by simp only [List.length_cons, hlen]; omega) (by simp only [List.length_cons, hlen]; exact hRlocals)
  obtain ⟨hwalk, hrun, hended, hWU, hsame⟩ := X₂.athrowLeaves hexec (g := { g with stack := .ref a :: rest, pc := g.pc + 3 }) hg hlocked hentered hout (a := a) (rest := rest) rfl hd9
  have hlt : a < ((V.setVm vm₁).setVm vm₂).heap.size := (Array.getElem?_eq_some_iff.mp hcell).1
  have hU := heapAt_setCell_self (s := (V.setVm vm₁).setVm vm₂) ((preparedCellV T.toThrowableT (freshCell P1.m.cls kX) a u0 sen).setSlot T.fStack.slot u0.v) hlt
  refine ⟨_, st1 _ (fun acts => ?_), hrun, hended, hWU, hsame.weaken (fun y hy hlt' => ?_) (Nat.le_refl _) (Nat.le_refl _), ⟨_, hU, rfl, rfl⟩, ?_, fun q hq => ?_⟩
  · rw [doInvoke_state]
    exact st2 _ hwalk
  · rcases List.mem_append.mp hy with h1 | h1
    · exact h1
    · exfalso
      have hb : y.base = a := by
        simp only [List.mem_cons, List.not_mem_nil, or_false] at h1
        rcases h1 with rfl | rfl | rfl | rfl <;> rfl
      rw [hb] at hlt'
      exact Nat.not_lt.mpr hnew hlt'
  · exact size_setCell ((V.setVm vm₁).setVm vm₂) a _
  · exact heapAt_setCell_ne (s := (V.setVm vm₁).setVm vm₂) _ (Ne.symm hq)
end
section
/-! Calls between nest mates. -/
section AbM
variable {p : Program} {l : Launch} {e : Env} {R : Room} {s : State} {m : MethodId} {args : Array Value} {below : List Frame} {meth : Method} {c : Code} {Q : State → Prop}
variable {cc : ByteArray} {own : String} {nL : Nat} {D : va_G} {ca : Nat → ClassId} {A : Nat → Prop} {H0 : Heap} {cells slots : Nat} {ad : ab_Ad} {N N' : Nat → Nat} {u : ab_S} {pc : Nat} {lv : List (Nat × ab_V)} {st : List ab_V}
def ab_lSN (own : String) (idx : Nat) (y : MethodName) (host : String) (cc' : ByteArray) (nL' : Nat) (ret' : Option FieldType) (n : Nat) : Prop :=
  Cond.methodLinkNest own idx y host ∈ lw_tbl.filter ab_odd ∧ (∀ w ∈ ([.static y, .initialized y.cls, .code y cc' nL' ret'] : List Cond), w ∈ ab_T) ∧
  (y.cls ≠ "java/lang/invoke/MethodHandle" ∧ y.cls ≠ "java/lang/invoke/VarHandle" ∧ (parseMethodDescriptor y.desc).map (fun d => d.parameters.length) = some n) ∧ nL' ≤ 41
theorem ab_callSN {z : Bool} {Post : ab_S → Option ab_V → Prop} (X : ab_X p s m args c cc own nL D ca A H0) {y : MethodName} {cc' : ByteArray} {nL' d' idx n : Nat} {host : String} {ret' : Option FieldType} {as stk : List ab_V} (hz : z = true → ab_Zs ad A s H0) (hC : ab_C z l D ca y cc' nL' ret' d' N u as Post) (hk : ab_lSN own idx y host cc' nL' ret' n) (hd : decode cc pc = .ok (.invokestatic idx, 3)) (hst : stk = as.reverse ++ st) (hn : as.length = n) (hR : d' + 1 ≤ R.frames ∧ 60 * (d' + 1) ≤ R.locals) (hc : cells ≤ R.cells ∧ slots ≤ R.slots) (hw : ab_len st ≤ 8)
    (kk : ∀ (u' : ab_S) (r : Option ab_V), Post u' r → ab_J p l e R s m args below meth c Q D ca A H0 nL cells slots ad N u' (pc + 3) lv (r.toList ++ st)) : ab_J p l e R s m args below meth c Q D ca A H0 nL cells slots ad N u pc lv stk := fun H locs ls hW hS hl => by
  obtain ⟨hlk, hws, hy, hnL⟩ := hk
  subst hst; subst hn
  have hp : PreS s H (ab_Pc z D ca ad N u H.size as) (as.map (ab_cv ad)) := ⟨ab_Pc_blind, fun U hU hWU => ⟨rfl, by rw [hU], by rw [hU]; exact hW.weaken (fun _ _ _ => trivial), va_K.moved hWU.alike X.2.2.2.2.2.1, ab_Nw.moved hWU X.2.2.2.2.2.2.2, fun h => by rw [hU]; exact ab_Zs.go X (hz h) hW hS hWU⟩⟩
  have hG : GoodIn ab_T (Cond.code y cc' nL' ret' :: ab_T) := fun w h => by
    refine ab_T_good w ?_
    rcases List.mem_cons.mp h with rfl | h
    · exact hws _ (by simp)
    · exact h
  have cb : va_CN R s args own idx y host cc' nL' ret' (Cond.code y cc' nL' ret' :: ab_T) (ab_rm d' 0 0) 0 0 as.length := va_cnB as.length X.2.2.2.2.1 hG rfl rfl rfl (X.2.2.2.2.2.2.2 _ hlk) (X.2.2.2.2.1 _ (hws _ (by simp))) hy ⟨hR.1, by show 8 + (nL' + 11) + 60 * d' ≤ R.locals; omega⟩
  exact ab_after X hW hS hl (va_runSN ⟨X.1, X.2.1, X.2.2.1, X.2.2.2.1, X.2.2.2.2.1⟩ (hC ad H.size) ⟨cb, X.2.2.2.2.1 _ (hws _ (by simp)), trivial⟩ hp rfl (by simp) hl.1 (by show (as.reverse ++ st).map (ab_cv ad) = _; rw [List.map_append, List.map_reverse]) (lv_room (by rw [ab_wt]; exact hw)) hd hc) kk
def ab_lIN (own : String) (idx : Nat) (y : MethodName) (host : String) (cc' : ByteArray) (nL' n : Nat) : Prop :=
  Cond.methodLinkNest own idx y host ∈ lw_tbl.filter ab_odd ∧ (∀ w ∈ ([.instanceMethod y, .initialized y.cls, .code y cc' nL' none] : List Cond), w ∈ ab_T) ∧
  (y.name = "<init>" ∧ y.cls ≠ "java/lang/invoke/MethodHandle" ∧ y.cls ≠ "java/lang/invoke/VarHandle" ∧ (parseMethodDescriptor y.desc).map (fun d => d.parameters.length) = some n) ∧ nL' ≤ 41
theorem ab_callIN {Post : ab_S → Prop} (X : ab_X p s m args c cc own nL D ca A H0) {y : MethodName} {cc' : ByteArray} {nL' d' idx c' i n mc ms : Nat} {host : String} {as stk : List ab_V} (hC : ab_CA l D ca y cc' nL' d' mc ms N u (ab_O c' i :: as) N' Post) (hk : ab_lIN own idx y host cc' nL' n) (hd : decode cc pc = .ok (.invokespecial idx, 3)) (hst : stk = as.reverse ++ ab_O c' i :: st) (hn : as.length = n) (hlv : ∀ q ∈ lv, ab_live N q.2) (hstl : ∀ v ∈ st, ab_live N v) (hR : d' + 1 ≤ R.frames ∧ 60 * (d' + 1) ≤ R.locals) (hc : cells + mc ≤ R.cells ∧ slots + ms ≤ R.slots) (hw : ab_len st ≤ 8)
    (kk : ∀ (ad' : ab_Ad) (u' : ab_S), ab_ex N ad ad' → Post u' → ab_J p l e R s m args below meth c Q D ca A H0 nL (cells + mc) (slots + ms) ad' N' u' (pc + 3) lv st) : ab_J p l e R s m args below meth c Q D ca A H0 nL cells slots ad N u pc lv stk := fun H locs ls hW hS hl => by
  obtain ⟨hlk, hws, ⟨hyn, hy⟩, hnL⟩ := hk
  subst hst; subst hn
  have hp : PreS s H (ab_Pc false D ca ad N u H.size (ab_O c' i :: as)) (Value.ref (ad c' i) :: as.map (ab_cv ad)) := ⟨ab_Pc_blind, fun U hU hWU => ⟨rfl, by rw [hU], by rw [hU]; exact hW.weaken (fun _ _ _ => trivial), va_K.moved hWU.alike X.2.2.2.2.2.1, ab_Nw.moved hWU X.2.2.2.2.2.2.2, fun h => by cases h⟩⟩
  have hG : GoodIn ab_T (Cond.code y cc' nL' none :: ab_T) := fun w h => by
    refine ab_T_good w ?_
    rcases List.mem_cons.mp h with rfl | h
    · exact hws _ (by simp)
    · exact h
  have cb : va_CN R s args own idx y host cc' nL' none (Cond.code y cc' nL' none :: ab_T) (ab_rm d' mc ms) mc ms as.length := va_cnB as.length X.2.2.2.2.1 hG rfl rfl rfl (X.2.2.2.2.2.2.2 _ hlk) (X.2.2.2.2.1 _ (hws _ (by simp))) hy ⟨hR.1, by show 8 + (nL' + 11) + 60 * d' ≤ R.locals; omega⟩
  exact ab_afterA X hW hS hl hlv hstl (va_runIN ⟨X.1, X.2.1, X.2.2.1, X.2.2.2.1, X.2.2.2.2.1⟩ (hC ad H.size) ⟨cb, hyn, X.2.2.2.2.1 _ (hws _ (by simp))⟩ hp rfl (by simp) hl.1 (by show (as.reverse ++ ab_O c' i :: st).map (ab_cv ad) = _; rw [List.map_append, List.map_reverse]; rfl) (lv_room (by rw [ab_wt]; exact hw)) hd hc) kk
end AbM
end
section
/-! Contracts of methods that may throw; how they throw. -/
theorem ab_W.kept {D : va_G} {ca : Nat → ClassId} {ad : ab_Ad} {N : Nat → Nat} {u : ab_S} {A : Nat → Prop} {H H1 : Heap} (h : ab_W D ca ad N u A H) (hk : ∀ c i : Nat, i < N c → H1[ad c i]? = H[ad c i]?) : ab_W D ca ad N u A H1 := by
  obtain ⟨h0, ws, hP, hD, h1, h2⟩ := h
  refine ⟨h0, ws, hP.kept fun k q hq => ?_, hD, h1, h2⟩
  obtain ⟨c, i, hi, rfl⟩ := h2 q (List.mem_of_getElem? hq)
  exact hk c i hi
theorem ab_W.lt {D : va_G} {ca : Nat → ClassId} {ad : ab_Ad} {N : Nat → Nat} {u : ab_S} {A : Nat → Prop} {H : Heap} (h : ab_W D ca ad N u A H) {c i : Nat} (hi : i < N c) : ad c i < H.size := by
  obtain ⟨ws, k, hP, -, hk⟩ := h.at hi
  exact (hP k _ hk).lt
theorem ab_W.plain {D : va_G} {ca : Nat → ClassId} {ad : ab_Ad} {N : Nat → Nat} {u : ab_S} {A : Nat → Prop} {H : Heap} (h : ab_W D ca ad N u A H) {c i : Nat} (hi : i < N c) : ∀ cell, H[ad c i]? = some cell → cell.vm.isStatics = false := by
  obtain ⟨ws, k, hP, -, hk⟩ := h.at hi
  have ha := hP k _ hk
  intro cell hc
  unfold va_at at ha
  dsimp only at ha
  split at ha
  · next x e =>
    have := Option.some.inj (hc.symm.trans ha)
    subst this
    obtain ⟨cA, n, f | f | f | f | f⟩ := x <;> rfl
  · next x e =>
    obtain ⟨r, -, cell', g1, g2, g3, -⟩ := ha
    have := Option.some.inj (hc.symm.trans g1)
    subst this
    rw [g3]; rfl
def ab_QT (D : va_G) (ca : Nat → ClassId) (ad : ab_Ad) (N : Nat → Nat) (sz : Nat) (Post : ab_S → Option ab_V → Prop) (PT : ab_S → String → Prop) : Array Value → State → Outcome → State → Prop := fun _ st oc t =>
  ((∃ (u' : ab_S) (r : Option ab_V), oc = .returned (r.map (ab_cv ad)) ∧ Post u' r ∧ ab_W D ca ad N u' (fun _ => True) t.heap) ∨
    (∃ (u' : ab_S) (E : String) (a : Nat) (ce : Cell) (cE : ClassId), oc = .threw a ∧ PT u' E ∧ ab_W D ca ad N u' (fun _ => True) t.heap ∧ t.heap[a]? = some ce ∧ ce.vm = .none ∧ ce.cls = cE ∧ t.vm.findClass E = some cE)) ∧
  va_K D vwCl (ab_tys ca) t ∧ va_F (ab_A ad N sz) st t
def ab_CT (l : Launch) (D : va_G) (ca : Nat → ClassId) (y : MethodName) (cc : ByteArray) (nL : Nat) (ret : Option FieldType) (d : Nat) (N : Nat → Nat) (u : ab_S) (av : List ab_V) (Post : ab_S → Option ab_V → Prop) (PT : ab_S → String → Prop) : Prop :=
  ∀ (ad : ab_Ad) (sz : Nat), ab_MT l y (Cond.code y cc nL ret :: ab_T) (ab_rm d 1 6) (ab_Pc true D ca ad N u sz av) (ab_QT D ca ad N sz Post PT) 1 6 (ab_A ad N sz)
theorem ab_CT.of {l : Launch} {D : va_G} {ca : Nat → ClassId} {y : MethodName} {cc : ByteArray} {nL : Nat} {ret : Option FieldType} {d : Nat} {N : Nat → Nat} {u : ab_S} {av : List ab_V} {Post : ab_S → Option ab_V → Prop} {PT : ab_S → String → Prop} (hy : plainName y.cls = true) (hn : ab_len av ≤ nL)
    (body : ∀ (p : Program) (e : Env) (s : State) (m : MethodId) (args : Array Value) (below : List Frame) (meth : Method) (c : Code) (ad : ab_Ad), ab_X p s m args c cc y.cls nL D ca (ab_A ad N s.heap.size) s.heap → ab_Zs ad (ab_A ad N s.heap.size) s s.heap → ab_W D ca ad N u (fun _ => True) s.heap → c.exceptionTable.isEmpty = true → meth.sig.returnType = ret → meth.locks = false →
      ab_J p l e (ab_rm d 1 6) s m args below meth c (ab_MQ below (ab_QT D ca ad N s.heap.size Post PT) args s 1 6 (ab_A ad N s.heap.size)) D ca (ab_A ad N s.heap.size) s.heap nL 0 0 ad N u 0 (ab_args 0 av) []) : ab_CT l D ca y cc nL ret d N u av Post PT := by
  intro ad sz
  refine ab_MT.ofW (cc := cc) (maxL := nL) (ret := ret) hy rfl ?_
  intro p e s m args below meth c s₁ B hml hv
  obtain ⟨rfl, hsz, hW, hK, hNw, hZ⟩ := hv
  subst hsz
  have hts := atoms_spec (ws := Cond.code y cc nL ret :: ab_T) B.pre
  rw [lg_entry_eq]
  have hl := lv_entry (av.map (ab_cv ad)) (n := nL) (by rw [ab_len_eq]; exact hn)
  rw [ab_args_map] at hl
  exact body p e s m _ below meth c ad ⟨B.exec, B.bytes, hml, findClass_of_methodNamed B.named, fun w hw => hts w (List.mem_cons_of_mem _ hw), hK, fun q hq => Or.inr hq, hNw⟩ (hZ rfl) hW (B.noHandlers (hts _ List.mem_cons_self)) B.returns B.notSynchronized s.heap [] _ (hW.weaken fun c i hi => Or.inl ⟨c, i, hi, rfl⟩) va_S.rf hl
/-- a return of such a method -/
theorem ab_QT_ret {D : va_G} {ca : Nat → ClassId} {ad : ab_Ad} {N : Nat → Nat} {sz : Nat} {Post : ab_S → Option ab_V → Prop} {PT : ab_S → String → Prop} {below : List Frame} {a : Array Value} {s : State} {mc ms : Nat} {free : Addr → Prop} (t : State) (k : MQ below (ab_Q D ca ad N sz Post) a s mc ms free t) : ab_MQ below (ab_QT D ca ad N sz Post PT) a s mc ms free t :=
  ab_MQ_of (fun o t h => by
    obtain ⟨⟨u', r, h1, h2, h3, h4⟩, h5⟩ := h
    exact ⟨Or.inl ⟨u', r, h1, h2, h3⟩, h4, h5⟩) t k
/-- the words of 'throw new E()' in the class own: E's entry idx, its constructor's ic, the classes above E -/
def ab_own (own : String) (idx ic : Nat) (cls : String) (names : List String) : Prop :=
  (Bundle.fit cls = true ∧ ∀ n ∈ names, Bundle.fit n = true) ∧ (∀ w ∈ ([.classLink own idx cls, .instantiable cls 6, .initialized cls] : List Cond), w ∈ ab_T) ∧ names.length ≤ 4 ∧
  ∀ w ∈ Bundle.ownAtoms0 own ic cls names, w ∈ ab_T ∨ w ∈ lw_tbl.filter ab_odd ∨ w ∈ ([.laysStatic "java/lang/Throwable" "UNASSIGNED_STACK" "[Ljava/lang/StackTraceElement;", .laysStatic "java/lang/Throwable" "SUPPRESSED_SENTINEL" "Ljava/util/List;", .isRef (.static "java/lang/Throwable" "UNASSIGNED_STACK" "[Ljava/lang/StackTraceElement;"), .isRef (.static "java/lang/Throwable" "SUPPRESSED_SENTINEL" "Ljava/util/List;")] : List Cond)
theorem ab_odd_use {w : Cond} {U : State} {args : Array Value} (h : ab_odd w = true) (hN : va_Nw w U) : w.before args U = true := by
  cases w with
  | methodLinkNest a i y host => exact va_Nw.use rfl hN
  | fieldLinkNest a i b n d hh => exact va_Nw.use rfl hN
  | castable a b => exact va_Nw.use rfl hN
  | declares x => exact va_Nw.use rfl hN
  | arrayOver t =>
    cases t with
    | object C => exact va_AO.use hN
    | _ => cases h
  | _ => cases h
section AbT
variable {p : Program} {l : Launch} {e : Env} {R : Room} {s : State} {m : MethodId} {args : Array Value} {below : List Frame} {meth : Method} {c : Code}
variable {cc : ByteArray} {own : String} {nL : Nat} {D : va_G} {ca : Nat → ClassId} {cells slots : Nat} {ad : ab_Ad} {N : Nat → Nat} {u u0 : ab_S} {pc : Nat} {lv : List (Nat × ab_V)} {Post : ab_S → Option ab_V → Prop} {PT : ab_S → String → Prop}
theorem ab_throw (X : ab_X p s m args c cc own nL D ca (ab_A ad N s.heap.size) s.heap) (hfl : l.flags = pinnedFlags ++ [noTraceFlag]) (hZ : ab_Zs ad (ab_A ad N s.heap.size) s s.heap) (hW0 : ab_W D ca ad N u0 (fun _ => True) s.heap) (hnh : c.exceptionTable.isEmpty = true) (hlk : meth.locks = false) {idx ic : Nat} {cls : String} {names : List String} (ho : ab_own own idx ic cls names)
    (hd0 : decode cc pc = .ok (.new idx, 3)) (hd3 : decode cc (pc + 3) = .ok (.dup, 1)) (hd4 : decode cc (pc + 3 + 1) = .ok (.invokespecial ic, 3)) (hd7 : decode cc (pc + 3 + 1 + 3) = .ok (.athrow, 1)) (hR : 8 ≤ R.frames ∧ 120 ≤ R.locals) (hc : cells + 1 ≤ R.cells ∧ slots + 6 ≤ R.slots) (hP : PT u cls) :
    ab_J p l e R s m args below meth c (ab_MQ below (ab_QT D ca ad N s.heap.size Post PT) args s (cells + 1) (slots + 6) (ab_A ad N s.heap.size)) D ca (ab_A ad N s.heap.size) s.heap nL cells slots ad N u pc lv [] := fun H locs ls hW hS hl => by
  obtain ⟨⟨hf1, hf2⟩, hw, hln, hat⟩ := ho
  have hwd : ∀ w ∈ Bundle.ownAtoms0 own ic cls names, w.before args s = true := fun w h => by
    rcases hat w h with h | h | h
    · exact X.2.2.2.2.1 w h
    · exact ab_odd_use (List.mem_filter.mp h).2 (X.2.2.2.2.2.2.2 w h)
    · rcases List.mem_cons.mp h with rfl | h
      · exact hZ.2.2.2.2.1.use
      rcases List.mem_cons.mp h with rfl | h
      · exact hZ.2.2.2.2.2.1.use
      rcases List.mem_cons.mp h with rfl | h
      · exact ab_Zq.use hZ.1
      rcases List.mem_cons.mp h with rfl | h
      · exact ab_Zq.use hZ.2.1
      · cases h
  refine W.newc (C := cls) (index := idx) (n := 6) X.1 X.2.1 X.2.2.2.1 (X.2.2.2.2.1 _ (hw _ (by simp))) (X.2.2.2.2.1 _ (hw _ (by simp))) (X.2.2.2.2.1 _ (hw _ (by simp))) rfl hd0 hc.1 hc.2 (fun cC kC f1 f2 f3 f4 => ?_)
  refine lv_dup (pc := pc + 3) (va := .ref H.size) X.1 X.2.1 hd3 rfl ?_
  intro T hT Y
  have hcell : T.heap[H.size]? = some (freshCell cC kC) := by rw [hT]; simp
  have hnew : s.heap.size ≤ H.size := hS.1
  have hcb : c.code = cc := X.2.1
  obtain ⟨U, g1, g2, g3, g4, g5, ⟨ce, g6, g7, g8⟩, g9, g10⟩ := ab_ctorThrow Y X.1 (Launch.traces_off hfl Y.admits) hlk X.2.2.2.1 hf1 hf2 hwd (fun x hx cell hce => by
    rcases hS.2.2 x hx with ⟨c', i', hi', e1⟩ | h
    · rw [e1] at hce
      exact hW0.plain hi' cell hce
    · have := (Array.getElem?_eq_some_iff.mp hce).1
      omega) f1 f2 hcell hnew (g := F0 m (pc + 3 + 1) ls [.ref H.size, .ref H.size]) rfl (by rw [X.2.2.1]; exact hl.1) rfl rfl (rest := []) rfl (by rw [hcb]; exact hd4) (by rw [hcb]; exact hd7) (fun x hx => by
      rw [Array.isEmpty_iff] at hnh
      rw [hnh] at hx
      cases hx) (by have := hR.1; omega) (by
      show 2 * 0 + 1 + (13 * (names.length + 1) + 41) ≤ R.locals
      have := hR.2; omega)
  have hsz : U.heap.size = H.size + 1 := by rw [g9, hT]; simp
  have hk : ∀ q : Nat, q < H.size → U.heap[q]? = H[q]? := fun q hq => by
    rw [g10 q (Nat.ne_of_lt hq), hT, Array.getElem?_push, if_neg (Nat.ne_of_lt hq)]
  refine ⟨U, g1, .threw H.size, g2, g3, ⟨Or.inr ⟨u, cls, H.size, ce, cC, rfl, hP, (hW.weaken (fun _ _ _ => trivial)).kept fun c' i' hi' => hk _ (hW.lt hi'), g6, g8, g7, by rw [g4.alike.findClass]; exact f1⟩, va_K.moved g4.alike X.2.2.2.2.2.1, by rw [hsz]; have := hS.1; omega, fun q h1 h2 => by rw [hk q (Nat.lt_of_lt_of_le h1 hS.1)]; exact hS.2.1 q h1 h2⟩, locs, ⟨g4, g5⟩, hS.2.2⟩
end AbT
end
section
/-! A call that may throw, and its catch. -/
def ab_FT (e : Env) (s : State) (f : JFrame) (a : Addr) (h : Handler) (vm' : Vm) : Prop :=
  ∀ (Q : Handler → Pre) (E : CtlPost) (d : Bool) (acts : List Action), wp (findHandler f a) Q E e d acts s ↔ Q h d acts (s.setVm vm')
theorem ab_go_link {Q : Handler → Pre} {E : CtlPost} {e : Env} {d : Bool} {acts : List Action} {s : State} {f : JFrame} {a : Addr} {x : ExceptionTableEntry} {t : List ExceptionTableEntry} {c : ClassId} {cell : Cell} (hx : covers x f.pc = true) (h0 : x.catchType ≠ 0)
    (hl : s.vm.ClassLinks e.platform f.method.cls x.catchType c) (hcell : s.heap[a]? = some cell) (hobj : ∀ k, cell.vm ≠ .statics k)
    (hk : ∃ k, s.vm.classes[cell.cls]? = some k) (hc : ∃ k, s.vm.classes[c]? = some k) (hfit : s.vm.assignable cell.cls c = true) :
    wp (findHandler.go f a (x :: t)) Q E e d acts s ↔ Q (.found x.handlerPc) d acts (s.setVm (s.vm.noted f.method.cls x.catchType (.cls c))) := by
  simp only [covers] at hx
  obtain ⟨ha, ht⟩ := (resolveClass_links e.toSetting hl).op (op := VmOp.resolveClass f.method.cls x.catchType) rfl
  have hal : s.vm.Alike (s.vm.noted f.method.cls x.catchType (.cls c)) := (Vm.Alike.refl s.vm).noted _ _ _
  obtain ⟨k1, hk1⟩ := hk
  obtain ⟨k2, hk2⟩ := hc
  obtain ⟨k1', hk1', -⟩ := hal.2.2 _ _ hk1
  obtain ⟨k2', hk2', -⟩ := hal.2.2 _ _ hk2
  have hfit' : (s.vm.noted f.method.cls x.catchType (.cls c)).assignable cell.cls c = true := by rw [hal.assignable]; exact hfit
  simp [findHandler.go, hx, h0, ha, ht, hcell, hobj, hk1', hk2', hfit', VmOp.dirties, VmOp.acts]
theorem ab_FT_first {e : Env} {s : State} {f : JFrame} {a : Addr} {meth : Method} {code : Code} (hm : s.vm.method? f.method = some meth) (hc : meth.code = some code)
    (x : ExceptionTableEntry) (rest : List ExceptionTableEntry) (hsplit : code.exceptionTable.toList = x :: rest) (hx : covers x f.pc = true) (h0 : x.catchType ≠ 0) {c : ClassId} {cell : Cell}
    (hl : s.vm.ClassLinks e.platform f.method.cls x.catchType c) (hcell : s.heap[a]? = some cell) (hobj : ∀ k, cell.vm ≠ .statics k)
    (hk : ∃ k, s.vm.classes[cell.cls]? = some k) (hcl : ∃ k, s.vm.classes[c]? = some k) (hfit : s.vm.assignable cell.cls c = true) :
    ab_FT e s f a (.found x.handlerPc) (s.vm.noted f.method.cls x.catchType (.cls c)) := by
  intro Q E d acts
  rw [Jvm.W.findHandler_eq hm hc, hsplit]
  exact ab_go_link hx h0 hl hcell hobj hk hcl hfit
theorem ab_step_catch {e : Env} {s : State} {a : Addr} {f : JFrame} {r : List Frame} {pc : Nat} {vm' : Vm} (hfind : ab_FT e s f a (.found pc) vm') :
    (stepThrowing e s a (.java f :: r)).Is ((s.setVm vm').setFrames (.java { f with pc := pc, stack := [.ref a] } :: r)) [] := by
  simp only [stepThrowing, searchFrame, vmDo]
  generalize hr : Sem.go _ e false [] s = res
  obtain ⟨as, rfl, ha⟩ := Sem.eq_ok_of hr (a := Handler.found pc) (s' := s.setVm vm') (acts' := []) (by simp [hfind _ _ _ _])
  exact ⟨rfl, ha⟩
theorem ab_caughtTo {tb : Tables} {e : Env} {s target : State} {g : JFrame} {c : Code} {below : List Frame} {a : Addr} (h : At s g.method c below) {pc : Nat} {vm' : Vm}
    (hfind : ab_FT e ((s.setTop g).pushFrame (.throwing a)) g a (.found pc) vm') (hrest : Steps tb e below ((s.setVm vm').setTop { g with pc := pc, stack := [.ref a] }) target) :
    Steps tb e below ((s.setTop g).pushFrame (.throwing a)) target := by
  obtain ⟨hgo, hw⟩ := h.throwing a
  refine Steps.head hgo hw ?_
  rw [stepThread_throwing (frames_entered h.top _), (ab_step_catch (s := (s.setTop g).pushFrame (.throwing a)) hfind).1]
  obtain ⟨g₀, hg⟩ := Option.isSome_iff_exists.mp h.top
  obtain ⟨r, hr⟩ := State.topJava?_eq_some.mp hg
  have hr' : (s.setVm vm').frames = .java g₀ :: r := hr
  rw [State.setTop_of_frames _ hr'] at hrest
  have e1 : ∀ (F G : List Frame), ((s.setFrames F).setVm vm').setFrames G = (s.setVm vm').setFrames G := fun F G => by
    have h1 : (s.setFrames F).setVm vm' = (s.setVm vm').setFrames F := rfl
    rw [h1, State.setFrames_setFrames]
  rw [hr, List.tail_cons, State.pushFrame, State.setTop_of_frames _ hr, State.setFrames_setFrames, e1]
  exact hrest
section AbU
variable {p : Program} {l : Launch} {e : Env} {R : Room} {s : State} {m : MethodId} {args : Array Value} {below : List Frame} {meth : Method} {c : Code} {T : State} {locs : List Loc} {cells slots : Nat}
/-- what is thrown here is caught by the table's first row -/
theorem ab_caught (X : Stand p l e R s m args below meth c T locs cells slots) (a : Addr) {g : JFrame} (hg : g.method = m) {own name : String} (hown : s.vm.findClass own = some m.cls) (x : ExceptionTableEntry) (rest : List ExceptionTableEntry) (hsplit : c.exceptionTable.toList = x :: rest) (hx : covers x g.pc = true) (h0 : x.catchType ≠ 0)
    (hlink : (Cond.classLink own x.catchType name).before args s = true) {cT : ClassId} {cell : Cell} (hcT : s.vm.findClass name = some cT) (hcell : T.heap[a]? = some cell) (hobj : cell.vm.isStatics = false) (hfit : s.vm.assignable cell.cls cT = true) :
    ∃ vm', Stand p l e R s m args below meth c (T.setVm vm') locs cells slots ∧
      ∀ target, Steps p.tables e below ((T.setVm vm').setTop { g with pc := x.handlerPc, stack := [.ref a] }) target → Steps p.tables e below ((T.setTop g).pushFrame (.throwing a)) target := by
  have hpl : e.platform.magicAccessors = ({} : Platform).magicAccessors := by rw [X.admits.platform]
  obtain ⟨c', hc', hcl⟩ := Cond.classLink_spec hown hlink e.platform hpl
  cases hcT.symm.trans hc'
  obtain ⟨dk, _, _, kt, hd, _, _, _, _, hkt, _, hopen⟩ := hcl.here
  have hcl₀ := X.warmed.classLinks hcl
  have hW' : s.WarmedH (T.vm.noted m.cls x.catchType (.cls cT)) := X.warmed.noted hd hopen (State.rightAt_cls hcl)
  have hal := X.warmed.alike
  obtain ⟨kt', hkt', -⟩ := hal.2.2 _ _ hkt
  have hfit' : T.vm.assignable cell.cls cT = true := by rw [hal.assignable]; exact hfit
  refine ⟨_, X.noted hW', fun target hrest => ?_⟩
  subst hg
  exact ab_caughtTo X.here (ab_FT_first (s := (T.setTop g).pushFrame (.throwing a)) (meth := meth) (code := c) X.method' X.code x rest hsplit hx h0 (c := cT) (cell := cell) hcl₀ hcell (VmData.ne_statics_of hobj)
    (Vm.classAt_of_assignable hfit' ⟨kt', hkt'⟩) ⟨kt', hkt'⟩ hfit') hrest
end AbU
end
section
/-! The law's helpers: they call a method that may throw, catch, and answer. -/
section AbV
variable {p : Program} {l : Launch} {e : Env} {R : Room} {s : State} {m : MethodId} {sargs : Array Value} {below : List Frame} {meth : Method} {c : Code} {U : State} {locs : List Loc} {cells slots : Nat} {y : MethodName}
/-- a call by such a contract comes back, or throws -/
theorem ab_backT {ws : List Cond} {rm : Room} {Pc : Array Value → State → Prop} {Qc : Array Value → State → Outcome → State → Prop} {mc ms : Nat} {free : Addr → Prop} {bytes : ByteArray} {maxL len : Nat} {ret : Option FieldType}
    (hM : ab_MT l y ws rm Pc Qc mc ms free) (hblind : FrameBlind Pc) (hrc : rm.cells = mc) (hrs : rm.slots = ms) (hframes : rm.frames + 1 ≤ R.frames) (hlocals : 8 + (maxL + 11) + rm.locals ≤ R.locals)
    (X : Stand p l e R s m sargs below meth c U locs cells slots) (hws : ∀ w ∈ ws, ∀ a', w.before a' U = true) (hcode : (Cond.code y bytes maxL ret) ∈ ws) (hini : ∀ a', (Cond.initialized y.cls).before a' U = true)
    {g : JFrame} {ig : Instr} {mk : MethodId} {a : Array Value} (hg : g.method = m) (hsize : g.locals.size = c.maxLocals) (hdg : decode c.code g.pc = .ok (ig, len)) (hW : 2 * g.monitorRoom + (g.stack.map fun v => v.category).sum ≤ 8) (hn : U.methodNamed? y = some mk) (hcs : cells + mc ≤ R.cells ∧ slots + ms ≤ R.slots) (hp : Pc a U) :
    ∃ (o : Outcome) (t T' : State) (L : List Loc), Stand p l e R s m sargs below meth c T' (locs ++ L) (cells + mc) (slots + ms) ∧ (∀ q ∈ L, free q.base) ∧ T'.heap = t.heap ∧ T'.vm = t.vm ∧ Qc a (U.calling g mk a) o t ∧
      (∀ v, o = .returned v → Steps p.tables e below (doInvoke e (U.setTop g) [] mk a).1 (T'.setTop { g with pc := g.pc + len, stack := v.toList ++ g.stack })) ∧
      (∀ x, o = .threw x → Steps p.tables e below (doInvoke e (U.setTop g) [] mk a).1 ((T'.setTop g).pushFrame (.throwing x))) := by
  have h2 := hws _ hcode a
  have h3 := hini a
  obtain ⟨methY, cY, hmY, hcY, -, hlY, -, -, -, -⟩ := Cond.code_spec hn h2
  obtain ⟨kY, hkY, -⟩ := className_of_methodNamed hn
  have hinitY : kY.init = .initialized := Cond.initialized_spec (findClass_of_methodNamed hn) hkY h3
  have h : At U g.method c below := by rw [hg]; exact X.here
  have happ : (headSpec ws rm).appliesLoose y e.platform (U.calling g mk a) = true :=
    Spec.appliesLoose_calling (g := g) h hdg hn hkY hinitY
      (X.room_calling (g := g) (R' := (headSpec ws rm).room) hsize hmY hcY hframes (by rw [hlY]; show _ + (maxL + 11) + rm.locals ≤ R.locals; omega) (by show cells + rm.cells ≤ R.cells; rw [hrc]; exact hcs.1) (by show slots + rm.slots ≤ R.slots; rw [hrs]; exact hcs.2)) (atoms_intro fun w hw => hws w hw a)
  obtain ⟨mid, hmid⟩ := h.above
  have hfr : (U.setTop g).frames = (.java g :: mid) ++ below := by rw [State.frames_setTop' g h.top, hmid]; rfl
  obtain ⟨o, s₂, hsteps, -, hend, hq⟩ := Steps.callFree hM p X.admits X.cas X.clock (acts := []) hfr happ (hblind _ _ g mk hp) trivial
  have hq' : Qc a (U.calling g mk a) o s₂ ∧ ∃ L, ab_FE (U.calling g mk a) s₂ L mc ms ∧ ∀ q ∈ L, free q.base := hq
  obtain ⟨hq1, L, ⟨hW₂, e2, q2, q3, q4, q5, q6⟩, hL⟩ := hq'
  rw [State.frames_setTop' g h.top] at hend
  have e3 : s₂ = ({ (U.calling g mk a).setFrames s₂.frames with heap := s₂.heap, slotsUsed := s₂.slotsUsed } : State).setVm s₂.vm := by
    have : s₂ = ({ s₂ with vm := (U.calling g mk a).vm } : State).setVm s₂.vm := rfl
    rw [e2] at this
    exact this
  have hW' : U.WarmedH s₂.vm := hW₂
  obtain ⟨g₀, hg0⟩ := Option.isSome_iff_exists.mp h.top
  obtain ⟨r, hr⟩ := State.topJava?_eq_some.mp hg0
  have hr' : (({ U with heap := s₂.heap, slotsUsed := s₂.slotsUsed } : State).setVm s₂.vm).frames = .java g₀ :: r := hr
  have hsame : U.sameButNew ({ U with heap := s₂.heap, slotsUsed := s₂.slotsUsed } : State) L mc ms := by
    refine ⟨?_, q2, q3, q4, q5, q6⟩
    obtain ⟨t, ht, -⟩ := State.frames_cons hr
    show ({ U with heap := s₂.heap, slotsUsed := s₂.slotsUsed } : State) = { U.setFrames U.frames with heap := s₂.heap, slotsUsed := s₂.slotsUsed }
    rw [State.setFrames_self ht]
  subst hg
  refine ⟨o, s₂, (({ U with heap := s₂.heap, slotsUsed := s₂.slotsUsed } : State).setVm s₂.vm), L,
    ⟨X.admits, X.cas, X.clock, X.frames, X.room, X.hears, X.method, X.code, (X.here.setHeapUsed s₂.heap s₂.slotsUsed).setVm hW'.alike, X.tail, State.WarmedH.trans X.warmed hW', X.limits, X.bytes, X.same.trans (hsame.setVm s.vm)⟩,
    hL, rfl, rfl, hq1, fun v ho => ?_, fun x ho => ?_⟩
  · subst ho
    obtain ⟨c₂, i₂, len₂, hc₂, hd₂, hf₂⟩ := hend
    have hcc : c₂ = c := by
      have h1 : s₂.code? g.method = U.code? g.method := by rw [State.code?_eq, State.code?_eq, hW'.alike.method?]
      exact Option.some.inj (hc₂.symm.trans (h1.trans h.code))
    subst hcc
    have hlen : len₂ = len := by rw [hdg] at hd₂; cases hd₂; rfl
    subst hlen
    have hs₂ : s₂ = (({ U with heap := s₂.heap, slotsUsed := s₂.slotsUsed } : State).setVm s₂.vm).setTop { g with pc := g.pc + len₂, stack := v.toList ++ g.stack } := by
      refine e3.trans ?_
      rw [hf₂, State.calling_eq h.top, State.setFrames_setFrames, State.setTop_of_frames _ hr', hr]
      rfl
    rw [← hs₂]
    exact hsteps
  · subst ho
    have hf₂ : s₂.frames = .throwing x :: .java g :: U.frames.tail := hend
    have hs₂ : s₂ = ((({ U with heap := s₂.heap, slotsUsed := s₂.slotsUsed } : State).setVm s₂.vm).setTop g).pushFrame (.throwing x) := by
      refine e3.trans ?_
      rw [hf₂, State.calling_eq h.top, State.setFrames_setFrames, State.pushFrame, State.frames_setTop _ hr', State.setTop_of_frames _ hr', State.setFrames_setFrames, hr]
      rfl
    rw [← hs₂]
    exact hsteps
end AbV
section AbY
variable {p : Program} {l : Launch} {e : Env} {R : Room} {s : State} {m : MethodId} {args : Array Value} {below : List Frame} {meth : Method} {c : Code} {Q : State → Prop}
variable {cc : ByteArray} {own : String} {nL : Nat} {D : va_G} {ca : Nat → ClassId} {A : Nat → Prop} {H0 : Heap} {cells slots : Nat} {ad : ab_Ad} {N : Nat → Nat} {u : ab_S} {pc : Nat} {lv : List (Nat × ab_V)} {st : List ab_V}
/-- a virtual call that may throw what the first row of the table catches and lays into the local i -/
theorem ab_callT {Post : ab_S → Option ab_V → Prop} {PT : ab_S → String → Prop} (X : ab_X p s m args c cc own nL D ca A H0) {y : MethodName} {cc' : ByteArray} {nL' d' idx c' i n : Nat} {ret' : Option FieldType} {as stk : List ab_V} (hz : ab_Zs ad A s H0) (hC : ab_CT l D ca y cc' nL' ret' d' N u (ab_O c' i :: as) Post PT) (hk : ab_lk own idx y cc' nL' ret' n c') (hd : decode cc pc = .ok (.invokevirtual idx, 3)) (hst : stk = as.reverse ++ ab_O c' i :: st) (hn : as.length = n) (hi : i < N c') (hR : d' + 1 ≤ R.frames ∧ 60 * (d' + 1) ≤ R.locals) (hc : cells + 1 ≤ R.cells ∧ slots + 6 ≤ R.slots) (hw : ab_len st ≤ 8)
    (x : ExceptionTableEntry) (rest : List ExceptionTableEntry) (htab : c.exceptionTable.toList = x :: rest) (hcov : covers x pc = true) (h0 : x.catchType ≠ 0) {name : String} (hcl : Cond.classLink own x.catchType name ∈ ab_T) (hcast : Cond.castable name name ∈ lw_tbl.filter ab_odd) (hPT : ∀ u' E, PT u' E → E = name) {k : Fin 4} {j : Nat} (hda : decode cc x.handlerPc = .ok (.astore_n k, 1)) (hj : (k : Nat) = j) (hjn : j < nL)
    (kk : ∀ (u' : ab_S) (r : Option ab_V), Post u' r → ab_J p l e R s m args below meth c Q D ca A H0 nL (cells + 1) (slots + 6) ad N u' (pc + 3) lv (r.toList ++ st))
    (kt : ∀ u' : ab_S, PT u' name → ab_J p l e R s m args below meth c Q D ca A H0 nL (cells + 1) (slots + 6) ad N u' (x.handlerPc + 1) (ab_ft j lv) []) : ab_J p l e R s m args below meth c Q D ca A H0 nL cells slots ad N u pc lv stk := fun H locs ls hW hS hl => by
  obtain ⟨⟨t0, T0, k0, t1⟩, hws, hy, hnL⟩ := hk
  subst hst; subst hn
  obtain ⟨ws, q0, hP, hD, hq⟩ := hW.at hi
  rw [ab_ent_o t0] at hq
  obtain ⟨cellB, hcB, hoB, hclB⟩ := va_recv X.2.2.2.2.2.1 hP t1 hq
  intro T hT Y
  have w1 : ∀ w ∈ ([.methodLink own idx y, .instanceMethod y, .selects y.cls y y, .initialized y.cls, .code y cc' nL' ret'] : List Cond), w.before args s = true := fun w h => X.2.2.2.2.1 _ (hws w h)
  obtain ⟨mk, methM, hnamed, hmethM, hstM, habM⟩ := Cond.instanceMethod_spec (w1 (.instanceMethod y) (by simp))
  obtain ⟨methM', cM, hmethM', -, -, -, -, -, -, hsigM⟩ := Cond.code_spec hnamed (w1 (.code y cc' nL' ret') (by simp))
  cases hmethM.symm.trans hmethM'
  obtain ⟨c2, r2, m2, q1, q2, q3, q4, kP, hkP, hkPi⟩ := Cond.selects_spec (w1 (.selects y.cls y y) (by simp))
  cases hclB.symm.trans q1
  cases (State.methodFound?_of_named hnamed ⟨hy.1, hy.2.1⟩).symm.trans q2
  cases hnamed.symm.trans q3
  have hselP : selectMethod e.platform s.vm cellB.cls mk = .method mk := by rw [Launch.admits_selectMethod Y.admits]; exact q4
  have hlen : (as.map (ab_cv ad)).length = methM.sig.parameters.length := by
    have h2 := hy.2.2
    rw [hsigM] at h2
    rw [List.length_map]
    exact (Option.some.inj h2).symm
  obtain ⟨vm₁, Y₁, hstep₁⟩ := Y.invokevirtual X.1 X.2.2.2.1 (w1 (.methodLink own idx y) (by simp)) hnamed hmethM hstM hkP hkPi ⟨hy.1, hy.2.1⟩ (a := ad c' i) (cell := cellB) (by rw [hT]; exact hcB)
    (fun z h => by rw [h] at hoB; cases hoB) hselP hmethM habM hkP hkPi (g := F0 m pc ls ((as.reverse ++ ab_O c' i :: st).map (ab_cv ad))) rfl (argsL := as.map (ab_cv ad)) (rest := st.map (ab_cv ad)) hlen (by show (as.reverse ++ ab_O c' i :: st).map (ab_cv ad) = _; rw [List.map_append, List.map_reverse]; rfl) (by rw [X.2.1]; exact hd)
  have hG : ∀ w ∈ (Cond.code y cc' nL' ret' :: ab_T), w ∈ ab_T := fun w h => by
    rcases List.mem_cons.mp h with rfl | h
    · exact hws _ (by simp)
    · exact h
  have hpc : ab_Pc true D ca ad N u H.size (ab_O c' i :: as) (Value.ref (ad c' i) :: as.map (ab_cv ad)).toArray (T.setVm vm₁) := ⟨rfl, by show T.heap.size = _; rw [hT], by show ab_W _ _ _ _ _ _ T.heap; rw [hT]; exact hW.weaken (fun _ _ _ => trivial), va_K.moved Y₁.warmed.alike X.2.2.2.2.2.1, ab_Nw.moved Y₁.warmed X.2.2.2.2.2.2.2, fun _ => by show ab_Zs _ _ _ T.heap; rw [hT]; exact ab_Zs.go X hz hW hS Y₁.warmed⟩
  obtain ⟨o, t, T', L, Y', hL, e1, e2, hQ, go1, go2⟩ := ab_backT (bytes := cc') (maxL := nL') (ret := ret') (len := 3) (hC ad H.size) ab_Pc_blind rfl rfl hR.1 (by show 8 + (nL' + 11) + 60 * d' ≤ R.locals; omega) Y₁
    (fun w h a' => word_at Y₁.warmed (ab_T_good w (hG w h)).2 (X.2.2.2.2.1 w (hG w h))) List.mem_cons_self (fun a' => word_at Y₁.warmed (ab_T_good _ (hws (.initialized y.cls) (by simp))).2 (w1 (.initialized y.cls) (by simp)))
    (g := F0 m pc ls (st.map (ab_cv ad))) (ig := .invokevirtual idx) (mk := mk) rfl (by rw [X.2.2.1]; exact hl.1) (by rw [X.2.1]; exact hd) (lv_room (by rw [ab_wt]; exact hw)) (Y₁.named hnamed) hc hpc
  obtain ⟨hQ1, hk', hz', hkp⟩ := hQ
  have hT1 : ((T.setVm vm₁).calling (F0 m pc ls (st.map (ab_cv ad))) mk (Value.ref (ad c' i) :: as.map (ab_cv ad)).toArray).heap = H := hT
  rw [hT1] at hz' hkp
  have hin : ∀ q : Nat, ab_A ad N H.size q → A q := fun q h => by
    rcases h with ⟨c'', i', hi', rfl⟩ | h
    · exact hW.inA hi'
    · exact X.2.2.2.2.2.2.1 q (Nat.le_trans hS.1 h)
  have hS' : va_S A H0 T'.heap (locs ++ L) := ⟨Nat.le_trans hS.1 (by rw [e1]; exact hz'), fun q h1 h2 => by rw [e1, hkp q (Nat.lt_of_lt_of_le h1 hS.1) (fun z => h2 (hin q z))]; exact hS.2.1 q h1 h2, fun q hq => by
      rcases List.mem_append.mp hq with h | h
      · exact hS.2.2 q h
      · exact hin _ (hL q h)⟩
  rcases hQ1 with ⟨u', r, ho, hp, hw'⟩ | ⟨u', E, a, ce, cE, ho, hp, hw', g1, g2, g3, g4⟩
  · obtain ⟨t2, a1, b1⟩ := kk u' r hp T'.heap (locs ++ L) ls (by rw [e1]; exact hw'.weaken fun c'' i' hi' => hW.inA hi') hS' hl T' rfl Y'
    refine ⟨t2, hstep₁ _ (fun acts => ?_), b1⟩
    rw [doInvoke_state]
    refine (go1 _ ho).trans ?_
    have e4 : (r.map (ab_cv ad)).toList ++ st.map (ab_cv ad) = (r.toList ++ st).map (ab_cv ad) := by cases r <;> simp
    show Steps p.tables e below (T'.setTop { F0 m pc ls (st.map (ab_cv ad)) with pc := pc + 3, stack := (r.map (ab_cv ad)).toList ++ st.map (ab_cv ad) }) t2
    rw [e4]
    exact a1
  · have hE := hPT u' E hp
    subst hE
    have hfE : s.vm.findClass E = some cE := by rw [← Y'.warmed.alike.findClass, e2]; exact g4
    obtain ⟨c3, c4, hc3, hc4, hasg⟩ := Cond.castable_spec (X.2.2.2.2.2.2.2 _ hcast)
    cases hfE.symm.trans hc3
    cases hfE.symm.trans hc4
    obtain ⟨vm', Y2, hcatch⟩ := ab_caught Y' a (g := F0 m pc ls (st.map (ab_cv ad))) rfl X.2.2.2.1 x rest htab hcov h0 (X.2.2.2.2.1 _ hcl) hfE (by rw [e1]; exact g1) (by rw [g2]; rfl) (by rw [g3]; exact hasg)
    have hJ : W p l e R s m args below meth c T'.heap (locs ++ L) (cells + 1) (slots + 6) Q (F0 m x.handlerPc ls [.ref a]) := lv_astore_n X.1 X.2.1 hda hj hl hjn rfl fun ls' h' => kt u' hp T'.heap (locs ++ L) ls' (by rw [e1]; exact hw'.weaken fun c'' i' hi' => hW.inA hi') hS' ⟨h'.1, h'.2.1, fun q hq => h'.2.2 q (List.mem_cons_of_mem _ (by rw [ab_ft_map]; exact hq))⟩
    obtain ⟨t2, a1, b1⟩ := hJ (T'.setVm vm') rfl Y2
    refine ⟨t2, hstep₁ _ (fun acts => ?_), b1⟩
    rw [doInvoke_state]
    exact (go2 _ ho).trans (hcatch _ a1)
end AbY
end
section
/-! Contracts of methods with a table of handlers; the law's own cells. -/
def ab_CW (l : Launch) (D : va_G) (ca : Nat → ClassId) (y : MethodName) (cc : ByteArray) (nL : Nat) (ret : Option FieldType) (hh : List (Nat × Nat × Nat × Nat)) (d : Nat) (N : Nat → Nat) (u : ab_S) (av : List ab_V) (Post : ab_S → Option ab_V → Prop) : Prop :=
  ∀ (ad : ab_Ad) (sz : Nat), Met l y (Cond.codeWith y cc nL ret hh :: ab_T) (ab_rm d 1 6) (ab_Pc true D ca ad N u sz av) (ab_Q D ca ad N sz Post) 1 6 (ab_A ad N sz)
theorem ab_CW.of {l : Launch} {D : va_G} {ca : Nat → ClassId} {y : MethodName} {cc : ByteArray} {nL : Nat} {ret : Option FieldType} {hh : List (Nat × Nat × Nat × Nat)} {d : Nat} {N : Nat → Nat} {u : ab_S} {av : List ab_V} {Post : ab_S → Option ab_V → Prop} (hy : plainName y.cls = true) (hn : ab_len av ≤ nL)
    (body : ∀ (p : Program) (e : Env) (s : State) (m : MethodId) (args : Array Value) (below : List Frame) (meth : Method) (c : Code) (ad : ab_Ad), ab_X p s m args c cc y.cls nL D ca (ab_A ad N s.heap.size) s.heap → ab_Zs ad (ab_A ad N s.heap.size) s s.heap → c.exceptionTable.toList = tableOf hh → meth.sig.returnType = ret → meth.locks = false →
      ab_J p l e (ab_rm d 1 6) s m args below meth c (MQ below (ab_Q D ca ad N s.heap.size Post) args s 1 6 (ab_A ad N s.heap.size)) D ca (ab_A ad N s.heap.size) s.heap nL 0 0 ad N u 0 (ab_args 0 av) []) : ab_CW l D ca y cc nL ret hh d N u av Post := by
  intro ad sz
  refine va_MetW (cc := cc) (maxL := nL) (ret := ret) (hh := hh) hy rfl ?_
  intro p e s m args below meth c s₁ B hml hv
  obtain ⟨rfl, hsz, hW, hK, hNw, hZ⟩ := hv
  subst hsz
  have hts := atoms_spec (ws := Cond.codeWith y cc nL ret hh :: ab_T) B.pre
  rw [lg_entry_eq]
  have hl := lv_entry (av.map (ab_cv ad)) (n := nL) (by rw [ab_len_eq]; exact hn)
  rw [ab_args_map] at hl
  have htb : c.exceptionTable.toList = tableOf hh := by
    obtain ⟨m9, meth', c', hn9, h1, h2, -, -, htab, -⟩ := Cond.codeWith_spec (hts _ List.mem_cons_self)
    cases B.named.symm.trans hn9
    cases B.method.symm.trans h1
    cases (Stand.of_body B).code.symm.trans h2
    rw [← htab, table_eq]
  exact body p e s m _ below meth c ad ⟨B.exec, B.bytes, hml, findClass_of_methodNamed B.named, fun w hw => hts w (List.mem_cons_of_mem _ hw), hK, fun q hq => Or.inr hq, hNw⟩ (hZ rfl) htb B.returns B.notSynchronized s.heap [] _ (hW.weaken fun c i hi => Or.inl ⟨c, i, hi, rfl⟩) va_S.rf hl
section AbZ
variable {p : Program} {l : Launch} {e : Env} {R : Room} {s : State} {m : MethodId} {args : Array Value} {below : List Frame} {meth : Method} {c : Code} {Q : State → Prop}
variable {cc : ByteArray} {own : String} {nL : Nat} {D : va_G} {ca : Nat → ClassId} {A : Nat → Prop} {H0 : Heap} {cells slots : Nat} {ad : ab_Ad} {N : Nat → Nat} {u : ab_S} {pc : Nat} {lv : List (Nat × ab_V)} {st : List ab_V}
theorem ab_callSW {Post : ab_S → Option ab_V → Prop} (X : ab_X p s m args c cc own nL D ca A H0) {y : MethodName} {cc' : ByteArray} {nL' d' idx n : Nat} {ret' : Option FieldType} {hh : List (Nat × Nat × Nat × Nat)} {as stk : List ab_V} (hz : ab_Zs ad A s H0) (hC : ab_CW l D ca y cc' nL' ret' hh d' N u as Post)
    (hws : ∀ w ∈ ([.methodLink own idx y, .static y, .initialized y.cls, .codeWith y cc' nL' ret' hh] : List Cond), w ∈ ab_T) (hy : y.cls ≠ "java/lang/invoke/MethodHandle" ∧ y.cls ≠ "java/lang/invoke/VarHandle" ∧ (parseMethodDescriptor y.desc).map (fun d => d.parameters.length) = some n) (hnL : nL' ≤ 41)
    (hd : decode cc pc = .ok (.invokestatic idx, 3)) (hst : stk = as.reverse ++ st) (hn : as.length = n) (hR : d' + 1 ≤ R.frames ∧ 60 * (d' + 1) ≤ R.locals) (hc : cells + 1 ≤ R.cells ∧ slots + 6 ≤ R.slots) (hw : ab_len st ≤ 8)
    (kk : ∀ (u' : ab_S) (r : Option ab_V), Post u' r → ab_J p l e R s m args below meth c Q D ca A H0 nL (cells + 1) (slots + 6) ad N u' (pc + 3) lv (r.toList ++ st)) : ab_J p l e R s m args below meth c Q D ca A H0 nL cells slots ad N u pc lv stk := fun H locs ls hW hS hl => by
  subst hst; subst hn
  intro T hT Y
  have w1 : ∀ w ∈ ([.methodLink own idx y, .static y, .initialized y.cls, .codeWith y cc' nL' ret' hh] : List Cond), w.before args s = true := fun w h => X.2.2.2.2.1 _ (hws w h)
  obtain ⟨mk, methM, cM, hnamed, hmethM, -, -, -, -, -, -, hsigM⟩ := Cond.codeWith_spec (w1 (.codeWith y cc' nL' ret' hh) (by simp))
  have hstatic : methM.isStatic = true := Cond.static_spec hnamed hmethM (w1 (.static y) (by simp))
  obtain ⟨kP, hkP, -⟩ := className_of_methodNamed hnamed
  have hinitP : kP.init = .initialized := Cond.initialized_spec (findClass_of_methodNamed hnamed) hkP (w1 (.initialized y.cls) (by simp))
  have hlen : (as.map (ab_cv ad)).length = methM.sig.parameters.length := by
    have h2 := hy.2.2
    rw [hsigM] at h2
    rw [List.length_map]
    exact (Option.some.inj h2).symm
  obtain ⟨vm₁, Y₁, hstep₁⟩ := Y.invokestatic X.1 X.2.2.2.1 (w1 (.methodLink own idx y) (by simp)) hnamed hmethM hstatic hkP hinitP ⟨hy.1, hy.2.1⟩ (g := F0 m pc ls ((as.reverse ++ st).map (ab_cv ad))) rfl (argsL := as.map (ab_cv ad)) (rest := st.map (ab_cv ad)) hlen (by show (as.reverse ++ st).map (ab_cv ad) = _; rw [List.map_append, List.map_reverse]) (by rw [X.2.1]; exact hd)
  have hG : ∀ w ∈ (Cond.codeWith y cc' nL' ret' hh :: ab_T), w ∈ ab_T := fun w h => by
    rcases List.mem_cons.mp h with rfl | h
    · exact hws _ (by simp)
    · exact h
  have hpc : ab_Pc true D ca ad N u H.size as (as.map (ab_cv ad)).toArray (T.setVm vm₁) := ⟨rfl, by show T.heap.size = _; rw [hT], by show ab_W _ _ _ _ _ _ T.heap; rw [hT]; exact hW.weaken (fun _ _ _ => trivial), va_K.moved Y₁.warmed.alike X.2.2.2.2.2.1, ab_Nw.moved Y₁.warmed X.2.2.2.2.2.2.2, fun _ => by show ab_Zs _ _ _ T.heap; rw [hT]; exact ab_Zs.go X hz hW hS Y₁.warmed⟩
  have hK : Back l R p e below s args y 3 8 (PreOf R 1 6 (ab_Pc true D ca ad N u H.size as)) (PostOf (ab_Q D ca ad N H.size Post) 1 6 (ab_A ad N H.size)) := va_backW (bytes := cc') (maxL := nL') (ret := ret') (hh := hh) (hC ad H.size) ab_Pc_blind rfl rfl hR.1 (by show 8 + (nL' + 11) + 60 * d' ≤ R.locals; omega)
    (fun w h a' U hU => word_at hU (ab_T_good w (hG w h)).2 (X.2.2.2.2.1 w (hG w h))) List.mem_cons_self (fun a' U hU => word_at hU (ab_T_good _ (hws (.initialized y.cls) (by simp))).2 (w1 (.initialized y.cls) (by simp)))
  obtain ⟨v, ⟨U', l2, c2, s2⟩, Y', ⟨g', mk', t, L, e1, e2, hQ, h1, hL, h2, h3⟩, hsteps⟩ := hK m meth c ⟨T.setVm vm₁, locs, cells, slots⟩ (F0 m pc ls (st.map (ab_cv ad))) (.invokestatic idx) mk (as.map (ab_cv ad)).toArray Y₁ rfl (by rw [X.2.2.1]; exact hl.1) (by rw [X.2.1]; exact hd) (lv_room (by rw [ab_wt]; exact hw)) (Y₁.named hnamed) ⟨hc.1, hc.2, hpc⟩
  dsimp only [Pt.U, Pt.locs, Pt.cells, Pt.slots] at Y' e1 e2 h1 h2 h3 hsteps
  subst h1; subst h2; subst h3
  obtain ⟨⟨u', r, hv, hp, hw', hk'⟩, hz', hkp⟩ := hQ
  cases hv
  have hT1 : ((T.setVm vm₁).calling g' mk' (as.map (ab_cv ad)).toArray).heap = H := hT
  rw [hT1] at hz' hkp
  have hin : ∀ q : Nat, ab_A ad N H.size q → A q := fun q h => by
    rcases h with ⟨c'', i', hi', rfl⟩ | h
    · exact hW.inA hi'
    · exact X.2.2.2.2.2.2.1 q (Nat.le_trans hS.1 h)
  have hS' : va_S A H0 U'.heap (locs ++ L) := ⟨Nat.le_trans hS.1 (by rw [e1]; exact hz'), fun q h1 h2 => by rw [e1, hkp q (Nat.lt_of_lt_of_le h1 hS.1) (fun z => h2 (hin q z))]; exact hS.2.1 q h1 h2, fun q hq => by
      rcases List.mem_append.mp hq with h | h
      · exact hS.2.2 q h
      · exact hin _ (hL q h)⟩
  obtain ⟨t2, a1, b1⟩ := kk u' r hp U'.heap (locs ++ L) ls (by rw [e1]; exact hw'.weaken fun c'' i' hi' => hW.inA hi') hS' hl U' rfl Y'
  refine ⟨t2, hstep₁ _ (fun acts => ?_), b1⟩
  rw [doInvoke_state]
  refine hsteps.trans ?_
  have e4 : (r.map (ab_cv ad)).toList ++ st.map (ab_cv ad) = (r.toList ++ st).map (ab_cv ad) := by cases r <;> simp
  show Steps p.tables e below (U'.setTop { F0 m pc ls (st.map (ab_cv ad)) with pc := pc + 3, stack := (r.map (ab_cv ad)).toList ++ st.map (ab_cv ad) }) t2
  rw [e4]
  exact a1
/-- the law's own script, the cell (23, 0) -/
theorem ab_sld (X : ab_X p s m args c cc own nL D ca A H0) {L : Nat} {xs : Nat → Int32} (hX : va_X (ad 23 0) L xs s H0) (hbl : ad 23 0 < H0.size) (hbA : ¬ A (ad 23 0)) {j : Int32} (n : Nat) (hd : decode cc pc = .ok (.iaload, 1)) (hj : j = nI n) (hn : n < L) (hL : L < 2 ^ 31) (kk : ab_J p l e R s m args below meth c Q D ca A H0 nL cells slots ad N u (pc + 1) lv (ab_I (xs n) :: st)) : ab_J p l e R s m args below meth c Q D ca A H0 nL cells slots ad N u pc lv (ab_I j :: ab_O 23 0 :: st) := fun H locs ls hW hS hl => by
  obtain ⟨hin, hcl⟩ := ab_ix hj hn hL
  exact va_sld X.1 X.2.1 hX hbl hbA hS hin hd (by rw [hcl]; exact kk H locs ls hW hS hl)
theorem ab_slen (X : ab_X p s m args c cc own nL D ca A H0) {L : Nat} {xs : Nat → Int32} (hX : va_X (ad 23 0) L xs s H0) (hbl : ad 23 0 < H0.size) (hbA : ¬ A (ad 23 0)) (hd : decode cc pc = .ok (.arraylength, 1)) (kk : ab_J p l e R s m args below meth c Q D ca A H0 nL cells slots ad N u (pc + 1) lv (ab_I (nI L) :: st)) : ab_J p l e R s m args below meth c Q D ca A H0 nL cells slots ad N u pc lv (ab_O 23 0 :: st) := fun H locs ls hW hS hl =>
  va_slen X.1 X.2.1 hX hbl hbA hS hd (kk H locs ls hW hS hl)
/-- the static table of kinds -/
theorem ab_kget (X : ab_X p s m args c cc own nL D ca A H0) (hz : ab_Zs ad A s s.heap) (hH : H0 = s.heap) {idx : Nat} {host : String} (hlk : Cond.fieldLinkNest own idx "PolicyForge" "KINDS" "[I" host ∈ lw_tbl.filter ab_odd) (hd : decode cc pc = .ok (.getstatic idx, 3)) (kk : ab_J p l e R s m args below meth c Q D ca A H0 nL cells slots ad N u (pc + 3) lv (ab_O 21 0 :: st)) : ab_J p l e R s m args below meth c Q D ca A H0 nL cells slots ad N u pc lv st := fun H locs ls hW hS hl => by
  subst hH
  exact va_getsN X.1 X.2.1 hz.2.2.1 hS X.2.2.2.1 (ab_odd_use rfl (X.2.2.2.2.2.2.2 _ hlk)) (fun _ h => h) hd (kk H locs ls hW hS hl)
theorem ab_kld (X : ab_X p s m args c cc own nL D ca A H0) (hz : ab_Zs ad A s s.heap) (hH : H0 = s.heap) {j : Int32} (n : Nat) (hd : decode cc pc = .ok (.iaload, 1)) (hj : j = nI n) (hn : n < 7) (kk : ab_J p l e R s m args below meth c Q D ca A H0 nL cells slots ad N u (pc + 1) lv (ab_I (ab_kinds n) :: st)) : ab_J p l e R s m args below meth c Q D ca A H0 nL cells slots ad N u pc lv (ab_I j :: ab_O 21 0 :: st) := fun H locs ls hW hS hl => by
  subst hH
  obtain ⟨hin, hcl⟩ := ab_ix hj hn (by decide)
  exact va_ti X.1 X.2.1 hz.2.2.2.1 hS hin rfl hd (by rw [hcl]; exact kk H locs ls hW hS hl)
theorem ab_klen (X : ab_X p s m args c cc own nL D ca A H0) (hz : ab_Zs ad A s s.heap) (hH : H0 = s.heap) (hd : decode cc pc = .ok (.arraylength, 1)) (kk : ab_J p l e R s m args below meth c Q D ca A H0 nL cells slots ad N u (pc + 1) lv (ab_I 7 :: st)) : ab_J p l e R s m args below meth c Q D ca A H0 nL cells slots ad N u pc lv (ab_O 21 0 :: st) := fun H locs ls hW hS hl => by
  subst hH
  exact va_tlen (ty := .int) X.1 X.2.1 hz.2.2.2.1 hS (by decide +kernel) hd (kk H locs ls hW hS hl)
end AbZ
end
section
/-! Stores that name the locals which stay. -/
def ab_k (i : Nat) (q : Nat × ab_V) : Bool := !(q.1 == i) && !(q.1 + 1 == i && ab_is2 q.2)
theorem ab_km {i j : Nat} {lv : List (Nat × ab_V)} {q : Nat × ab_V} (h : lv[j]? = some q) (n : ab_k i q = true) : q ∈ ab_ft i lv := List.mem_filter.mpr ⟨List.mem_of_getElem? h, n⟩
section AbS
variable {p : Program} {l : Launch} {e : Env} {R : Room} {s : State} {m : MethodId} {args : Array Value} {below : List Frame} {meth : Method} {c : Code} {Q : State → Prop}
variable {cc : ByteArray} {own : String} {nL : Nat} {D : va_G} {ca : Nat → ClassId} {A : Nat → Prop} {H0 : Heap} {cells slots : Nat} {ad : ab_Ad} {N : Nat → Nat} {u : ab_S} {pc : Nat} {lv : List (Nat × ab_V)} {st : List ab_V}
theorem ab_istore_n0 (X : ab_X p s m args c cc own nL D ca A H0) {i : Nat} {k : Fin 4} {x : Int32}   (hd : decode cc pc = .ok (.istore_n k, 1)) (hi : (k : Nat) = i) (hn : i < nL)  (kk : ab_J p l e R s m args below meth c Q D ca A H0 nL cells slots ad N u (pc + 1) [(i, ab_I x)] st) : ab_J p l e R s m args below meth c Q D ca A H0 nL cells slots ad N u pc lv (ab_I x :: st) := ab_istore_n X hd hi hn rfl (ab_lv (fun q hq => by
  simp only [List.mem_cons, List.not_mem_nil, or_false] at hq
  subst hq; exact List.mem_cons_self) kk)
theorem ab_istore0 (X : ab_X p s m args c cc own nL D ca A H0) {i : Nat} {x : Int32}   (hd : decode cc pc = .ok (.istore i, 2)) (hn : i < nL)  (kk : ab_J p l e R s m args below meth c Q D ca A H0 nL cells slots ad N u (pc + 2) [(i, ab_I x)] st) : ab_J p l e R s m args below meth c Q D ca A H0 nL cells slots ad N u pc lv (ab_I x :: st) := ab_istore X hd hn rfl (ab_lv (fun q hq => by
  simp only [List.mem_cons, List.not_mem_nil, or_false] at hq
  subst hq; exact List.mem_cons_self) kk)
theorem ab_astore_n0 (X : ab_X p s m args c cc own nL D ca A H0) {i : Nat} {k : Fin 4} {x : Option (Nat × Nat)}   (hd : decode cc pc = .ok (.astore_n k, 1)) (hi : (k : Nat) = i) (hn : i < nL)  (kk : ab_J p l e R s m args below meth c Q D ca A H0 nL cells slots ad N u (pc + 1) [(i, ab_R x)] st) : ab_J p l e R s m args below meth c Q D ca A H0 nL cells slots ad N u pc lv (ab_R x :: st) := ab_astore_n X hd hi hn rfl (ab_lv (fun q hq => by
  simp only [List.mem_cons, List.not_mem_nil, or_false] at hq
  subst hq; exact List.mem_cons_self) kk)
theorem ab_astore0 (X : ab_X p s m args c cc own nL D ca A H0) {i : Nat} {x : Option (Nat × Nat)}   (hd : decode cc pc = .ok (.astore i, 2)) (hn : i < nL)  (kk : ab_J p l e R s m args below meth c Q D ca A H0 nL cells slots ad N u (pc + 2) [(i, ab_R x)] st) : ab_J p l e R s m args below meth c Q D ca A H0 nL cells slots ad N u pc lv (ab_R x :: st) := ab_astore X hd hn rfl (ab_lv (fun q hq => by
  simp only [List.mem_cons, List.not_mem_nil, or_false] at hq
  subst hq; exact List.mem_cons_self) kk)
theorem ab_iinc0 (X : ab_X p s m args c cc own nL D ca A H0) {i : Nat} {n : Int} {x : Int32}  (j : Nat)  (hd : decode cc pc = .ok (.iinc i n, 3)) (hk : lv[j]? = some (i, ab_I x)) (hn : i < nL)  (kk : ab_J p l e R s m args below meth c Q D ca A H0 nL cells slots ad N u (pc + 3) [(i, ab_I (x + Int32.ofInt n))] st) : ab_J p l e R s m args below meth c Q D ca A H0 nL cells slots ad N u pc lv st := ab_iinc X j hd hk rfl hn rfl (ab_lv (fun q hq => by
  simp only [List.mem_cons, List.not_mem_nil, or_false] at hq
  subst hq; exact List.mem_cons_self) kk)
theorem ab_istore_n1 (X : ab_X p s m args c cc own nL D ca A H0) {i : Nat} {k : Fin 4} {x : Int32} {q0 : Nat × ab_V} (j0 : Nat) (hd : decode cc pc = .ok (.istore_n k, 1)) (hi : (k : Nat) = i) (hn : i < nL) (h0 : lv[j0]? = some q0) (n0 : ab_k i q0 = true) (kk : ab_J p l e R s m args below meth c Q D ca A H0 nL cells slots ad N u (pc + 1) [(i, ab_I x), q0] st) : ab_J p l e R s m args below meth c Q D ca A H0 nL cells slots ad N u pc lv (ab_I x :: st) := ab_istore_n X hd hi hn rfl (ab_lv (fun q hq => by
  simp only [List.mem_cons, List.not_mem_nil, or_false] at hq
  rcases hq with rfl | rfl
  · exact List.mem_cons_self
  · exact List.mem_cons_of_mem _ (ab_km h0 n0)) kk)
theorem ab_istore1 (X : ab_X p s m args c cc own nL D ca A H0) {i : Nat} {x : Int32} {q0 : Nat × ab_V} (j0 : Nat) (hd : decode cc pc = .ok (.istore i, 2)) (hn : i < nL) (h0 : lv[j0]? = some q0) (n0 : ab_k i q0 = true) (kk : ab_J p l e R s m args below meth c Q D ca A H0 nL cells slots ad N u (pc + 2) [(i, ab_I x), q0] st) : ab_J p l e R s m args below meth c Q D ca A H0 nL cells slots ad N u pc lv (ab_I x :: st) := ab_istore X hd hn rfl (ab_lv (fun q hq => by
  simp only [List.mem_cons, List.not_mem_nil, or_false] at hq
  rcases hq with rfl | rfl
  · exact List.mem_cons_self
  · exact List.mem_cons_of_mem _ (ab_km h0 n0)) kk)
theorem ab_astore_n1 (X : ab_X p s m args c cc own nL D ca A H0) {i : Nat} {k : Fin 4} {x : Option (Nat × Nat)} {q0 : Nat × ab_V} (j0 : Nat) (hd : decode cc pc = .ok (.astore_n k, 1)) (hi : (k : Nat) = i) (hn : i < nL) (h0 : lv[j0]? = some q0) (n0 : ab_k i q0 = true) (kk : ab_J p l e R s m args below meth c Q D ca A H0 nL cells slots ad N u (pc + 1) [(i, ab_R x), q0] st) : ab_J p l e R s m args below meth c Q D ca A H0 nL cells slots ad N u pc lv (ab_R x :: st) := ab_astore_n X hd hi hn rfl (ab_lv (fun q hq => by
  simp only [List.mem_cons, List.not_mem_nil, or_false] at hq
  rcases hq with rfl | rfl
  · exact List.mem_cons_self
  · exact List.mem_cons_of_mem _ (ab_km h0 n0)) kk)
theorem ab_astore1 (X : ab_X p s m args c cc own nL D ca A H0) {i : Nat} {x : Option (Nat × Nat)} {q0 : Nat × ab_V} (j0 : Nat) (hd : decode cc pc = .ok (.astore i, 2)) (hn : i < nL) (h0 : lv[j0]? = some q0) (n0 : ab_k i q0 = true) (kk : ab_J p l e R s m args below meth c Q D ca A H0 nL cells slots ad N u (pc + 2) [(i, ab_R x), q0] st) : ab_J p l e R s m args below meth c Q D ca A H0 nL cells slots ad N u pc lv (ab_R x :: st) := ab_astore X hd hn rfl (ab_lv (fun q hq => by
  simp only [List.mem_cons, List.not_mem_nil, or_false] at hq
  rcases hq with rfl | rfl
  · exact List.mem_cons_self
  · exact List.mem_cons_of_mem _ (ab_km h0 n0)) kk)
theorem ab_iinc1 (X : ab_X p s m args c cc own nL D ca A H0) {i : Nat} {n : Int} {x : Int32} {q0 : Nat × ab_V} (j : Nat) (j0 : Nat) (hd : decode cc pc = .ok (.iinc i n, 3)) (hk : lv[j]? = some (i, ab_I x)) (hn : i < nL) (h0 : lv[j0]? = some q0) (n0 : ab_k i q0 = true) (kk : ab_J p l e R s m args below meth c Q D ca A H0 nL cells slots ad N u (pc + 3) [(i, ab_I (x + Int32.ofInt n)), q0] st) : ab_J p l e R s m args below meth c Q D ca A H0 nL cells slots ad N u pc lv st := ab_iinc X j hd hk rfl hn rfl (ab_lv (fun q hq => by
  simp only [List.mem_cons, List.not_mem_nil, or_false] at hq
  rcases hq with rfl | rfl
  · exact List.mem_cons_self
  · exact List.mem_cons_of_mem _ (ab_km h0 n0)) kk)
theorem ab_istore_n2 (X : ab_X p s m args c cc own nL D ca A H0) {i : Nat} {k : Fin 4} {x : Int32} {q0 : Nat × ab_V} {q1 : Nat × ab_V} (j0 : Nat) (j1 : Nat) (hd : decode cc pc = .ok (.istore_n k, 1)) (hi : (k : Nat) = i) (hn : i < nL) (h0 : lv[j0]? = some q0) (n0 : ab_k i q0 = true) (h1 : lv[j1]? = some q1) (n1 : ab_k i q1 = true) (kk : ab_J p l e R s m args below meth c Q D ca A H0 nL cells slots ad N u (pc + 1) [(i, ab_I x), q0, q1] st) : ab_J p l e R s m args below meth c Q D ca A H0 nL cells slots ad N u pc lv (ab_I x :: st) := ab_istore_n X hd hi hn rfl (ab_lv (fun q hq => by
  simp only [List.mem_cons, List.not_mem_nil, or_false] at hq
  rcases hq with rfl | rfl | rfl
  · exact List.mem_cons_self
  · exact List.mem_cons_of_mem _ (ab_km h0 n0)
  · exact List.mem_cons_of_mem _ (ab_km h1 n1)) kk)
theorem ab_istore2 (X : ab_X p s m args c cc own nL D ca A H0) {i : Nat} {x : Int32} {q0 : Nat × ab_V} {q1 : Nat × ab_V} (j0 : Nat) (j1 : Nat) (hd : decode cc pc = .ok (.istore i, 2)) (hn : i < nL) (h0 : lv[j0]? = some q0) (n0 : ab_k i q0 = true) (h1 : lv[j1]? = some q1) (n1 : ab_k i q1 = true) (kk : ab_J p l e R s m args below meth c Q D ca A H0 nL cells slots ad N u (pc + 2) [(i, ab_I x), q0, q1] st) : ab_J p l e R s m args below meth c Q D ca A H0 nL cells slots ad N u pc lv (ab_I x :: st) := ab_istore X hd hn rfl (ab_lv (fun q hq => by
  simp only [List.mem_cons, List.not_mem_nil, or_false] at hq
  rcases hq with rfl | rfl | rfl
  · exact List.mem_cons_self
  · exact List.mem_cons_of_mem _ (ab_km h0 n0)
  · exact List.mem_cons_of_mem _ (ab_km h1 n1)) kk)
theorem ab_astore_n2 (X : ab_X p s m args c cc own nL D ca A H0) {i : Nat} {k : Fin 4} {x : Option (Nat × Nat)} {q0 : Nat × ab_V} {q1 : Nat × ab_V} (j0 : Nat) (j1 : Nat) (hd : decode cc pc = .ok (.astore_n k, 1)) (hi : (k : Nat) = i) (hn : i < nL) (h0 : lv[j0]? = some q0) (n0 : ab_k i q0 = true) (h1 : lv[j1]? = some q1) (n1 : ab_k i q1 = true) (kk : ab_J p l e R s m args below meth c Q D ca A H0 nL cells slots ad N u (pc + 1) [(i, ab_R x), q0, q1] st) : ab_J p l e R s m args below meth c Q D ca A H0 nL cells slots ad N u pc lv (ab_R x :: st) := ab_astore_n X hd hi hn rfl (ab_lv (fun q hq => by
  simp only [List.mem_cons, List.not_mem_nil, or_false] at hq
  rcases hq with rfl | rfl | rfl
  · exact List.mem_cons_self
  · exact List.mem_cons_of_mem _ (ab_km h0 n0)
  · exact List.mem_cons_of_mem _ (ab_km h1 n1)) kk)
theorem ab_astore2 (X : ab_X p s m args c cc own nL D ca A H0) {i : Nat} {x : Option (Nat × Nat)} {q0 : Nat × ab_V} {q1 : Nat × ab_V} (j0 : Nat) (j1 : Nat) (hd : decode cc pc = .ok (.astore i, 2)) (hn : i < nL) (h0 : lv[j0]? = some q0) (n0 : ab_k i q0 = true) (h1 : lv[j1]? = some q1) (n1 : ab_k i q1 = true) (kk : ab_J p l e R s m args below meth c Q D ca A H0 nL cells slots ad N u (pc + 2) [(i, ab_R x), q0, q1] st) : ab_J p l e R s m args below meth c Q D ca A H0 nL cells slots ad N u pc lv (ab_R x :: st) := ab_astore X hd hn rfl (ab_lv (fun q hq => by
  simp only [List.mem_cons, List.not_mem_nil, or_false] at hq
  rcases hq with rfl | rfl | rfl
  · exact List.mem_cons_self
  · exact List.mem_cons_of_mem _ (ab_km h0 n0)
  · exact List.mem_cons_of_mem _ (ab_km h1 n1)) kk)
theorem ab_iinc2 (X : ab_X p s m args c cc own nL D ca A H0) {i : Nat} {n : Int} {x : Int32} {q0 : Nat × ab_V} {q1 : Nat × ab_V} (j : Nat) (j0 : Nat) (j1 : Nat) (hd : decode cc pc = .ok (.iinc i n, 3)) (hk : lv[j]? = some (i, ab_I x)) (hn : i < nL) (h0 : lv[j0]? = some q0) (n0 : ab_k i q0 = true) (h1 : lv[j1]? = some q1) (n1 : ab_k i q1 = true) (kk : ab_J p l e R s m args below meth c Q D ca A H0 nL cells slots ad N u (pc + 3) [(i, ab_I (x + Int32.ofInt n)), q0, q1] st) : ab_J p l e R s m args below meth c Q D ca A H0 nL cells slots ad N u pc lv st := ab_iinc X j hd hk rfl hn rfl (ab_lv (fun q hq => by
  simp only [List.mem_cons, List.not_mem_nil, or_false] at hq
  rcases hq with rfl | rfl | rfl
  · exact List.mem_cons_self
  · exact List.mem_cons_of_mem _ (ab_km h0 n0)
  · exact List.mem_cons_of_mem _ (ab_km h1 n1)) kk)
theorem ab_istore_n3 (X : ab_X p s m args c cc own nL D ca A H0) {i : Nat} {k : Fin 4} {x : Int32} {q0 : Nat × ab_V} {q1 : Nat × ab_V} {q2 : Nat × ab_V} (j0 : Nat) (j1 : Nat) (j2 : Nat) (hd : decode cc pc = .ok (.istore_n k, 1)) (hi : (k : Nat) = i) (hn : i < nL) (h0 : lv[j0]? = some q0) (n0 : ab_k i q0 = true) (h1 : lv[j1]? = some q1) (n1 : ab_k i q1 = true) (h2 : lv[j2]? = some q2) (n2 : ab_k i q2 = true) (kk : ab_J p l e R s m args below meth c Q D ca A H0 nL cells slots ad N u (pc + 1) [(i, ab_I x), q0, q1, q2] st) : ab_J p l e R s m args below meth c Q D ca A H0 nL cells slots ad N u pc lv (ab_I x :: st) := ab_istore_n X hd hi hn rfl (ab_lv (fun q hq => by
  simp only [List.mem_cons, List.not_mem_nil, or_false] at hq
  rcases hq with rfl | rfl | rfl | rfl
  · exact List.mem_cons_self
  · exact List.mem_cons_of_mem _ (ab_km h0 n0)
  · exact List.mem_cons_of_mem _ (ab_km h1 n1)
  · exact List.mem_cons_of_mem _ (ab_km h2 n2)) kk)
theorem ab_istore3 (X : ab_X p s m args c cc own nL D ca A H0) {i : Nat} {x : Int32} {q0 : Nat × ab_V} {q1 : Nat × ab_V} {q2 : Nat × ab_V} (j0 : Nat) (j1 : Nat) (j2 : Nat) (hd : decode cc pc = .ok (.istore i, 2)) (hn : i < nL) (h0 : lv[j0]? = some q0) (n0 : ab_k i q0 = true) (h1 : lv[j1]? = some q1) (n1 : ab_k i q1 = true) (h2 : lv[j2]? = some q2) (n2 : ab_k i q2 = true) (kk : ab_J p l e R s m args below meth c Q D ca A H0 nL cells slots ad N u (pc + 2) [(i, ab_I x), q0, q1, q2] st) : ab_J p l e R s m args below meth c Q D ca A H0 nL cells slots ad N u pc lv (ab_I x :: st) := ab_istore X hd hn rfl (ab_lv (fun q hq => by
  simp only [List.mem_cons, List.not_mem_nil, or_false] at hq
  rcases hq with rfl | rfl | rfl | rfl
  · exact List.mem_cons_self
  · exact List.mem_cons_of_mem _ (ab_km h0 n0)
  · exact List.mem_cons_of_mem _ (ab_km h1 n1)
  · exact List.mem_cons_of_mem _ (ab_km h2 n2)) kk)
theorem ab_astore_n3 (X : ab_X p s m args c cc own nL D ca A H0) {i : Nat} {k : Fin 4} {x : Option (Nat × Nat)} {q0 : Nat × ab_V} {q1 : Nat × ab_V} {q2 : Nat × ab_V} (j0 : Nat) (j1 : Nat) (j2 : Nat) (hd : decode cc pc = .ok (.astore_n k, 1)) (hi : (k : Nat) = i) (hn : i < nL) (h0 : lv[j0]? = some q0) (n0 : ab_k i q0 = true) (h1 : lv[j1]? = some q1) (n1 : ab_k i q1 = true) (h2 : lv[j2]? = some q2) (n2 : ab_k i q2 = true) (kk : ab_J p l e R s m args below meth c Q D ca A H0 nL cells slots ad N u (pc + 1) [(i, ab_R x), q0, q1, q2] st) : ab_J p l e R s m args below meth c Q D ca A H0 nL cells slots ad N u pc lv (ab_R x :: st) := ab_astore_n X hd hi hn rfl (ab_lv (fun q hq => by
  simp only [List.mem_cons, List.not_mem_nil, or_false] at hq
  rcases hq with rfl | rfl | rfl | rfl
  · exact List.mem_cons_self
  · exact List.mem_cons_of_mem _ (ab_km h0 n0)
  · exact List.mem_cons_of_mem _ (ab_km h1 n1)
  · exact List.mem_cons_of_mem _ (ab_km h2 n2)) kk)
theorem ab_astore3 (X : ab_X p s m args c cc own nL D ca A H0) {i : Nat} {x : Option (Nat × Nat)} {q0 : Nat × ab_V} {q1 : Nat × ab_V} {q2 : Nat × ab_V} (j0 : Nat) (j1 : Nat) (j2 : Nat) (hd : decode cc pc = .ok (.astore i, 2)) (hn : i < nL) (h0 : lv[j0]? = some q0) (n0 : ab_k i q0 = true) (h1 : lv[j1]? = some q1) (n1 : ab_k i q1 = true) (h2 : lv[j2]? = some q2) (n2 : ab_k i q2 = true) (kk : ab_J p l e R s m args below meth c Q D ca A H0 nL cells slots ad N u (pc + 2) [(i, ab_R x), q0, q1, q2] st) : ab_J p l e R s m args below meth c Q D ca A H0 nL cells slots ad N u pc lv (ab_R x :: st) := ab_astore X hd hn rfl (ab_lv (fun q hq => by
  simp only [List.mem_cons, List.not_mem_nil, or_false] at hq
  rcases hq with rfl | rfl | rfl | rfl
  · exact List.mem_cons_self
  · exact List.mem_cons_of_mem _ (ab_km h0 n0)
  · exact List.mem_cons_of_mem _ (ab_km h1 n1)
  · exact List.mem_cons_of_mem _ (ab_km h2 n2)) kk)
theorem ab_iinc3 (X : ab_X p s m args c cc own nL D ca A H0) {i : Nat} {n : Int} {x : Int32} {q0 : Nat × ab_V} {q1 : Nat × ab_V} {q2 : Nat × ab_V} (j : Nat) (j0 : Nat) (j1 : Nat) (j2 : Nat) (hd : decode cc pc = .ok (.iinc i n, 3)) (hk : lv[j]? = some (i, ab_I x)) (hn : i < nL) (h0 : lv[j0]? = some q0) (n0 : ab_k i q0 = true) (h1 : lv[j1]? = some q1) (n1 : ab_k i q1 = true) (h2 : lv[j2]? = some q2) (n2 : ab_k i q2 = true) (kk : ab_J p l e R s m args below meth c Q D ca A H0 nL cells slots ad N u (pc + 3) [(i, ab_I (x + Int32.ofInt n)), q0, q1, q2] st) : ab_J p l e R s m args below meth c Q D ca A H0 nL cells slots ad N u pc lv st := ab_iinc X j hd hk rfl hn rfl (ab_lv (fun q hq => by
  simp only [List.mem_cons, List.not_mem_nil, or_false] at hq
  rcases hq with rfl | rfl | rfl | rfl
  · exact List.mem_cons_self
  · exact List.mem_cons_of_mem _ (ab_km h0 n0)
  · exact List.mem_cons_of_mem _ (ab_km h1 n1)
  · exact List.mem_cons_of_mem _ (ab_km h2 n2)) kk)
theorem ab_istore_n4 (X : ab_X p s m args c cc own nL D ca A H0) {i : Nat} {k : Fin 4} {x : Int32} {q0 : Nat × ab_V} {q1 : Nat × ab_V} {q2 : Nat × ab_V} {q3 : Nat × ab_V} (j0 : Nat) (j1 : Nat) (j2 : Nat) (j3 : Nat) (hd : decode cc pc = .ok (.istore_n k, 1)) (hi : (k : Nat) = i) (hn : i < nL) (h0 : lv[j0]? = some q0) (n0 : ab_k i q0 = true) (h1 : lv[j1]? = some q1) (n1 : ab_k i q1 = true) (h2 : lv[j2]? = some q2) (n2 : ab_k i q2 = true) (h3 : lv[j3]? = some q3) (n3 : ab_k i q3 = true) (kk : ab_J p l e R s m args below meth c Q D ca A H0 nL cells slots ad N u (pc + 1) [(i, ab_I x), q0, q1, q2, q3] st) : ab_J p l e R s m args below meth c Q D ca A H0 nL cells slots ad N u pc lv (ab_I x :: st) := ab_istore_n X hd hi hn rfl (ab_lv (fun q hq => by
  simp only [List.mem_cons, List.not_mem_nil, or_false] at hq
  rcases hq with rfl | rfl | rfl | rfl | rfl
  · exact List.mem_cons_self
  · exact List.mem_cons_of_mem _ (ab_km h0 n0)
  · exact List.mem_cons_of_mem _ (ab_km h1 n1)
  · exact List.mem_cons_of_mem _ (ab_km h2 n2)
  · exact List.mem_cons_of_mem _ (ab_km h3 n3)) kk)
theorem ab_istore4 (X : ab_X p s m args c cc own nL D ca A H0) {i : Nat} {x : Int32} {q0 : Nat × ab_V} {q1 : Nat × ab_V} {q2 : Nat × ab_V} {q3 : Nat × ab_V} (j0 : Nat) (j1 : Nat) (j2 : Nat) (j3 : Nat) (hd : decode cc pc = .ok (.istore i, 2)) (hn : i < nL) (h0 : lv[j0]? = some q0) (n0 : ab_k i q0 = true) (h1 : lv[j1]? = some q1) (n1 : ab_k i q1 = true) (h2 : lv[j2]? = some q2) (n2 : ab_k i q2 = true) (h3 : lv[j3]? = some q3) (n3 : ab_k i q3 = true) (kk : ab_J p l e R s m args below meth c Q D ca A H0 nL cells slots ad N u (pc + 2) [(i, ab_I x), q0, q1, q2, q3] st) : ab_J p l e R s m args below meth c Q D ca A H0 nL cells slots ad N u pc lv (ab_I x :: st) := ab_istore X hd hn rfl (ab_lv (fun q hq => by
  simp only [List.mem_cons, List.not_mem_nil, or_false] at hq
  rcases hq with rfl | rfl | rfl | rfl | rfl
  · exact List.mem_cons_self
  · exact List.mem_cons_of_mem _ (ab_km h0 n0)
  · exact List.mem_cons_of_mem _ (ab_km h1 n1)
  · exact List.mem_cons_of_mem _ (ab_km h2 n2)
  · exact List.mem_cons_of_mem _ (ab_km h3 n3)) kk)
theorem ab_astore_n4 (X : ab_X p s m args c cc own nL D ca A H0) {i : Nat} {k : Fin 4} {x : Option (Nat × Nat)} {q0 : Nat × ab_V} {q1 : Nat × ab_V} {q2 : Nat × ab_V} {q3 : Nat × ab_V} (j0 : Nat) (j1 : Nat) (j2 : Nat) (j3 : Nat) (hd : decode cc pc = .ok (.astore_n k, 1)) (hi : (k : Nat) = i) (hn : i < nL) (h0 : lv[j0]? = some q0) (n0 : ab_k i q0 = true) (h1 : lv[j1]? = some q1) (n1 : ab_k i q1 = true) (h2 : lv[j2]? = some q2) (n2 : ab_k i q2 = true) (h3 : lv[j3]? = some q3) (n3 : ab_k i q3 = true) (kk : ab_J p l e R s m args below meth c Q D ca A H0 nL cells slots ad N u (pc + 1) [(i, ab_R x), q0, q1, q2, q3] st) : ab_J p l e R s m args below meth c Q D ca A H0 nL cells slots ad N u pc lv (ab_R x :: st) := ab_astore_n X hd hi hn rfl (ab_lv (fun q hq => by
  simp only [List.mem_cons, List.not_mem_nil, or_false] at hq
  rcases hq with rfl | rfl | rfl | rfl | rfl
  · exact List.mem_cons_self
  · exact List.mem_cons_of_mem _ (ab_km h0 n0)
  · exact List.mem_cons_of_mem _ (ab_km h1 n1)
  · exact List.mem_cons_of_mem _ (ab_km h2 n2)
  · exact List.mem_cons_of_mem _ (ab_km h3 n3)) kk)
theorem ab_astore4 (X : ab_X p s m args c cc own nL D ca A H0) {i : Nat} {x : Option (Nat × Nat)} {q0 : Nat × ab_V} {q1 : Nat × ab_V} {q2 : Nat × ab_V} {q3 : Nat × ab_V} (j0 : Nat) (j1 : Nat) (j2 : Nat) (j3 : Nat) (hd : decode cc pc = .ok (.astore i, 2)) (hn : i < nL) (h0 : lv[j0]? = some q0) (n0 : ab_k i q0 = true) (h1 : lv[j1]? = some q1) (n1 : ab_k i q1 = true) (h2 : lv[j2]? = some q2) (n2 : ab_k i q2 = true) (h3 : lv[j3]? = some q3) (n3 : ab_k i q3 = true) (kk : ab_J p l e R s m args below meth c Q D ca A H0 nL cells slots ad N u (pc + 2) [(i, ab_R x), q0, q1, q2, q3] st) : ab_J p l e R s m args below meth c Q D ca A H0 nL cells slots ad N u pc lv (ab_R x :: st) := ab_astore X hd hn rfl (ab_lv (fun q hq => by
  simp only [List.mem_cons, List.not_mem_nil, or_false] at hq
  rcases hq with rfl | rfl | rfl | rfl | rfl
  · exact List.mem_cons_self
  · exact List.mem_cons_of_mem _ (ab_km h0 n0)
  · exact List.mem_cons_of_mem _ (ab_km h1 n1)
  · exact List.mem_cons_of_mem _ (ab_km h2 n2)
  · exact List.mem_cons_of_mem _ (ab_km h3 n3)) kk)
theorem ab_iinc4 (X : ab_X p s m args c cc own nL D ca A H0) {i : Nat} {n : Int} {x : Int32} {q0 : Nat × ab_V} {q1 : Nat × ab_V} {q2 : Nat × ab_V} {q3 : Nat × ab_V} (j : Nat) (j0 : Nat) (j1 : Nat) (j2 : Nat) (j3 : Nat) (hd : decode cc pc = .ok (.iinc i n, 3)) (hk : lv[j]? = some (i, ab_I x)) (hn : i < nL) (h0 : lv[j0]? = some q0) (n0 : ab_k i q0 = true) (h1 : lv[j1]? = some q1) (n1 : ab_k i q1 = true) (h2 : lv[j2]? = some q2) (n2 : ab_k i q2 = true) (h3 : lv[j3]? = some q3) (n3 : ab_k i q3 = true) (kk : ab_J p l e R s m args below meth c Q D ca A H0 nL cells slots ad N u (pc + 3) [(i, ab_I (x + Int32.ofInt n)), q0, q1, q2, q3] st) : ab_J p l e R s m args below meth c Q D ca A H0 nL cells slots ad N u pc lv st := ab_iinc X j hd hk rfl hn rfl (ab_lv (fun q hq => by
  simp only [List.mem_cons, List.not_mem_nil, or_false] at hq
  rcases hq with rfl | rfl | rfl | rfl | rfl
  · exact List.mem_cons_self
  · exact List.mem_cons_of_mem _ (ab_km h0 n0)
  · exact List.mem_cons_of_mem _ (ab_km h1 n1)
  · exact List.mem_cons_of_mem _ (ab_km h2 n2)
  · exact List.mem_cons_of_mem _ (ab_km h3 n3)) kk)
theorem ab_istore_n5 (X : ab_X p s m args c cc own nL D ca A H0) {i : Nat} {k : Fin 4} {x : Int32} {q0 : Nat × ab_V} {q1 : Nat × ab_V} {q2 : Nat × ab_V} {q3 : Nat × ab_V} {q4 : Nat × ab_V} (j0 : Nat) (j1 : Nat) (j2 : Nat) (j3 : Nat) (j4 : Nat) (hd : decode cc pc = .ok (.istore_n k, 1)) (hi : (k : Nat) = i) (hn : i < nL) (h0 : lv[j0]? = some q0) (n0 : ab_k i q0 = true) (h1 : lv[j1]? = some q1) (n1 : ab_k i q1 = true) (h2 : lv[j2]? = some q2) (n2 : ab_k i q2 = true) (h3 : lv[j3]? = some q3) (n3 : ab_k i q3 = true) (h4 : lv[j4]? = some q4) (n4 : ab_k i q4 = true) (kk : ab_J p l e R s m args below meth c Q D ca A H0 nL cells slots ad N u (pc + 1) [(i, ab_I x), q0, q1, q2, q3, q4] st) : ab_J p l e R s m args below meth c Q D ca A H0 nL cells slots ad N u pc lv (ab_I x :: st) := ab_istore_n X hd hi hn rfl (ab_lv (fun q hq => by
  simp only [List.mem_cons, List.not_mem_nil, or_false] at hq
  rcases hq with rfl | rfl | rfl | rfl | rfl | rfl
  · exact List.mem_cons_self
  · exact List.mem_cons_of_mem _ (ab_km h0 n0)
  · exact List.mem_cons_of_mem _ (ab_km h1 n1)
  · exact List.mem_cons_of_mem _ (ab_km h2 n2)
  · exact List.mem_cons_of_mem _ (ab_km h3 n3)
  · exact List.mem_cons_of_mem _ (ab_km h4 n4)) kk)
theorem ab_istore5 (X : ab_X p s m args c cc own nL D ca A H0) {i : Nat} {x : Int32} {q0 : Nat × ab_V} {q1 : Nat × ab_V} {q2 : Nat × ab_V} {q3 : Nat × ab_V} {q4 : Nat × ab_V} (j0 : Nat) (j1 : Nat) (j2 : Nat) (j3 : Nat) (j4 : Nat) (hd : decode cc pc = .ok (.istore i, 2)) (hn : i < nL) (h0 : lv[j0]? = some q0) (n0 : ab_k i q0 = true) (h1 : lv[j1]? = some q1) (n1 : ab_k i q1 = true) (h2 : lv[j2]? = some q2) (n2 : ab_k i q2 = true) (h3 : lv[j3]? = some q3) (n3 : ab_k i q3 = true) (h4 : lv[j4]? = some q4) (n4 : ab_k i q4 = true) (kk : ab_J p l e R s m args below meth c Q D ca A H0 nL cells slots ad N u (pc + 2) [(i, ab_I x), q0, q1, q2, q3, q4] st) : ab_J p l e R s m args below meth c Q D ca A H0 nL cells slots ad N u pc lv (ab_I x :: st) := ab_istore X hd hn rfl (ab_lv (fun q hq => by
  simp only [List.mem_cons, List.not_mem_nil, or_false] at hq
  rcases hq with rfl | rfl | rfl | rfl | rfl | rfl
  · exact List.mem_cons_self
  · exact List.mem_cons_of_mem _ (ab_km h0 n0)
  · exact List.mem_cons_of_mem _ (ab_km h1 n1)
  · exact List.mem_cons_of_mem _ (ab_km h2 n2)
  · exact List.mem_cons_of_mem _ (ab_km h3 n3)
  · exact List.mem_cons_of_mem _ (ab_km h4 n4)) kk)
theorem ab_astore_n5 (X : ab_X p s m args c cc own nL D ca A H0) {i : Nat} {k : Fin 4} {x : Option (Nat × Nat)} {q0 : Nat × ab_V} {q1 : Nat × ab_V} {q2 : Nat × ab_V} {q3 : Nat × ab_V} {q4 : Nat × ab_V} (j0 : Nat) (j1 : Nat) (j2 : Nat) (j3 : Nat) (j4 : Nat) (hd : decode cc pc = .ok (.astore_n k, 1)) (hi : (k : Nat) = i) (hn : i < nL) (h0 : lv[j0]? = some q0) (n0 : ab_k i q0 = true) (h1 : lv[j1]? = some q1) (n1 : ab_k i q1 = true) (h2 : lv[j2]? = some q2) (n2 : ab_k i q2 = true) (h3 : lv[j3]? = some q3) (n3 : ab_k i q3 = true) (h4 : lv[j4]? = some q4) (n4 : ab_k i q4 = true) (kk : ab_J p l e R s m args below meth c Q D ca A H0 nL cells slots ad N u (pc + 1) [(i, ab_R x), q0, q1, q2, q3, q4] st) : ab_J p l e R s m args below meth c Q D ca A H0 nL cells slots ad N u pc lv (ab_R x :: st) := ab_astore_n X hd hi hn rfl (ab_lv (fun q hq => by
  simp only [List.mem_cons, List.not_mem_nil, or_false] at hq
  rcases hq with rfl | rfl | rfl | rfl | rfl | rfl
  · exact List.mem_cons_self
  · exact List.mem_cons_of_mem _ (ab_km h0 n0)
  · exact List.mem_cons_of_mem _ (ab_km h1 n1)
  · exact List.mem_cons_of_mem _ (ab_km h2 n2)
  · exact List.mem_cons_of_mem _ (ab_km h3 n3)
  · exact List.mem_cons_of_mem _ (ab_km h4 n4)) kk)
theorem ab_astore5 (X : ab_X p s m args c cc own nL D ca A H0) {i : Nat} {x : Option (Nat × Nat)} {q0 : Nat × ab_V} {q1 : Nat × ab_V} {q2 : Nat × ab_V} {q3 : Nat × ab_V} {q4 : Nat × ab_V} (j0 : Nat) (j1 : Nat) (j2 : Nat) (j3 : Nat) (j4 : Nat) (hd : decode cc pc = .ok (.astore i, 2)) (hn : i < nL) (h0 : lv[j0]? = some q0) (n0 : ab_k i q0 = true) (h1 : lv[j1]? = some q1) (n1 : ab_k i q1 = true) (h2 : lv[j2]? = some q2) (n2 : ab_k i q2 = true) (h3 : lv[j3]? = some q3) (n3 : ab_k i q3 = true) (h4 : lv[j4]? = some q4) (n4 : ab_k i q4 = true) (kk : ab_J p l e R s m args below meth c Q D ca A H0 nL cells slots ad N u (pc + 2) [(i, ab_R x), q0, q1, q2, q3, q4] st) : ab_J p l e R s m args below meth c Q D ca A H0 nL cells slots ad N u pc lv (ab_R x :: st) := ab_astore X hd hn rfl (ab_lv (fun q hq => by
  simp only [List.mem_cons, List.not_mem_nil, or_false] at hq
  rcases hq with rfl | rfl | rfl | rfl | rfl | rfl
  · exact List.mem_cons_self
  · exact List.mem_cons_of_mem _ (ab_km h0 n0)
  · exact List.mem_cons_of_mem _ (ab_km h1 n1)
  · exact List.mem_cons_of_mem _ (ab_km h2 n2)
  · exact List.mem_cons_of_mem _ (ab_km h3 n3)
  · exact List.mem_cons_of_mem _ (ab_km h4 n4)) kk)
theorem ab_iinc5 (X : ab_X p s m args c cc own nL D ca A H0) {i : Nat} {n : Int} {x : Int32} {q0 : Nat × ab_V} {q1 : Nat × ab_V} {q2 : Nat × ab_V} {q3 : Nat × ab_V} {q4 : Nat × ab_V} (j : Nat) (j0 : Nat) (j1 : Nat) (j2 : Nat) (j3 : Nat) (j4 : Nat) (hd : decode cc pc = .ok (.iinc i n, 3)) (hk : lv[j]? = some (i, ab_I x)) (hn : i < nL) (h0 : lv[j0]? = some q0) (n0 : ab_k i q0 = true) (h1 : lv[j1]? = some q1) (n1 : ab_k i q1 = true) (h2 : lv[j2]? = some q2) (n2 : ab_k i q2 = true) (h3 : lv[j3]? = some q3) (n3 : ab_k i q3 = true) (h4 : lv[j4]? = some q4) (n4 : ab_k i q4 = true) (kk : ab_J p l e R s m args below meth c Q D ca A H0 nL cells slots ad N u (pc + 3) [(i, ab_I (x + Int32.ofInt n)), q0, q1, q2, q3, q4] st) : ab_J p l e R s m args below meth c Q D ca A H0 nL cells slots ad N u pc lv st := ab_iinc X j hd hk rfl hn rfl (ab_lv (fun q hq => by
  simp only [List.mem_cons, List.not_mem_nil, or_false] at hq
  rcases hq with rfl | rfl | rfl | rfl | rfl | rfl
  · exact List.mem_cons_self
  · exact List.mem_cons_of_mem _ (ab_km h0 n0)
  · exact List.mem_cons_of_mem _ (ab_km h1 n1)
  · exact List.mem_cons_of_mem _ (ab_km h2 n2)
  · exact List.mem_cons_of_mem _ (ab_km h3 n3)
  · exact List.mem_cons_of_mem _ (ab_km h4 n4)) kk)
theorem ab_istore_n6 (X : ab_X p s m args c cc own nL D ca A H0) {i : Nat} {k : Fin 4} {x : Int32} {q0 : Nat × ab_V} {q1 : Nat × ab_V} {q2 : Nat × ab_V} {q3 : Nat × ab_V} {q4 : Nat × ab_V} {q5 : Nat × ab_V} (j0 : Nat) (j1 : Nat) (j2 : Nat) (j3 : Nat) (j4 : Nat) (j5 : Nat) (hd : decode cc pc = .ok (.istore_n k, 1)) (hi : (k : Nat) = i) (hn : i < nL) (h0 : lv[j0]? = some q0) (n0 : ab_k i q0 = true) (h1 : lv[j1]? = some q1) (n1 : ab_k i q1 = true) (h2 : lv[j2]? = some q2) (n2 : ab_k i q2 = true) (h3 : lv[j3]? = some q3) (n3 : ab_k i q3 = true) (h4 : lv[j4]? = some q4) (n4 : ab_k i q4 = true) (h5 : lv[j5]? = some q5) (n5 : ab_k i q5 = true) (kk : ab_J p l e R s m args below meth c Q D ca A H0 nL cells slots ad N u (pc + 1) [(i, ab_I x), q0, q1, q2, q3, q4, q5] st) : ab_J p l e R s m args below meth c Q D ca A H0 nL cells slots ad N u pc lv (ab_I x :: st) := ab_istore_n X hd hi hn rfl (ab_lv (fun q hq => by
  simp only [List.mem_cons, List.not_mem_nil, or_false] at hq
  rcases hq with rfl | rfl | rfl | rfl | rfl | rfl | rfl
  · exact List.mem_cons_self
  · exact List.mem_cons_of_mem _ (ab_km h0 n0)
  · exact List.mem_cons_of_mem _ (ab_km h1 n1)
  · exact List.mem_cons_of_mem _ (ab_km h2 n2)
  · exact List.mem_cons_of_mem _ (ab_km h3 n3)
  · exact List.mem_cons_of_mem _ (ab_km h4 n4)
  · exact List.mem_cons_of_mem _ (ab_km h5 n5)) kk)
theorem ab_istore6 (X : ab_X p s m args c cc own nL D ca A H0) {i : Nat} {x : Int32} {q0 : Nat × ab_V} {q1 : Nat × ab_V} {q2 : Nat × ab_V} {q3 : Nat × ab_V} {q4 : Nat × ab_V} {q5 : Nat × ab_V} (j0 : Nat) (j1 : Nat) (j2 : Nat) (j3 : Nat) (j4 : Nat) (j5 : Nat) (hd : decode cc pc = .ok (.istore i, 2)) (hn : i < nL) (h0 : lv[j0]? = some q0) (n0 : ab_k i q0 = true) (h1 : lv[j1]? = some q1) (n1 : ab_k i q1 = true) (h2 : lv[j2]? = some q2) (n2 : ab_k i q2 = true) (h3 : lv[j3]? = some q3) (n3 : ab_k i q3 = true) (h4 : lv[j4]? = some q4) (n4 : ab_k i q4 = true) (h5 : lv[j5]? = some q5) (n5 : ab_k i q5 = true) (kk : ab_J p l e R s m args below meth c Q D ca A H0 nL cells slots ad N u (pc + 2) [(i, ab_I x), q0, q1, q2, q3, q4, q5] st) : ab_J p l e R s m args below meth c Q D ca A H0 nL cells slots ad N u pc lv (ab_I x :: st) := ab_istore X hd hn rfl (ab_lv (fun q hq => by
  simp only [List.mem_cons, List.not_mem_nil, or_false] at hq
  rcases hq with rfl | rfl | rfl | rfl | rfl | rfl | rfl
  · exact List.mem_cons_self
  · exact List.mem_cons_of_mem _ (ab_km h0 n0)
  · exact List.mem_cons_of_mem _ (ab_km h1 n1)
  · exact List.mem_cons_of_mem _ (ab_km h2 n2)
  · exact List.mem_cons_of_mem _ (ab_km h3 n3)
  · exact List.mem_cons_of_mem _ (ab_km h4 n4)
  · exact List.mem_cons_of_mem _ (ab_km h5 n5)) kk)
theorem ab_astore_n6 (X : ab_X p s m args c cc own nL D ca A H0) {i : Nat} {k : Fin 4} {x : Option (Nat × Nat)} {q0 : Nat × ab_V} {q1 : Nat × ab_V} {q2 : Nat × ab_V} {q3 : Nat × ab_V} {q4 : Nat × ab_V} {q5 : Nat × ab_V} (j0 : Nat) (j1 : Nat) (j2 : Nat) (j3 : Nat) (j4 : Nat) (j5 : Nat) (hd : decode cc pc = .ok (.astore_n k, 1)) (hi : (k : Nat) = i) (hn : i < nL) (h0 : lv[j0]? = some q0) (n0 : ab_k i q0 = true) (h1 : lv[j1]? = some q1) (n1 : ab_k i q1 = true) (h2 : lv[j2]? = some q2) (n2 : ab_k i q2 = true) (h3 : lv[j3]? = some q3) (n3 : ab_k i q3 = true) (h4 : lv[j4]? = some q4) (n4 : ab_k i q4 = true) (h5 : lv[j5]? = some q5) (n5 : ab_k i q5 = true) (kk : ab_J p l e R s m args below meth c Q D ca A H0 nL cells slots ad N u (pc + 1) [(i, ab_R x), q0, q1, q2, q3, q4, q5] st) : ab_J p l e R s m args below meth c Q D ca A H0 nL cells slots ad N u pc lv (ab_R x :: st) := ab_astore_n X hd hi hn rfl (ab_lv (fun q hq => by
  simp only [List.mem_cons, List.not_mem_nil, or_false] at hq
  rcases hq with rfl | rfl | rfl | rfl | rfl | rfl | rfl
  · exact List.mem_cons_self
  · exact List.mem_cons_of_mem _ (ab_km h0 n0)
  · exact List.mem_cons_of_mem _ (ab_km h1 n1)
  · exact List.mem_cons_of_mem _ (ab_km h2 n2)
  · exact List.mem_cons_of_mem _ (ab_km h3 n3)
  · exact List.mem_cons_of_mem _ (ab_km h4 n4)
  · exact List.mem_cons_of_mem _ (ab_km h5 n5)) kk)
theorem ab_astore6 (X : ab_X p s m args c cc own nL D ca A H0) {i : Nat} {x : Option (Nat × Nat)} {q0 : Nat × ab_V} {q1 : Nat × ab_V} {q2 : Nat × ab_V} {q3 : Nat × ab_V} {q4 : Nat × ab_V} {q5 : Nat × ab_V} (j0 : Nat) (j1 : Nat) (j2 : Nat) (j3 : Nat) (j4 : Nat) (j5 : Nat) (hd : decode cc pc = .ok (.astore i, 2)) (hn : i < nL) (h0 : lv[j0]? = some q0) (n0 : ab_k i q0 = true) (h1 : lv[j1]? = some q1) (n1 : ab_k i q1 = true) (h2 : lv[j2]? = some q2) (n2 : ab_k i q2 = true) (h3 : lv[j3]? = some q3) (n3 : ab_k i q3 = true) (h4 : lv[j4]? = some q4) (n4 : ab_k i q4 = true) (h5 : lv[j5]? = some q5) (n5 : ab_k i q5 = true) (kk : ab_J p l e R s m args below meth c Q D ca A H0 nL cells slots ad N u (pc + 2) [(i, ab_R x), q0, q1, q2, q3, q4, q5] st) : ab_J p l e R s m args below meth c Q D ca A H0 nL cells slots ad N u pc lv (ab_R x :: st) := ab_astore X hd hn rfl (ab_lv (fun q hq => by
  simp only [List.mem_cons, List.not_mem_nil, or_false] at hq
  rcases hq with rfl | rfl | rfl | rfl | rfl | rfl | rfl
  · exact List.mem_cons_self
  · exact List.mem_cons_of_mem _ (ab_km h0 n0)
  · exact List.mem_cons_of_mem _ (ab_km h1 n1)
  · exact List.mem_cons_of_mem _ (ab_km h2 n2)
  · exact List.mem_cons_of_mem _ (ab_km h3 n3)
  · exact List.mem_cons_of_mem _ (ab_km h4 n4)
  · exact List.mem_cons_of_mem _ (ab_km h5 n5)) kk)
theorem ab_iinc6 (X : ab_X p s m args c cc own nL D ca A H0) {i : Nat} {n : Int} {x : Int32} {q0 : Nat × ab_V} {q1 : Nat × ab_V} {q2 : Nat × ab_V} {q3 : Nat × ab_V} {q4 : Nat × ab_V} {q5 : Nat × ab_V} (j : Nat) (j0 : Nat) (j1 : Nat) (j2 : Nat) (j3 : Nat) (j4 : Nat) (j5 : Nat) (hd : decode cc pc = .ok (.iinc i n, 3)) (hk : lv[j]? = some (i, ab_I x)) (hn : i < nL) (h0 : lv[j0]? = some q0) (n0 : ab_k i q0 = true) (h1 : lv[j1]? = some q1) (n1 : ab_k i q1 = true) (h2 : lv[j2]? = some q2) (n2 : ab_k i q2 = true) (h3 : lv[j3]? = some q3) (n3 : ab_k i q3 = true) (h4 : lv[j4]? = some q4) (n4 : ab_k i q4 = true) (h5 : lv[j5]? = some q5) (n5 : ab_k i q5 = true) (kk : ab_J p l e R s m args below meth c Q D ca A H0 nL cells slots ad N u (pc + 3) [(i, ab_I (x + Int32.ofInt n)), q0, q1, q2, q3, q4, q5] st) : ab_J p l e R s m args below meth c Q D ca A H0 nL cells slots ad N u pc lv st := ab_iinc X j hd hk rfl hn rfl (ab_lv (fun q hq => by
  simp only [List.mem_cons, List.not_mem_nil, or_false] at hq
  rcases hq with rfl | rfl | rfl | rfl | rfl | rfl | rfl
  · exact List.mem_cons_self
  · exact List.mem_cons_of_mem _ (ab_km h0 n0)
  · exact List.mem_cons_of_mem _ (ab_km h1 n1)
  · exact List.mem_cons_of_mem _ (ab_km h2 n2)
  · exact List.mem_cons_of_mem _ (ab_km h3 n3)
  · exact List.mem_cons_of_mem _ (ab_km h4 n4)
  · exact List.mem_cons_of_mem _ (ab_km h5 n5)) kk)
theorem ab_istore_n7 (X : ab_X p s m args c cc own nL D ca A H0) {i : Nat} {k : Fin 4} {x : Int32} {q0 : Nat × ab_V} {q1 : Nat × ab_V} {q2 : Nat × ab_V} {q3 : Nat × ab_V} {q4 : Nat × ab_V} {q5 : Nat × ab_V} {q6 : Nat × ab_V} (j0 : Nat) (j1 : Nat) (j2 : Nat) (j3 : Nat) (j4 : Nat) (j5 : Nat) (j6 : Nat) (hd : decode cc pc = .ok (.istore_n k, 1)) (hi : (k : Nat) = i) (hn : i < nL) (h0 : lv[j0]? = some q0) (n0 : ab_k i q0 = true) (h1 : lv[j1]? = some q1) (n1 : ab_k i q1 = true) (h2 : lv[j2]? = some q2) (n2 : ab_k i q2 = true) (h3 : lv[j3]? = some q3) (n3 : ab_k i q3 = true) (h4 : lv[j4]? = some q4) (n4 : ab_k i q4 = true) (h5 : lv[j5]? = some q5) (n5 : ab_k i q5 = true) (h6 : lv[j6]? = some q6) (n6 : ab_k i q6 = true) (kk : ab_J p l e R s m args below meth c Q D ca A H0 nL cells slots ad N u (pc + 1) [(i, ab_I x), q0, q1, q2, q3, q4, q5, q6] st) : ab_J p l e R s m args below meth c Q D ca A H0 nL cells slots ad N u pc lv (ab_I x :: st) := ab_istore_n X hd hi hn rfl (ab_lv (fun q hq => by
  simp only [List.mem_cons, List.not_mem_nil, or_false] at hq
  rcases hq with rfl | rfl | rfl | rfl | rfl | rfl | rfl | rfl
  · exact List.mem_cons_self
  · exact List.mem_cons_of_mem _ (ab_km h0 n0)
  · exact List.mem_cons_of_mem _ (ab_km h1 n1)
  · exact List.mem_cons_of_mem _ (ab_km h2 n2)
  · exact List.mem_cons_of_mem _ (ab_km h3 n3)
  · exact List.mem_cons_of_mem _ (ab_km h4 n4)
  · exact List.mem_cons_of_mem _ (ab_km h5 n5)
  · exact List.mem_cons_of_mem _ (ab_km h6 n6)) kk)
theorem ab_istore7 (X : ab_X p s m args c cc own nL D ca A H0) {i : Nat} {x : Int32} {q0 : Nat × ab_V} {q1 : Nat × ab_V} {q2 : Nat × ab_V} {q3 : Nat × ab_V} {q4 : Nat × ab_V} {q5 : Nat × ab_V} {q6 : Nat × ab_V} (j0 : Nat) (j1 : Nat) (j2 : Nat) (j3 : Nat) (j4 : Nat) (j5 : Nat) (j6 : Nat) (hd : decode cc pc = .ok (.istore i, 2)) (hn : i < nL) (h0 : lv[j0]? = some q0) (n0 : ab_k i q0 = true) (h1 : lv[j1]? = some q1) (n1 : ab_k i q1 = true) (h2 : lv[j2]? = some q2) (n2 : ab_k i q2 = true) (h3 : lv[j3]? = some q3) (n3 : ab_k i q3 = true) (h4 : lv[j4]? = some q4) (n4 : ab_k i q4 = true) (h5 : lv[j5]? = some q5) (n5 : ab_k i q5 = true) (h6 : lv[j6]? = some q6) (n6 : ab_k i q6 = true) (kk : ab_J p l e R s m args below meth c Q D ca A H0 nL cells slots ad N u (pc + 2) [(i, ab_I x), q0, q1, q2, q3, q4, q5, q6] st) : ab_J p l e R s m args below meth c Q D ca A H0 nL cells slots ad N u pc lv (ab_I x :: st) := ab_istore X hd hn rfl (ab_lv (fun q hq => by
  simp only [List.mem_cons, List.not_mem_nil, or_false] at hq
  rcases hq with rfl | rfl | rfl | rfl | rfl | rfl | rfl | rfl
  · exact List.mem_cons_self
  · exact List.mem_cons_of_mem _ (ab_km h0 n0)
  · exact List.mem_cons_of_mem _ (ab_km h1 n1)
  · exact List.mem_cons_of_mem _ (ab_km h2 n2)
  · exact List.mem_cons_of_mem _ (ab_km h3 n3)
  · exact List.mem_cons_of_mem _ (ab_km h4 n4)
  · exact List.mem_cons_of_mem _ (ab_km h5 n5)
  · exact List.mem_cons_of_mem _ (ab_km h6 n6)) kk)
theorem ab_astore_n7 (X : ab_X p s m args c cc own nL D ca A H0) {i : Nat} {k : Fin 4} {x : Option (Nat × Nat)} {q0 : Nat × ab_V} {q1 : Nat × ab_V} {q2 : Nat × ab_V} {q3 : Nat × ab_V} {q4 : Nat × ab_V} {q5 : Nat × ab_V} {q6 : Nat × ab_V} (j0 : Nat) (j1 : Nat) (j2 : Nat) (j3 : Nat) (j4 : Nat) (j5 : Nat) (j6 : Nat) (hd : decode cc pc = .ok (.astore_n k, 1)) (hi : (k : Nat) = i) (hn : i < nL) (h0 : lv[j0]? = some q0) (n0 : ab_k i q0 = true) (h1 : lv[j1]? = some q1) (n1 : ab_k i q1 = true) (h2 : lv[j2]? = some q2) (n2 : ab_k i q2 = true) (h3 : lv[j3]? = some q3) (n3 : ab_k i q3 = true) (h4 : lv[j4]? = some q4) (n4 : ab_k i q4 = true) (h5 : lv[j5]? = some q5) (n5 : ab_k i q5 = true) (h6 : lv[j6]? = some q6) (n6 : ab_k i q6 = true) (kk : ab_J p l e R s m args below meth c Q D ca A H0 nL cells slots ad N u (pc + 1) [(i, ab_R x), q0, q1, q2, q3, q4, q5, q6] st) : ab_J p l e R s m args below meth c Q D ca A H0 nL cells slots ad N u pc lv (ab_R x :: st) := ab_astore_n X hd hi hn rfl (ab_lv (fun q hq => by
  simp only [List.mem_cons, List.not_mem_nil, or_false] at hq
  rcases hq with rfl | rfl | rfl | rfl | rfl | rfl | rfl | rfl
  · exact List.mem_cons_self
  · exact List.mem_cons_of_mem _ (ab_km h0 n0)
  · exact List.mem_cons_of_mem _ (ab_km h1 n1)
  · exact List.mem_cons_of_mem _ (ab_km h2 n2)
  · exact List.mem_cons_of_mem _ (ab_km h3 n3)
  · exact List.mem_cons_of_mem _ (ab_km h4 n4)
  · exact List.mem_cons_of_mem _ (ab_km h5 n5)
  · exact List.mem_cons_of_mem _ (ab_km h6 n6)) kk)
theorem ab_astore7 (X : ab_X p s m args c cc own nL D ca A H0) {i : Nat} {x : Option (Nat × Nat)} {q0 : Nat × ab_V} {q1 : Nat × ab_V} {q2 : Nat × ab_V} {q3 : Nat × ab_V} {q4 : Nat × ab_V} {q5 : Nat × ab_V} {q6 : Nat × ab_V} (j0 : Nat) (j1 : Nat) (j2 : Nat) (j3 : Nat) (j4 : Nat) (j5 : Nat) (j6 : Nat) (hd : decode cc pc = .ok (.astore i, 2)) (hn : i < nL) (h0 : lv[j0]? = some q0) (n0 : ab_k i q0 = true) (h1 : lv[j1]? = some q1) (n1 : ab_k i q1 = true) (h2 : lv[j2]? = some q2) (n2 : ab_k i q2 = true) (h3 : lv[j3]? = some q3) (n3 : ab_k i q3 = true) (h4 : lv[j4]? = some q4) (n4 : ab_k i q4 = true) (h5 : lv[j5]? = some q5) (n5 : ab_k i q5 = true) (h6 : lv[j6]? = some q6) (n6 : ab_k i q6 = true) (kk : ab_J p l e R s m args below meth c Q D ca A H0 nL cells slots ad N u (pc + 2) [(i, ab_R x), q0, q1, q2, q3, q4, q5, q6] st) : ab_J p l e R s m args below meth c Q D ca A H0 nL cells slots ad N u pc lv (ab_R x :: st) := ab_astore X hd hn rfl (ab_lv (fun q hq => by
  simp only [List.mem_cons, List.not_mem_nil, or_false] at hq
  rcases hq with rfl | rfl | rfl | rfl | rfl | rfl | rfl | rfl
  · exact List.mem_cons_self
  · exact List.mem_cons_of_mem _ (ab_km h0 n0)
  · exact List.mem_cons_of_mem _ (ab_km h1 n1)
  · exact List.mem_cons_of_mem _ (ab_km h2 n2)
  · exact List.mem_cons_of_mem _ (ab_km h3 n3)
  · exact List.mem_cons_of_mem _ (ab_km h4 n4)
  · exact List.mem_cons_of_mem _ (ab_km h5 n5)
  · exact List.mem_cons_of_mem _ (ab_km h6 n6)) kk)
theorem ab_iinc7 (X : ab_X p s m args c cc own nL D ca A H0) {i : Nat} {n : Int} {x : Int32} {q0 : Nat × ab_V} {q1 : Nat × ab_V} {q2 : Nat × ab_V} {q3 : Nat × ab_V} {q4 : Nat × ab_V} {q5 : Nat × ab_V} {q6 : Nat × ab_V} (j : Nat) (j0 : Nat) (j1 : Nat) (j2 : Nat) (j3 : Nat) (j4 : Nat) (j5 : Nat) (j6 : Nat) (hd : decode cc pc = .ok (.iinc i n, 3)) (hk : lv[j]? = some (i, ab_I x)) (hn : i < nL) (h0 : lv[j0]? = some q0) (n0 : ab_k i q0 = true) (h1 : lv[j1]? = some q1) (n1 : ab_k i q1 = true) (h2 : lv[j2]? = some q2) (n2 : ab_k i q2 = true) (h3 : lv[j3]? = some q3) (n3 : ab_k i q3 = true) (h4 : lv[j4]? = some q4) (n4 : ab_k i q4 = true) (h5 : lv[j5]? = some q5) (n5 : ab_k i q5 = true) (h6 : lv[j6]? = some q6) (n6 : ab_k i q6 = true) (kk : ab_J p l e R s m args below meth c Q D ca A H0 nL cells slots ad N u (pc + 3) [(i, ab_I (x + Int32.ofInt n)), q0, q1, q2, q3, q4, q5, q6] st) : ab_J p l e R s m args below meth c Q D ca A H0 nL cells slots ad N u pc lv st := ab_iinc X j hd hk rfl hn rfl (ab_lv (fun q hq => by
  simp only [List.mem_cons, List.not_mem_nil, or_false] at hq
  rcases hq with rfl | rfl | rfl | rfl | rfl | rfl | rfl | rfl
  · exact List.mem_cons_self
  · exact List.mem_cons_of_mem _ (ab_km h0 n0)
  · exact List.mem_cons_of_mem _ (ab_km h1 n1)
  · exact List.mem_cons_of_mem _ (ab_km h2 n2)
  · exact List.mem_cons_of_mem _ (ab_km h3 n3)
  · exact List.mem_cons_of_mem _ (ab_km h4 n4)
  · exact List.mem_cons_of_mem _ (ab_km h5 n5)
  · exact List.mem_cons_of_mem _ (ab_km h6 n6)) kk)
theorem ab_istore_n8 (X : ab_X p s m args c cc own nL D ca A H0) {i : Nat} {k : Fin 4} {x : Int32} {q0 : Nat × ab_V} {q1 : Nat × ab_V} {q2 : Nat × ab_V} {q3 : Nat × ab_V} {q4 : Nat × ab_V} {q5 : Nat × ab_V} {q6 : Nat × ab_V} {q7 : Nat × ab_V} (j0 : Nat) (j1 : Nat) (j2 : Nat) (j3 : Nat) (j4 : Nat) (j5 : Nat) (j6 : Nat) (j7 : Nat) (hd : decode cc pc = .ok (.istore_n k, 1)) (hi : (k : Nat) = i) (hn : i < nL) (h0 : lv[j0]? = some q0) (n0 : ab_k i q0 = true) (h1 : lv[j1]? = some q1) (n1 : ab_k i q1 = true) (h2 : lv[j2]? = some q2) (n2 : ab_k i q2 = true) (h3 : lv[j3]? = some q3) (n3 : ab_k i q3 = true) (h4 : lv[j4]? = some q4) (n4 : ab_k i q4 = true) (h5 : lv[j5]? = some q5) (n5 : ab_k i q5 = true) (h6 : lv[j6]? = some q6) (n6 : ab_k i q6 = true) (h7 : lv[j7]? = some q7) (n7 : ab_k i q7 = true) (kk : ab_J p l e R s m args below meth c Q D ca A H0 nL cells slots ad N u (pc + 1) [(i, ab_I x), q0, q1, q2, q3, q4, q5, q6, q7] st) : ab_J p l e R s m args below meth c Q D ca A H0 nL cells slots ad N u pc lv (ab_I x :: st) := ab_istore_n X hd hi hn rfl (ab_lv (fun q hq => by
  simp only [List.mem_cons, List.not_mem_nil, or_false] at hq
  rcases hq with rfl | rfl | rfl | rfl | rfl | rfl | rfl | rfl | rfl
  · exact List.mem_cons_self
  · exact List.mem_cons_of_mem _ (ab_km h0 n0)
  · exact List.mem_cons_of_mem _ (ab_km h1 n1)
  · exact List.mem_cons_of_mem _ (ab_km h2 n2)
  · exact List.mem_cons_of_mem _ (ab_km h3 n3)
  · exact List.mem_cons_of_mem _ (ab_km h4 n4)
  · exact List.mem_cons_of_mem _ (ab_km h5 n5)
  · exact List.mem_cons_of_mem _ (ab_km h6 n6)
  · exact List.mem_cons_of_mem _ (ab_km h7 n7)) kk)
theorem ab_istore8 (X : ab_X p s m args c cc own nL D ca A H0) {i : Nat} {x : Int32} {q0 : Nat × ab_V} {q1 : Nat × ab_V} {q2 : Nat × ab_V} {q3 : Nat × ab_V} {q4 : Nat × ab_V} {q5 : Nat × ab_V} {q6 : Nat × ab_V} {q7 : Nat × ab_V} (j0 : Nat) (j1 : Nat) (j2 : Nat) (j3 : Nat) (j4 : Nat) (j5 : Nat) (j6 : Nat) (j7 : Nat) (hd : decode cc pc = .ok (.istore i, 2)) (hn : i < nL) (h0 : lv[j0]? = some q0) (n0 : ab_k i q0 = true) (h1 : lv[j1]? = some q1) (n1 : ab_k i q1 = true) (h2 : lv[j2]? = some q2) (n2 : ab_k i q2 = true) (h3 : lv[j3]? = some q3) (n3 : ab_k i q3 = true) (h4 : lv[j4]? = some q4) (n4 : ab_k i q4 = true) (h5 : lv[j5]? = some q5) (n5 : ab_k i q5 = true) (h6 : lv[j6]? = some q6) (n6 : ab_k i q6 = true) (h7 : lv[j7]? = some q7) (n7 : ab_k i q7 = true) (kk : ab_J p l e R s m args below meth c Q D ca A H0 nL cells slots ad N u (pc + 2) [(i, ab_I x), q0, q1, q2, q3, q4, q5, q6, q7] st) : ab_J p l e R s m args below meth c Q D ca A H0 nL cells slots ad N u pc lv (ab_I x :: st) := ab_istore X hd hn rfl (ab_lv (fun q hq => by
  simp only [List.mem_cons, List.not_mem_nil, or_false] at hq
  rcases hq with rfl | rfl | rfl | rfl | rfl | rfl | rfl | rfl | rfl
  · exact List.mem_cons_self
  · exact List.mem_cons_of_mem _ (ab_km h0 n0)
  · exact List.mem_cons_of_mem _ (ab_km h1 n1)
  · exact List.mem_cons_of_mem _ (ab_km h2 n2)
  · exact List.mem_cons_of_mem _ (ab_km h3 n3)
  · exact List.mem_cons_of_mem _ (ab_km h4 n4)
  · exact List.mem_cons_of_mem _ (ab_km h5 n5)
  · exact List.mem_cons_of_mem _ (ab_km h6 n6)
  · exact List.mem_cons_of_mem _ (ab_km h7 n7)) kk)
theorem ab_astore_n8 (X : ab_X p s m args c cc own nL D ca A H0) {i : Nat} {k : Fin 4} {x : Option (Nat × Nat)} {q0 : Nat × ab_V} {q1 : Nat × ab_V} {q2 : Nat × ab_V} {q3 : Nat × ab_V} {q4 : Nat × ab_V} {q5 : Nat × ab_V} {q6 : Nat × ab_V} {q7 : Nat × ab_V} (j0 : Nat) (j1 : Nat) (j2 : Nat) (j3 : Nat) (j4 : Nat) (j5 : Nat) (j6 : Nat) (j7 : Nat) (hd : decode cc pc = .ok (.astore_n k, 1)) (hi : (k : Nat) = i) (hn : i < nL) (h0 : lv[j0]? = some q0) (n0 : ab_k i q0 = true) (h1 : lv[j1]? = some q1) (n1 : ab_k i q1 = true) (h2 : lv[j2]? = some q2) (n2 : ab_k i q2 = true) (h3 : lv[j3]? = some q3) (n3 : ab_k i q3 = true) (h4 : lv[j4]? = some q4) (n4 : ab_k i q4 = true) (h5 : lv[j5]? = some q5) (n5 : ab_k i q5 = true) (h6 : lv[j6]? = some q6) (n6 : ab_k i q6 = true) (h7 : lv[j7]? = some q7) (n7 : ab_k i q7 = true) (kk : ab_J p l e R s m args below meth c Q D ca A H0 nL cells slots ad N u (pc + 1) [(i, ab_R x), q0, q1, q2, q3, q4, q5, q6, q7] st) : ab_J p l e R s m args below meth c Q D ca A H0 nL cells slots ad N u pc lv (ab_R x :: st) := ab_astore_n X hd hi hn rfl (ab_lv (fun q hq => by
  simp only [List.mem_cons, List.not_mem_nil, or_false] at hq
  rcases hq with rfl | rfl | rfl | rfl | rfl | rfl | rfl | rfl | rfl
  · exact List.mem_cons_self
  · exact List.mem_cons_of_mem _ (ab_km h0 n0)
  · exact List.mem_cons_of_mem _ (ab_km h1 n1)
  · exact List.mem_cons_of_mem _ (ab_km h2 n2)
  · exact List.mem_cons_of_mem _ (ab_km h3 n3)
  · exact List.mem_cons_of_mem _ (ab_km h4 n4)
  · exact List.mem_cons_of_mem _ (ab_km h5 n5)
  · exact List.mem_cons_of_mem _ (ab_km h6 n6)
  · exact List.mem_cons_of_mem _ (ab_km h7 n7)) kk)
theorem ab_astore8 (X : ab_X p s m args c cc own nL D ca A H0) {i : Nat} {x : Option (Nat × Nat)} {q0 : Nat × ab_V} {q1 : Nat × ab_V} {q2 : Nat × ab_V} {q3 : Nat × ab_V} {q4 : Nat × ab_V} {q5 : Nat × ab_V} {q6 : Nat × ab_V} {q7 : Nat × ab_V} (j0 : Nat) (j1 : Nat) (j2 : Nat) (j3 : Nat) (j4 : Nat) (j5 : Nat) (j6 : Nat) (j7 : Nat) (hd : decode cc pc = .ok (.astore i, 2)) (hn : i < nL) (h0 : lv[j0]? = some q0) (n0 : ab_k i q0 = true) (h1 : lv[j1]? = some q1) (n1 : ab_k i q1 = true) (h2 : lv[j2]? = some q2) (n2 : ab_k i q2 = true) (h3 : lv[j3]? = some q3) (n3 : ab_k i q3 = true) (h4 : lv[j4]? = some q4) (n4 : ab_k i q4 = true) (h5 : lv[j5]? = some q5) (n5 : ab_k i q5 = true) (h6 : lv[j6]? = some q6) (n6 : ab_k i q6 = true) (h7 : lv[j7]? = some q7) (n7 : ab_k i q7 = true) (kk : ab_J p l e R s m args below meth c Q D ca A H0 nL cells slots ad N u (pc + 2) [(i, ab_R x), q0, q1, q2, q3, q4, q5, q6, q7] st) : ab_J p l e R s m args below meth c Q D ca A H0 nL cells slots ad N u pc lv (ab_R x :: st) := ab_astore X hd hn rfl (ab_lv (fun q hq => by
  simp only [List.mem_cons, List.not_mem_nil, or_false] at hq
  rcases hq with rfl | rfl | rfl | rfl | rfl | rfl | rfl | rfl | rfl
  · exact List.mem_cons_self
  · exact List.mem_cons_of_mem _ (ab_km h0 n0)
  · exact List.mem_cons_of_mem _ (ab_km h1 n1)
  · exact List.mem_cons_of_mem _ (ab_km h2 n2)
  · exact List.mem_cons_of_mem _ (ab_km h3 n3)
  · exact List.mem_cons_of_mem _ (ab_km h4 n4)
  · exact List.mem_cons_of_mem _ (ab_km h5 n5)
  · exact List.mem_cons_of_mem _ (ab_km h6 n6)
  · exact List.mem_cons_of_mem _ (ab_km h7 n7)) kk)
theorem ab_iinc8 (X : ab_X p s m args c cc own nL D ca A H0) {i : Nat} {n : Int} {x : Int32} {q0 : Nat × ab_V} {q1 : Nat × ab_V} {q2 : Nat × ab_V} {q3 : Nat × ab_V} {q4 : Nat × ab_V} {q5 : Nat × ab_V} {q6 : Nat × ab_V} {q7 : Nat × ab_V} (j : Nat) (j0 : Nat) (j1 : Nat) (j2 : Nat) (j3 : Nat) (j4 : Nat) (j5 : Nat) (j6 : Nat) (j7 : Nat) (hd : decode cc pc = .ok (.iinc i n, 3)) (hk : lv[j]? = some (i, ab_I x)) (hn : i < nL) (h0 : lv[j0]? = some q0) (n0 : ab_k i q0 = true) (h1 : lv[j1]? = some q1) (n1 : ab_k i q1 = true) (h2 : lv[j2]? = some q2) (n2 : ab_k i q2 = true) (h3 : lv[j3]? = some q3) (n3 : ab_k i q3 = true) (h4 : lv[j4]? = some q4) (n4 : ab_k i q4 = true) (h5 : lv[j5]? = some q5) (n5 : ab_k i q5 = true) (h6 : lv[j6]? = some q6) (n6 : ab_k i q6 = true) (h7 : lv[j7]? = some q7) (n7 : ab_k i q7 = true) (kk : ab_J p l e R s m args below meth c Q D ca A H0 nL cells slots ad N u (pc + 3) [(i, ab_I (x + Int32.ofInt n)), q0, q1, q2, q3, q4, q5, q6, q7] st) : ab_J p l e R s m args below meth c Q D ca A H0 nL cells slots ad N u pc lv st := ab_iinc X j hd hk rfl hn rfl (ab_lv (fun q hq => by
  simp only [List.mem_cons, List.not_mem_nil, or_false] at hq
  rcases hq with rfl | rfl | rfl | rfl | rfl | rfl | rfl | rfl | rfl
  · exact List.mem_cons_self
  · exact List.mem_cons_of_mem _ (ab_km h0 n0)
  · exact List.mem_cons_of_mem _ (ab_km h1 n1)
  · exact List.mem_cons_of_mem _ (ab_km h2 n2)
  · exact List.mem_cons_of_mem _ (ab_km h3 n3)
  · exact List.mem_cons_of_mem _ (ab_km h4 n4)
  · exact List.mem_cons_of_mem _ (ab_km h5 n5)
  · exact List.mem_cons_of_mem _ (ab_km h6 n6)
  · exact List.mem_cons_of_mem _ (ab_km h7 n7)) kk)
theorem ab_istore_n9 (X : ab_X p s m args c cc own nL D ca A H0) {i : Nat} {k : Fin 4} {x : Int32} {q0 : Nat × ab_V} {q1 : Nat × ab_V} {q2 : Nat × ab_V} {q3 : Nat × ab_V} {q4 : Nat × ab_V} {q5 : Nat × ab_V} {q6 : Nat × ab_V} {q7 : Nat × ab_V} {q8 : Nat × ab_V} (j0 : Nat) (j1 : Nat) (j2 : Nat) (j3 : Nat) (j4 : Nat) (j5 : Nat) (j6 : Nat) (j7 : Nat) (j8 : Nat) (hd : decode cc pc = .ok (.istore_n k, 1)) (hi : (k : Nat) = i) (hn : i < nL) (h0 : lv[j0]? = some q0) (n0 : ab_k i q0 = true) (h1 : lv[j1]? = some q1) (n1 : ab_k i q1 = true) (h2 : lv[j2]? = some q2) (n2 : ab_k i q2 = true) (h3 : lv[j3]? = some q3) (n3 : ab_k i q3 = true) (h4 : lv[j4]? = some q4) (n4 : ab_k i q4 = true) (h5 : lv[j5]? = some q5) (n5 : ab_k i q5 = true) (h6 : lv[j6]? = some q6) (n6 : ab_k i q6 = true) (h7 : lv[j7]? = some q7) (n7 : ab_k i q7 = true) (h8 : lv[j8]? = some q8) (n8 : ab_k i q8 = true) (kk : ab_J p l e R s m args below meth c Q D ca A H0 nL cells slots ad N u (pc + 1) [(i, ab_I x), q0, q1, q2, q3, q4, q5, q6, q7, q8] st) : ab_J p l e R s m args below meth c Q D ca A H0 nL cells slots ad N u pc lv (ab_I x :: st) := ab_istore_n X hd hi hn rfl (ab_lv (fun q hq => by
  simp only [List.mem_cons, List.not_mem_nil, or_false] at hq
  rcases hq with rfl | rfl | rfl | rfl | rfl | rfl | rfl | rfl | rfl | rfl
  · exact List.mem_cons_self
  · exact List.mem_cons_of_mem _ (ab_km h0 n0)
  · exact List.mem_cons_of_mem _ (ab_km h1 n1)
  · exact List.mem_cons_of_mem _ (ab_km h2 n2)
  · exact List.mem_cons_of_mem _ (ab_km h3 n3)
  · exact List.mem_cons_of_mem _ (ab_km h4 n4)
  · exact List.mem_cons_of_mem _ (ab_km h5 n5)
  · exact List.mem_cons_of_mem _ (ab_km h6 n6)
  · exact List.mem_cons_of_mem _ (ab_km h7 n7)
  · exact List.mem_cons_of_mem _ (ab_km h8 n8)) kk)
theorem ab_istore9 (X : ab_X p s m args c cc own nL D ca A H0) {i : Nat} {x : Int32} {q0 : Nat × ab_V} {q1 : Nat × ab_V} {q2 : Nat × ab_V} {q3 : Nat × ab_V} {q4 : Nat × ab_V} {q5 : Nat × ab_V} {q6 : Nat × ab_V} {q7 : Nat × ab_V} {q8 : Nat × ab_V} (j0 : Nat) (j1 : Nat) (j2 : Nat) (j3 : Nat) (j4 : Nat) (j5 : Nat) (j6 : Nat) (j7 : Nat) (j8 : Nat) (hd : decode cc pc = .ok (.istore i, 2)) (hn : i < nL) (h0 : lv[j0]? = some q0) (n0 : ab_k i q0 = true) (h1 : lv[j1]? = some q1) (n1 : ab_k i q1 = true) (h2 : lv[j2]? = some q2) (n2 : ab_k i q2 = true) (h3 : lv[j3]? = some q3) (n3 : ab_k i q3 = true) (h4 : lv[j4]? = some q4) (n4 : ab_k i q4 = true) (h5 : lv[j5]? = some q5) (n5 : ab_k i q5 = true) (h6 : lv[j6]? = some q6) (n6 : ab_k i q6 = true) (h7 : lv[j7]? = some q7) (n7 : ab_k i q7 = true) (h8 : lv[j8]? = some q8) (n8 : ab_k i q8 = true) (kk : ab_J p l e R s m args below meth c Q D ca A H0 nL cells slots ad N u (pc + 2) [(i, ab_I x), q0, q1, q2, q3, q4, q5, q6, q7, q8] st) : ab_J p l e R s m args below meth c Q D ca A H0 nL cells slots ad N u pc lv (ab_I x :: st) := ab_istore X hd hn rfl (ab_lv (fun q hq => by
  simp only [List.mem_cons, List.not_mem_nil, or_false] at hq
  rcases hq with rfl | rfl | rfl | rfl | rfl | rfl | rfl | rfl | rfl | rfl
  · exact List.mem_cons_self
  · exact List.mem_cons_of_mem _ (ab_km h0 n0)
  · exact List.mem_cons_of_mem _ (ab_km h1 n1)
  · exact List.mem_cons_of_mem _ (ab_km h2 n2)
  · exact List.mem_cons_of_mem _ (ab_km h3 n3)
  · exact List.mem_cons_of_mem _ (ab_km h4 n4)
  · exact List.mem_cons_of_mem _ (ab_km h5 n5)
  · exact List.mem_cons_of_mem _ (ab_km h6 n6)
  · exact List.mem_cons_of_mem _ (ab_km h7 n7)
  · exact List.mem_cons_of_mem _ (ab_km h8 n8)) kk)
theorem ab_astore_n9 (X : ab_X p s m args c cc own nL D ca A H0) {i : Nat} {k : Fin 4} {x : Option (Nat × Nat)} {q0 : Nat × ab_V} {q1 : Nat × ab_V} {q2 : Nat × ab_V} {q3 : Nat × ab_V} {q4 : Nat × ab_V} {q5 : Nat × ab_V} {q6 : Nat × ab_V} {q7 : Nat × ab_V} {q8 : Nat × ab_V} (j0 : Nat) (j1 : Nat) (j2 : Nat) (j3 : Nat) (j4 : Nat) (j5 : Nat) (j6 : Nat) (j7 : Nat) (j8 : Nat) (hd : decode cc pc = .ok (.astore_n k, 1)) (hi : (k : Nat) = i) (hn : i < nL) (h0 : lv[j0]? = some q0) (n0 : ab_k i q0 = true) (h1 : lv[j1]? = some q1) (n1 : ab_k i q1 = true) (h2 : lv[j2]? = some q2) (n2 : ab_k i q2 = true) (h3 : lv[j3]? = some q3) (n3 : ab_k i q3 = true) (h4 : lv[j4]? = some q4) (n4 : ab_k i q4 = true) (h5 : lv[j5]? = some q5) (n5 : ab_k i q5 = true) (h6 : lv[j6]? = some q6) (n6 : ab_k i q6 = true) (h7 : lv[j7]? = some q7) (n7 : ab_k i q7 = true) (h8 : lv[j8]? = some q8) (n8 : ab_k i q8 = true) (kk : ab_J p l e R s m args below meth c Q D ca A H0 nL cells slots ad N u (pc + 1) [(i, ab_R x), q0, q1, q2, q3, q4, q5, q6, q7, q8] st) : ab_J p l e R s m args below meth c Q D ca A H0 nL cells slots ad N u pc lv (ab_R x :: st) := ab_astore_n X hd hi hn rfl (ab_lv (fun q hq => by
  simp only [List.mem_cons, List.not_mem_nil, or_false] at hq
  rcases hq with rfl | rfl | rfl | rfl | rfl | rfl | rfl | rfl | rfl | rfl
  · exact List.mem_cons_self
  · exact List.mem_cons_of_mem _ (ab_km h0 n0)
  · exact List.mem_cons_of_mem _ (ab_km h1 n1)
  · exact List.mem_cons_of_mem _ (ab_km h2 n2)
  · exact List.mem_cons_of_mem _ (ab_km h3 n3)
  · exact List.mem_cons_of_mem _ (ab_km h4 n4)
  · exact List.mem_cons_of_mem _ (ab_km h5 n5)
  · exact List.mem_cons_of_mem _ (ab_km h6 n6)
  · exact List.mem_cons_of_mem _ (ab_km h7 n7)
  · exact List.mem_cons_of_mem _ (ab_km h8 n8)) kk)
theorem ab_astore9 (X : ab_X p s m args c cc own nL D ca A H0) {i : Nat} {x : Option (Nat × Nat)} {q0 : Nat × ab_V} {q1 : Nat × ab_V} {q2 : Nat × ab_V} {q3 : Nat × ab_V} {q4 : Nat × ab_V} {q5 : Nat × ab_V} {q6 : Nat × ab_V} {q7 : Nat × ab_V} {q8 : Nat × ab_V} (j0 : Nat) (j1 : Nat) (j2 : Nat) (j3 : Nat) (j4 : Nat) (j5 : Nat) (j6 : Nat) (j7 : Nat) (j8 : Nat) (hd : decode cc pc = .ok (.astore i, 2)) (hn : i < nL) (h0 : lv[j0]? = some q0) (n0 : ab_k i q0 = true) (h1 : lv[j1]? = some q1) (n1 : ab_k i q1 = true) (h2 : lv[j2]? = some q2) (n2 : ab_k i q2 = true) (h3 : lv[j3]? = some q3) (n3 : ab_k i q3 = true) (h4 : lv[j4]? = some q4) (n4 : ab_k i q4 = true) (h5 : lv[j5]? = some q5) (n5 : ab_k i q5 = true) (h6 : lv[j6]? = some q6) (n6 : ab_k i q6 = true) (h7 : lv[j7]? = some q7) (n7 : ab_k i q7 = true) (h8 : lv[j8]? = some q8) (n8 : ab_k i q8 = true) (kk : ab_J p l e R s m args below meth c Q D ca A H0 nL cells slots ad N u (pc + 2) [(i, ab_R x), q0, q1, q2, q3, q4, q5, q6, q7, q8] st) : ab_J p l e R s m args below meth c Q D ca A H0 nL cells slots ad N u pc lv (ab_R x :: st) := ab_astore X hd hn rfl (ab_lv (fun q hq => by
  simp only [List.mem_cons, List.not_mem_nil, or_false] at hq
  rcases hq with rfl | rfl | rfl | rfl | rfl | rfl | rfl | rfl | rfl | rfl
  · exact List.mem_cons_self
  · exact List.mem_cons_of_mem _ (ab_km h0 n0)
  · exact List.mem_cons_of_mem _ (ab_km h1 n1)
  · exact List.mem_cons_of_mem _ (ab_km h2 n2)
  · exact List.mem_cons_of_mem _ (ab_km h3 n3)
  · exact List.mem_cons_of_mem _ (ab_km h4 n4)
  · exact List.mem_cons_of_mem _ (ab_km h5 n5)
  · exact List.mem_cons_of_mem _ (ab_km h6 n6)
  · exact List.mem_cons_of_mem _ (ab_km h7 n7)
  · exact List.mem_cons_of_mem _ (ab_km h8 n8)) kk)
theorem ab_iinc9 (X : ab_X p s m args c cc own nL D ca A H0) {i : Nat} {n : Int} {x : Int32} {q0 : Nat × ab_V} {q1 : Nat × ab_V} {q2 : Nat × ab_V} {q3 : Nat × ab_V} {q4 : Nat × ab_V} {q5 : Nat × ab_V} {q6 : Nat × ab_V} {q7 : Nat × ab_V} {q8 : Nat × ab_V} (j : Nat) (j0 : Nat) (j1 : Nat) (j2 : Nat) (j3 : Nat) (j4 : Nat) (j5 : Nat) (j6 : Nat) (j7 : Nat) (j8 : Nat) (hd : decode cc pc = .ok (.iinc i n, 3)) (hk : lv[j]? = some (i, ab_I x)) (hn : i < nL) (h0 : lv[j0]? = some q0) (n0 : ab_k i q0 = true) (h1 : lv[j1]? = some q1) (n1 : ab_k i q1 = true) (h2 : lv[j2]? = some q2) (n2 : ab_k i q2 = true) (h3 : lv[j3]? = some q3) (n3 : ab_k i q3 = true) (h4 : lv[j4]? = some q4) (n4 : ab_k i q4 = true) (h5 : lv[j5]? = some q5) (n5 : ab_k i q5 = true) (h6 : lv[j6]? = some q6) (n6 : ab_k i q6 = true) (h7 : lv[j7]? = some q7) (n7 : ab_k i q7 = true) (h8 : lv[j8]? = some q8) (n8 : ab_k i q8 = true) (kk : ab_J p l e R s m args below meth c Q D ca A H0 nL cells slots ad N u (pc + 3) [(i, ab_I (x + Int32.ofInt n)), q0, q1, q2, q3, q4, q5, q6, q7, q8] st) : ab_J p l e R s m args below meth c Q D ca A H0 nL cells slots ad N u pc lv st := ab_iinc X j hd hk rfl hn rfl (ab_lv (fun q hq => by
  simp only [List.mem_cons, List.not_mem_nil, or_false] at hq
  rcases hq with rfl | rfl | rfl | rfl | rfl | rfl | rfl | rfl | rfl | rfl
  · exact List.mem_cons_self
  · exact List.mem_cons_of_mem _ (ab_km h0 n0)
  · exact List.mem_cons_of_mem _ (ab_km h1 n1)
  · exact List.mem_cons_of_mem _ (ab_km h2 n2)
  · exact List.mem_cons_of_mem _ (ab_km h3 n3)
  · exact List.mem_cons_of_mem _ (ab_km h4 n4)
  · exact List.mem_cons_of_mem _ (ab_km h5 n5)
  · exact List.mem_cons_of_mem _ (ab_km h6 n6)
  · exact List.mem_cons_of_mem _ (ab_km h7 n7)
  · exact List.mem_cons_of_mem _ (ab_km h8 n8)) kk)
theorem ab_gI (X : ab_X p s m args c cc own nL D ca A H0) {idx c' k i : Nat} {v : Int32} (hf : ab_fl own idx c' k 0) (hd : decode cc pc = .ok (.getfield idx, 3)) (hi : i < N c') (hv : u.1 c' i k = v) (kk : ab_J p l e R s m args below meth c Q D ca A H0 nL cells slots ad N u (pc + 3) lv (ab_I v :: st)) : ab_J p l e R s m args below meth c Q D ca A H0 nL cells slots ad N u pc lv (ab_O c' i :: st) := ab_getI X hf hd hi (by rw [hv]; exact kk)
theorem ab_gR (X : ab_X p s m args c cc own nL D ca A H0) {idx c' k i : Nat} {r : Option (Nat × Nat)} (hf : ab_fl own idx c' k 1) (hd : decode cc pc = .ok (.getfield idx, 3)) (hi : i < N c') (hv : u.2.1 c' i k = r) (kk : ab_J p l e R s m args below meth c Q D ca A H0 nL cells slots ad N u (pc + 3) lv (ab_R r :: st)) : ab_J p l e R s m args below meth c Q D ca A H0 nL cells slots ad N u pc lv (ab_O c' i :: st) := ab_getR X hf hd hi (by rw [hv]; exact kk)
/-- another name for the state -/
theorem ab_u {u' : ab_S} (h : u = u') (kk : ab_J p l e R s m args below meth c Q D ca A H0 nL cells slots ad N u' pc lv st) : ab_J p l e R s m args below meth c Q D ca A H0 nL cells slots ad N u pc lv st := by rw [h]; exact kk
theorem ab_top {x v : Int32} (h : x = v) (kk : ab_J p l e R s m args below meth c Q D ca A H0 nL cells slots ad N u pc lv (ab_I v :: st)) : ab_J p l e R s m args below meth c Q D ca A H0 nL cells slots ad N u pc lv (ab_I x :: st) := by rw [h]; exact kk
end AbS
end
section
/-! Row: start, add, weightOf. -/
def ab_N (c : Nat) : Nat := ([1, 1, 20, 61, 124, 1, 1, 1, 124, 61, 20, 1, 1, 1, 1, 1, 1, 1, 21, 1, 1] : List Nat).getD c 0
theorem ab_getD_le {l : List Nat} {b : Nat} (h : ∀ x ∈ l, x ≤ b) (i : Nat) : l.getD i 0 ≤ b := by
  rw [List.getD_eq_getElem?_getD]
  cases hx : l[i]? with
  | none => simp
  | some x => simpa using h x (List.mem_of_getElem? hx)
theorem ab_ln_lt (c i : Nat) : ab_ln c i < 2 ^ 31 := by
  have : ab_ln c i ≤ 7200 := by
    unfold ab_ln
    split
    · split <;> omega
    · split
      · exact ab_getD_le (by decide) i
      · exact ab_getD_le (by decide) c
  omega
abbrev b_RW_start : ByteArray := prog_7_method_2_code
def y_RW_start : MethodName := ⟨"PolicyForge$Row", "start", "()V"⟩
theorem d_RW_start_0 : decode b_RW_start 0 = .ok (.aload_n 0, 1) := by decide +kernel
theorem d_RW_start_1 : decode b_RW_start 1 = .ok (.iconst 0, 1) := by decide +kernel
theorem d_RW_start_2 : decode b_RW_start 2 = .ok (.putfield 9, 3) := by decide +kernel
theorem d_RW_start_5 : decode b_RW_start 5 = .ok (.aload_n 0, 1) := by decide +kernel
theorem d_RW_start_6 : decode b_RW_start 6 = .ok (.iconst 0, 1) := by decide +kernel
theorem d_RW_start_7 : decode b_RW_start 7 = .ok (.putfield 15, 3) := by decide +kernel
theorem d_RW_start_10 : decode b_RW_start 10 = .ok (.aload_n 0, 1) := by decide +kernel
theorem d_RW_start_11 : decode b_RW_start 11 = .ok (.iconst 1, 1) := by decide +kernel
theorem d_RW_start_12 : decode b_RW_start 12 = .ok (.putfield 18, 3) := by decide +kernel
theorem d_RW_start_15 : decode b_RW_start 15 = .ok (.return_, 1) := by decide +kernel
theorem uw_RW : ∀ w ∈ u_ws R_RW T_RW 4, w ∈ ab_T := fun w h => List.mem_filter.mpr ⟨by have h2 := h; revert w; decide +kernel, by revert w; decide +kernel⟩
theorem fp_RW_9 : ab_fp "PolicyForge$Row" 9 4 1 0 .int := ⟨rfl, R_RW, T_RW, 4, t_RW, rfl, uw_RW, by decide, rfl, (ab_in 153 (by decide +kernel) (by decide +kernel)), t_RW_ok, n_RW, rfl, rfl⟩
theorem fp_RW_15 : ab_fp "PolicyForge$Row" 15 4 2 0 .int := ⟨rfl, R_RW, T_RW, 4, t_RW, rfl, uw_RW, by decide, rfl, (ab_in 156 (by decide +kernel) (by decide +kernel)), t_RW_ok, n_RW, rfl, rfl⟩
theorem fp_RW_18 : ab_fp "PolicyForge$Row" 18 4 3 0 .boolean := ⟨rfl, R_RW, T_RW, 4, t_RW, rfl, uw_RW, by decide, rfl, (ab_in 159 (by decide +kernel) (by decide +kernel)), t_RW_ok, n_RW, rfl, rfl⟩
set_option maxRecDepth 100000 in
set_option maxHeartbeats 4000000 in
theorem c_RW_start {l : Launch} {D : va_G} {ca : Nat → ClassId} {N : Nat → Nat} (u : ab_S) (r : Nat) (hr : r < N 4) : ab_C false l D ca y_RW_start b_RW_start 1 none 0 N u [ab_O 4 r] (fun u' v => u' = ab_ui (ab_ui (ab_ui u 4 r 1 0) 4 r 2 0) 4 r 3 1 ∧ v = none) := by
  refine ab_C.of (by decide) (Nat.le_of_ble_eq_true rfl) ?_
  intro p e s m args below meth c ad X hZ hr0 hlk
  refine ab_aload_n X 0 d_RW_start_0 rfl rfl ?_
  refine ab_iconst (v := 0) X d_RW_start_1 (by decide) ?_
  refine ab_putI X fp_RW_9 d_RW_start_2 (by first | assumption | decide) rfl rfl ?_
  refine ab_aload_n X 0 d_RW_start_5 rfl rfl ?_
  refine ab_iconst (v := 0) X d_RW_start_6 (by decide) ?_
  refine ab_putI X fp_RW_15 d_RW_start_7 (by first | assumption | decide) rfl rfl ?_
  refine ab_aload_n X 0 d_RW_start_10 rfl rfl ?_
  refine ab_iconst (v := 1) X d_RW_start_11 (by decide) ?_
  refine ab_putI X fp_RW_18 d_RW_start_12 (by first | assumption | decide) (by decide +kernel) (by decide +kernel) ?_
  exact ab_retv X hr0 hlk d_RW_start_15 ⟨rfl, rfl⟩
abbrev b_RW_weightOf : ByteArray := prog_7_method_8_code
def y_RW_weightOf : MethodName := ⟨"PolicyForge$Row", "weightOf", "(I)I"⟩
theorem d_RW_weightOf_0 : decode b_RW_weightOf 0 = .ok (.iload_n 0, 1) := by decide +kernel
theorem d_RW_weightOf_1 : decode b_RW_weightOf 1 = .ok (.bipush 20, 2) := by decide +kernel
theorem d_RW_weightOf_3 : decode b_RW_weightOf 3 = .ok (.if_icmp .lt 5, 3) := by decide +kernel
theorem d_RW_weightOf_6 : decode b_RW_weightOf 6 = .ok (.iconst 5, 1) := by decide +kernel
theorem d_RW_weightOf_7 : decode b_RW_weightOf 7 = .ok (.ireturn, 1) := by decide +kernel
theorem d_RW_weightOf_8 : decode b_RW_weightOf 8 = .ok (.iload_n 0, 1) := by decide +kernel
theorem d_RW_weightOf_9 : decode b_RW_weightOf 9 = .ok (.bipush 10, 2) := by decide +kernel
theorem d_RW_weightOf_11 : decode b_RW_weightOf 11 = .ok (.if_icmp .lt 8, 3) := by decide +kernel
theorem d_RW_weightOf_14 : decode b_RW_weightOf 14 = .ok (.bipush 9, 2) := by decide +kernel
theorem d_RW_weightOf_16 : decode b_RW_weightOf 16 = .ok (.goto 4, 3) := by decide +kernel
theorem d_RW_weightOf_19 : decode b_RW_weightOf 19 = .ok (.iconst 1, 1) := by decide +kernel
theorem d_RW_weightOf_20 : decode b_RW_weightOf 20 = .ok (.ireturn, 1) := by decide +kernel
set_option maxRecDepth 100000 in
set_option maxHeartbeats 4000000 in
theorem c_RW_weightOf {l : Launch} {D : va_G} {ca : Nat → ClassId} {N : Nat → Nat} (u : ab_S) (x : Int32) : ab_C false l D ca y_RW_weightOf b_RW_weightOf 1 (some .int) 0 N u [ab_I x] (fun u' v => u' = u ∧ v = some (ab_I (if 20 ≤ x then 5 else if 10 ≤ x then 9 else 1))) := by
  refine ab_C.of (by decide) (Nat.le_of_ble_eq_true rfl) ?_
  intro p e s m args below meth c ad X hZ hr0 hlk
  refine ab_iload_n X 0 d_RW_weightOf_0 rfl rfl ?_
  refine ab_bipush (v := 20) X d_RW_weightOf_1 (by decide) ?_
  refine ab_icmp_lt X 8 d_RW_weightOf_3 rfl (fun h3 => ?_) (fun h3 => ?_)
  ·
    refine ab_iload_n X 0 d_RW_weightOf_8 rfl rfl ?_
    refine ab_bipush (v := 10) X d_RW_weightOf_9 (by decide) ?_
    refine ab_icmp_lt X 19 d_RW_weightOf_11 rfl (fun h11 => ?_) (fun h11 => ?_)
    ·
      refine ab_iconst (v := 1) X d_RW_weightOf_19 (by decide) ?_
      exact ab_reti X hr0 hlk d_RW_weightOf_20 ⟨rfl, by rw [if_neg (Int32.not_le.mpr h3), if_neg (Int32.not_le.mpr h11)]⟩
    ·
      refine ab_bipush (v := 9) X d_RW_weightOf_14 (by decide) ?_
      refine ab_goto X 20 d_RW_weightOf_16 rfl ?_
      exact ab_reti X hr0 hlk d_RW_weightOf_20 ⟨rfl, by rw [if_neg (Int32.not_le.mpr h3), if_pos (Int32.not_lt.mp h11)]⟩
  ·
    refine ab_iconst (v := 5) X d_RW_weightOf_6 (by decide) ?_
    exact ab_reti X hr0 hlk d_RW_weightOf_7 ⟨rfl, by rw [if_pos (Int32.not_lt.mp h3)]⟩
end
section
/-! Constructors of the class's own kinds. -/
theorem ab_ui_same {u : ab_S} {c i k : Nat} {v : Int32} (h : u.1 c i k = v) : ab_ui u c i k v = u := by
  obtain ⟨f, g⟩ := u
  refine Prod.ext (funext fun c' => funext fun i' => funext fun k' => ?_) rfl
  show ab_up f c i k v c' i' k' = f c' i' k'
  by_cases hq : c' = c ∧ i' = i ∧ k' = k
  · obtain ⟨rfl, rfl, rfl⟩ := hq
    rw [ab_up_s]; exact h.symm
  · rw [ab_up_n _ _ hq]
theorem ab_ur_same {u : ab_S} {c i k : Nat} {v : Option (Nat × Nat)} (h : u.2.1 c i k = v) : ab_ur u c i k v = u := by
  obtain ⟨f, g, w⟩ := u
  refine Prod.ext rfl (Prod.ext (funext fun c' => funext fun i' => funext fun k' => ?_) rfl)
  show ab_up g c i k v c' i' k' = g c' i' k'
  by_cases hq : c' = c ∧ i' = i ∧ k' = k
  · obtain ⟨rfl, rfl, rfl⟩ := hq
    rw [ab_up_s]; exact h.symm
  · rw [ab_up_n _ _ hq]
theorem ab_nx_lt {N : Nat → Nat} {c c' i : Nat} (h : i < N c') : i < ab_nx N c c' := Nat.lt_of_lt_of_le h (ab_nx_le N c c')
theorem ab_ln_le (c i : Nat) : ab_ln c i < 65536 := by
  unfold ab_ln
  split
  · split <;> omega
  · split
    · exact Nat.lt_of_le_of_lt (ab_getD_le (b := 7200) (by decide) i) (by decide)
    · exact Nat.lt_of_le_of_lt (ab_getD_le (b := 7200) (by decide) c) (by decide)
theorem ab_ln8 (i : Nat) : ab_ln 8 i ≤ 40 := by
  unfold ab_ln
  rw [if_pos rfl]
  split <;> omega
abbrev b_RW_init : ByteArray := prog_7_method_1_code
def y_RW_init : MethodName := ⟨"PolicyForge$Row", "<init>", "(I)V"⟩
theorem d_RW_init_0 : decode b_RW_init 0 = .ok (.aload_n 0, 1) := by decide +kernel
theorem d_RW_init_1 : decode b_RW_init 1 = .ok (.invokespecial 3, 3) := by decide +kernel
theorem d_RW_init_4 : decode b_RW_init 4 = .ok (.aload_n 0, 1) := by decide +kernel
theorem d_RW_init_5 : decode b_RW_init 5 = .ok (.iconst 0, 1) := by decide +kernel
theorem d_RW_init_6 : decode b_RW_init 6 = .ok (.putfield 9, 3) := by decide +kernel
theorem d_RW_init_9 : decode b_RW_init 9 = .ok (.aload_n 0, 1) := by decide +kernel
theorem d_RW_init_10 : decode b_RW_init 10 = .ok (.iconst 0, 1) := by decide +kernel
theorem d_RW_init_11 : decode b_RW_init 11 = .ok (.putfield 15, 3) := by decide +kernel
theorem d_RW_init_14 : decode b_RW_init 14 = .ok (.aload_n 0, 1) := by decide +kernel
theorem d_RW_init_15 : decode b_RW_init 15 = .ok (.iconst 0, 1) := by decide +kernel
theorem d_RW_init_16 : decode b_RW_init 16 = .ok (.putfield 18, 3) := by decide +kernel
theorem d_RW_init_19 : decode b_RW_init 19 = .ok (.aload_n 0, 1) := by decide +kernel
theorem d_RW_init_20 : decode b_RW_init 20 = .ok (.iload_n 1, 1) := by decide +kernel
theorem d_RW_init_21 : decode b_RW_init 21 = .ok (.newarray .int, 2) := by decide +kernel
theorem d_RW_init_23 : decode b_RW_init 23 = .ok (.putfield 22, 3) := by decide +kernel
theorem d_RW_init_26 : decode b_RW_init 26 = .ok (.return_, 1) := by decide +kernel
theorem oi_RW_3 : ∀ w ∈ ([.methodLink "PolicyForge$Row" 3 objectInit, .instanceMethod objectInit, .code objectInit ⟨#[0xb1]⟩ 1 none] : List Cond), w ∈ ab_T := List.forall_mem_cons.mpr ⟨(ab_in 149 (by decide +kernel) (by decide +kernel)), List.forall_mem_cons.mpr ⟨(ab_in 120 (by decide +kernel) (by decide +kernel)), List.forall_mem_cons.mpr ⟨(ab_in 121 (by decide +kernel) (by decide +kernel)), fun _ h => absurd h List.not_mem_nil⟩⟩⟩
theorem fF_RW_22 : ab_fF "PolicyForge$Row" 22 4 0 1 (t_RW 0) := ⟨rfl, R_RW, T_RW, 4, t_RW, rfl, uw_RW, by decide, rfl, (ab_in 150 (by decide +kernel) (by decide +kernel)), t_RW_ok, n_RW, rfl, rfl, rfl⟩
set_option maxRecDepth 100000 in
set_option maxHeartbeats 4000000 in
theorem c_RW_init {l : Launch} {D : va_G} {ca : Nat → ClassId} {N : Nat → Nat} (u : ab_S) (r : Nat) (hr : r < N 4) (hG : ab_G N u) (h1 : u.1 4 r 1 = 0) (h2 : u.1 4 r 2 = 0) (h3 : u.1 4 r 3 = 0) : ab_CA l D ca y_RW_init b_RW_init 2 1 1 40 N u [ab_O 4 r, ab_I (nI (ab_ln 8 (N 8)))] (ab_nx N 8) (fun u' => u' = ab_ur u 4 r 0 (some (8, N 8))) := by
  refine ab_CA.of (by decide) rfl (Nat.le_of_ble_eq_true rfl) ?_
  intro p e s m args below meth c ad X hr0 hlk hin
  refine ab_aload_n X 0 d_RW_init_0 rfl rfl ?_
  refine ab_objInit X oi_RW_3 d_RW_init_1 ⟨by first | exact Nat.le_of_ble_eq_true rfl | (simp only [ab_rm]; omega), by first | exact Nat.le_of_ble_eq_true rfl | (simp only [ab_rm]; omega)⟩ (Nat.le_of_ble_eq_true rfl) ?_
  refine ab_aload_n X 0 d_RW_init_4 rfl rfl ?_
  refine ab_iconst (v := 0) X d_RW_init_5 (by decide) ?_
  refine ab_putI X fp_RW_9 d_RW_init_6 (by first | assumption | decide) rfl rfl ?_
  refine ab_u (ab_ui_same h1) ?_
  refine ab_aload_n X 0 d_RW_init_9 rfl rfl ?_
  refine ab_iconst (v := 0) X d_RW_init_10 (by decide) ?_
  refine ab_putI X fp_RW_15 d_RW_init_11 (by first | assumption | decide) rfl rfl ?_
  refine ab_u (ab_ui_same h2) ?_
  refine ab_aload_n X 0 d_RW_init_14 rfl rfl ?_
  refine ab_iconst (v := 0) X d_RW_init_15 (by decide) ?_
  refine ab_putI X fp_RW_18 d_RW_init_16 (by first | assumption | decide) (by decide +kernel) (by decide +kernel) ?_
  refine ab_u (ab_ui_same h3) ?_
  refine ab_aload_n X 0 d_RW_init_19 rfl rfl ?_
  refine ab_iload_n X 1 d_RW_init_20 rfl rfl ?_
  refine ab_newa (c' := 8) X rfl (ab_in 171 (by decide +kernel) (by decide +kernel)) (Or.inl ⟨rfl, Or.inl rfl⟩) (fun _ => rfl) d_RW_init_21 (rfl) (ab_ln_le _ _) (by decide) (hG) (by (repeat' (first | (intro q hq; exact absurd hq (List.not_mem_nil)) | refine List.forall_mem_cons.mpr ⟨?_, ?_⟩)) <;> (first | trivial | (refine Or.inl ?_; first | assumption | exact Nat.le_of_ble_eq_true rfl | exact Nat.lt_succ_self _ | (simp [ab_nx]; done) | (simp [ab_nx]; omega)))) (by (repeat' (first | (intro q hq; exact absurd hq (List.not_mem_nil)) | refine List.forall_mem_cons.mpr ⟨?_, ?_⟩)) <;> (first | trivial | (refine Or.inl ?_; first | assumption | exact Nat.le_of_ble_eq_true rfl | exact Nat.lt_succ_self _ | (simp [ab_nx]; done) | (simp [ab_nx]; omega)))) ⟨Nat.le_of_ble_eq_true rfl, by have := ab_ln8 (N 8); simp only [ab_rm]; omega⟩ (fun ad21 x21 => ?_)
  refine ab_widen (k := 1) (n := 40) (Nat.le_of_ble_eq_true rfl) (by have := ab_ln8 (N 8); omega) ?_
  refine ab_putFR X fF_RW_22 (by first | exact Or.inl ⟨_, rfl⟩ | exact Or.inr ⟨_, rfl⟩) hin d_RW_init_23 (ab_nx_lt hr) ?_
  exact ab_retA X hr0 hlk x21 d_RW_init_26 rfl
/-- the state behind new Form(d): f the form, t its array, r and r + 1 its rows, i and i + 1 their arrays -/
def ab_form (u : ab_S) (f t r i : Nat) (d : Int32) : ab_S :=
  ab_ur (ab_ur (ab_ui (ab_ur (ab_ur (ab_ur u 3 f 0 (some (9, t))) 4 r 0 (some (8, i))) 3 f 3 (some (4, r))) 3 f 1 d) 4 (r + 1) 0 (some (8, i + 1))) 3 f 2 (some (4, r + 1))
def ab_nF (N : Nat → Nat) : Nat → Nat := ab_nx (ab_nx (ab_nx (ab_nx (ab_nx N 9) 4) 8) 4) 8
abbrev b_FM_init : ByteArray := prog_3_method_1_code
def y_FM_init : MethodName := ⟨"PolicyForge$Form", "<init>", "(Z)V"⟩
theorem d_FM_init_0 : decode b_FM_init 0 = .ok (.aload_n 0, 1) := by decide +kernel
theorem d_FM_init_1 : decode b_FM_init 1 = .ok (.invokespecial 3, 3) := by decide +kernel
theorem d_FM_init_4 : decode b_FM_init 4 = .ok (.aload_n 0, 1) := by decide +kernel
theorem d_FM_init_5 : decode b_FM_init 5 = .ok (.iconst 4, 1) := by decide +kernel
theorem d_FM_init_6 : decode b_FM_init 6 = .ok (.anewarray 9, 3) := by decide +kernel
theorem d_FM_init_9 : decode b_FM_init 9 = .ok (.putfield 11, 3) := by decide +kernel
theorem d_FM_init_12 : decode b_FM_init 12 = .ok (.aload_n 0, 1) := by decide +kernel
theorem d_FM_init_13 : decode b_FM_init 13 = .ok (.new 15, 3) := by decide +kernel
theorem d_FM_init_16 : decode b_FM_init 16 = .ok (.dup, 1) := by decide +kernel
theorem d_FM_init_17 : decode b_FM_init 17 = .ok (.bipush 40, 2) := by decide +kernel
theorem d_FM_init_19 : decode b_FM_init 19 = .ok (.invokespecial 17, 3) := by decide +kernel
theorem d_FM_init_22 : decode b_FM_init 22 = .ok (.putfield 20, 3) := by decide +kernel
theorem d_FM_init_25 : decode b_FM_init 25 = .ok (.aload_n 0, 1) := by decide +kernel
theorem d_FM_init_26 : decode b_FM_init 26 = .ok (.iconst 0, 1) := by decide +kernel
theorem d_FM_init_27 : decode b_FM_init 27 = .ok (.putfield 24, 3) := by decide +kernel
theorem d_FM_init_30 : decode b_FM_init 30 = .ok (.aload_n 0, 1) := by decide +kernel
theorem d_FM_init_31 : decode b_FM_init 31 = .ok (.iconst 0, 1) := by decide +kernel
theorem d_FM_init_32 : decode b_FM_init 32 = .ok (.putfield 28, 3) := by decide +kernel
theorem d_FM_init_35 : decode b_FM_init 35 = .ok (.aload_n 0, 1) := by decide +kernel
theorem d_FM_init_36 : decode b_FM_init 36 = .ok (.iconst 0, 1) := by decide +kernel
theorem d_FM_init_37 : decode b_FM_init 37 = .ok (.putfield 31, 3) := by decide +kernel
theorem d_FM_init_40 : decode b_FM_init 40 = .ok (.aload_n 0, 1) := by decide +kernel
theorem d_FM_init_41 : decode b_FM_init 41 = .ok (.iconst 0, 1) := by decide +kernel
theorem d_FM_init_42 : decode b_FM_init 42 = .ok (.putfield 34, 3) := by decide +kernel
theorem d_FM_init_45 : decode b_FM_init 45 = .ok (.aload_n 0, 1) := by decide +kernel
theorem d_FM_init_46 : decode b_FM_init 46 = .ok (.iconst 0, 1) := by decide +kernel
theorem d_FM_init_47 : decode b_FM_init 47 = .ok (.putfield 37, 3) := by decide +kernel
theorem d_FM_init_50 : decode b_FM_init 50 = .ok (.aload_n 0, 1) := by decide +kernel
theorem d_FM_init_51 : decode b_FM_init 51 = .ok (.iconst 0, 1) := by decide +kernel
theorem d_FM_init_52 : decode b_FM_init 52 = .ok (.putfield 40, 3) := by decide +kernel
theorem d_FM_init_55 : decode b_FM_init 55 = .ok (.aload_n 0, 1) := by decide +kernel
theorem d_FM_init_56 : decode b_FM_init 56 = .ok (.iload_n 1, 1) := by decide +kernel
theorem d_FM_init_57 : decode b_FM_init 57 = .ok (.putfield 43, 3) := by decide +kernel
theorem d_FM_init_60 : decode b_FM_init 60 = .ok (.aload_n 0, 1) := by decide +kernel
theorem d_FM_init_61 : decode b_FM_init 61 = .ok (.new 15, 3) := by decide +kernel
theorem d_FM_init_64 : decode b_FM_init 64 = .ok (.dup, 1) := by decide +kernel
theorem d_FM_init_65 : decode b_FM_init 65 = .ok (.iload_n 1, 1) := by decide +kernel
theorem d_FM_init_66 : decode b_FM_init 66 = .ok (.ifCond .eq 8, 3) := by decide +kernel
theorem d_FM_init_69 : decode b_FM_init 69 = .ok (.bipush 40, 2) := by decide +kernel
theorem d_FM_init_71 : decode b_FM_init 71 = .ok (.goto 4, 3) := by decide +kernel
theorem d_FM_init_74 : decode b_FM_init 74 = .ok (.iconst 0, 1) := by decide +kernel
theorem d_FM_init_75 : decode b_FM_init 75 = .ok (.invokespecial 17, 3) := by decide +kernel
theorem d_FM_init_78 : decode b_FM_init 78 = .ok (.putfield 47, 3) := by decide +kernel
theorem d_FM_init_81 : decode b_FM_init 81 = .ok (.return_, 1) := by decide +kernel
theorem oi_FM_3 : ∀ w ∈ ([.methodLink "PolicyForge$Form" 3 objectInit, .instanceMethod objectInit, .code objectInit ⟨#[0xb1]⟩ 1 none] : List Cond), w ∈ ab_T := List.forall_mem_cons.mpr ⟨(ab_in 141 (by decide +kernel) (by decide +kernel)), List.forall_mem_cons.mpr ⟨(ab_in 120 (by decide +kernel) (by decide +kernel)), List.forall_mem_cons.mpr ⟨(ab_in 121 (by decide +kernel) (by decide +kernel)), fun _ h => absurd h List.not_mem_nil⟩⟩⟩
theorem uw_FM : ∀ w ∈ u_ws R_FM T_FM 10, w ∈ ab_T := fun w h => List.mem_filter.mpr ⟨by have h2 := h; revert w; decide +kernel, by revert w; decide +kernel⟩
theorem fF_FM_11 : ab_fF "PolicyForge$Form" 11 3 0 1 (t_FM 0) := ⟨rfl, R_FM, T_FM, 10, t_FM, rfl, uw_FM, by decide, rfl, (ab_in 172 (by decide +kernel) (by decide +kernel)), t_FM_ok, n_FM, rfl, rfl, rfl⟩
theorem nw_FM_15 : ab_nw "PolicyForge$Form" 15 4 4 := ⟨rfl, R_RW, T_RW, t_RW, rfl, uw_RW, t_RW_ok, List.forall_mem_cons.mpr ⟨(ab_in 144 (by decide +kernel) (by decide +kernel)), List.forall_mem_cons.mpr ⟨(ab_in 145 (by decide +kernel) (by decide +kernel)), List.forall_mem_cons.mpr ⟨(ab_in 96 (by decide +kernel) (by decide +kernel)), fun _ h => absurd h List.not_mem_nil⟩⟩⟩, rfl, by decide +kernel⟩
theorem lI_FM_17 : ab_lI "PolicyForge$Form" 17 y_RW_init b_RW_init 2 1 := ⟨List.forall_mem_cons.mpr ⟨(ab_in 146 (by decide +kernel) (by decide +kernel)), List.forall_mem_cons.mpr ⟨(ab_in 147 (by decide +kernel) (by decide +kernel)), List.forall_mem_cons.mpr ⟨(ab_in 96 (by decide +kernel) (by decide +kernel)), List.forall_mem_cons.mpr ⟨(ab_in 148 (by decide +kernel) (by decide +kernel)), fun _ h => absurd h List.not_mem_nil⟩⟩⟩⟩, ⟨rfl, by decide +kernel, by decide +kernel, by decide +kernel⟩, by decide⟩
theorem fF_FM_20 : ab_fF "PolicyForge$Form" 20 3 3 1 (.object "PolicyForge$Row") := ⟨rfl, R_FM, T_FM, 10, t_FM, rfl, uw_FM, by decide, rfl, (ab_in 176 (by decide +kernel) (by decide +kernel)), t_FM_ok, n_FM, rfl, rfl, rfl⟩
theorem fp_FM_24 : ab_fp "PolicyForge$Form" 24 3 4 0 .int := ⟨rfl, R_FM, T_FM, 10, t_FM, rfl, uw_FM, by decide, rfl, (ab_in 178 (by decide +kernel) (by decide +kernel)), t_FM_ok, n_FM, rfl, rfl⟩
theorem fp_FM_28 : ab_fp "PolicyForge$Form" 28 3 5 0 .int := ⟨rfl, R_FM, T_FM, 10, t_FM, rfl, uw_FM, by decide, rfl, (ab_in 181 (by decide +kernel) (by decide +kernel)), t_FM_ok, n_FM, rfl, rfl⟩
theorem fp_FM_31 : ab_fp "PolicyForge$Form" 31 3 6 0 .int := ⟨rfl, R_FM, T_FM, 10, t_FM, rfl, uw_FM, by decide, rfl, (ab_in 183 (by decide +kernel) (by decide +kernel)), t_FM_ok, n_FM, rfl, rfl⟩
theorem fp_FM_34 : ab_fp "PolicyForge$Form" 34 3 7 0 .int := ⟨rfl, R_FM, T_FM, 10, t_FM, rfl, uw_FM, by decide, rfl, (ab_in 185 (by decide +kernel) (by decide +kernel)), t_FM_ok, n_FM, rfl, rfl⟩
theorem fp_FM_37 : ab_fp "PolicyForge$Form" 37 3 8 0 .int := ⟨rfl, R_FM, T_FM, 10, t_FM, rfl, uw_FM, by decide, rfl, (ab_in 187 (by decide +kernel) (by decide +kernel)), t_FM_ok, n_FM, rfl, rfl⟩
theorem fp_FM_40 : ab_fp "PolicyForge$Form" 40 3 9 0 .int := ⟨rfl, R_FM, T_FM, 10, t_FM, rfl, uw_FM, by decide, rfl, (ab_in 189 (by decide +kernel) (by decide +kernel)), t_FM_ok, n_FM, rfl, rfl⟩
theorem fF_FM_43 : ab_fF "PolicyForge$Form" 43 3 1 0 .boolean := ⟨rfl, R_FM, T_FM, 10, t_FM, rfl, uw_FM, by decide, rfl, (ab_in 174 (by decide +kernel) (by decide +kernel)), t_FM_ok, n_FM, rfl, rfl, rfl⟩
theorem fF_FM_47 : ab_fF "PolicyForge$Form" 47 3 2 1 (.object "PolicyForge$Row") := ⟨rfl, R_FM, T_FM, 10, t_FM, rfl, uw_FM, by decide, rfl, (ab_in 175 (by decide +kernel) (by decide +kernel)), t_FM_ok, n_FM, rfl, rfl, rfl⟩
set_option maxRecDepth 100000 in
set_option maxHeartbeats 4000000 in
theorem c_FM_init {l : Launch} {D : va_G} {ca : Nat → ClassId} {N : Nat → Nat} (u : ab_S) (f : Nat) (d : Int32) (hf : f < N 3) (hG : ab_G N u) (h0 : ∀ k, u.1 3 f k = 0) (hd0 : d = 0 ∨ d = 1) (h40 : ab_ln 8 (N 8) = 40) (h41 : ab_ln 8 (N 8 + 1) = if d = 0 then 0 else 40) : ab_CA l D ca y_FM_init b_FM_init 2 2 5 92 N u [ab_O 3 f, ab_I d] (ab_nF N) (fun u' => u' = ab_form u f (N 9) (N 4) (N 8) d) := by
  refine ab_CA.of (by decide) rfl (Nat.le_of_ble_eq_true rfl) ?_
  intro p e s m args below meth c ad X hr0 hlk hin
  have hz : narrow .boolean (.int d) = .int d ∧ fits .boolean (.int d) = true := by rcases hd0 with rfl | rfl <;> exact ⟨by decide +kernel, by decide +kernel⟩
  refine ab_aload_n X 0 d_FM_init_0 rfl rfl ?_
  refine ab_objInit X oi_FM_3 d_FM_init_1 ⟨by first | exact Nat.le_of_ble_eq_true rfl | (simp only [ab_rm]; omega), by first | exact Nat.le_of_ble_eq_true rfl | (simp only [ab_rm]; omega)⟩ (Nat.le_of_ble_eq_true rfl) ?_
  refine ab_aload_n X 0 d_FM_init_4 rfl rfl ?_
  refine ab_iconst (v := 4) X d_FM_init_5 (by decide) ?_
  refine ab_newq (c' := 9) X rfl ⟨(ab_in 142 (by decide +kernel) (by decide +kernel)), (List.mem_filter.mpr ⟨List.mem_of_getElem? (i := 143) (by decide +kernel), by decide +kernel⟩)⟩ (fun _ => rfl) d_FM_init_6 (rfl) (ab_ln_le _ _) (by decide) (hG) (by (repeat' (first | (intro q hq; exact absurd hq (List.not_mem_nil)) | refine List.forall_mem_cons.mpr ⟨?_, ?_⟩)) <;> (first | trivial | (refine Or.inl ?_; first | assumption | exact Nat.le_of_ble_eq_true rfl | exact Nat.lt_succ_self _ | (simp [ab_nx]; done) | (simp [ab_nx]; omega)))) (by (repeat' (first | (intro q hq; exact absurd hq (List.not_mem_nil)) | refine List.forall_mem_cons.mpr ⟨?_, ?_⟩)) <;> (first | trivial | (refine Or.inl ?_; first | assumption | exact Nat.le_of_ble_eq_true rfl | exact Nat.lt_succ_self _ | (simp [ab_nx]; done) | (simp [ab_nx]; omega)))) ⟨by first | exact Nat.le_of_ble_eq_true rfl | (simp only [ab_rm]; omega), by first | exact Nat.le_of_ble_eq_true rfl | (simp only [ab_rm]; omega)⟩ (fun ad6 x6 => ?_)
  refine ab_widen (k := 1) (n := 4) (Nat.le_of_ble_eq_true rfl) (Nat.le_of_ble_eq_true rfl) ?_
  have hf1 : f < ab_nx N 9 3 := hf
  refine ab_putFR X fF_FM_11 (by first | exact Or.inl ⟨_, rfl⟩ | exact Or.inr ⟨_, rfl⟩) hin d_FM_init_9 hf1 ?_
  refine ab_aload_n X 0 d_FM_init_12 rfl rfl ?_
  have hG1 : ab_G (ab_nx N 9) (ab_ur u 3 f 0 (some (9, N 9))) := (hG.more (ab_nx_le N 9)).ur hf1 (Or.inl (Nat.lt_succ_self _))
  refine ab_new X nw_FM_15 d_FM_init_13 (by decide) (hG1) (by (repeat' (first | (intro q hq; exact absurd hq (List.not_mem_nil)) | refine List.forall_mem_cons.mpr ⟨?_, ?_⟩)) <;> (first | trivial | (refine Or.inl ?_; first | assumption | exact Nat.le_of_ble_eq_true rfl | exact Nat.lt_succ_self _ | (simp [ab_nx]; done) | (simp [ab_nx]; omega)))) (by (repeat' (first | (intro q hq; exact absurd hq (List.not_mem_nil)) | refine List.forall_mem_cons.mpr ⟨?_, ?_⟩)) <;> (first | trivial | (refine Or.inl ?_; first | assumption | exact Nat.le_of_ble_eq_true rfl | exact Nat.lt_succ_self _ | (simp [ab_nx]; done) | (simp [ab_nx]; omega)))) ⟨by first | exact Nat.le_of_ble_eq_true rfl | (simp only [ab_rm]; omega), by first | exact Nat.le_of_ble_eq_true rfl | (simp only [ab_rm]; omega)⟩ (fun ad13 x13 => ?_)
  refine ab_widen (k := 2) (n := 8) (Nat.le_of_ble_eq_true rfl) (Nat.le_of_ble_eq_true rfl) ?_
  refine ab_dup X d_FM_init_16 rfl ?_
  refine ab_bipush (v := 40) X d_FM_init_17 (by decide) ?_
  refine ab_top (v := nI (ab_ln 8 (N 8))) (by rw [h40]; rfl) ?_
  have hG2 : ab_G (ab_nx (ab_nx N 9) 4) (ab_ur u 3 f 0 (some (9, N 9))) := hG1.more (ab_nx_le _ 4)
  refine ab_callI (as := [ab_I (nI (ab_ln 8 (N 8)))]) X (c_RW_init (N := ab_nx (ab_nx N 9) 4) (ab_ur u 3 f 0 (some (9, N 9))) (N 4) (Nat.lt_succ_self _) hG2 (hG.1 4 (N 4) 1 (Nat.le_refl _)).1 (hG.1 4 (N 4) 2 (Nat.le_refl _)).1 (hG.1 4 (N 4) 3 (Nat.le_refl _)).1) lI_FM_17 d_FM_init_19 rfl rfl (by (repeat' (first | (intro q hq; exact absurd hq (List.not_mem_nil)) | refine List.forall_mem_cons.mpr ⟨?_, ?_⟩)) <;> (first | trivial | (refine Or.inl ?_; first | assumption | exact Nat.le_of_ble_eq_true rfl | exact Nat.lt_succ_self _ | (simp [ab_nx]; done) | (simp [ab_nx]; omega)))) (by (repeat' (first | (intro q hq; exact absurd hq (List.not_mem_nil)) | refine List.forall_mem_cons.mpr ⟨?_, ?_⟩)) <;> (first | trivial | (refine Or.inl ?_; first | assumption | exact Nat.le_of_ble_eq_true rfl | exact Nat.lt_succ_self _ | (simp [ab_nx]; done) | (simp [ab_nx]; omega)))) ⟨by first | exact Nat.le_of_ble_eq_true rfl | (simp only [ab_rm]; omega), by first | exact Nat.le_of_ble_eq_true rfl | (simp only [ab_rm]; omega)⟩ ⟨by first | exact Nat.le_of_ble_eq_true rfl | (simp only [ab_rm]; omega), by first | exact Nat.le_of_ble_eq_true rfl | (simp only [ab_rm]; omega)⟩ (Nat.le_of_ble_eq_true rfl) (fun ad19 u19 x19 h19 => ?_)
  obtain rfl := h19
  refine ab_widen (k := 3) (n := 48) (Nat.le_of_ble_eq_true rfl) (Nat.le_of_ble_eq_true rfl) ?_
  have hf2 : f < ab_nx (ab_nx (ab_nx N 9) 4) 8 3 := hf
  refine ab_putFR X fF_FM_20 (by first | exact Or.inl ⟨_, rfl⟩ | exact Or.inr ⟨_, rfl⟩) hin d_FM_init_22 hf2 ?_
  refine ab_aload_n X 0 d_FM_init_25 rfl rfl ?_
  refine ab_iconst (v := 0) X d_FM_init_26 (by decide) ?_
  refine ab_putI X fp_FM_24 d_FM_init_27 hf2 rfl rfl ?_
  refine ab_u (ab_ui_same (h0 4)) ?_
  refine ab_aload_n X 0 d_FM_init_30 rfl rfl ?_
  refine ab_iconst (v := 0) X d_FM_init_31 (by decide) ?_
  refine ab_putI X fp_FM_28 d_FM_init_32 hf2 rfl rfl ?_
  refine ab_u (ab_ui_same (h0 5)) ?_
  refine ab_aload_n X 0 d_FM_init_35 rfl rfl ?_
  refine ab_iconst (v := 0) X d_FM_init_36 (by decide) ?_
  refine ab_putI X fp_FM_31 d_FM_init_37 hf2 rfl rfl ?_
  refine ab_u (ab_ui_same (h0 6)) ?_
  refine ab_aload_n X 0 d_FM_init_40 rfl rfl ?_
  refine ab_iconst (v := 0) X d_FM_init_41 (by decide) ?_
  refine ab_putI X fp_FM_34 d_FM_init_42 hf2 rfl rfl ?_
  refine ab_u (ab_ui_same (h0 7)) ?_
  refine ab_aload_n X 0 d_FM_init_45 rfl rfl ?_
  refine ab_iconst (v := 0) X d_FM_init_46 (by decide) ?_
  refine ab_putI X fp_FM_37 d_FM_init_47 hf2 rfl rfl ?_
  refine ab_u (ab_ui_same (h0 8)) ?_
  refine ab_aload_n X 0 d_FM_init_50 rfl rfl ?_
  refine ab_iconst (v := 0) X d_FM_init_51 (by decide) ?_
  refine ab_putI X fp_FM_40 d_FM_init_52 hf2 rfl rfl ?_
  refine ab_u (ab_ui_same (h0 9)) ?_
  refine ab_aload_n X 0 d_FM_init_55 rfl rfl ?_
  refine ab_iload_n X 1 d_FM_init_56 rfl rfl ?_
  refine ab_putFI X fF_FM_43 hin d_FM_init_57 hf2 hz.1 hz.2 ?_
  refine ab_aload_n X 0 d_FM_init_60 rfl rfl ?_
  have hG3 : ab_G (ab_nx (ab_nx (ab_nx N 9) 4) 8) (ab_ui (ab_ur (ab_ur (ab_ur u 3 f 0 (some (9, N 9))) 4 (N 4) 0 (some (8, N 8))) 3 f 3 (some (4, N 4))) 3 f 1 d) := (((hG2.more (ab_nx_le _ 8)).ur (c := 4) (i := N 4) (k := 0) (r := some (8, N 8)) (Nat.lt_succ_self _) (Or.inl (Nat.lt_succ_self _))).ur (k := 3) (r := some (4, N 4)) hf2 (Or.inl (Nat.lt_succ_self _))).ui hf2 d
  refine ab_new X nw_FM_15 d_FM_init_61 (by decide) (hG3) (by (repeat' (first | (intro q hq; exact absurd hq (List.not_mem_nil)) | refine List.forall_mem_cons.mpr ⟨?_, ?_⟩)) <;> (first | trivial | (refine Or.inl ?_; first | assumption | exact Nat.le_of_ble_eq_true rfl | exact Nat.lt_succ_self _ | (simp [ab_nx]; done) | (simp [ab_nx]; omega)))) (by (repeat' (first | (intro q hq; exact absurd hq (List.not_mem_nil)) | refine List.forall_mem_cons.mpr ⟨?_, ?_⟩)) <;> (first | trivial | (refine Or.inl ?_; first | assumption | exact Nat.le_of_ble_eq_true rfl | exact Nat.lt_succ_self _ | (simp [ab_nx]; done) | (simp [ab_nx]; omega)))) ⟨by first | exact Nat.le_of_ble_eq_true rfl | (simp only [ab_rm]; omega), by first | exact Nat.le_of_ble_eq_true rfl | (simp only [ab_rm]; omega)⟩ (fun ad61 x61 => ?_)
  refine ab_widen (k := 4) (n := 52) (Nat.le_of_ble_eq_true rfl) (Nat.le_of_ble_eq_true rfl) ?_
  refine ab_dup X d_FM_init_64 rfl ?_
  refine ab_iload_n X 1 d_FM_init_65 rfl rfl ?_
  have hG4 : ab_G (ab_nx (ab_nx (ab_nx (ab_nx N 9) 4) 8) 4) (ab_ui (ab_ur (ab_ur (ab_ur u 3 f 0 (some (9, N 9))) 4 (N 4) 0 (some (8, N 8))) 3 f 3 (some (4, N 4))) 3 f 1 d) := hG3.more (ab_nx_le _ 4)
  have zr : ∀ k, (ab_ui (ab_ur (ab_ur (ab_ur u 3 f 0 (some (9, N 9))) 4 (N 4) 0 (some (8, N 8))) 3 f 3 (some (4, N 4))) 3 f 1 d).1 4 (N 4 + 1) k = 0 := fun k => (hG3.1 4 (N 4 + 1) k (Nat.le_refl _)).1
  have hcont : ∀ (adx : ab_Ad), ab_ex N ad adx → ab_J p l e (ab_rm 2 5 92) s m args below meth c (MQ below (ab_QA D ca ad N (ab_nF N) s.heap.size fun u' => u' = ab_form u f (N 9) (N 4) (N 8) d) args s 5 92 (ab_A ad N s.heap.size)) D ca (ab_A ad N s.heap.size) s.heap 2 4 52 adx (ab_nx (ab_nx (ab_nx (ab_nx N 9) 4) 8) 4) (ab_ui (ab_ur (ab_ur (ab_ur u 3 f 0 (some (9, N 9))) 4 (N 4) 0 (some (8, N 8))) 3 f 3 (some (4, N 4))) 3 f 1 d) 75 [(0, ab_O 3 f), (1, ab_I d)] [ab_I (nI (ab_ln 8 (N 8 + 1))), ab_O 4 (N 4 + 1), ab_O 4 (N 4 + 1), ab_O 3 f] := by
    intro adx hx
    refine ab_callI (as := [ab_I (nI (ab_ln 8 (N 8 + 1)))]) X (c_RW_init (N := ab_nx (ab_nx (ab_nx (ab_nx N 9) 4) 8) 4) (ab_ui (ab_ur (ab_ur (ab_ur u 3 f 0 (some (9, N 9))) 4 (N 4) 0 (some (8, N 8))) 3 f 3 (some (4, N 4))) 3 f 1 d) (N 4 + 1) (Nat.lt_succ_self _) hG4 (zr 1) (zr 2) (zr 3)) lI_FM_17 d_FM_init_75 rfl rfl (by (repeat' (first | (intro q hq; exact absurd hq (List.not_mem_nil)) | refine List.forall_mem_cons.mpr ⟨?_, ?_⟩)) <;> (first | trivial | (refine Or.inl ?_; first | assumption | exact Nat.le_of_ble_eq_true rfl | exact Nat.lt_succ_self _ | (simp [ab_nx]; done) | (simp [ab_nx]; omega)))) (by (repeat' (first | (intro q hq; exact absurd hq (List.not_mem_nil)) | refine List.forall_mem_cons.mpr ⟨?_, ?_⟩)) <;> (first | trivial | (refine Or.inl ?_; first | assumption | exact Nat.le_of_ble_eq_true rfl | exact Nat.lt_succ_self _ | (simp [ab_nx]; done) | (simp [ab_nx]; omega)))) ⟨by first | exact Nat.le_of_ble_eq_true rfl | (simp only [ab_rm]; omega), by first | exact Nat.le_of_ble_eq_true rfl | (simp only [ab_rm]; omega)⟩ ⟨by first | exact Nat.le_of_ble_eq_true rfl | (simp only [ab_rm]; omega), by first | exact Nat.le_of_ble_eq_true rfl | (simp only [ab_rm]; omega)⟩ (Nat.le_of_ble_eq_true rfl) (fun ad75 u75 x75 h75 => ?_)
    obtain rfl := h75
    refine ab_widen (k := 5) (n := 92) (Nat.le_of_ble_eq_true rfl) (Nat.le_of_ble_eq_true rfl) ?_
    have hf3 : f < ab_nF N 3 := hf
    refine ab_putFR X fF_FM_47 (by first | exact Or.inl ⟨_, rfl⟩ | exact Or.inr ⟨_, rfl⟩) hin d_FM_init_78 hf3 ?_
    exact ab_retA X hr0 hlk (ab_ex.trans hx (fun k => Nat.le_trans (ab_nx_le N 9 k) (Nat.le_trans (ab_nx_le _ 4 k) (Nat.le_trans (ab_nx_le _ 8 k) (ab_nx_le _ 4 k)))) x75) d_FM_init_81 rfl
  have hx : ab_ex N ad ad61 := ab_ex.trans (ab_ex.trans (ab_ex.trans x6 (ab_nx_le N 9) x13) (fun k => Nat.le_trans (ab_nx_le N 9 k) (ab_nx_le _ 4 k)) x19) (fun k => Nat.le_trans (ab_nx_le N 9 k) (Nat.le_trans (ab_nx_le _ 4 k) (ab_nx_le _ 8 k))) x61
  rcases hd0 with hd1 | hd1
  ·
    refine ab_if_eq X 74 d_FM_init_66 rfl (fun _ => ?_) (fun hb => absurd (hd1) hb)
    refine ab_iconst (v := 0) X d_FM_init_74 (by decide) ?_
    refine ab_top (v := nI (ab_ln 8 (N 8 + 1))) (by rw [h41, if_pos hd1]; rfl) ?_
    exact hcont ad61 hx
  ·
    refine ab_if_eq X 74 d_FM_init_66 rfl (fun hb => absurd hb ((by rw [hd1]; decide))) (fun _ => ?_)
    refine ab_bipush (v := 40) X d_FM_init_69 (by decide) ?_
    refine ab_goto X 75 d_FM_init_71 rfl ?_
    refine ab_top (v := nI (ab_ln 8 (N 8 + 1))) (by rw [h41, if_neg (by rw [hd1]; decide)]; rfl) ?_
    exact hcont ad61 hx
theorem ab_nF_le (N : Nat → Nat) (c : Nat) : N c ≤ ab_nF N c := Nat.le_trans (ab_nx_le N 9 c) (Nat.le_trans (ab_nx_le _ 4 c) (Nat.le_trans (ab_nx_le _ 8 c) (Nat.le_trans (ab_nx_le _ 4 c) (ab_nx_le _ 8 c))))
theorem ab_G_form {N : Nat → Nat} {u : ab_S} (hG : ab_G N u) {f : Nat} (hf : f < N 3) (d : Int32) : ab_G (ab_nF N) (ab_form u f (N 9) (N 4) (N 8) d) := by
  have h0 := hG.more (ab_nF_le N)
  have hf' : f < ab_nF N 3 := hf
  have h1 := h0.ur (k := 0) (r := some (9, N 9)) hf' (Or.inl (show N 9 < N 9 + 1 by omega))
  have h2 := h1.ur (c := 4) (i := N 4) (k := 0) (r := some (8, N 8)) (show N 4 < N 4 + 1 + 1 by omega) (Or.inl (show N 8 < N 8 + 1 + 1 by omega))
  have h3 := h2.ur (k := 3) (r := some (4, N 4)) hf' (Or.inl (show N 4 < N 4 + 1 + 1 by omega))
  have h4 := h3.ui (k := 1) hf' d
  have h5 := h4.ur (c := 4) (i := N 4 + 1) (k := 0) (r := some (8, N 8 + 1)) (show N 4 + 1 < N 4 + 1 + 1 by omega) (Or.inl (show N 8 + 1 < N 8 + 1 + 1 by omega))
  exact h5.ur (k := 2) (r := some (4, N 4 + 1)) hf' (Or.inl (show N 4 + 1 < N 4 + 1 + 1 by omega))
/-- the state behind new Part(): p the part, a its array, f, f + 1, f + 2 its forms -/
def ab_part (u : ab_S) (p a f t r i : Nat) : ab_S :=
  ab_ur (ab_form (ab_ur (ab_form (ab_ur (ab_form (ab_ur u 2 p 0 (some (10, a))) f t r i 0) 2 p 1 (some (3, f))) (f + 1) (t + 1) (r + 2) (i + 2) 1) 2 p 2 (some (3, f + 1))) (f + 2) (t + 2) (r + 4) (i + 4) 0) 2 p 3 (some (3, f + 2))
def ab_nP (N : Nat → Nat) : Nat → Nat := ab_nF (ab_nx (ab_nF (ab_nx (ab_nF (ab_nx (ab_nx N 10) 3)) 3)) 3)
theorem ab_nP_le (N : Nat → Nat) (c : Nat) : N c ≤ ab_nP N c := Nat.le_trans (ab_nx_le N 10 c) (Nat.le_trans (ab_nx_le _ 3 c) (Nat.le_trans (ab_nF_le _ c) (Nat.le_trans (ab_nx_le _ 3 c) (Nat.le_trans (ab_nF_le _ c) (Nat.le_trans (ab_nx_le _ 3 c) (ab_nF_le _ c))))))
theorem ab_form_1 (u : ab_S) (f t r i : Nat) (d : Int32) {c k : Nat} (j : Nat) (h : c ≠ 3) : (ab_form u f t r i d).1 c j k = u.1 c j k := by
  show ab_up u.1 3 f 1 d c j k = _
  exact ab_up_n _ _ fun q => h q.1
theorem ab_ln8e (p : Nat) (hp : p < 20) : ab_ln 8 (6 * p) = 40 ∧ ab_ln 8 (6 * p + 1) = 0 ∧ ab_ln 8 (6 * p + 2) = 40 ∧ ab_ln 8 (6 * p + 3) = 40 ∧ ab_ln 8 (6 * p + 4) = 40 ∧ ab_ln 8 (6 * p + 5) = 0 := by
  unfold ab_ln
  rw [if_pos rfl, if_pos rfl, if_pos rfl, if_pos rfl, if_pos rfl, if_pos rfl]
  refine ⟨if_neg (by omega), if_pos (by omega), if_neg (by omega), if_neg (by omega), if_neg (by omega), if_pos (by omega)⟩
abbrev b_PT_init : ByteArray := prog_5_method_1_code
def y_PT_init : MethodName := ⟨"PolicyForge$Part", "<init>", "()V"⟩
theorem d_PT_init_0 : decode b_PT_init 0 = .ok (.aload_n 0, 1) := by decide +kernel
theorem d_PT_init_1 : decode b_PT_init 1 = .ok (.invokespecial 3, 3) := by decide +kernel
theorem d_PT_init_4 : decode b_PT_init 4 = .ok (.aload_n 0, 1) := by decide +kernel
theorem d_PT_init_5 : decode b_PT_init 5 = .ok (.iconst 4, 1) := by decide +kernel
theorem d_PT_init_6 : decode b_PT_init 6 = .ok (.anewarray 9, 3) := by decide +kernel
theorem d_PT_init_9 : decode b_PT_init 9 = .ok (.putfield 11, 3) := by decide +kernel
theorem d_PT_init_12 : decode b_PT_init 12 = .ok (.aload_n 0, 1) := by decide +kernel
theorem d_PT_init_13 : decode b_PT_init 13 = .ok (.new 15, 3) := by decide +kernel
theorem d_PT_init_16 : decode b_PT_init 16 = .ok (.dup, 1) := by decide +kernel
theorem d_PT_init_17 : decode b_PT_init 17 = .ok (.iconst 0, 1) := by decide +kernel
theorem d_PT_init_18 : decode b_PT_init 18 = .ok (.invokespecial 17, 3) := by decide +kernel
theorem d_PT_init_21 : decode b_PT_init 21 = .ok (.putfield 20, 3) := by decide +kernel
theorem d_PT_init_24 : decode b_PT_init 24 = .ok (.aload_n 0, 1) := by decide +kernel
theorem d_PT_init_25 : decode b_PT_init 25 = .ok (.new 15, 3) := by decide +kernel
theorem d_PT_init_28 : decode b_PT_init 28 = .ok (.dup, 1) := by decide +kernel
theorem d_PT_init_29 : decode b_PT_init 29 = .ok (.iconst 1, 1) := by decide +kernel
theorem d_PT_init_30 : decode b_PT_init 30 = .ok (.invokespecial 17, 3) := by decide +kernel
theorem d_PT_init_33 : decode b_PT_init 33 = .ok (.putfield 24, 3) := by decide +kernel
theorem d_PT_init_36 : decode b_PT_init 36 = .ok (.aload_n 0, 1) := by decide +kernel
theorem d_PT_init_37 : decode b_PT_init 37 = .ok (.new 15, 3) := by decide +kernel
theorem d_PT_init_40 : decode b_PT_init 40 = .ok (.dup, 1) := by decide +kernel
theorem d_PT_init_41 : decode b_PT_init 41 = .ok (.iconst 0, 1) := by decide +kernel
theorem d_PT_init_42 : decode b_PT_init 42 = .ok (.invokespecial 17, 3) := by decide +kernel
theorem d_PT_init_45 : decode b_PT_init 45 = .ok (.putfield 27, 3) := by decide +kernel
theorem d_PT_init_48 : decode b_PT_init 48 = .ok (.aload_n 0, 1) := by decide +kernel
theorem d_PT_init_49 : decode b_PT_init 49 = .ok (.iconst 0, 1) := by decide +kernel
theorem d_PT_init_50 : decode b_PT_init 50 = .ok (.putfield 30, 3) := by decide +kernel
theorem d_PT_init_53 : decode b_PT_init 53 = .ok (.aload_n 0, 1) := by decide +kernel
theorem d_PT_init_54 : decode b_PT_init 54 = .ok (.iconst 0, 1) := by decide +kernel
theorem d_PT_init_55 : decode b_PT_init 55 = .ok (.putfield 34, 3) := by decide +kernel
theorem d_PT_init_58 : decode b_PT_init 58 = .ok (.aload_n 0, 1) := by decide +kernel
theorem d_PT_init_59 : decode b_PT_init 59 = .ok (.iconst 0, 1) := by decide +kernel
theorem d_PT_init_60 : decode b_PT_init 60 = .ok (.putfield 37, 3) := by decide +kernel
theorem d_PT_init_63 : decode b_PT_init 63 = .ok (.aload_n 0, 1) := by decide +kernel
theorem d_PT_init_64 : decode b_PT_init 64 = .ok (.iconst 0, 1) := by decide +kernel
theorem d_PT_init_65 : decode b_PT_init 65 = .ok (.putfield 40, 3) := by decide +kernel
theorem d_PT_init_68 : decode b_PT_init 68 = .ok (.return_, 1) := by decide +kernel
theorem oi_PT_3 : ∀ w ∈ ([.methodLink "PolicyForge$Part" 3 objectInit, .instanceMethod objectInit, .code objectInit ⟨#[0xb1]⟩ 1 none] : List Cond), w ∈ ab_T := List.forall_mem_cons.mpr ⟨(ab_in 134 (by decide +kernel) (by decide +kernel)), List.forall_mem_cons.mpr ⟨(ab_in 120 (by decide +kernel) (by decide +kernel)), List.forall_mem_cons.mpr ⟨(ab_in 121 (by decide +kernel) (by decide +kernel)), fun _ h => absurd h List.not_mem_nil⟩⟩⟩
theorem uw_PT : ∀ w ∈ u_ws R_PT T_PT 8, w ∈ ab_T := fun w h => List.mem_filter.mpr ⟨by have h2 := h; revert w; decide +kernel, by revert w; decide +kernel⟩
theorem fF_PT_11 : ab_fF "PolicyForge$Part" 11 2 0 1 (t_PT 0) := ⟨rfl, R_PT, T_PT, 8, t_PT, rfl, uw_PT, by decide, rfl, (ab_in 212 (by decide +kernel) (by decide +kernel)), t_PT_ok, n_PT, rfl, rfl, rfl⟩
theorem nw_PT_15 : ab_nw "PolicyForge$Part" 15 3 10 := ⟨rfl, R_FM, T_FM, t_FM, rfl, uw_FM, t_FM_ok, List.forall_mem_cons.mpr ⟨(ab_in 136 (by decide +kernel) (by decide +kernel)), List.forall_mem_cons.mpr ⟨(ab_in 137 (by decide +kernel) (by decide +kernel)), List.forall_mem_cons.mpr ⟨(ab_in 95 (by decide +kernel) (by decide +kernel)), fun _ h => absurd h List.not_mem_nil⟩⟩⟩, rfl, by decide +kernel⟩
theorem lI_PT_17 : ab_lI "PolicyForge$Part" 17 y_FM_init b_FM_init 2 1 := ⟨List.forall_mem_cons.mpr ⟨(ab_in 138 (by decide +kernel) (by decide +kernel)), List.forall_mem_cons.mpr ⟨(ab_in 139 (by decide +kernel) (by decide +kernel)), List.forall_mem_cons.mpr ⟨(ab_in 95 (by decide +kernel) (by decide +kernel)), List.forall_mem_cons.mpr ⟨(ab_in 140 (by decide +kernel) (by decide +kernel)), fun _ h => absurd h List.not_mem_nil⟩⟩⟩⟩, ⟨rfl, by decide +kernel, by decide +kernel, by decide +kernel⟩, by decide⟩
theorem fF_PT_20 : ab_fF "PolicyForge$Part" 20 2 1 1 (.object "PolicyForge$Form") := ⟨rfl, R_PT, T_PT, 8, t_PT, rfl, uw_PT, by decide, rfl, (ab_in 213 (by decide +kernel) (by decide +kernel)), t_PT_ok, n_PT, rfl, rfl, rfl⟩
theorem fF_PT_24 : ab_fF "PolicyForge$Part" 24 2 2 1 (.object "PolicyForge$Form") := ⟨rfl, R_PT, T_PT, 8, t_PT, rfl, uw_PT, by decide, rfl, (ab_in 215 (by decide +kernel) (by decide +kernel)), t_PT_ok, n_PT, rfl, rfl, rfl⟩
theorem fF_PT_27 : ab_fF "PolicyForge$Part" 27 2 3 1 (.object "PolicyForge$Form") := ⟨rfl, R_PT, T_PT, 8, t_PT, rfl, uw_PT, by decide, rfl, (ab_in 217 (by decide +kernel) (by decide +kernel)), t_PT_ok, n_PT, rfl, rfl, rfl⟩
theorem fp_PT_30 : ab_fp "PolicyForge$Part" 30 2 4 0 .int := ⟨rfl, R_PT, T_PT, 8, t_PT, rfl, uw_PT, by decide, rfl, (ab_in 219 (by decide +kernel) (by decide +kernel)), t_PT_ok, n_PT, rfl, rfl⟩
theorem fp_PT_34 : ab_fp "PolicyForge$Part" 34 2 5 0 .int := ⟨rfl, R_PT, T_PT, 8, t_PT, rfl, uw_PT, by decide, rfl, (ab_in 221 (by decide +kernel) (by decide +kernel)), t_PT_ok, n_PT, rfl, rfl⟩
theorem fp_PT_37 : ab_fp "PolicyForge$Part" 37 2 6 0 .int := ⟨rfl, R_PT, T_PT, 8, t_PT, rfl, uw_PT, by decide, rfl, (ab_in 223 (by decide +kernel) (by decide +kernel)), t_PT_ok, n_PT, rfl, rfl⟩
theorem fp_PT_40 : ab_fp "PolicyForge$Part" 40 2 7 0 .boolean := ⟨rfl, R_PT, T_PT, 8, t_PT, rfl, uw_PT, by decide, rfl, (ab_in 224 (by decide +kernel) (by decide +kernel)), t_PT_ok, n_PT, rfl, rfl⟩
set_option maxRecDepth 100000 in
set_option maxHeartbeats 8000000 in
theorem c_PT_init {l : Launch} {D : va_G} {ca : Nat → ClassId} {N : Nat → Nat} (u : ab_S) (p0 : Nat) (hp0 : p0 < 20) (hp : p0 < N 2) (h8 : N 8 = 6 * p0) (hG : ab_G N u) (h0 : ∀ k, u.1 2 p0 k = 0) : ab_CA l D ca y_PT_init b_PT_init 1 3 19 310 N u [ab_O 2 p0] (ab_nP N) (fun u' => u' = ab_part u p0 (N 10) (N 3) (N 9) (N 4) (N 8)) := by
  refine ab_CA.of (by decide) rfl (Nat.le_of_ble_eq_true rfl) ?_
  intro p e s m args below meth c ad X hr0 hlk hin
  obtain ⟨e0, e1, e2, e3, e4, e5⟩ := ab_ln8e p0 hp0
  rw [← h8] at e0 e1 e2 e3 e4 e5
  refine ab_aload_n X 0 d_PT_init_0 rfl rfl ?_
  refine ab_objInit X oi_PT_3 d_PT_init_1 ⟨by first | exact Nat.le_of_ble_eq_true rfl | (simp only [ab_rm]; omega), by first | exact Nat.le_of_ble_eq_true rfl | (simp only [ab_rm]; omega)⟩ (Nat.le_of_ble_eq_true rfl) ?_
  refine ab_aload_n X 0 d_PT_init_4 rfl rfl ?_
  refine ab_iconst (v := 4) X d_PT_init_5 (by decide) ?_
  refine ab_newq (c' := 10) X rfl ⟨(ab_in 135 (by decide +kernel) (by decide +kernel)), (List.mem_filter.mpr ⟨List.mem_of_getElem? (i := 129) (by decide +kernel), by decide +kernel⟩)⟩ (fun _ => rfl) d_PT_init_6 (rfl) (ab_ln_le _ _) (by decide) (hG) (by (repeat' (first | (intro q hq; exact absurd hq (List.not_mem_nil)) | refine List.forall_mem_cons.mpr ⟨?_, ?_⟩)) <;> (first | trivial | (refine Or.inl ?_; first | assumption | exact Nat.le_of_ble_eq_true rfl | exact Nat.lt_succ_self _ | (simp [ab_nx]; done) | (simp [ab_nx]; omega)))) (by (repeat' (first | (intro q hq; exact absurd hq (List.not_mem_nil)) | refine List.forall_mem_cons.mpr ⟨?_, ?_⟩)) <;> (first | trivial | (refine Or.inl ?_; first | assumption | exact Nat.le_of_ble_eq_true rfl | exact Nat.lt_succ_self _ | (simp [ab_nx]; done) | (simp [ab_nx]; omega)))) ⟨by first | exact Nat.le_of_ble_eq_true rfl | (simp only [ab_rm]; omega), by first | exact Nat.le_of_ble_eq_true rfl | (simp only [ab_rm]; omega)⟩ (fun ad6 x6 => ?_)
  refine ab_widen (k := 1) (n := 4) (Nat.le_of_ble_eq_true rfl) (Nat.le_of_ble_eq_true rfl) ?_
  refine ab_putFR X fF_PT_11 (by first | exact Or.inl ⟨_, rfl⟩ | exact Or.inr ⟨_, rfl⟩) hin d_PT_init_9 hp ?_
  refine ab_aload_n X 0 d_PT_init_12 rfl rfl ?_
  have hG1 : ab_G (ab_nx N 10) (ab_ur u 2 p0 0 (some (10, N 10))) := (hG.more (ab_nx_le N 10)).ur (c := 2) (i := p0) (k := 0) (r := some (10, N 10)) hp (Or.inl (Nat.lt_succ_self _))
  refine ab_new X nw_PT_15 d_PT_init_13 (by decide) (hG1) (by (repeat' (first | (intro q hq; exact absurd hq (List.not_mem_nil)) | refine List.forall_mem_cons.mpr ⟨?_, ?_⟩)) <;> (first | trivial | (refine Or.inl ?_; first | assumption | exact Nat.le_of_ble_eq_true rfl | exact Nat.lt_succ_self _ | (simp [ab_nx]; done) | (simp [ab_nx]; omega)))) (by (repeat' (first | (intro q hq; exact absurd hq (List.not_mem_nil)) | refine List.forall_mem_cons.mpr ⟨?_, ?_⟩)) <;> (first | trivial | (refine Or.inl ?_; first | assumption | exact Nat.le_of_ble_eq_true rfl | exact Nat.lt_succ_self _ | (simp [ab_nx]; done) | (simp [ab_nx]; omega)))) ⟨by first | exact Nat.le_of_ble_eq_true rfl | (simp only [ab_rm]; omega), by first | exact Nat.le_of_ble_eq_true rfl | (simp only [ab_rm]; omega)⟩ (fun ad13 x13 => ?_)
  refine ab_widen (k := 2) (n := 14) (Nat.le_of_ble_eq_true rfl) (Nat.le_of_ble_eq_true rfl) ?_
  refine ab_dup X d_PT_init_16 rfl ?_
  refine ab_iconst (v := 0) X d_PT_init_17 (by decide) ?_
  have hG2 := hG1.more (ab_nx_le _ 3)
  refine ab_callI (as := [ab_I 0]) X (c_FM_init (N := ab_nx (ab_nx N 10) 3) (ab_ur u 2 p0 0 (some (10, N 10))) (N 3) 0 (Nat.lt_succ_self _) hG2 (fun k => (hG1.1 3 (N 3) k (Nat.le_refl _)).1) (Or.inl rfl) e0 e1) lI_PT_17 d_PT_init_18 rfl rfl (by (repeat' (first | (intro q hq; exact absurd hq (List.not_mem_nil)) | refine List.forall_mem_cons.mpr ⟨?_, ?_⟩)) <;> (first | trivial | (refine Or.inl ?_; first | assumption | exact Nat.le_of_ble_eq_true rfl | exact Nat.lt_succ_self _ | (simp [ab_nx]; done) | (simp [ab_nx]; omega)))) (by (repeat' (first | (intro q hq; exact absurd hq (List.not_mem_nil)) | refine List.forall_mem_cons.mpr ⟨?_, ?_⟩)) <;> (first | trivial | (refine Or.inl ?_; first | assumption | exact Nat.le_of_ble_eq_true rfl | exact Nat.lt_succ_self _ | (simp [ab_nx]; done) | (simp [ab_nx]; omega)))) ⟨by first | exact Nat.le_of_ble_eq_true rfl | (simp only [ab_rm]; omega), by first | exact Nat.le_of_ble_eq_true rfl | (simp only [ab_rm]; omega)⟩ ⟨by first | exact Nat.le_of_ble_eq_true rfl | (simp only [ab_rm]; omega), by first | exact Nat.le_of_ble_eq_true rfl | (simp only [ab_rm]; omega)⟩ (Nat.le_of_ble_eq_true rfl) (fun ad18 u18 x18 h18 => ?_)
  obtain rfl := h18
  refine ab_widen (k := 7) (n := 106) (Nat.le_of_ble_eq_true rfl) (Nat.le_of_ble_eq_true rfl) ?_
  refine ab_putFR X fF_PT_20 (by first | exact Or.inl ⟨_, rfl⟩ | exact Or.inr ⟨_, rfl⟩) hin d_PT_init_21 hp ?_
  refine ab_aload_n X 0 d_PT_init_24 rfl rfl ?_
  have hG3 := (ab_G_form hG2 (f := N 3) (Nat.lt_succ_self _) 0).ur (c := 2) (i := p0) (k := 1) (r := some (3, N 3)) hp (Or.inl (Nat.lt_succ_self _))
  refine ab_new X nw_PT_15 d_PT_init_25 (by decide) (hG3) (by (repeat' (first | (intro q hq; exact absurd hq (List.not_mem_nil)) | refine List.forall_mem_cons.mpr ⟨?_, ?_⟩)) <;> (first | trivial | (refine Or.inl ?_; first | assumption | exact Nat.le_of_ble_eq_true rfl | exact Nat.lt_succ_self _ | (simp [ab_nx]; done) | (simp [ab_nx]; omega)))) (by (repeat' (first | (intro q hq; exact absurd hq (List.not_mem_nil)) | refine List.forall_mem_cons.mpr ⟨?_, ?_⟩)) <;> (first | trivial | (refine Or.inl ?_; first | assumption | exact Nat.le_of_ble_eq_true rfl | exact Nat.lt_succ_self _ | (simp [ab_nx]; done) | (simp [ab_nx]; omega)))) ⟨by first | exact Nat.le_of_ble_eq_true rfl | (simp only [ab_rm]; omega), by first | exact Nat.le_of_ble_eq_true rfl | (simp only [ab_rm]; omega)⟩ (fun ad25 x25 => ?_)
  refine ab_widen (k := 8) (n := 116) (Nat.le_of_ble_eq_true rfl) (Nat.le_of_ble_eq_true rfl) ?_
  refine ab_dup X d_PT_init_28 rfl ?_
  refine ab_iconst (v := 1) X d_PT_init_29 (by decide) ?_
  have hG4 := hG3.more (ab_nx_le _ 3)
  refine ab_callI (as := [ab_I 1]) X (c_FM_init (N := ab_nx (ab_nF (ab_nx (ab_nx N 10) 3)) 3) _ (N 3 + 1) 1 (Nat.lt_succ_self _) hG4 (fun k => (hG3.1 3 (N 3 + 1) k (Nat.le_refl _)).1) (Or.inr rfl) e2 e3) lI_PT_17 d_PT_init_30 rfl rfl (by (repeat' (first | (intro q hq; exact absurd hq (List.not_mem_nil)) | refine List.forall_mem_cons.mpr ⟨?_, ?_⟩)) <;> (first | trivial | (refine Or.inl ?_; first | assumption | exact Nat.le_of_ble_eq_true rfl | exact Nat.lt_succ_self _ | (simp [ab_nx]; done) | (simp [ab_nx]; omega)))) (by (repeat' (first | (intro q hq; exact absurd hq (List.not_mem_nil)) | refine List.forall_mem_cons.mpr ⟨?_, ?_⟩)) <;> (first | trivial | (refine Or.inl ?_; first | assumption | exact Nat.le_of_ble_eq_true rfl | exact Nat.lt_succ_self _ | (simp [ab_nx]; done) | (simp [ab_nx]; omega)))) ⟨by first | exact Nat.le_of_ble_eq_true rfl | (simp only [ab_rm]; omega), by first | exact Nat.le_of_ble_eq_true rfl | (simp only [ab_rm]; omega)⟩ ⟨by first | exact Nat.le_of_ble_eq_true rfl | (simp only [ab_rm]; omega), by first | exact Nat.le_of_ble_eq_true rfl | (simp only [ab_rm]; omega)⟩ (Nat.le_of_ble_eq_true rfl) (fun ad30 u30 x30 h30 => ?_)
  obtain rfl := h30
  refine ab_widen (k := 13) (n := 208) (Nat.le_of_ble_eq_true rfl) (Nat.le_of_ble_eq_true rfl) ?_
  refine ab_putFR X fF_PT_24 (by first | exact Or.inl ⟨_, rfl⟩ | exact Or.inr ⟨_, rfl⟩) hin d_PT_init_33 hp ?_
  refine ab_aload_n X 0 d_PT_init_36 rfl rfl ?_
  have hG5 := (ab_G_form hG4 (f := N 3 + 1) (Nat.lt_succ_self _) 1).ur (c := 2) (i := p0) (k := 2) (r := some (3, N 3 + 1)) hp (Or.inl (Nat.lt_succ_self _))
  refine ab_new X nw_PT_15 d_PT_init_37 (by decide) (hG5) (by (repeat' (first | (intro q hq; exact absurd hq (List.not_mem_nil)) | refine List.forall_mem_cons.mpr ⟨?_, ?_⟩)) <;> (first | trivial | (refine Or.inl ?_; first | assumption | exact Nat.le_of_ble_eq_true rfl | exact Nat.lt_succ_self _ | (simp [ab_nx]; done) | (simp [ab_nx]; omega)))) (by (repeat' (first | (intro q hq; exact absurd hq (List.not_mem_nil)) | refine List.forall_mem_cons.mpr ⟨?_, ?_⟩)) <;> (first | trivial | (refine Or.inl ?_; first | assumption | exact Nat.le_of_ble_eq_true rfl | exact Nat.lt_succ_self _ | (simp [ab_nx]; done) | (simp [ab_nx]; omega)))) ⟨by first | exact Nat.le_of_ble_eq_true rfl | (simp only [ab_rm]; omega), by first | exact Nat.le_of_ble_eq_true rfl | (simp only [ab_rm]; omega)⟩ (fun ad37 x37 => ?_)
  refine ab_widen (k := 14) (n := 218) (Nat.le_of_ble_eq_true rfl) (Nat.le_of_ble_eq_true rfl) ?_
  refine ab_dup X d_PT_init_40 rfl ?_
  refine ab_iconst (v := 0) X d_PT_init_41 (by decide) ?_
  have hG6 := hG5.more (ab_nx_le _ 3)
  refine ab_callI (as := [ab_I 0]) X (c_FM_init (N := ab_nx (ab_nF (ab_nx (ab_nF (ab_nx (ab_nx N 10) 3)) 3)) 3) _ (N 3 + 2) 0 (Nat.lt_succ_self _) hG6 (fun k => (hG5.1 3 (N 3 + 2) k (Nat.le_refl _)).1) (Or.inl rfl) e4 e5) lI_PT_17 d_PT_init_42 rfl rfl (by (repeat' (first | (intro q hq; exact absurd hq (List.not_mem_nil)) | refine List.forall_mem_cons.mpr ⟨?_, ?_⟩)) <;> (first | trivial | (refine Or.inl ?_; first | assumption | exact Nat.le_of_ble_eq_true rfl | exact Nat.lt_succ_self _ | (simp [ab_nx]; done) | (simp [ab_nx]; omega)))) (by (repeat' (first | (intro q hq; exact absurd hq (List.not_mem_nil)) | refine List.forall_mem_cons.mpr ⟨?_, ?_⟩)) <;> (first | trivial | (refine Or.inl ?_; first | assumption | exact Nat.le_of_ble_eq_true rfl | exact Nat.lt_succ_self _ | (simp [ab_nx]; done) | (simp [ab_nx]; omega)))) ⟨by first | exact Nat.le_of_ble_eq_true rfl | (simp only [ab_rm]; omega), by first | exact Nat.le_of_ble_eq_true rfl | (simp only [ab_rm]; omega)⟩ ⟨by first | exact Nat.le_of_ble_eq_true rfl | (simp only [ab_rm]; omega), by first | exact Nat.le_of_ble_eq_true rfl | (simp only [ab_rm]; omega)⟩ (Nat.le_of_ble_eq_true rfl) (fun ad42 u42 x42 h42 => ?_)
  obtain rfl := h42
  refine ab_widen (k := 19) (n := 310) (Nat.le_of_ble_eq_true rfl) (Nat.le_of_ble_eq_true rfl) ?_
  refine ab_putFR X fF_PT_27 (by first | exact Or.inl ⟨_, rfl⟩ | exact Or.inr ⟨_, rfl⟩) hin d_PT_init_45 hp ?_
  refine ab_aload_n X 0 d_PT_init_48 rfl rfl ?_
  refine ab_iconst (v := 0) X d_PT_init_49 (by decide) ?_
  refine ab_putI X fp_PT_30 d_PT_init_50 hp rfl rfl ?_
  refine ab_u (ab_ui_same (h0 4)) ?_
  refine ab_aload_n X 0 d_PT_init_53 rfl rfl ?_
  refine ab_iconst (v := 0) X d_PT_init_54 (by decide) ?_
  refine ab_putI X fp_PT_34 d_PT_init_55 hp rfl rfl ?_
  refine ab_u (ab_ui_same (h0 5)) ?_
  refine ab_aload_n X 0 d_PT_init_58 rfl rfl ?_
  refine ab_iconst (v := 0) X d_PT_init_59 (by decide) ?_
  refine ab_putI X fp_PT_37 d_PT_init_60 hp rfl rfl ?_
  refine ab_u (ab_ui_same (h0 6)) ?_
  refine ab_aload_n X 0 d_PT_init_63 rfl rfl ?_
  refine ab_iconst (v := 0) X d_PT_init_64 (by decide) ?_
  refine ab_putI X fp_PT_40 d_PT_init_65 hp (by decide +kernel) (by decide +kernel) ?_
  refine ab_u (ab_ui_same (h0 7)) ?_
  have y1 := ab_ex.trans x6 (ab_nx_le N 10) x13
  have y2 := ab_ex.trans y1 (fun k => Nat.le_trans (ab_nx_le N 10 k) (ab_nx_le _ 3 k)) x18
  have y3 := ab_ex.trans y2 (fun k => Nat.le_trans (ab_nx_le N 10 k) (Nat.le_trans (ab_nx_le _ 3 k) (ab_nF_le _ k))) x25
  have y4 := ab_ex.trans y3 (fun k => Nat.le_trans (ab_nx_le N 10 k) (Nat.le_trans (ab_nx_le _ 3 k) (Nat.le_trans (ab_nF_le _ k) (ab_nx_le _ 3 k)))) x30
  have y5 := ab_ex.trans y4 (fun k => Nat.le_trans (ab_nx_le N 10 k) (Nat.le_trans (ab_nx_le _ 3 k) (Nat.le_trans (ab_nF_le _ k) (Nat.le_trans (ab_nx_le _ 3 k) (ab_nF_le _ k))))) x37
  have y6 := ab_ex.trans y5 (fun k => Nat.le_trans (ab_nx_le N 10 k) (Nat.le_trans (ab_nx_le _ 3 k) (Nat.le_trans (ab_nF_le _ k) (Nat.le_trans (ab_nx_le _ 3 k) (Nat.le_trans (ab_nF_le _ k) (ab_nx_le _ 3 k)))))) x42
  exact ab_retA X hr0 hlk y6 d_PT_init_68 rfl
theorem ab_G_part {N : Nat → Nat} {u : ab_S} (hG : ab_G N u) {p0 : Nat} (hp : p0 < N 2) : ab_G (ab_nP N) (ab_part u p0 (N 10) (N 3) (N 9) (N 4) (N 8)) := by
  have hG1 : ab_G (ab_nx N 10) (ab_ur u 2 p0 0 (some (10, N 10))) := (hG.more (ab_nx_le N 10)).ur (c := 2) (i := p0) (k := 0) (r := some (10, N 10)) hp (Or.inl (Nat.lt_succ_self _))
  have hG2 := hG1.more (ab_nx_le _ 3)
  have hG3 := (ab_G_form hG2 (f := N 3) (Nat.lt_succ_self _) 0).ur (c := 2) (i := p0) (k := 1) (r := some (3, N 3)) hp (Or.inl (Nat.lt_succ_self _))
  have hG4 := hG3.more (ab_nx_le _ 3)
  have hG5 := (ab_G_form hG4 (f := N 3 + 1) (Nat.lt_succ_self _) 1).ur (c := 2) (i := p0) (k := 2) (r := some (3, N 3 + 1)) hp (Or.inl (Nat.lt_succ_self _))
  have hG6 := hG5.more (ab_nx_le _ 3)
  exact (ab_G_form hG6 (f := N 3 + 2) (Nat.lt_succ_self _) 0).ur (c := 2) (i := p0) (k := 3) (r := some (3, N 3 + 2)) hp (Or.inl (Nat.lt_succ_self _))
end
section
/-! Constructors of Script, Facts, Machine, Reader. -/
abbrev b_SC_init : ByteArray := prog_8_method_1_code
def y_SC_init : MethodName := ⟨"PolicyForge$Script", "<init>", "()V"⟩
theorem d_SC_init_0 : decode b_SC_init 0 = .ok (.aload_n 0, 1) := by decide +kernel
theorem d_SC_init_1 : decode b_SC_init 1 = .ok (.invokespecial 3, 3) := by decide +kernel
theorem d_SC_init_4 : decode b_SC_init 4 = .ok (.aload_n 0, 1) := by decide +kernel
theorem d_SC_init_5 : decode b_SC_init 5 = .ok (.sipush 128, 3) := by decide +kernel
theorem d_SC_init_8 : decode b_SC_init 8 = .ok (.newarray .int, 2) := by decide +kernel
theorem d_SC_init_10 : decode b_SC_init 10 = .ok (.putfield 9, 3) := by decide +kernel
theorem d_SC_init_13 : decode b_SC_init 13 = .ok (.aload_n 0, 1) := by decide +kernel
theorem d_SC_init_14 : decode b_SC_init 14 = .ok (.bipush 38, 2) := by decide +kernel
theorem d_SC_init_16 : decode b_SC_init 16 = .ok (.anewarray 15, 3) := by decide +kernel
theorem d_SC_init_19 : decode b_SC_init 19 = .ok (.putfield 17, 3) := by decide +kernel
theorem d_SC_init_22 : decode b_SC_init 22 = .ok (.aload_n 0, 1) := by decide +kernel
theorem d_SC_init_23 : decode b_SC_init 23 = .ok (.iconst 0, 1) := by decide +kernel
theorem d_SC_init_24 : decode b_SC_init 24 = .ok (.putfield 21, 3) := by decide +kernel
theorem d_SC_init_27 : decode b_SC_init 27 = .ok (.aload_n 0, 1) := by decide +kernel
theorem d_SC_init_28 : decode b_SC_init 28 = .ok (.iconst 0, 1) := by decide +kernel
theorem d_SC_init_29 : decode b_SC_init 29 = .ok (.putfield 25, 3) := by decide +kernel
theorem d_SC_init_32 : decode b_SC_init 32 = .ok (.return_, 1) := by decide +kernel
theorem oi_SC_3 : ∀ w ∈ ([.methodLink "PolicyForge$Script" 3 objectInit, .instanceMethod objectInit, .code objectInit ⟨#[0xb1]⟩ 1 none] : List Cond), w ∈ ab_T := List.forall_mem_cons.mpr ⟨(ab_in 282 (by decide +kernel) (by decide +kernel)), List.forall_mem_cons.mpr ⟨(ab_in 120 (by decide +kernel) (by decide +kernel)), List.forall_mem_cons.mpr ⟨(ab_in 121 (by decide +kernel) (by decide +kernel)), fun _ h => absurd h List.not_mem_nil⟩⟩⟩
theorem uw_SC : ∀ w ∈ u_ws R_SC T_SC 4, w ∈ ab_T := fun w h => List.mem_filter.mpr ⟨by have h2 := h; revert w; decide +kernel, by revert w; decide +kernel⟩
theorem fF_SC_9 : ab_fF "PolicyForge$Script" 9 5 0 1 (t_SC 0) := ⟨rfl, R_SC, T_SC, 4, t_SC, rfl, uw_SC, by decide, rfl, (ab_in 284 (by decide +kernel) (by decide +kernel)), t_SC_ok, n_SC, rfl, rfl, rfl⟩
theorem fF_SC_17 : ab_fF "PolicyForge$Script" 17 5 1 1 (t_SC 1) := ⟨rfl, R_SC, T_SC, 4, t_SC, rfl, uw_SC, by decide, rfl, (ab_in 287 (by decide +kernel) (by decide +kernel)), t_SC_ok, n_SC, rfl, rfl, rfl⟩
theorem fp_SC_21 : ab_fp "PolicyForge$Script" 21 5 2 0 .int := ⟨rfl, R_SC, T_SC, 4, t_SC, rfl, uw_SC, by decide, rfl, (ab_in 289 (by decide +kernel) (by decide +kernel)), t_SC_ok, n_SC, rfl, rfl⟩
theorem fp_SC_25 : ab_fp "PolicyForge$Script" 25 5 3 0 .int := ⟨rfl, R_SC, T_SC, 4, t_SC, rfl, uw_SC, by decide, rfl, (ab_in 292 (by decide +kernel) (by decide +kernel)), t_SC_ok, n_SC, rfl, rfl⟩
set_option maxRecDepth 100000 in
set_option maxHeartbeats 4000000 in
theorem c_SC_init {l : Launch} {D : va_G} {ca : Nat → ClassId} {N : Nat → Nat} (u : ab_S) (i0 : Nat) (hi : i0 < N 5) (hG : ab_G N u) (h0 : ∀ k, u.1 5 i0 k = 0) : ab_CA l D ca y_SC_init b_SC_init 1 1 2 166 N u [ab_O 5 i0] (ab_nx (ab_nx N 13) 14) (fun u' => u' = ab_ur (ab_ur u 5 i0 0 (some (13, N 13))) 5 i0 1 (some (14, N 14))) := by
  refine ab_CA.of (by decide) rfl (Nat.le_of_ble_eq_true rfl) ?_
  intro p e s m args below meth c ad X hr0 hlk hin
  refine ab_aload_n X 0 d_SC_init_0 rfl rfl ?_
  refine ab_objInit X oi_SC_3 d_SC_init_1 ⟨by first | exact Nat.le_of_ble_eq_true rfl | (simp only [ab_rm]; omega), by first | exact Nat.le_of_ble_eq_true rfl | (simp only [ab_rm]; omega)⟩ (Nat.le_of_ble_eq_true rfl) ?_
  refine ab_aload_n X 0 d_SC_init_4 rfl rfl ?_
  refine ab_sipush (v := 128) X d_SC_init_5 (by decide) ?_
  refine ab_newa (c' := 13) X rfl (ab_in 171 (by decide +kernel) (by decide +kernel)) (Or.inl ⟨rfl, Or.inl rfl⟩) (fun _ => rfl) d_SC_init_8 (rfl) (ab_ln_le _ _) (by decide) (hG) (by (repeat' (first | (intro q hq; exact absurd hq (List.not_mem_nil)) | refine List.forall_mem_cons.mpr ⟨?_, ?_⟩)) <;> (first | trivial | (refine Or.inl ?_; first | assumption | exact Nat.le_of_ble_eq_true rfl | exact Nat.lt_succ_self _ | (simp [ab_nx]; done) | (simp [ab_nx]; omega)))) (by (repeat' (first | (intro q hq; exact absurd hq (List.not_mem_nil)) | refine List.forall_mem_cons.mpr ⟨?_, ?_⟩)) <;> (first | trivial | (refine Or.inl ?_; first | assumption | exact Nat.le_of_ble_eq_true rfl | exact Nat.lt_succ_self _ | (simp [ab_nx]; done) | (simp [ab_nx]; omega)))) ⟨by first | exact Nat.le_of_ble_eq_true rfl | (simp only [ab_rm]; omega), by first | exact Nat.le_of_ble_eq_true rfl | (simp only [ab_rm]; omega)⟩ (fun ad8 x8 => ?_)
  refine ab_widen (k := 1) (n := 128) (Nat.le_of_ble_eq_true rfl) (Nat.le_of_ble_eq_true rfl) ?_
  refine ab_putFR X fF_SC_9 (by first | exact Or.inl ⟨_, rfl⟩ | exact Or.inr ⟨_, rfl⟩) hin d_SC_init_10 hi ?_
  refine ab_aload_n X 0 d_SC_init_13 rfl rfl ?_
  have hG1 : ab_G (ab_nx N 13) (ab_ur u 5 i0 0 (some (13, N 13))) := (hG.more (ab_nx_le N 13)).ur (c := 5) (i := i0) (k := 0) (r := some (13, N 13)) hi (Or.inl (Nat.lt_succ_self _))
  refine ab_bipush (v := 38) X d_SC_init_14 (by decide) ?_
  refine ab_newq (c' := 14) X rfl ⟨(ab_in 283 (by decide +kernel) (by decide +kernel)), (List.mem_filter.mpr ⟨List.mem_of_getElem? (i := 143) (by decide +kernel), by decide +kernel⟩)⟩ (fun _ => rfl) d_SC_init_16 (rfl) (ab_ln_le _ _) (by decide) (hG1) (by (repeat' (first | (intro q hq; exact absurd hq (List.not_mem_nil)) | refine List.forall_mem_cons.mpr ⟨?_, ?_⟩)) <;> (first | trivial | (refine Or.inl ?_; first | assumption | exact Nat.le_of_ble_eq_true rfl | exact Nat.lt_succ_self _ | (simp [ab_nx]; done) | (simp [ab_nx]; omega)))) (by (repeat' (first | (intro q hq; exact absurd hq (List.not_mem_nil)) | refine List.forall_mem_cons.mpr ⟨?_, ?_⟩)) <;> (first | trivial | (refine Or.inl ?_; first | assumption | exact Nat.le_of_ble_eq_true rfl | exact Nat.lt_succ_self _ | (simp [ab_nx]; done) | (simp [ab_nx]; omega)))) ⟨by first | exact Nat.le_of_ble_eq_true rfl | (simp only [ab_rm]; omega), by first | exact Nat.le_of_ble_eq_true rfl | (simp only [ab_rm]; omega)⟩ (fun ad16 x16 => ?_)
  refine ab_widen (k := 2) (n := 166) (Nat.le_of_ble_eq_true rfl) (Nat.le_of_ble_eq_true rfl) ?_
  refine ab_putFR X fF_SC_17 (by first | exact Or.inl ⟨_, rfl⟩ | exact Or.inr ⟨_, rfl⟩) hin d_SC_init_19 hi ?_
  refine ab_aload_n X 0 d_SC_init_22 rfl rfl ?_
  refine ab_iconst (v := 0) X d_SC_init_23 (by decide) ?_
  refine ab_putI X fp_SC_21 d_SC_init_24 hi rfl rfl ?_
  refine ab_u (ab_ui_same (h0 2)) ?_
  refine ab_aload_n X 0 d_SC_init_27 rfl rfl ?_
  refine ab_iconst (v := 0) X d_SC_init_28 (by decide) ?_
  refine ab_putI X fp_SC_25 d_SC_init_29 hi rfl rfl ?_
  refine ab_u (ab_ui_same (h0 3)) ?_
  exact ab_retA X hr0 hlk (ab_ex.trans x8 (ab_nx_le N 13) x16) d_SC_init_32 rfl
abbrev b_FA_init : ByteArray := prog_2_method_1_code
def y_FA_init : MethodName := ⟨"PolicyForge$Facts", "<init>", "()V"⟩
theorem d_FA_init_0 : decode b_FA_init 0 = .ok (.aload_n 0, 1) := by decide +kernel
theorem d_FA_init_1 : decode b_FA_init 1 = .ok (.invokespecial 3, 3) := by decide +kernel
theorem d_FA_init_4 : decode b_FA_init 4 = .ok (.aload_n 0, 1) := by decide +kernel
theorem d_FA_init_5 : decode b_FA_init 5 = .ok (.iconst 0, 1) := by decide +kernel
theorem d_FA_init_6 : decode b_FA_init 6 = .ok (.putfield 9, 3) := by decide +kernel
theorem d_FA_init_9 : decode b_FA_init 9 = .ok (.aload_n 0, 1) := by decide +kernel
theorem d_FA_init_10 : decode b_FA_init 10 = .ok (.iconst 0, 1) := by decide +kernel
theorem d_FA_init_11 : decode b_FA_init 11 = .ok (.putfield 15, 3) := by decide +kernel
theorem d_FA_init_14 : decode b_FA_init 14 = .ok (.aload_n 0, 1) := by decide +kernel
theorem d_FA_init_15 : decode b_FA_init 15 = .ok (.iconst 0, 1) := by decide +kernel
theorem d_FA_init_16 : decode b_FA_init 16 = .ok (.putfield 18, 3) := by decide +kernel
theorem d_FA_init_19 : decode b_FA_init 19 = .ok (.aload_n 0, 1) := by decide +kernel
theorem d_FA_init_20 : decode b_FA_init 20 = .ok (.iconst 0, 1) := by decide +kernel
theorem d_FA_init_21 : decode b_FA_init 21 = .ok (.putfield 21, 3) := by decide +kernel
theorem d_FA_init_24 : decode b_FA_init 24 = .ok (.return_, 1) := by decide +kernel
theorem oi_FA_3 : ∀ w ∈ ([.methodLink "PolicyForge$Facts" 3 objectInit, .instanceMethod objectInit, .code objectInit ⟨#[0xb1]⟩ 1 none] : List Cond), w ∈ ab_T := List.forall_mem_cons.mpr ⟨(ab_in 308 (by decide +kernel) (by decide +kernel)), List.forall_mem_cons.mpr ⟨(ab_in 120 (by decide +kernel) (by decide +kernel)), List.forall_mem_cons.mpr ⟨(ab_in 121 (by decide +kernel) (by decide +kernel)), fun _ h => absurd h List.not_mem_nil⟩⟩⟩
theorem uw_FA : ∀ w ∈ u_ws R_FA T_FA 4, w ∈ ab_T := fun w h => List.mem_filter.mpr ⟨by have h2 := h; revert w; decide +kernel, by revert w; decide +kernel⟩
theorem fp_FA_9 : ab_fp "PolicyForge$Facts" 9 6 0 0 .int := ⟨rfl, R_FA, T_FA, 4, t_FA, rfl, uw_FA, by decide, rfl, (ab_in 309 (by decide +kernel) (by decide +kernel)), t_FA_ok, n_FA, rfl, rfl⟩
theorem fp_FA_15 : ab_fp "PolicyForge$Facts" 15 6 1 0 .int := ⟨rfl, R_FA, T_FA, 4, t_FA, rfl, uw_FA, by decide, rfl, (ab_in 310 (by decide +kernel) (by decide +kernel)), t_FA_ok, n_FA, rfl, rfl⟩
theorem fp_FA_18 : ab_fp "PolicyForge$Facts" 18 6 2 0 .int := ⟨rfl, R_FA, T_FA, 4, t_FA, rfl, uw_FA, by decide, rfl, (ab_in 311 (by decide +kernel) (by decide +kernel)), t_FA_ok, n_FA, rfl, rfl⟩
theorem fp_FA_21 : ab_fp "PolicyForge$Facts" 21 6 3 0 .int := ⟨rfl, R_FA, T_FA, 4, t_FA, rfl, uw_FA, by decide, rfl, (ab_in 312 (by decide +kernel) (by decide +kernel)), t_FA_ok, n_FA, rfl, rfl⟩
set_option maxRecDepth 100000 in
set_option maxHeartbeats 4000000 in
theorem c_FA_init {l : Launch} {D : va_G} {ca : Nat → ClassId} {N : Nat → Nat} (u : ab_S) (i0 : Nat) (hi : i0 < N 6) (h0 : ∀ k, u.1 6 i0 k = 0) : ab_CA l D ca y_FA_init b_FA_init 1 1 0 0 N u [ab_O 6 i0] N (fun u' => u' = u) := by
  refine ab_CA.of (by decide) rfl (Nat.le_of_ble_eq_true rfl) ?_
  intro p e s m args below meth c ad X hr0 hlk hin
  refine ab_aload_n X 0 d_FA_init_0 rfl rfl ?_
  refine ab_objInit X oi_FA_3 d_FA_init_1 ⟨by first | exact Nat.le_of_ble_eq_true rfl | (simp only [ab_rm]; omega), by first | exact Nat.le_of_ble_eq_true rfl | (simp only [ab_rm]; omega)⟩ (Nat.le_of_ble_eq_true rfl) ?_
  refine ab_aload_n X 0 d_FA_init_4 rfl rfl ?_
  refine ab_iconst (v := 0) X d_FA_init_5 (by decide) ?_
  refine ab_putI X fp_FA_9 d_FA_init_6 (by first | assumption | decide) rfl rfl ?_
  refine ab_u (ab_ui_same (h0 0)) ?_
  refine ab_aload_n X 0 d_FA_init_9 rfl rfl ?_
  refine ab_iconst (v := 0) X d_FA_init_10 (by decide) ?_
  refine ab_putI X fp_FA_15 d_FA_init_11 (by first | assumption | decide) rfl rfl ?_
  refine ab_u (ab_ui_same (h0 1)) ?_
  refine ab_aload_n X 0 d_FA_init_14 rfl rfl ?_
  refine ab_iconst (v := 0) X d_FA_init_15 (by decide) ?_
  refine ab_putI X fp_FA_18 d_FA_init_16 (by first | assumption | decide) rfl rfl ?_
  refine ab_u (ab_ui_same (h0 2)) ?_
  refine ab_aload_n X 0 d_FA_init_19 rfl rfl ?_
  refine ab_iconst (v := 0) X d_FA_init_20 (by decide) ?_
  refine ab_putI X fp_FA_21 d_FA_init_21 (by first | assumption | decide) rfl rfl ?_
  refine ab_u (ab_ui_same (h0 3)) ?_
  exact ab_retA X hr0 hlk ab_ex.rf d_FA_init_24 rfl
abbrev b_MA_init : ByteArray := prog_4_method_1_code
def y_MA_init : MethodName := ⟨"PolicyForge$Machine", "<init>", "()V"⟩
theorem d_MA_init_0 : decode b_MA_init 0 = .ok (.aload_n 0, 1) := by decide +kernel
theorem d_MA_init_1 : decode b_MA_init 1 = .ok (.invokespecial 3, 3) := by decide +kernel
theorem d_MA_init_4 : decode b_MA_init 4 = .ok (.aload_n 0, 1) := by decide +kernel
theorem d_MA_init_5 : decode b_MA_init 5 = .ok (.sipush 168, 3) := by decide +kernel
theorem d_MA_init_8 : decode b_MA_init 8 = .ok (.newarray .int, 2) := by decide +kernel
theorem d_MA_init_10 : decode b_MA_init 10 = .ok (.putfield 9, 3) := by decide +kernel
theorem d_MA_init_13 : decode b_MA_init 13 = .ok (.aload_n 0, 1) := by decide +kernel
theorem d_MA_init_14 : decode b_MA_init 14 = .ok (.sipush 128, 3) := by decide +kernel
theorem d_MA_init_17 : decode b_MA_init 17 = .ok (.newarray .int, 2) := by decide +kernel
theorem d_MA_init_19 : decode b_MA_init 19 = .ok (.putfield 15, 3) := by decide +kernel
theorem d_MA_init_22 : decode b_MA_init 22 = .ok (.aload_n 0, 1) := by decide +kernel
theorem d_MA_init_23 : decode b_MA_init 23 = .ok (.iconst 0, 1) := by decide +kernel
theorem d_MA_init_24 : decode b_MA_init 24 = .ok (.putfield 18, 3) := by decide +kernel
theorem d_MA_init_27 : decode b_MA_init 27 = .ok (.aload_n 0, 1) := by decide +kernel
theorem d_MA_init_28 : decode b_MA_init 28 = .ok (.iconst 0, 1) := by decide +kernel
theorem d_MA_init_29 : decode b_MA_init 29 = .ok (.putfield 22, 3) := by decide +kernel
theorem d_MA_init_32 : decode b_MA_init 32 = .ok (.aload_n 0, 1) := by decide +kernel
theorem d_MA_init_33 : decode b_MA_init 33 = .ok (.iconst 0, 1) := by decide +kernel
theorem d_MA_init_34 : decode b_MA_init 34 = .ok (.putfield 25, 3) := by decide +kernel
theorem d_MA_init_37 : decode b_MA_init 37 = .ok (.aload_n 0, 1) := by decide +kernel
theorem d_MA_init_38 : decode b_MA_init 38 = .ok (.iconst 0, 1) := by decide +kernel
theorem d_MA_init_39 : decode b_MA_init 39 = .ok (.putfield 28, 3) := by decide +kernel
theorem d_MA_init_42 : decode b_MA_init 42 = .ok (.aload_n 0, 1) := by decide +kernel
theorem d_MA_init_43 : decode b_MA_init 43 = .ok (.iconst 0, 1) := by decide +kernel
theorem d_MA_init_44 : decode b_MA_init 44 = .ok (.putfield 31, 3) := by decide +kernel
theorem d_MA_init_47 : decode b_MA_init 47 = .ok (.return_, 1) := by decide +kernel
theorem oi_MA_3 : ∀ w ∈ ([.methodLink "PolicyForge$Machine" 3 objectInit, .instanceMethod objectInit, .code objectInit ⟨#[0xb1]⟩ 1 none] : List Cond), w ∈ ab_T := List.forall_mem_cons.mpr ⟨(ab_in 327 (by decide +kernel) (by decide +kernel)), List.forall_mem_cons.mpr ⟨(ab_in 120 (by decide +kernel) (by decide +kernel)), List.forall_mem_cons.mpr ⟨(ab_in 121 (by decide +kernel) (by decide +kernel)), fun _ h => absurd h List.not_mem_nil⟩⟩⟩
theorem uw_MA : ∀ w ∈ u_ws R_MA T_MA 7, w ∈ ab_T := fun w h => List.mem_filter.mpr ⟨by have h2 := h; revert w; decide +kernel, by revert w; decide +kernel⟩
theorem fF_MA_9 : ab_fF "PolicyForge$Machine" 9 7 0 1 (t_MA 0) := ⟨rfl, R_MA, T_MA, 7, t_MA, rfl, uw_MA, by decide, rfl, (ab_in 328 (by decide +kernel) (by decide +kernel)), t_MA_ok, n_MA, rfl, rfl, rfl⟩
theorem fF_MA_15 : ab_fF "PolicyForge$Machine" 15 7 1 1 (t_MA 1) := ⟨rfl, R_MA, T_MA, 7, t_MA, rfl, uw_MA, by decide, rfl, (ab_in 329 (by decide +kernel) (by decide +kernel)), t_MA_ok, n_MA, rfl, rfl, rfl⟩
theorem fp_MA_18 : ab_fp "PolicyForge$Machine" 18 7 2 0 .int := ⟨rfl, R_MA, T_MA, 7, t_MA, rfl, uw_MA, by decide, rfl, (ab_in 330 (by decide +kernel) (by decide +kernel)), t_MA_ok, n_MA, rfl, rfl⟩
theorem fp_MA_22 : ab_fp "PolicyForge$Machine" 22 7 3 0 .int := ⟨rfl, R_MA, T_MA, 7, t_MA, rfl, uw_MA, by decide, rfl, (ab_in 331 (by decide +kernel) (by decide +kernel)), t_MA_ok, n_MA, rfl, rfl⟩
theorem fp_MA_25 : ab_fp "PolicyForge$Machine" 25 7 4 0 .int := ⟨rfl, R_MA, T_MA, 7, t_MA, rfl, uw_MA, by decide, rfl, (ab_in 332 (by decide +kernel) (by decide +kernel)), t_MA_ok, n_MA, rfl, rfl⟩
theorem fp_MA_28 : ab_fp "PolicyForge$Machine" 28 7 5 0 .int := ⟨rfl, R_MA, T_MA, 7, t_MA, rfl, uw_MA, by decide, rfl, (ab_in 333 (by decide +kernel) (by decide +kernel)), t_MA_ok, n_MA, rfl, rfl⟩
theorem fp_MA_31 : ab_fp "PolicyForge$Machine" 31 7 6 0 .boolean := ⟨rfl, R_MA, T_MA, 7, t_MA, rfl, uw_MA, by decide, rfl, (ab_in 335 (by decide +kernel) (by decide +kernel)), t_MA_ok, n_MA, rfl, rfl⟩
set_option maxRecDepth 100000 in
set_option maxHeartbeats 4000000 in
theorem c_MA_init {l : Launch} {D : va_G} {ca : Nat → ClassId} {N : Nat → Nat} (u : ab_S) (i0 : Nat) (hi : i0 < N 7) (hG : ab_G N u) (h0 : ∀ k, u.1 7 i0 k = 0) : ab_CA l D ca y_MA_init b_MA_init 1 1 2 296 N u [ab_O 7 i0] (ab_nx (ab_nx N 15) 16) (fun u' => u' = ab_ur (ab_ur u 7 i0 0 (some (15, N 15))) 7 i0 1 (some (16, N 16))) := by
  refine ab_CA.of (by decide) rfl (Nat.le_of_ble_eq_true rfl) ?_
  intro p e s m args below meth c ad X hr0 hlk hin
  refine ab_aload_n X 0 d_MA_init_0 rfl rfl ?_
  refine ab_objInit X oi_MA_3 d_MA_init_1 ⟨by first | exact Nat.le_of_ble_eq_true rfl | (simp only [ab_rm]; omega), by first | exact Nat.le_of_ble_eq_true rfl | (simp only [ab_rm]; omega)⟩ (Nat.le_of_ble_eq_true rfl) ?_
  refine ab_aload_n X 0 d_MA_init_4 rfl rfl ?_
  refine ab_sipush (v := 168) X d_MA_init_5 (by decide) ?_
  refine ab_newa (c' := 15) X rfl (ab_in 171 (by decide +kernel) (by decide +kernel)) (Or.inl ⟨rfl, Or.inl rfl⟩) (fun _ => rfl) d_MA_init_8 (rfl) (ab_ln_le _ _) (by decide) (hG) (by (repeat' (first | (intro q hq; exact absurd hq (List.not_mem_nil)) | refine List.forall_mem_cons.mpr ⟨?_, ?_⟩)) <;> (first | trivial | (refine Or.inl ?_; first | assumption | exact Nat.le_of_ble_eq_true rfl | exact Nat.lt_succ_self _ | (simp [ab_nx]; done) | (simp [ab_nx]; omega)))) (by (repeat' (first | (intro q hq; exact absurd hq (List.not_mem_nil)) | refine List.forall_mem_cons.mpr ⟨?_, ?_⟩)) <;> (first | trivial | (refine Or.inl ?_; first | assumption | exact Nat.le_of_ble_eq_true rfl | exact Nat.lt_succ_self _ | (simp [ab_nx]; done) | (simp [ab_nx]; omega)))) ⟨by first | exact Nat.le_of_ble_eq_true rfl | (simp only [ab_rm]; omega), by first | exact Nat.le_of_ble_eq_true rfl | (simp only [ab_rm]; omega)⟩ (fun ad8 x8 => ?_)
  refine ab_widen (k := 1) (n := 168) (Nat.le_of_ble_eq_true rfl) (Nat.le_of_ble_eq_true rfl) ?_
  refine ab_putFR X fF_MA_9 (by first | exact Or.inl ⟨_, rfl⟩ | exact Or.inr ⟨_, rfl⟩) hin d_MA_init_10 hi ?_
  refine ab_aload_n X 0 d_MA_init_13 rfl rfl ?_
  have hG1 : ab_G (ab_nx N 15) (ab_ur u 7 i0 0 (some (15, N 15))) := (hG.more (ab_nx_le N 15)).ur (c := 7) (i := i0) (k := 0) (r := some (15, N 15)) hi (Or.inl (Nat.lt_succ_self _))
  refine ab_sipush (v := 128) X d_MA_init_14 (by decide) ?_
  refine ab_newa (c' := 16) X rfl (ab_in 171 (by decide +kernel) (by decide +kernel)) (Or.inl ⟨rfl, Or.inl rfl⟩) (fun _ => rfl) d_MA_init_17 (rfl) (ab_ln_le _ _) (by decide) (hG1) (by (repeat' (first | (intro q hq; exact absurd hq (List.not_mem_nil)) | refine List.forall_mem_cons.mpr ⟨?_, ?_⟩)) <;> (first | trivial | (refine Or.inl ?_; first | assumption | exact Nat.le_of_ble_eq_true rfl | exact Nat.lt_succ_self _ | (simp [ab_nx]; done) | (simp [ab_nx]; omega)))) (by (repeat' (first | (intro q hq; exact absurd hq (List.not_mem_nil)) | refine List.forall_mem_cons.mpr ⟨?_, ?_⟩)) <;> (first | trivial | (refine Or.inl ?_; first | assumption | exact Nat.le_of_ble_eq_true rfl | exact Nat.lt_succ_self _ | (simp [ab_nx]; done) | (simp [ab_nx]; omega)))) ⟨by first | exact Nat.le_of_ble_eq_true rfl | (simp only [ab_rm]; omega), by first | exact Nat.le_of_ble_eq_true rfl | (simp only [ab_rm]; omega)⟩ (fun ad17 x17 => ?_)
  refine ab_widen (k := 2) (n := 296) (Nat.le_of_ble_eq_true rfl) (Nat.le_of_ble_eq_true rfl) ?_
  refine ab_putFR X fF_MA_15 (by first | exact Or.inl ⟨_, rfl⟩ | exact Or.inr ⟨_, rfl⟩) hin d_MA_init_19 hi ?_
  refine ab_aload_n X 0 d_MA_init_22 rfl rfl ?_
  refine ab_iconst (v := 0) X d_MA_init_23 (by decide) ?_
  refine ab_putI X fp_MA_18 d_MA_init_24 hi rfl rfl ?_
  refine ab_u (ab_ui_same (h0 2)) ?_
  refine ab_aload_n X 0 d_MA_init_27 rfl rfl ?_
  refine ab_iconst (v := 0) X d_MA_init_28 (by decide) ?_
  refine ab_putI X fp_MA_22 d_MA_init_29 hi rfl rfl ?_
  refine ab_u (ab_ui_same (h0 3)) ?_
  refine ab_aload_n X 0 d_MA_init_32 rfl rfl ?_
  refine ab_iconst (v := 0) X d_MA_init_33 (by decide) ?_
  refine ab_putI X fp_MA_25 d_MA_init_34 hi rfl rfl ?_
  refine ab_u (ab_ui_same (h0 4)) ?_
  refine ab_aload_n X 0 d_MA_init_37 rfl rfl ?_
  refine ab_iconst (v := 0) X d_MA_init_38 (by decide) ?_
  refine ab_putI X fp_MA_28 d_MA_init_39 hi rfl rfl ?_
  refine ab_u (ab_ui_same (h0 5)) ?_
  refine ab_aload_n X 0 d_MA_init_42 rfl rfl ?_
  refine ab_iconst (v := 0) X d_MA_init_43 (by decide) ?_
  refine ab_putI X fp_MA_31 d_MA_init_44 hi (by decide +kernel) (by decide +kernel) ?_
  refine ab_u (ab_ui_same (h0 6)) ?_
  exact ab_retA X hr0 hlk (ab_ex.trans x8 (ab_nx_le N 15) x17) d_MA_init_47 rfl
/-! Reader: a spare part, then nineteen -/
def ab_Z : ab_S := (fun _ _ _ => 0, fun _ _ _ => none, fun _ _ _ => 0)
def ab_nl (l : List Nat) : Nat → Nat := fun c => l.getD c 0
theorem ab_G_Z (N : Nat → Nat) : ab_G N ab_Z := ⟨fun _ _ _ _ => ⟨rfl, rfl, rfl⟩, fun _ _ _ _ h => by cases h⟩
def ab_uR0 : ab_S := ab_ui (ab_ur (ab_part (ab_ur (ab_ur ab_Z 1 0 0 (some (11, 0))) 1 0 1 (some (12, 0))) 0 0 0 0 0 0) 1 0 2 (some (2, 0))) 1 0 5 (-1)
def ab_uL : Nat → ab_S
  | 0 => ab_uR0
  | j + 1 => ab_ur (ab_part (ab_uL j) (j + 1) (j + 1) (3 * (j + 1)) (3 * (j + 1)) (6 * (j + 1)) (6 * (j + 1))) 12 0 j (some (2, j + 1))
def ab_NL (j : Nat) : Nat → Nat := ab_nl [1, 1, j + 1, 3 * (j + 1), 6 * (j + 1), 0, 0, 0, 6 * (j + 1), 3 * (j + 1), j + 1, 1, 1]
theorem ab_NL_s (j : Nat) : ab_nP (ab_nx (ab_NL j) 2) = ab_NL (j + 1) := by
  funext c
  by_cases h : c < 13
  · have h1 : c = 0 ∨ c = 1 ∨ c = 2 ∨ c = 3 ∨ c = 4 ∨ c = 5 ∨ c = 6 ∨ c = 7 ∨ c = 8 ∨ c = 9 ∨ c = 10 ∨ c = 11 ∨ c = 12 := by omega
    rcases h1 with rfl | rfl | rfl | rfl | rfl | rfl | rfl | rfl | rfl | rfl | rfl | rfl | rfl <;> first | rfl | (simp [ab_nP, ab_nF, ab_nx, ab_NL, ab_nl]; done) | (simp [ab_nP, ab_nF, ab_nx, ab_NL, ab_nl]; omega)
  · have e1 : ∀ j, ab_NL j c = 0 := fun j => by
      unfold ab_NL ab_nl
      rw [List.getD_eq_getElem?_getD, List.getElem?_eq_none (by simp; omega)]; rfl
    have h2 : c ≠ 2 ∧ c ≠ 3 ∧ c ≠ 4 ∧ c ≠ 8 ∧ c ≠ 9 ∧ c ≠ 10 := by omega
    simp [ab_nP, ab_nF, ab_nx, h2.1, h2.2.1, h2.2.2.1, h2.2.2.2.1, h2.2.2.2.2.1, h2.2.2.2.2.2, e1]
theorem ab_uL_1 : ∀ j, (ab_uL j).2.1 1 0 1 = some (12, 0)
  | 0 => rfl
  | j + 1 => ab_uL_1 j
theorem ab_NL_0 : ab_nP (ab_nx (ab_nx (ab_nx (ab_nl [1, 1]) 11) 12) 2) = ab_NL 0 := by
  funext c
  by_cases h : c < 13
  · have h1 : c = 0 ∨ c = 1 ∨ c = 2 ∨ c = 3 ∨ c = 4 ∨ c = 5 ∨ c = 6 ∨ c = 7 ∨ c = 8 ∨ c = 9 ∨ c = 10 ∨ c = 11 ∨ c = 12 := by omega
    rcases h1 with rfl | rfl | rfl | rfl | rfl | rfl | rfl | rfl | rfl | rfl | rfl | rfl | rfl <;> rfl
  · have e1 : ∀ j, ab_NL j c = 0 := fun j => by
      unfold ab_NL ab_nl
      rw [List.getD_eq_getElem?_getD, List.getElem?_eq_none (by simp; omega)]; rfl
    have e2 : ab_nl [1, 1] c = 0 := by
      unfold ab_nl
      rw [List.getD_eq_getElem?_getD, List.getElem?_eq_none (by simp; omega)]; rfl
    have h2 : c ≠ 2 ∧ c ≠ 3 ∧ c ≠ 4 ∧ c ≠ 8 ∧ c ≠ 9 ∧ c ≠ 10 ∧ c ≠ 11 ∧ c ≠ 12 := by omega
    simp [ab_nP, ab_nF, ab_nx, h2.1, h2.2.1, h2.2.2.1, h2.2.2.2.1, h2.2.2.2.2.1, h2.2.2.2.2.2.1, h2.2.2.2.2.2.2.1, h2.2.2.2.2.2.2.2, e1, e2]
theorem ab_Nr {p : Program} {l : Launch} {e : Env} {R : Room} {s : State} {m : MethodId} {args : Array Value} {below : List Frame} {meth : Method} {c : Code} {Q : State → Prop} {nL : Nat} {D : va_G} {ca : Nat → ClassId} {A : Nat → Prop} {H0 : Heap} {cells slots : Nat} {ad : ab_Ad} {N N' : Nat → Nat} {u : ab_S} {pc : Nat} {lv : List (Nat × ab_V)} {st : List ab_V} (h : N = N') (kk : ab_J p l e R s m args below meth c Q D ca A H0 nL cells slots ad N' u pc lv st) : ab_J p l e R s m args below meth c Q D ca A H0 nL cells slots ad N u pc lv st := by rw [h]; exact kk
theorem ab_G_uL0 : ab_G (ab_NL 0) ab_uR0 := by
  have h1 : ab_G (ab_nx (ab_nx (ab_nl [1, 1]) 11) 12) (ab_ur (ab_ur ab_Z 1 0 0 (some (11, 0))) 1 0 1 (some (12, 0))) := ((ab_G_Z _).ur (c := 1) (i := 0) (k := 0) (r := some (11, 0)) (Nat.le_of_ble_eq_true rfl) (Or.inl (Nat.le_of_ble_eq_true rfl))).ur (c := 1) (i := 0) (k := 1) (r := some (12, 0)) (Nat.le_of_ble_eq_true rfl) (Or.inl (Nat.le_of_ble_eq_true rfl))
  have h2 := ab_G_part (h1.more (ab_nx_le _ 2)) (p0 := 0) (Nat.le_of_ble_eq_true rfl)
  rw [ab_NL_0] at h2
  exact (h2.ur (c := 1) (i := 0) (k := 2) (r := some (2, 0)) (Nat.le_of_ble_eq_true rfl) (Or.inl (Nat.le_of_ble_eq_true rfl))).ui (c := 1) (i := 0) (k := 5) (Nat.le_of_ble_eq_true rfl) (-1)
theorem ab_G_uL : ∀ j, ab_G (ab_NL j) (ab_uL j)
  | 0 => ab_G_uL0
  | j + 1 => by
    have h1 := ab_G_part ((ab_G_uL j).more (ab_nx_le _ 2)) (p0 := j + 1) (show j + 1 < j + 1 + 1 by omega)
    rw [ab_NL_s] at h1
    exact h1.ur (c := 12) (i := 0) (k := j) (r := some (2, j + 1)) (show 0 < 1 by omega) (Or.inl (show j + 1 < j + 1 + 1 by omega))
theorem ab_NL_le (j c : Nat) : ab_nl [1, 1] c ≤ ab_NL j c := by
  unfold ab_NL ab_nl
  match c with
  | 0 => exact Nat.le_refl 1
  | 1 => exact Nat.le_refl 1
  | c + 2 => exact Nat.zero_le _
abbrev b_RD_init : ByteArray := prog_6_method_1_code
def y_RD_init : MethodName := ⟨"PolicyForge$Reader", "<init>", "()V"⟩
theorem d_RD_init_0 : decode b_RD_init 0 = .ok (.aload_n 0, 1) := by decide +kernel
theorem d_RD_init_1 : decode b_RD_init 1 = .ok (.invokespecial 3, 3) := by decide +kernel
theorem d_RD_init_4 : decode b_RD_init 4 = .ok (.aload_n 0, 1) := by decide +kernel
theorem d_RD_init_5 : decode b_RD_init 5 = .ok (.bipush 120, 2) := by decide +kernel
theorem d_RD_init_7 : decode b_RD_init 7 = .ok (.newarray .int, 2) := by decide +kernel
theorem d_RD_init_9 : decode b_RD_init 9 = .ok (.putfield 9, 3) := by decide +kernel
theorem d_RD_init_12 : decode b_RD_init 12 = .ok (.aload_n 0, 1) := by decide +kernel
theorem d_RD_init_13 : decode b_RD_init 13 = .ok (.bipush 19, 2) := by decide +kernel
theorem d_RD_init_15 : decode b_RD_init 15 = .ok (.anewarray 15, 3) := by decide +kernel
theorem d_RD_init_18 : decode b_RD_init 18 = .ok (.putfield 17, 3) := by decide +kernel
theorem d_RD_init_21 : decode b_RD_init 21 = .ok (.aload_n 0, 1) := by decide +kernel
theorem d_RD_init_22 : decode b_RD_init 22 = .ok (.new 15, 3) := by decide +kernel
theorem d_RD_init_25 : decode b_RD_init 25 = .ok (.dup, 1) := by decide +kernel
theorem d_RD_init_26 : decode b_RD_init 26 = .ok (.invokespecial 21, 3) := by decide +kernel
theorem d_RD_init_29 : decode b_RD_init 29 = .ok (.putfield 22, 3) := by decide +kernel
theorem d_RD_init_32 : decode b_RD_init 32 = .ok (.aload_n 0, 1) := by decide +kernel
theorem d_RD_init_33 : decode b_RD_init 33 = .ok (.iconst 0, 1) := by decide +kernel
theorem d_RD_init_34 : decode b_RD_init 34 = .ok (.putfield 26, 3) := by decide +kernel
theorem d_RD_init_37 : decode b_RD_init 37 = .ok (.aload_n 0, 1) := by decide +kernel
theorem d_RD_init_38 : decode b_RD_init 38 = .ok (.iconst 0, 1) := by decide +kernel
theorem d_RD_init_39 : decode b_RD_init 39 = .ok (.putfield 30, 3) := by decide +kernel
theorem d_RD_init_42 : decode b_RD_init 42 = .ok (.aload_n 0, 1) := by decide +kernel
theorem d_RD_init_43 : decode b_RD_init 43 = .ok (.iconst (-1), 1) := by decide +kernel
theorem d_RD_init_44 : decode b_RD_init 44 = .ok (.putfield 33, 3) := by decide +kernel
theorem d_RD_init_47 : decode b_RD_init 47 = .ok (.aload_n 0, 1) := by decide +kernel
theorem d_RD_init_48 : decode b_RD_init 48 = .ok (.iconst 0, 1) := by decide +kernel
theorem d_RD_init_49 : decode b_RD_init 49 = .ok (.putfield 36, 3) := by decide +kernel
theorem d_RD_init_52 : decode b_RD_init 52 = .ok (.aload_n 0, 1) := by decide +kernel
theorem d_RD_init_53 : decode b_RD_init 53 = .ok (.iconst 0, 1) := by decide +kernel
theorem d_RD_init_54 : decode b_RD_init 54 = .ok (.putfield 39, 3) := by decide +kernel
theorem d_RD_init_57 : decode b_RD_init 57 = .ok (.iconst 0, 1) := by decide +kernel
theorem d_RD_init_58 : decode b_RD_init 58 = .ok (.istore_n 1, 1) := by decide +kernel
theorem d_RD_init_59 : decode b_RD_init 59 = .ok (.iload_n 1, 1) := by decide +kernel
theorem d_RD_init_60 : decode b_RD_init 60 = .ok (.bipush 19, 2) := by decide +kernel
theorem d_RD_init_62 : decode b_RD_init 62 = .ok (.if_icmp .ge 22, 3) := by decide +kernel
theorem d_RD_init_65 : decode b_RD_init 65 = .ok (.aload_n 0, 1) := by decide +kernel
theorem d_RD_init_66 : decode b_RD_init 66 = .ok (.getfield 17, 3) := by decide +kernel
theorem d_RD_init_69 : decode b_RD_init 69 = .ok (.iload_n 1, 1) := by decide +kernel
theorem d_RD_init_70 : decode b_RD_init 70 = .ok (.new 15, 3) := by decide +kernel
theorem d_RD_init_73 : decode b_RD_init 73 = .ok (.dup, 1) := by decide +kernel
theorem d_RD_init_74 : decode b_RD_init 74 = .ok (.invokespecial 21, 3) := by decide +kernel
theorem d_RD_init_77 : decode b_RD_init 77 = .ok (.aastore, 1) := by decide +kernel
theorem d_RD_init_78 : decode b_RD_init 78 = .ok (.iinc 1 1, 3) := by decide +kernel
theorem d_RD_init_81 : decode b_RD_init 81 = .ok (.goto (-22), 3) := by decide +kernel
theorem d_RD_init_84 : decode b_RD_init 84 = .ok (.return_, 1) := by decide +kernel
theorem oi_RD_3 : ∀ w ∈ ([.methodLink "PolicyForge$Reader" 3 objectInit, .instanceMethod objectInit, .code objectInit ⟨#[0xb1]⟩ 1 none] : List Cond), w ∈ ab_T := List.forall_mem_cons.mpr ⟨(ab_in 127 (by decide +kernel) (by decide +kernel)), List.forall_mem_cons.mpr ⟨(ab_in 120 (by decide +kernel) (by decide +kernel)), List.forall_mem_cons.mpr ⟨(ab_in 121 (by decide +kernel) (by decide +kernel)), fun _ h => absurd h List.not_mem_nil⟩⟩⟩
theorem uw_RD : ∀ w ∈ u_ws R_RD T_RD 8, w ∈ ab_T := fun w h => List.mem_filter.mpr ⟨by have h2 := h; revert w; decide +kernel, by revert w; decide +kernel⟩
theorem fF_RD_9 : ab_fF "PolicyForge$Reader" 9 1 0 1 (t_RD 0) := ⟨rfl, R_RD, T_RD, 8, t_RD, rfl, uw_RD, by decide, rfl, (ab_in 243 (by decide +kernel) (by decide +kernel)), t_RD_ok, n_RD, rfl, rfl, rfl⟩
theorem fF_RD_17 : ab_fF "PolicyForge$Reader" 17 1 1 1 (t_RD 1) := ⟨rfl, R_RD, T_RD, 8, t_RD, rfl, uw_RD, by decide, rfl, (ab_in 244 (by decide +kernel) (by decide +kernel)), t_RD_ok, n_RD, rfl, rfl, rfl⟩
theorem nw_RD_15 : ab_nw "PolicyForge$Reader" 15 2 8 := ⟨rfl, R_PT, T_PT, t_PT, rfl, uw_PT, t_PT_ok, List.forall_mem_cons.mpr ⟨(ab_in 128 (by decide +kernel) (by decide +kernel)), List.forall_mem_cons.mpr ⟨(ab_in 130 (by decide +kernel) (by decide +kernel)), List.forall_mem_cons.mpr ⟨(ab_in 94 (by decide +kernel) (by decide +kernel)), fun _ h => absurd h List.not_mem_nil⟩⟩⟩, rfl, by decide +kernel⟩
theorem lI_RD_21 : ab_lIN "PolicyForge$Reader" 21 y_PT_init "PolicyForge" b_PT_init 1 0 := ⟨(List.mem_filter.mpr ⟨List.mem_of_getElem? (i := 131) (by decide +kernel), by decide +kernel⟩), List.forall_mem_cons.mpr ⟨(ab_in 132 (by decide +kernel) (by decide +kernel)), List.forall_mem_cons.mpr ⟨(ab_in 94 (by decide +kernel) (by decide +kernel)), List.forall_mem_cons.mpr ⟨(ab_in 133 (by decide +kernel) (by decide +kernel)), fun _ h => absurd h List.not_mem_nil⟩⟩⟩, ⟨rfl, by decide +kernel, by decide +kernel, by decide +kernel⟩, by decide⟩
theorem fF_RD_22 : ab_fF "PolicyForge$Reader" 22 1 2 1 (.object "PolicyForge$Part") := ⟨rfl, R_RD, T_RD, 8, t_RD, rfl, uw_RD, by decide, rfl, (ab_in 246 (by decide +kernel) (by decide +kernel)), t_RD_ok, n_RD, rfl, rfl, rfl⟩
theorem fp_RD_26 : ab_fp "PolicyForge$Reader" 26 1 3 0 .int := ⟨rfl, R_RD, T_RD, 8, t_RD, rfl, uw_RD, by decide, rfl, (ab_in 247 (by decide +kernel) (by decide +kernel)), t_RD_ok, n_RD, rfl, rfl⟩
theorem fp_RD_30 : ab_fp "PolicyForge$Reader" 30 1 4 0 .int := ⟨rfl, R_RD, T_RD, 8, t_RD, rfl, uw_RD, by decide, rfl, (ab_in 249 (by decide +kernel) (by decide +kernel)), t_RD_ok, n_RD, rfl, rfl⟩
theorem fp_RD_33 : ab_fp "PolicyForge$Reader" 33 1 5 0 .int := ⟨rfl, R_RD, T_RD, 8, t_RD, rfl, uw_RD, by decide, rfl, (ab_in 250 (by decide +kernel) (by decide +kernel)), t_RD_ok, n_RD, rfl, rfl⟩
theorem fp_RD_36 : ab_fp "PolicyForge$Reader" 36 1 6 0 .int := ⟨rfl, R_RD, T_RD, 8, t_RD, rfl, uw_RD, by decide, rfl, (ab_in 252 (by decide +kernel) (by decide +kernel)), t_RD_ok, n_RD, rfl, rfl⟩
theorem fp_RD_39 : ab_fp "PolicyForge$Reader" 39 1 7 0 .int := ⟨rfl, R_RD, T_RD, 8, t_RD, rfl, uw_RD, by decide, rfl, (ab_in 254 (by decide +kernel) (by decide +kernel)), t_RD_ok, n_RD, rfl, rfl⟩
theorem fl_RD_17 : ab_fl "PolicyForge$Reader" 17 1 1 1 := ⟨rfl, R_RD, T_RD, 8, rfl, uw_RD, by decide, rfl, (ab_in 244 (by decide +kernel) (by decide +kernel))⟩
set_option maxRecDepth 100000 in
set_option maxHeartbeats 8000000 in
theorem c_RD_init {l : Launch} {D : va_G} {ca : Nat → ClassId} : ab_CA l D ca y_RD_init b_RD_init 2 4 402 6499 (ab_nl [1, 1]) ab_Z [ab_O 1 0] (ab_NL 19) (fun u' => u' = ab_uL 19) := by
  refine ab_CA.of (by decide) rfl (Nat.le_of_ble_eq_true rfl) ?_
  intro p e s m args below meth c ad X hr0 hlk hin
  have loop : ∀ (n j : Nat), j + n = 19 → ∀ adj, ab_ex (ab_nl [1, 1]) ad adj → ab_J p l e (ab_rm 4 402 6499) s m args below meth c (MQ below (ab_QA D ca ad (ab_nl [1, 1]) (ab_NL 19) s.heap.size fun u' => u' = ab_uL 19) args s 402 6499 (ab_A ad (ab_nl [1, 1]) s.heap.size)) D ca (ab_A ad (ab_nl [1, 1]) s.heap.size) s.heap 2 (22 + 20 * j) (457 + 318 * j) adj (ab_NL j) (ab_uL j) 59 [(1, ab_I (nI j)), (0, ab_O 1 0)] [] := by
    intro n
    induction n with
    | zero =>
      intro j hj adj hx
      have hj : j = 19 := by omega
      subst hj
      refine ab_iload_n X 0 d_RD_init_59 rfl rfl ?_
      refine ab_bipush (v := 19) X d_RD_init_60 (by decide) ?_
      refine ab_icmp_ge X 84 d_RD_init_62 rfl (fun _ => ?_) (fun hb => absurd ((by decide)) hb)
      exact ab_retA X hr0 hlk hx d_RD_init_84 rfl
    | succ n ih =>
      intro j hj adj hx
      have hl : ¬ (19 : Int32) ≤ nI j := nI_ge (b := 19) (by omega) (by decide)
      refine ab_iload_n X 0 d_RD_init_59 rfl rfl ?_
      refine ab_bipush (v := 19) X d_RD_init_60 (by decide) ?_
      refine ab_icmp_ge X 84 d_RD_init_62 rfl (fun hb => absurd hb (hl)) (fun _ => ?_)
      refine ab_aload_n X 1 d_RD_init_65 rfl rfl ?_
      refine ab_gR X fl_RD_17 d_RD_init_66 (show 0 < 1 by omega) (ab_uL_1 j) ?_
      refine ab_iload_n X 0 d_RD_init_69 rfl rfl ?_
      have hG := ab_G_uL j
      refine ab_new X nw_RD_15 d_RD_init_70 (by decide) (hG) (by (repeat' (first | (intro q hq; exact absurd hq (List.not_mem_nil)) | refine List.forall_mem_cons.mpr ⟨?_, ?_⟩)) <;> (first | trivial | (refine Or.inl ?_; first | assumption | exact Nat.le_of_ble_eq_true rfl | exact Nat.lt_succ_self _ | (simp [ab_nx]; done) | (simp [ab_nx]; omega)))) (by (repeat' (first | (intro q hq; exact absurd hq (List.not_mem_nil)) | refine List.forall_mem_cons.mpr ⟨?_, ?_⟩)) <;> (first | trivial | (refine Or.inl ?_; first | assumption | exact Nat.le_of_ble_eq_true rfl | exact Nat.lt_succ_self _ | (simp [ab_nx]; done) | (simp [ab_nx]; omega)))) ⟨by simp only [ab_rm]; omega, by simp only [ab_rm]; omega⟩ (fun ad70 x70 => ?_)
      refine ab_dup X d_RD_init_73 rfl ?_
      have hG2 := hG.more (ab_nx_le _ 2)
      refine ab_callIN (as := []) X (c_PT_init (N := ab_nx (ab_NL j) 2) (ab_uL j) (j + 1) (by omega) (show j + 1 < j + 1 + 1 by omega) (show 6 * (j + 1) = 6 * (j + 1) from rfl) hG2 (fun k => (hG.1 2 (j + 1) k (Nat.le_refl _)).1)) lI_RD_21 d_RD_init_74 rfl rfl (by (repeat' (first | (intro q hq; exact absurd hq (List.not_mem_nil)) | refine List.forall_mem_cons.mpr ⟨?_, ?_⟩)) <;> (first | trivial | (refine Or.inl ?_; first | assumption | exact Nat.le_of_ble_eq_true rfl | exact Nat.lt_succ_self _ | (simp [ab_nx]; done) | (simp [ab_nx]; omega)))) (by (repeat' (first | (intro q hq; exact absurd hq (List.not_mem_nil)) | refine List.forall_mem_cons.mpr ⟨?_, ?_⟩)) <;> (first | trivial | (refine Or.inl ?_; first | assumption | exact Nat.le_of_ble_eq_true rfl | exact Nat.lt_succ_self _ | (simp [ab_nx]; done) | (simp [ab_nx]; omega)))) ⟨by first | exact Nat.le_of_ble_eq_true rfl | (simp only [ab_rm]; omega), by first | exact Nat.le_of_ble_eq_true rfl | (simp only [ab_rm]; omega)⟩ ⟨by simp only [ab_rm]; omega, by simp only [ab_rm]; omega⟩ (Nat.le_of_ble_eq_true rfl) (fun ad74 u74 x74 h74 => ?_)
      obtain rfl := h74
      refine ab_Nr (ab_NL_s j) ?_
      refine ab_aast X (j) ⟨rfl, rfl, _, rfl, fun _ => rfl⟩ d_RD_init_77 (show 0 < 1 by omega) (show j + 1 < j + 1 + 1 by omega) (rfl) (show j < 19 by omega) (ab_ln_lt _ _) ?_
      refine ab_iinc1 X 0 1 d_RD_init_78 rfl (by decide) rfl rfl ?_
      refine ab_goto X 59 d_RD_init_81 rfl ?_
      rw [show nI j + Int32.ofInt 1 = nI (j + 1) from (nI_succ j).symm]
      refine ab_widen (k := 22 + 20 * (j + 1)) (n := 457 + 318 * (j + 1)) (by omega) (by omega) ?_
      refine ih (j + 1) (by omega) ad74 (ab_ex.trans (ab_ex.trans hx (ab_NL_le j) x70) (fun k => Nat.le_trans (ab_NL_le j k) (ab_nx_le _ 2 k)) x74)
  refine ab_aload_n X 0 d_RD_init_0 rfl rfl ?_
  refine ab_objInit X oi_RD_3 d_RD_init_1 ⟨by first | exact Nat.le_of_ble_eq_true rfl | (simp only [ab_rm]; omega), by first | exact Nat.le_of_ble_eq_true rfl | (simp only [ab_rm]; omega)⟩ (Nat.le_of_ble_eq_true rfl) ?_
  refine ab_aload_n X 0 d_RD_init_4 rfl rfl ?_
  refine ab_bipush (v := 120) X d_RD_init_5 (by decide) ?_
  refine ab_newa (c' := 11) X rfl (ab_in 171 (by decide +kernel) (by decide +kernel)) (Or.inl ⟨rfl, Or.inl rfl⟩) (fun _ => rfl) d_RD_init_7 (rfl) (ab_ln_le _ _) (by decide) (ab_G_Z _) (by (repeat' (first | (intro q hq; exact absurd hq (List.not_mem_nil)) | refine List.forall_mem_cons.mpr ⟨?_, ?_⟩)) <;> (first | trivial | (refine Or.inl ?_; first | assumption | exact Nat.le_of_ble_eq_true rfl | exact Nat.lt_succ_self _ | (simp [ab_nx]; done) | (simp [ab_nx]; omega)))) (by (repeat' (first | (intro q hq; exact absurd hq (List.not_mem_nil)) | refine List.forall_mem_cons.mpr ⟨?_, ?_⟩)) <;> (first | trivial | (refine Or.inl ?_; first | assumption | exact Nat.le_of_ble_eq_true rfl | exact Nat.lt_succ_self _ | (simp [ab_nx]; done) | (simp [ab_nx]; omega)))) ⟨by first | exact Nat.le_of_ble_eq_true rfl | (simp only [ab_rm]; omega), by first | exact Nat.le_of_ble_eq_true rfl | (simp only [ab_rm]; omega)⟩ (fun ad7 x7 => ?_)
  refine ab_widen (k := 1) (n := 120) (Nat.le_of_ble_eq_true rfl) (Nat.le_of_ble_eq_true rfl) ?_
  refine ab_putFR X fF_RD_9 (by first | exact Or.inl ⟨_, rfl⟩ | exact Or.inr ⟨_, rfl⟩) hin d_RD_init_9 (Nat.le_of_ble_eq_true rfl) ?_
  refine ab_aload_n X 0 d_RD_init_12 rfl rfl ?_
  refine ab_bipush (v := 19) X d_RD_init_13 (by decide) ?_
  refine ab_newq (c' := 12) X rfl ⟨(ab_in 128 (by decide +kernel) (by decide +kernel)), (List.mem_filter.mpr ⟨List.mem_of_getElem? (i := 129) (by decide +kernel), by decide +kernel⟩)⟩ (fun _ => rfl) d_RD_init_15 (rfl) (ab_ln_le _ _) (by decide) ((ab_G_Z _).ur (c := 1) (i := 0) (k := 0) (r := some (11, 0)) (Nat.le_of_ble_eq_true rfl) (Or.inl (Nat.le_of_ble_eq_true rfl))) (by (repeat' (first | (intro q hq; exact absurd hq (List.not_mem_nil)) | refine List.forall_mem_cons.mpr ⟨?_, ?_⟩)) <;> (first | trivial | (refine Or.inl ?_; first | assumption | exact Nat.le_of_ble_eq_true rfl | exact Nat.lt_succ_self _ | (simp [ab_nx]; done) | (simp [ab_nx]; omega)))) (by (repeat' (first | (intro q hq; exact absurd hq (List.not_mem_nil)) | refine List.forall_mem_cons.mpr ⟨?_, ?_⟩)) <;> (first | trivial | (refine Or.inl ?_; first | assumption | exact Nat.le_of_ble_eq_true rfl | exact Nat.lt_succ_self _ | (simp [ab_nx]; done) | (simp [ab_nx]; omega)))) ⟨by first | exact Nat.le_of_ble_eq_true rfl | (simp only [ab_rm]; omega), by first | exact Nat.le_of_ble_eq_true rfl | (simp only [ab_rm]; omega)⟩ (fun ad15 x15 => ?_)
  refine ab_widen (k := 2) (n := 139) (Nat.le_of_ble_eq_true rfl) (Nat.le_of_ble_eq_true rfl) ?_
  refine ab_putFR X fF_RD_17 (by first | exact Or.inl ⟨_, rfl⟩ | exact Or.inr ⟨_, rfl⟩) hin d_RD_init_18 (Nat.le_of_ble_eq_true rfl) ?_
  have h1 : ab_G (ab_nx (ab_nx (ab_nl [1, 1]) 11) 12) (ab_ur (ab_ur ab_Z 1 0 0 (some (11, 0))) 1 0 1 (some (12, 0))) := ((ab_G_Z _).ur (c := 1) (i := 0) (k := 0) (r := some (11, 0)) (Nat.le_of_ble_eq_true rfl) (Or.inl (Nat.le_of_ble_eq_true rfl))).ur (c := 1) (i := 0) (k := 1) (r := some (12, 0)) (Nat.le_of_ble_eq_true rfl) (Or.inl (Nat.le_of_ble_eq_true rfl))
  refine ab_aload_n X 0 d_RD_init_21 rfl rfl ?_
  refine ab_new X nw_RD_15 d_RD_init_22 (by decide) (h1) (by (repeat' (first | (intro q hq; exact absurd hq (List.not_mem_nil)) | refine List.forall_mem_cons.mpr ⟨?_, ?_⟩)) <;> (first | trivial | (refine Or.inl ?_; first | assumption | exact Nat.le_of_ble_eq_true rfl | exact Nat.lt_succ_self _ | (simp [ab_nx]; done) | (simp [ab_nx]; omega)))) (by (repeat' (first | (intro q hq; exact absurd hq (List.not_mem_nil)) | refine List.forall_mem_cons.mpr ⟨?_, ?_⟩)) <;> (first | trivial | (refine Or.inl ?_; first | assumption | exact Nat.le_of_ble_eq_true rfl | exact Nat.lt_succ_self _ | (simp [ab_nx]; done) | (simp [ab_nx]; omega)))) ⟨by first | exact Nat.le_of_ble_eq_true rfl | (simp only [ab_rm]; omega), by first | exact Nat.le_of_ble_eq_true rfl | (simp only [ab_rm]; omega)⟩ (fun ad22 x22 => ?_)
  refine ab_widen (k := 3) (n := 147) (Nat.le_of_ble_eq_true rfl) (Nat.le_of_ble_eq_true rfl) ?_
  refine ab_dup X d_RD_init_25 rfl ?_
  refine ab_callIN (as := []) X (c_PT_init (N := ab_nx (ab_nx (ab_nx (ab_nl [1, 1]) 11) 12) 2) (ab_ur (ab_ur ab_Z 1 0 0 (some (11, 0))) 1 0 1 (some (12, 0))) 0 (by decide) (Nat.le_of_ble_eq_true rfl) rfl (h1.more (ab_nx_le _ 2)) (fun k => rfl)) lI_RD_21 d_RD_init_26 rfl rfl (by (repeat' (first | (intro q hq; exact absurd hq (List.not_mem_nil)) | refine List.forall_mem_cons.mpr ⟨?_, ?_⟩)) <;> (first | trivial | (refine Or.inl ?_; first | assumption | exact Nat.le_of_ble_eq_true rfl | exact Nat.lt_succ_self _ | (simp [ab_nx]; done) | (simp [ab_nx]; omega)))) (by (repeat' (first | (intro q hq; exact absurd hq (List.not_mem_nil)) | refine List.forall_mem_cons.mpr ⟨?_, ?_⟩)) <;> (first | trivial | (refine Or.inl ?_; first | assumption | exact Nat.le_of_ble_eq_true rfl | exact Nat.lt_succ_self _ | (simp [ab_nx]; done) | (simp [ab_nx]; omega)))) ⟨by first | exact Nat.le_of_ble_eq_true rfl | (simp only [ab_rm]; omega), by first | exact Nat.le_of_ble_eq_true rfl | (simp only [ab_rm]; omega)⟩ ⟨by first | exact Nat.le_of_ble_eq_true rfl | (simp only [ab_rm]; omega), by first | exact Nat.le_of_ble_eq_true rfl | (simp only [ab_rm]; omega)⟩ (Nat.le_of_ble_eq_true rfl) (fun ad26 u26 x26 h26 => ?_)
  obtain rfl := h26
  refine ab_widen (k := 22) (n := 457) (Nat.le_of_ble_eq_true rfl) (Nat.le_of_ble_eq_true rfl) ?_
  refine ab_Nr ab_NL_0 ?_
  refine ab_putFR X fF_RD_22 (by first | exact Or.inl ⟨_, rfl⟩ | exact Or.inr ⟨_, rfl⟩) hin d_RD_init_29 (Nat.le_of_ble_eq_true rfl) ?_
  refine ab_aload_n X 0 d_RD_init_32 rfl rfl ?_
  refine ab_iconst (v := 0) X d_RD_init_33 (by decide) ?_
  refine ab_putI X fp_RD_26 d_RD_init_34 (Nat.le_of_ble_eq_true rfl) rfl rfl ?_
  refine ab_u (ab_ui_same rfl) ?_
  refine ab_aload_n X 0 d_RD_init_37 rfl rfl ?_
  refine ab_iconst (v := 0) X d_RD_init_38 (by decide) ?_
  refine ab_putI X fp_RD_30 d_RD_init_39 (Nat.le_of_ble_eq_true rfl) rfl rfl ?_
  refine ab_u (ab_ui_same rfl) ?_
  refine ab_aload_n X 0 d_RD_init_42 rfl rfl ?_
  refine ab_iconst (v := (-1)) X d_RD_init_43 (by decide) ?_
  refine ab_putI X fp_RD_33 d_RD_init_44 (Nat.le_of_ble_eq_true rfl) rfl rfl ?_
  refine ab_aload_n X 0 d_RD_init_47 rfl rfl ?_
  refine ab_iconst (v := 0) X d_RD_init_48 (by decide) ?_
  refine ab_putI X fp_RD_36 d_RD_init_49 (Nat.le_of_ble_eq_true rfl) rfl rfl ?_
  refine ab_u (ab_ui_same rfl) ?_
  refine ab_aload_n X 0 d_RD_init_52 rfl rfl ?_
  refine ab_iconst (v := 0) X d_RD_init_53 (by decide) ?_
  refine ab_putI X fp_RD_39 d_RD_init_54 (Nat.le_of_ble_eq_true rfl) rfl rfl ?_
  refine ab_u (ab_ui_same rfl) ?_
  refine ab_iconst (v := 0) X d_RD_init_57 (by decide) ?_
  refine ab_istore_n1 X 0 d_RD_init_58 rfl (by decide) rfl rfl ?_
  exact loop 19 0 rfl ad26 (ab_ex.trans (ab_ex.trans (ab_ex.trans x7 (ab_nx_le _ 11) x15) (fun k => Nat.le_trans (ab_nx_le _ 11 k) (ab_nx_le _ 12 k)) x22) (fun k => Nat.le_trans (ab_nx_le _ 11 k) (Nat.le_trans (ab_nx_le _ 12 k) (ab_nx_le _ 2 k))) x26)
end
section
/-! The constructor of PolicyForge. -/
def ab_u1 : ab_S := ab_ur (ab_uL 19) 0 0 0 (some (1, 0))
def ab_u2 : ab_S := ab_ur (ab_form ab_u1 60 60 120 120 0) 0 0 1 (some (3, 60))
def ab_u3 : ab_S := ab_ur (ab_ur ab_u2 4 122 0 (some (8, 122))) 0 0 2 (some (4, 122))
def ab_u4 : ab_S := ab_ur (ab_ur (ab_ur ab_u3 5 0 0 (some (13, 0))) 5 0 1 (some (14, 0))) 0 0 3 (some (5, 0))
def ab_u5 : ab_S := ab_ur ab_u4 0 0 4 (some (6, 0))
def ab_u6 : ab_S := ab_ur (ab_ur ab_u5 4 123 0 (some (8, 123))) 0 0 5 (some (4, 123))
def ab_u7 : ab_S := ab_ur (ab_ur (ab_ur ab_u6 7 0 0 (some (15, 0))) 7 0 1 (some (16, 0))) 0 0 6 (some (7, 0))
def ab_uC : ab_S := ab_ui (ab_ui (ab_ui ab_u7 4 123 1 0) 4 123 2 0) 4 123 3 1
def ab_n1 : Nat → Nat := ab_nl [1, 1, 20, 60, 120, 0, 0, 0, 120, 60, 20, 1, 1]
def ab_n2 : Nat → Nat := ab_nl [1, 1, 20, 61, 122, 0, 0, 0, 122, 61, 20, 1, 1]
def ab_n3 : Nat → Nat := ab_nl [1, 1, 20, 61, 123, 0, 0, 0, 123, 61, 20, 1, 1]
def ab_n4 : Nat → Nat := ab_nl [1, 1, 20, 61, 123, 1, 0, 0, 123, 61, 20, 1, 1, 1, 1]
def ab_n5 : Nat → Nat := ab_nl [1, 1, 20, 61, 123, 1, 1, 0, 123, 61, 20, 1, 1, 1, 1]
def ab_n6 : Nat → Nat := ab_nl [1, 1, 20, 61, 124, 1, 1, 0, 124, 61, 20, 1, 1, 1, 1]
def ab_n7 : Nat → Nat := ab_nl [1, 1, 20, 61, 124, 1, 1, 1, 124, 61, 20, 1, 1, 1, 1, 1, 1]
theorem ab_nl_out {l : List Nat} {c : Nat} (h : l.length ≤ c) : ab_nl l c = 0 := by
  unfold ab_nl
  rw [List.getD_eq_getElem?_getD, List.getElem?_eq_none h]; rfl
theorem ab_nx_out {N : Nat → Nat} {k c n : Nat} (hk : k < n) (hc : n ≤ c) (h : N c = 0) : ab_nx N k c = 0 := by
  unfold ab_nx
  rw [if_neg (by omega)]; exact h
theorem ab_nF_out {N : Nat → Nat} {c : Nat} (hc : 17 ≤ c) (h : N c = 0) : ab_nF N c = 0 := ab_nx_out (n := 17) (by decide) hc (ab_nx_out (n := 17) (by decide) hc (ab_nx_out (n := 17) (by decide) hc (ab_nx_out (n := 17) (by decide) hc (ab_nx_out (n := 17) (by decide) hc h))))
/-- two counts agree if they do below 17 and hold nothing from there on -/
theorem ab_n_ext {N M : Nat → Nat} (h : (List.range 17).all (fun c => decide (N c = M c)) = true) (h1 : ∀ c, 17 ≤ c → N c = 0) (h2 : ∀ c, 17 ≤ c → M c = 0) : N = M := by
  funext c
  by_cases hc : c < 17
  · exact of_decide_eq_true (List.all_eq_true.mp h c (List.mem_range.mpr hc))
  · rw [h1 c (by omega), h2 c (by omega)]
theorem ab_e0 : ab_nx (ab_nl [1]) 1 = ab_nl [1, 1] := ab_n_ext (by decide +kernel) (fun c h => ab_nx_out (n := 17) (by decide) h (ab_nl_out (by simp; omega))) (fun c h => ab_nl_out (by simp; omega))
theorem ab_e1 : ab_NL 19 = ab_n1 := ab_n_ext (by decide +kernel) (fun c h => ab_nl_out (by simp; omega)) (fun c h => ab_nl_out (by simp; omega))
theorem ab_e2 : ab_nF (ab_nx ab_n1 3) = ab_n2 := ab_n_ext (by decide +kernel) (fun c h => ab_nF_out h (ab_nx_out (n := 17) (by decide) h (ab_nl_out (by simp; omega)))) (fun c h => ab_nl_out (by simp; omega))
theorem ab_e3 : ab_nx (ab_nx ab_n2 4) 8 = ab_n3 := ab_n_ext (by decide +kernel) (fun c h => ab_nx_out (n := 17) (by decide) h (ab_nx_out (n := 17) (by decide) h (ab_nl_out (by simp; omega)))) (fun c h => ab_nl_out (by simp; omega))
theorem ab_e4 : ab_nx (ab_nx (ab_nx ab_n3 5) 13) 14 = ab_n4 := ab_n_ext (by decide +kernel) (fun c h => ab_nx_out (n := 17) (by decide) h (ab_nx_out (n := 17) (by decide) h (ab_nx_out (n := 17) (by decide) h (ab_nl_out (by simp; omega))))) (fun c h => ab_nl_out (by simp; omega))
theorem ab_e5 : ab_nx ab_n4 6 = ab_n5 := ab_n_ext (by decide +kernel) (fun c h => ab_nx_out (n := 17) (by decide) h (ab_nl_out (by simp; omega))) (fun c h => ab_nl_out (by simp; omega))
theorem ab_e6 : ab_nx (ab_nx ab_n5 4) 8 = ab_n6 := ab_n_ext (by decide +kernel) (fun c h => ab_nx_out (n := 17) (by decide) h (ab_nx_out (n := 17) (by decide) h (ab_nl_out (by simp; omega)))) (fun c h => ab_nl_out (by simp; omega))
theorem ab_e7 : ab_nx (ab_nx (ab_nx ab_n6 7) 15) 16 = ab_n7 := ab_n_ext (by decide +kernel) (fun c h => ab_nx_out (n := 17) (by decide) h (ab_nx_out (n := 17) (by decide) h (ab_nx_out (n := 17) (by decide) h (ab_nl_out (by simp; omega))))) (fun c h => ab_nl_out (by simp; omega))
theorem ab_g1 : ab_G ab_n1 ab_u1 := by
  have h := ab_G_uL 19
  rw [ab_e1] at h
  exact h.ur (c := 0) (i := 0) (k := 0) (r := some (1, 0)) (by decide) (Or.inl (by decide))
theorem ab_g2 : ab_G ab_n2 ab_u2 := by
  have h := ab_G_form (ab_g1.more (ab_nx_le _ 3)) (f := 60) (by decide) 0
  rw [ab_e2] at h
  exact h.ur (c := 0) (i := 0) (k := 1) (r := some (3, 60)) (by decide) (Or.inl (by decide))
theorem ab_g3 : ab_G ab_n3 ab_u3 := by
  have h := ((ab_g2.more (ab_nx_le _ 4)).more (ab_nx_le _ 8))
  rw [ab_e3] at h
  exact (h.ur (c := 4) (i := 122) (k := 0) (r := some (8, 122)) (by decide) (Or.inl (by decide))).ur (c := 0) (i := 0) (k := 2) (r := some (4, 122)) (by decide) (Or.inl (by decide))
theorem ab_g4 : ab_G ab_n4 ab_u4 := by
  have h := (((ab_g3.more (ab_nx_le _ 5)).more (ab_nx_le _ 13)).more (ab_nx_le _ 14))
  rw [ab_e4] at h
  exact ((h.ur (c := 5) (i := 0) (k := 0) (r := some (13, 0)) (by decide) (Or.inl (by decide))).ur (c := 5) (i := 0) (k := 1) (r := some (14, 0)) (by decide) (Or.inl (by decide))).ur (c := 0) (i := 0) (k := 3) (r := some (5, 0)) (by decide) (Or.inl (by decide))
theorem ab_g5 : ab_G ab_n5 ab_u5 := by
  have h := ab_g4.more (ab_nx_le _ 6)
  rw [ab_e5] at h
  exact h.ur (c := 0) (i := 0) (k := 4) (r := some (6, 0)) (by decide) (Or.inl (by decide))
theorem ab_g6 : ab_G ab_n6 ab_u6 := by
  have h := ((ab_g5.more (ab_nx_le _ 4)).more (ab_nx_le _ 8))
  rw [ab_e6] at h
  exact (h.ur (c := 4) (i := 123) (k := 0) (r := some (8, 123)) (by decide) (Or.inl (by decide))).ur (c := 0) (i := 0) (k := 5) (r := some (4, 123)) (by decide) (Or.inl (by decide))
theorem ab_g7 : ab_G ab_n7 ab_u7 := by
  have h := (((ab_g6.more (ab_nx_le _ 7)).more (ab_nx_le _ 15)).more (ab_nx_le _ 16))
  rw [ab_e7] at h
  exact ((h.ur (c := 7) (i := 0) (k := 0) (r := some (15, 0)) (by decide) (Or.inl (by decide))).ur (c := 7) (i := 0) (k := 1) (r := some (16, 0)) (by decide) (Or.inl (by decide))).ur (c := 0) (i := 0) (k := 6) (r := some (7, 0)) (by decide) (Or.inl (by decide))
theorem ab_gC : ab_G ab_n7 ab_uC := ((ab_g7.ui (c := 4) (i := 123) (k := 1) (by decide) 0).ui (c := 4) (i := 123) (k := 2) (by decide) 0).ui (c := 4) (i := 123) (k := 3) (by decide) 1
theorem ab_le17 {N M : Nat → Nat} (h : (List.range 17).all (fun c => decide (N c ≤ M c)) = true) (h1 : ∀ c, 17 ≤ c → N c = 0) (c : Nat) : N c ≤ M c := by
  by_cases hc : c < 17
  · exact of_decide_eq_true (List.all_eq_true.mp h c (List.mem_range.mpr hc))
  · rw [h1 c (by omega)]; exact Nat.zero_le _
abbrev b_PF_init : ByteArray := prog_1_method_1_code
def y_PF_init : MethodName := ⟨"PolicyForge", "<init>", "()V"⟩
theorem d_PF_init_0 : decode b_PF_init 0 = .ok (.aload_n 0, 1) := by decide +kernel
theorem d_PF_init_1 : decode b_PF_init 1 = .ok (.invokespecial 3, 3) := by decide +kernel
theorem d_PF_init_4 : decode b_PF_init 4 = .ok (.aload_n 0, 1) := by decide +kernel
theorem d_PF_init_5 : decode b_PF_init 5 = .ok (.new 9, 3) := by decide +kernel
theorem d_PF_init_8 : decode b_PF_init 8 = .ok (.dup, 1) := by decide +kernel
theorem d_PF_init_9 : decode b_PF_init 9 = .ok (.invokespecial 11, 3) := by decide +kernel
theorem d_PF_init_12 : decode b_PF_init 12 = .ok (.putfield 12, 3) := by decide +kernel
theorem d_PF_init_15 : decode b_PF_init 15 = .ok (.aload_n 0, 1) := by decide +kernel
theorem d_PF_init_16 : decode b_PF_init 16 = .ok (.new 16, 3) := by decide +kernel
theorem d_PF_init_19 : decode b_PF_init 19 = .ok (.dup, 1) := by decide +kernel
theorem d_PF_init_20 : decode b_PF_init 20 = .ok (.iconst 0, 1) := by decide +kernel
theorem d_PF_init_21 : decode b_PF_init 21 = .ok (.invokespecial 18, 3) := by decide +kernel
theorem d_PF_init_24 : decode b_PF_init 24 = .ok (.putfield 21, 3) := by decide +kernel
theorem d_PF_init_27 : decode b_PF_init 27 = .ok (.aload_n 0, 1) := by decide +kernel
theorem d_PF_init_28 : decode b_PF_init 28 = .ok (.new 25, 3) := by decide +kernel
theorem d_PF_init_31 : decode b_PF_init 31 = .ok (.dup, 1) := by decide +kernel
theorem d_PF_init_32 : decode b_PF_init 32 = .ok (.bipush 40, 2) := by decide +kernel
theorem d_PF_init_34 : decode b_PF_init 34 = .ok (.invokespecial 27, 3) := by decide +kernel
theorem d_PF_init_37 : decode b_PF_init 37 = .ok (.putfield 30, 3) := by decide +kernel
theorem d_PF_init_40 : decode b_PF_init 40 = .ok (.aload_n 0, 1) := by decide +kernel
theorem d_PF_init_41 : decode b_PF_init 41 = .ok (.new 34, 3) := by decide +kernel
theorem d_PF_init_44 : decode b_PF_init 44 = .ok (.dup, 1) := by decide +kernel
theorem d_PF_init_45 : decode b_PF_init 45 = .ok (.invokespecial 36, 3) := by decide +kernel
theorem d_PF_init_48 : decode b_PF_init 48 = .ok (.putfield 37, 3) := by decide +kernel
theorem d_PF_init_51 : decode b_PF_init 51 = .ok (.aload_n 0, 1) := by decide +kernel
theorem d_PF_init_52 : decode b_PF_init 52 = .ok (.new 41, 3) := by decide +kernel
theorem d_PF_init_55 : decode b_PF_init 55 = .ok (.dup, 1) := by decide +kernel
theorem d_PF_init_56 : decode b_PF_init 56 = .ok (.invokespecial 43, 3) := by decide +kernel
theorem d_PF_init_59 : decode b_PF_init 59 = .ok (.putfield 44, 3) := by decide +kernel
theorem d_PF_init_62 : decode b_PF_init 62 = .ok (.aload_n 0, 1) := by decide +kernel
theorem d_PF_init_63 : decode b_PF_init 63 = .ok (.new 25, 3) := by decide +kernel
theorem d_PF_init_66 : decode b_PF_init 66 = .ok (.dup, 1) := by decide +kernel
theorem d_PF_init_67 : decode b_PF_init 67 = .ok (.bipush 40, 2) := by decide +kernel
theorem d_PF_init_69 : decode b_PF_init 69 = .ok (.invokespecial 27, 3) := by decide +kernel
theorem d_PF_init_72 : decode b_PF_init 72 = .ok (.putfield 48, 3) := by decide +kernel
theorem d_PF_init_75 : decode b_PF_init 75 = .ok (.aload_n 0, 1) := by decide +kernel
theorem d_PF_init_76 : decode b_PF_init 76 = .ok (.new 51, 3) := by decide +kernel
theorem d_PF_init_79 : decode b_PF_init 79 = .ok (.dup, 1) := by decide +kernel
theorem d_PF_init_80 : decode b_PF_init 80 = .ok (.invokespecial 53, 3) := by decide +kernel
theorem d_PF_init_83 : decode b_PF_init 83 = .ok (.putfield 54, 3) := by decide +kernel
theorem d_PF_init_86 : decode b_PF_init 86 = .ok (.aload_n 0, 1) := by decide +kernel
theorem d_PF_init_87 : decode b_PF_init 87 = .ok (.aconst_null, 1) := by decide +kernel
theorem d_PF_init_88 : decode b_PF_init 88 = .ok (.putfield 58, 3) := by decide +kernel
theorem d_PF_init_91 : decode b_PF_init 91 = .ok (.aload_n 0, 1) := by decide +kernel
theorem d_PF_init_92 : decode b_PF_init 92 = .ok (.getfield 48, 3) := by decide +kernel
theorem d_PF_init_95 : decode b_PF_init 95 = .ok (.invokevirtual 62, 3) := by decide +kernel
theorem d_PF_init_98 : decode b_PF_init 98 = .ok (.return_, 1) := by decide +kernel
theorem oi_PF_3 : ∀ w ∈ ([.methodLink "PolicyForge" 3 objectInit, .instanceMethod objectInit, .code objectInit ⟨#[0xb1]⟩ 1 none] : List Cond), w ∈ ab_T := List.forall_mem_cons.mpr ⟨(ab_in 119 (by decide +kernel) (by decide +kernel)), List.forall_mem_cons.mpr ⟨(ab_in 120 (by decide +kernel) (by decide +kernel)), List.forall_mem_cons.mpr ⟨(ab_in 121 (by decide +kernel) (by decide +kernel)), fun _ h => absurd h List.not_mem_nil⟩⟩⟩
theorem nw_PF_9 : ab_nw "PolicyForge" 9 1 8 := ⟨rfl, R_RD, T_RD, t_RD, rfl, uw_RD, t_RD_ok, List.forall_mem_cons.mpr ⟨(ab_in 122 (by decide +kernel) (by decide +kernel)), List.forall_mem_cons.mpr ⟨(ab_in 123 (by decide +kernel) (by decide +kernel)), List.forall_mem_cons.mpr ⟨(ab_in 93 (by decide +kernel) (by decide +kernel)), fun _ h => absurd h List.not_mem_nil⟩⟩⟩, rfl, by decide +kernel⟩
theorem lI_PF_11 : ab_lI "PolicyForge" 11 y_RD_init b_RD_init 2 0 := ⟨List.forall_mem_cons.mpr ⟨(ab_in 124 (by decide +kernel) (by decide +kernel)), List.forall_mem_cons.mpr ⟨(ab_in 125 (by decide +kernel) (by decide +kernel)), List.forall_mem_cons.mpr ⟨(ab_in 93 (by decide +kernel) (by decide +kernel)), List.forall_mem_cons.mpr ⟨(ab_in 126 (by decide +kernel) (by decide +kernel)), fun _ h => absurd h List.not_mem_nil⟩⟩⟩⟩, ⟨rfl, by decide +kernel, by decide +kernel, by decide +kernel⟩, by decide⟩
theorem uw_PF : ∀ w ∈ u_ws R_PF T_PF 8, w ∈ ab_T := fun w h => List.mem_filter.mpr ⟨by have h2 := h; revert w; decide +kernel, by revert w; decide +kernel⟩
theorem fF_PF_12 : ab_fF "PolicyForge" 12 0 0 1 (.object "PolicyForge$Reader") := ⟨rfl, R_PF, T_PF, 8, t_PF, rfl, uw_PF, by decide, rfl, (ab_in 355 (by decide +kernel) (by decide +kernel)), t_PF_ok, n_PF, rfl, rfl, rfl⟩
theorem nw_PF_16 : ab_nw "PolicyForge" 16 3 10 := ⟨rfl, R_FM, T_FM, t_FM, rfl, uw_FM, t_FM_ok, List.forall_mem_cons.mpr ⟨(ab_in 273 (by decide +kernel) (by decide +kernel)), List.forall_mem_cons.mpr ⟨(ab_in 137 (by decide +kernel) (by decide +kernel)), List.forall_mem_cons.mpr ⟨(ab_in 95 (by decide +kernel) (by decide +kernel)), fun _ h => absurd h List.not_mem_nil⟩⟩⟩, rfl, by decide +kernel⟩
theorem lI_PF_18 : ab_lI "PolicyForge" 18 y_FM_init b_FM_init 2 1 := ⟨List.forall_mem_cons.mpr ⟨(ab_in 274 (by decide +kernel) (by decide +kernel)), List.forall_mem_cons.mpr ⟨(ab_in 139 (by decide +kernel) (by decide +kernel)), List.forall_mem_cons.mpr ⟨(ab_in 95 (by decide +kernel) (by decide +kernel)), List.forall_mem_cons.mpr ⟨(ab_in 140 (by decide +kernel) (by decide +kernel)), fun _ h => absurd h List.not_mem_nil⟩⟩⟩⟩, ⟨rfl, by decide +kernel, by decide +kernel, by decide +kernel⟩, by decide⟩
theorem fF_PF_21 : ab_fF "PolicyForge" 21 0 1 1 (.object "PolicyForge$Form") := ⟨rfl, R_PF, T_PF, 8, t_PF, rfl, uw_PF, by decide, rfl, (ab_in 356 (by decide +kernel) (by decide +kernel)), t_PF_ok, n_PF, rfl, rfl, rfl⟩
theorem nw_PF_25 : ab_nw "PolicyForge" 25 4 4 := ⟨rfl, R_RW, T_RW, t_RW, rfl, uw_RW, t_RW_ok, List.forall_mem_cons.mpr ⟨(ab_in 275 (by decide +kernel) (by decide +kernel)), List.forall_mem_cons.mpr ⟨(ab_in 145 (by decide +kernel) (by decide +kernel)), List.forall_mem_cons.mpr ⟨(ab_in 96 (by decide +kernel) (by decide +kernel)), fun _ h => absurd h List.not_mem_nil⟩⟩⟩, rfl, by decide +kernel⟩
theorem lI_PF_27 : ab_lI "PolicyForge" 27 y_RW_init b_RW_init 2 1 := ⟨List.forall_mem_cons.mpr ⟨(ab_in 276 (by decide +kernel) (by decide +kernel)), List.forall_mem_cons.mpr ⟨(ab_in 147 (by decide +kernel) (by decide +kernel)), List.forall_mem_cons.mpr ⟨(ab_in 96 (by decide +kernel) (by decide +kernel)), List.forall_mem_cons.mpr ⟨(ab_in 148 (by decide +kernel) (by decide +kernel)), fun _ h => absurd h List.not_mem_nil⟩⟩⟩⟩, ⟨rfl, by decide +kernel, by decide +kernel, by decide +kernel⟩, by decide⟩
theorem fF_PF_30 : ab_fF "PolicyForge" 30 0 2 1 (.object "PolicyForge$Row") := ⟨rfl, R_PF, T_PF, 8, t_PF, rfl, uw_PF, by decide, rfl, (ab_in 357 (by decide +kernel) (by decide +kernel)), t_PF_ok, n_PF, rfl, rfl, rfl⟩
theorem nw_PF_34 : ab_nw "PolicyForge" 34 5 4 := ⟨rfl, R_SC, T_SC, t_SC, rfl, uw_SC, t_SC_ok, List.forall_mem_cons.mpr ⟨(ab_in 277 (by decide +kernel) (by decide +kernel)), List.forall_mem_cons.mpr ⟨(ab_in 278 (by decide +kernel) (by decide +kernel)), List.forall_mem_cons.mpr ⟨(ab_in 97 (by decide +kernel) (by decide +kernel)), fun _ h => absurd h List.not_mem_nil⟩⟩⟩, rfl, by decide +kernel⟩
theorem lI_PF_36 : ab_lIN "PolicyForge" 36 y_SC_init "PolicyForge" b_SC_init 1 0 := ⟨(List.mem_filter.mpr ⟨List.mem_of_getElem? (i := 279) (by decide +kernel), by decide +kernel⟩), List.forall_mem_cons.mpr ⟨(ab_in 280 (by decide +kernel) (by decide +kernel)), List.forall_mem_cons.mpr ⟨(ab_in 97 (by decide +kernel) (by decide +kernel)), List.forall_mem_cons.mpr ⟨(ab_in 281 (by decide +kernel) (by decide +kernel)), fun _ h => absurd h List.not_mem_nil⟩⟩⟩, ⟨rfl, by decide +kernel, by decide +kernel, by decide +kernel⟩, by decide⟩
theorem fF_PF_37 : ab_fF "PolicyForge" 37 0 3 1 (.object "PolicyForge$Script") := ⟨rfl, R_PF, T_PF, 8, t_PF, rfl, uw_PF, by decide, rfl, (ab_in 358 (by decide +kernel) (by decide +kernel)), t_PF_ok, n_PF, rfl, rfl, rfl⟩
theorem nw_PF_41 : ab_nw "PolicyForge" 41 6 4 := ⟨rfl, R_FA, T_FA, t_FA, rfl, uw_FA, t_FA_ok, List.forall_mem_cons.mpr ⟨(ab_in 303 (by decide +kernel) (by decide +kernel)), List.forall_mem_cons.mpr ⟨(ab_in 304 (by decide +kernel) (by decide +kernel)), List.forall_mem_cons.mpr ⟨(ab_in 98 (by decide +kernel) (by decide +kernel)), fun _ h => absurd h List.not_mem_nil⟩⟩⟩, rfl, by decide +kernel⟩
theorem lI_PF_43 : ab_lIN "PolicyForge" 43 y_FA_init "PolicyForge" b_FA_init 1 0 := ⟨(List.mem_filter.mpr ⟨List.mem_of_getElem? (i := 305) (by decide +kernel), by decide +kernel⟩), List.forall_mem_cons.mpr ⟨(ab_in 306 (by decide +kernel) (by decide +kernel)), List.forall_mem_cons.mpr ⟨(ab_in 98 (by decide +kernel) (by decide +kernel)), List.forall_mem_cons.mpr ⟨(ab_in 307 (by decide +kernel) (by decide +kernel)), fun _ h => absurd h List.not_mem_nil⟩⟩⟩, ⟨rfl, by decide +kernel, by decide +kernel, by decide +kernel⟩, by decide⟩
theorem fF_PF_44 : ab_fF "PolicyForge" 44 0 4 1 (.object "PolicyForge$Facts") := ⟨rfl, R_PF, T_PF, 8, t_PF, rfl, uw_PF, by decide, rfl, (ab_in 359 (by decide +kernel) (by decide +kernel)), t_PF_ok, n_PF, rfl, rfl, rfl⟩
theorem fF_PF_48 : ab_fF "PolicyForge" 48 0 5 1 (.object "PolicyForge$Row") := ⟨rfl, R_PF, T_PF, 8, t_PF, rfl, uw_PF, by decide, rfl, (ab_in 360 (by decide +kernel) (by decide +kernel)), t_PF_ok, n_PF, rfl, rfl, rfl⟩
theorem nw_PF_51 : ab_nw "PolicyForge" 51 7 7 := ⟨rfl, R_MA, T_MA, t_MA, rfl, uw_MA, t_MA_ok, List.forall_mem_cons.mpr ⟨(ab_in 322 (by decide +kernel) (by decide +kernel)), List.forall_mem_cons.mpr ⟨(ab_in 323 (by decide +kernel) (by decide +kernel)), List.forall_mem_cons.mpr ⟨(ab_in 99 (by decide +kernel) (by decide +kernel)), fun _ h => absurd h List.not_mem_nil⟩⟩⟩, rfl, by decide +kernel⟩
theorem lI_PF_53 : ab_lIN "PolicyForge" 53 y_MA_init "PolicyForge" b_MA_init 1 0 := ⟨(List.mem_filter.mpr ⟨List.mem_of_getElem? (i := 324) (by decide +kernel), by decide +kernel⟩), List.forall_mem_cons.mpr ⟨(ab_in 325 (by decide +kernel) (by decide +kernel)), List.forall_mem_cons.mpr ⟨(ab_in 99 (by decide +kernel) (by decide +kernel)), List.forall_mem_cons.mpr ⟨(ab_in 326 (by decide +kernel) (by decide +kernel)), fun _ h => absurd h List.not_mem_nil⟩⟩⟩, ⟨rfl, by decide +kernel, by decide +kernel, by decide +kernel⟩, by decide⟩
theorem fF_PF_54 : ab_fF "PolicyForge" 54 0 6 1 (.object "PolicyForge$Machine") := ⟨rfl, R_PF, T_PF, 8, t_PF, rfl, uw_PF, by decide, rfl, (ab_in 361 (by decide +kernel) (by decide +kernel)), t_PF_ok, n_PF, rfl, rfl, rfl⟩
theorem fp_PF_58 : ab_fp "PolicyForge" 58 0 7 1 (.object "PolicyForge$Part") := ⟨rfl, R_PF, T_PF, 8, t_PF, rfl, uw_PF, by decide, rfl, (ab_in 362 (by decide +kernel) (by decide +kernel)), t_PF_ok, n_PF, rfl, rfl⟩
theorem fl_PF_48 : ab_fl "PolicyForge" 48 0 5 1 := ⟨rfl, R_PF, T_PF, 8, rfl, uw_PF, by decide, rfl, (ab_in 360 (by decide +kernel) (by decide +kernel))⟩
theorem lk_PF_62 : ab_lk "PolicyForge" 62 y_RW_start b_RW_start 1 none 0 4 := ⟨⟨rfl, T_RW, 4, rfl⟩, List.forall_mem_cons.mpr ⟨(ab_in 351 (by decide +kernel) (by decide +kernel)), List.forall_mem_cons.mpr ⟨(ab_in 352 (by decide +kernel) (by decide +kernel)), List.forall_mem_cons.mpr ⟨(ab_in 353 (by decide +kernel) (by decide +kernel)), List.forall_mem_cons.mpr ⟨(ab_in 96 (by decide +kernel) (by decide +kernel)), List.forall_mem_cons.mpr ⟨(ab_in 354 (by decide +kernel) (by decide +kernel)), fun _ h => absurd h List.not_mem_nil⟩⟩⟩⟩⟩, ⟨by decide +kernel, by decide +kernel, by decide +kernel⟩, by decide⟩
set_option maxRecDepth 100000 in
set_option maxHeartbeats 8000000 in
theorem c_PF_init {l : Launch} {D : va_G} {ca : Nat → ClassId} : ab_CA l D ca y_PF_init b_PF_init 1 5 420 7174 (ab_nl [1]) ab_Z [ab_O 0 0] ab_n7 (fun u' => u' = ab_uC) := by
  refine ab_CA.of (by decide) rfl (Nat.le_of_ble_eq_true rfl) ?_
  intro p e s m args below meth c ad X hr0 hlk hin
  have le1 : ∀ {l : List Nat} (h : (List.range 17).all (fun c => decide (ab_nl [1] c ≤ ab_nl l c)) = true) (c : Nat), ab_nl [1] c ≤ ab_nl l c := fun h c => ab_le17 h (fun c h => ab_nl_out (by simp; omega)) c
  refine ab_aload_n X 0 d_PF_init_0 rfl rfl ?_
  refine ab_objInit X oi_PF_3 d_PF_init_1 ⟨by first | exact Nat.le_of_ble_eq_true rfl | (simp only [ab_rm]; omega), by first | exact Nat.le_of_ble_eq_true rfl | (simp only [ab_rm]; omega)⟩ (Nat.le_of_ble_eq_true rfl) ?_
  refine ab_aload_n X 0 d_PF_init_4 rfl rfl ?_
  refine ab_new X nw_PF_9 d_PF_init_5 (by decide) (ab_G_Z _) (by (repeat' (first | (intro q hq; exact absurd hq (List.not_mem_nil)) | refine List.forall_mem_cons.mpr ⟨?_, ?_⟩)) <;> (first | trivial | (refine Or.inl ?_; first | assumption | exact Nat.le_of_ble_eq_true rfl | exact Nat.lt_succ_self _ | (simp [ab_nx]; done) | (simp [ab_nx]; omega)))) (by (repeat' (first | (intro q hq; exact absurd hq (List.not_mem_nil)) | refine List.forall_mem_cons.mpr ⟨?_, ?_⟩)) <;> (first | trivial | (refine Or.inl ?_; first | assumption | exact Nat.le_of_ble_eq_true rfl | exact Nat.lt_succ_self _ | (simp [ab_nx]; done) | (simp [ab_nx]; omega)))) ⟨by first | exact Nat.le_of_ble_eq_true rfl | (simp only [ab_rm]; omega), by first | exact Nat.le_of_ble_eq_true rfl | (simp only [ab_rm]; omega)⟩ (fun ad5 x5 => ?_)
  refine ab_widen (k := 1) (n := 8) (Nat.le_of_ble_eq_true rfl) (Nat.le_of_ble_eq_true rfl) ?_
  refine ab_dup X d_PF_init_8 rfl ?_
  refine ab_Nr ab_e0 ?_
  refine ab_callI (as := []) X (c_RD_init) lI_PF_11 d_PF_init_9 rfl rfl (by (repeat' (first | (intro q hq; exact absurd hq (List.not_mem_nil)) | refine List.forall_mem_cons.mpr ⟨?_, ?_⟩)) <;> (first | trivial | (refine Or.inl ?_; first | assumption | exact Nat.le_of_ble_eq_true rfl | exact Nat.lt_succ_self _ | (simp [ab_nx]; done) | (simp [ab_nx]; omega)))) (by (repeat' (first | (intro q hq; exact absurd hq (List.not_mem_nil)) | refine List.forall_mem_cons.mpr ⟨?_, ?_⟩)) <;> (first | trivial | (refine Or.inl ?_; first | assumption | exact Nat.le_of_ble_eq_true rfl | exact Nat.lt_succ_self _ | (simp [ab_nx]; done) | (simp [ab_nx]; omega)))) ⟨by first | exact Nat.le_of_ble_eq_true rfl | (simp only [ab_rm]; omega), by first | exact Nat.le_of_ble_eq_true rfl | (simp only [ab_rm]; omega)⟩ ⟨by first | exact Nat.le_of_ble_eq_true rfl | (simp only [ab_rm]; omega), by first | exact Nat.le_of_ble_eq_true rfl | (simp only [ab_rm]; omega)⟩ (Nat.le_of_ble_eq_true rfl) (fun ad9 u9 x9 h9 => ?_)
  obtain rfl := h9
  refine ab_widen (k := 403) (n := 6507) (Nat.le_of_ble_eq_true rfl) (Nat.le_of_ble_eq_true rfl) ?_
  refine ab_Nr ab_e1 ?_
  refine ab_putFR X fF_PF_12 (by first | exact Or.inl ⟨_, rfl⟩ | exact Or.inr ⟨_, rfl⟩) hin d_PF_init_12 (by decide) ?_
  refine ab_aload_n X 0 d_PF_init_15 rfl rfl ?_
  refine ab_u (u' := ab_u1) rfl ?_
  have y1 := ab_ex.trans x5 (le1 (l := [1, 1]) (by decide +kernel)) x9
  refine ab_new X nw_PF_16 d_PF_init_16 (by decide) (ab_g1) (by (repeat' (first | (intro q hq; exact absurd hq (List.not_mem_nil)) | refine List.forall_mem_cons.mpr ⟨?_, ?_⟩)) <;> (first | trivial | (refine Or.inl ?_; first | assumption | exact Nat.le_of_ble_eq_true rfl | exact Nat.lt_succ_self _ | (simp [ab_nx]; done) | (simp [ab_nx]; omega)))) (by (repeat' (first | (intro q hq; exact absurd hq (List.not_mem_nil)) | refine List.forall_mem_cons.mpr ⟨?_, ?_⟩)) <;> (first | trivial | (refine Or.inl ?_; first | assumption | exact Nat.le_of_ble_eq_true rfl | exact Nat.lt_succ_self _ | (simp [ab_nx]; done) | (simp [ab_nx]; omega)))) ⟨by first | exact Nat.le_of_ble_eq_true rfl | (simp only [ab_rm]; omega), by first | exact Nat.le_of_ble_eq_true rfl | (simp only [ab_rm]; omega)⟩ (fun ad16 x16 => ?_)
  refine ab_widen (k := 404) (n := 6517) (Nat.le_of_ble_eq_true rfl) (Nat.le_of_ble_eq_true rfl) ?_
  refine ab_dup X d_PF_init_19 rfl ?_
  refine ab_iconst (v := 0) X d_PF_init_20 (by decide) ?_
  refine ab_callI (as := [ab_I 0]) X (c_FM_init (N := ab_nx ab_n1 3) ab_u1 60 0 (by decide) (ab_g1.more (ab_nx_le _ 3)) (fun k => (ab_g1.1 3 60 k (by decide)).1) (Or.inl rfl) (by decide) (by decide)) lI_PF_18 d_PF_init_21 rfl rfl (by (repeat' (first | (intro q hq; exact absurd hq (List.not_mem_nil)) | refine List.forall_mem_cons.mpr ⟨?_, ?_⟩)) <;> (first | trivial | (refine Or.inl ?_; first | assumption | exact Nat.le_of_ble_eq_true rfl | exact Nat.lt_succ_self _ | (simp [ab_nx]; done) | (simp [ab_nx]; omega)))) (by (repeat' (first | (intro q hq; exact absurd hq (List.not_mem_nil)) | refine List.forall_mem_cons.mpr ⟨?_, ?_⟩)) <;> (first | trivial | (refine Or.inl ?_; first | assumption | exact Nat.le_of_ble_eq_true rfl | exact Nat.lt_succ_self _ | (simp [ab_nx]; done) | (simp [ab_nx]; omega)))) ⟨by first | exact Nat.le_of_ble_eq_true rfl | (simp only [ab_rm]; omega), by first | exact Nat.le_of_ble_eq_true rfl | (simp only [ab_rm]; omega)⟩ ⟨by first | exact Nat.le_of_ble_eq_true rfl | (simp only [ab_rm]; omega), by first | exact Nat.le_of_ble_eq_true rfl | (simp only [ab_rm]; omega)⟩ (Nat.le_of_ble_eq_true rfl) (fun ad21 u21 x21 h21 => ?_)
  obtain rfl := h21
  refine ab_widen (k := 409) (n := 6609) (Nat.le_of_ble_eq_true rfl) (Nat.le_of_ble_eq_true rfl) ?_
  refine ab_Nr ab_e2 ?_
  refine ab_putFR X fF_PF_21 (by first | exact Or.inl ⟨_, rfl⟩ | exact Or.inr ⟨_, rfl⟩) hin d_PF_init_24 (by decide) ?_
  refine ab_aload_n X 0 d_PF_init_27 rfl rfl ?_
  refine ab_u (u' := ab_u2) rfl ?_
  have y2 := ab_ex.trans (ab_ex.trans y1 (le1 (l := [1, 1, 20, 60, 120, 0, 0, 0, 120, 60, 20, 1, 1]) (by decide +kernel)) x16) (fun k => Nat.le_trans (le1 (l := [1, 1, 20, 60, 120, 0, 0, 0, 120, 60, 20, 1, 1]) (by decide +kernel) k) (ab_nx_le _ 3 k)) x21
  refine ab_new X nw_PF_25 d_PF_init_28 (by decide) (ab_g2) (by (repeat' (first | (intro q hq; exact absurd hq (List.not_mem_nil)) | refine List.forall_mem_cons.mpr ⟨?_, ?_⟩)) <;> (first | trivial | (refine Or.inl ?_; first | assumption | exact Nat.le_of_ble_eq_true rfl | exact Nat.lt_succ_self _ | (simp [ab_nx]; done) | (simp [ab_nx]; omega)))) (by (repeat' (first | (intro q hq; exact absurd hq (List.not_mem_nil)) | refine List.forall_mem_cons.mpr ⟨?_, ?_⟩)) <;> (first | trivial | (refine Or.inl ?_; first | assumption | exact Nat.le_of_ble_eq_true rfl | exact Nat.lt_succ_self _ | (simp [ab_nx]; done) | (simp [ab_nx]; omega)))) ⟨by first | exact Nat.le_of_ble_eq_true rfl | (simp only [ab_rm]; omega), by first | exact Nat.le_of_ble_eq_true rfl | (simp only [ab_rm]; omega)⟩ (fun ad28 x28 => ?_)
  refine ab_widen (k := 410) (n := 6613) (Nat.le_of_ble_eq_true rfl) (Nat.le_of_ble_eq_true rfl) ?_
  refine ab_dup X d_PF_init_31 rfl ?_
  refine ab_bipush (v := 40) X d_PF_init_32 (by decide) ?_
  refine ab_top (v := nI (ab_ln 8 (ab_nx ab_n2 4 8))) (by decide) ?_
  refine ab_callI (as := [ab_I (nI (ab_ln 8 (ab_nx ab_n2 4 8)))]) X (c_RW_init (N := ab_nx ab_n2 4) ab_u2 122 (by decide) (ab_g2.more (ab_nx_le _ 4)) (ab_g2.1 4 122 1 (by decide)).1 (ab_g2.1 4 122 2 (by decide)).1 (ab_g2.1 4 122 3 (by decide)).1) lI_PF_27 d_PF_init_34 rfl rfl (by (repeat' (first | (intro q hq; exact absurd hq (List.not_mem_nil)) | refine List.forall_mem_cons.mpr ⟨?_, ?_⟩)) <;> (first | trivial | (refine Or.inl ?_; first | assumption | exact Nat.le_of_ble_eq_true rfl | exact Nat.lt_succ_self _ | (simp [ab_nx]; done) | (simp [ab_nx]; omega)))) (by (repeat' (first | (intro q hq; exact absurd hq (List.not_mem_nil)) | refine List.forall_mem_cons.mpr ⟨?_, ?_⟩)) <;> (first | trivial | (refine Or.inl ?_; first | assumption | exact Nat.le_of_ble_eq_true rfl | exact Nat.lt_succ_self _ | (simp [ab_nx]; done) | (simp [ab_nx]; omega)))) ⟨by first | exact Nat.le_of_ble_eq_true rfl | (simp only [ab_rm]; omega), by first | exact Nat.le_of_ble_eq_true rfl | (simp only [ab_rm]; omega)⟩ ⟨by first | exact Nat.le_of_ble_eq_true rfl | (simp only [ab_rm]; omega), by first | exact Nat.le_of_ble_eq_true rfl | (simp only [ab_rm]; omega)⟩ (Nat.le_of_ble_eq_true rfl) (fun ad34 u34 x34 h34 => ?_)
  obtain rfl := h34
  refine ab_widen (k := 411) (n := 6653) (Nat.le_of_ble_eq_true rfl) (Nat.le_of_ble_eq_true rfl) ?_
  refine ab_Nr ab_e3 ?_
  refine ab_putFR X fF_PF_30 (by first | exact Or.inl ⟨_, rfl⟩ | exact Or.inr ⟨_, rfl⟩) hin d_PF_init_37 (by decide) ?_
  refine ab_aload_n X 0 d_PF_init_40 rfl rfl ?_
  refine ab_u (u' := ab_u3) rfl ?_
  have y3 := ab_ex.trans (ab_ex.trans y2 (le1 (l := [1, 1, 20, 61, 122, 0, 0, 0, 122, 61, 20, 1, 1]) (by decide +kernel)) x28) (fun k => Nat.le_trans (le1 (l := [1, 1, 20, 61, 122, 0, 0, 0, 122, 61, 20, 1, 1]) (by decide +kernel) k) (ab_nx_le _ 4 k)) x34
  refine ab_new X nw_PF_34 d_PF_init_41 (by decide) (ab_g3) (by (repeat' (first | (intro q hq; exact absurd hq (List.not_mem_nil)) | refine List.forall_mem_cons.mpr ⟨?_, ?_⟩)) <;> (first | trivial | (refine Or.inl ?_; first | assumption | exact Nat.le_of_ble_eq_true rfl | exact Nat.lt_succ_self _ | (simp [ab_nx]; done) | (simp [ab_nx]; omega)))) (by (repeat' (first | (intro q hq; exact absurd hq (List.not_mem_nil)) | refine List.forall_mem_cons.mpr ⟨?_, ?_⟩)) <;> (first | trivial | (refine Or.inl ?_; first | assumption | exact Nat.le_of_ble_eq_true rfl | exact Nat.lt_succ_self _ | (simp [ab_nx]; done) | (simp [ab_nx]; omega)))) ⟨by first | exact Nat.le_of_ble_eq_true rfl | (simp only [ab_rm]; omega), by first | exact Nat.le_of_ble_eq_true rfl | (simp only [ab_rm]; omega)⟩ (fun ad41 x41 => ?_)
  refine ab_widen (k := 412) (n := 6657) (Nat.le_of_ble_eq_true rfl) (Nat.le_of_ble_eq_true rfl) ?_
  refine ab_dup X d_PF_init_44 rfl ?_
  refine ab_callIN (as := []) X (c_SC_init (N := ab_nx ab_n3 5) ab_u3 0 (by decide) (ab_g3.more (ab_nx_le _ 5)) (fun k => (ab_g3.1 5 0 k (by decide)).1)) lI_PF_36 d_PF_init_45 rfl rfl (by (repeat' (first | (intro q hq; exact absurd hq (List.not_mem_nil)) | refine List.forall_mem_cons.mpr ⟨?_, ?_⟩)) <;> (first | trivial | (refine Or.inl ?_; first | assumption | exact Nat.le_of_ble_eq_true rfl | exact Nat.lt_succ_self _ | (simp [ab_nx]; done) | (simp [ab_nx]; omega)))) (by (repeat' (first | (intro q hq; exact absurd hq (List.not_mem_nil)) | refine List.forall_mem_cons.mpr ⟨?_, ?_⟩)) <;> (first | trivial | (refine Or.inl ?_; first | assumption | exact Nat.le_of_ble_eq_true rfl | exact Nat.lt_succ_self _ | (simp [ab_nx]; done) | (simp [ab_nx]; omega)))) ⟨by first | exact Nat.le_of_ble_eq_true rfl | (simp only [ab_rm]; omega), by first | exact Nat.le_of_ble_eq_true rfl | (simp only [ab_rm]; omega)⟩ ⟨by first | exact Nat.le_of_ble_eq_true rfl | (simp only [ab_rm]; omega), by first | exact Nat.le_of_ble_eq_true rfl | (simp only [ab_rm]; omega)⟩ (Nat.le_of_ble_eq_true rfl) (fun ad45 u45 x45 h45 => ?_)
  obtain rfl := h45
  refine ab_widen (k := 414) (n := 6823) (Nat.le_of_ble_eq_true rfl) (Nat.le_of_ble_eq_true rfl) ?_
  refine ab_Nr ab_e4 ?_
  refine ab_putFR X fF_PF_37 (by first | exact Or.inl ⟨_, rfl⟩ | exact Or.inr ⟨_, rfl⟩) hin d_PF_init_48 (by decide) ?_
  refine ab_aload_n X 0 d_PF_init_51 rfl rfl ?_
  refine ab_u (u' := ab_u4) rfl ?_
  have y4 := ab_ex.trans (ab_ex.trans y3 (le1 (l := [1, 1, 20, 61, 123, 0, 0, 0, 123, 61, 20, 1, 1]) (by decide +kernel)) x41) (fun k => Nat.le_trans (le1 (l := [1, 1, 20, 61, 123, 0, 0, 0, 123, 61, 20, 1, 1]) (by decide +kernel) k) (ab_nx_le _ 5 k)) x45
  refine ab_new X nw_PF_41 d_PF_init_52 (by decide) (ab_g4) (by (repeat' (first | (intro q hq; exact absurd hq (List.not_mem_nil)) | refine List.forall_mem_cons.mpr ⟨?_, ?_⟩)) <;> (first | trivial | (refine Or.inl ?_; first | assumption | exact Nat.le_of_ble_eq_true rfl | exact Nat.lt_succ_self _ | (simp [ab_nx]; done) | (simp [ab_nx]; omega)))) (by (repeat' (first | (intro q hq; exact absurd hq (List.not_mem_nil)) | refine List.forall_mem_cons.mpr ⟨?_, ?_⟩)) <;> (first | trivial | (refine Or.inl ?_; first | assumption | exact Nat.le_of_ble_eq_true rfl | exact Nat.lt_succ_self _ | (simp [ab_nx]; done) | (simp [ab_nx]; omega)))) ⟨by first | exact Nat.le_of_ble_eq_true rfl | (simp only [ab_rm]; omega), by first | exact Nat.le_of_ble_eq_true rfl | (simp only [ab_rm]; omega)⟩ (fun ad52 x52 => ?_)
  refine ab_widen (k := 415) (n := 6827) (Nat.le_of_ble_eq_true rfl) (Nat.le_of_ble_eq_true rfl) ?_
  refine ab_dup X d_PF_init_55 rfl ?_
  refine ab_callIN (as := []) X (c_FA_init (N := ab_nx ab_n4 6) ab_u4 0 (by decide) (fun k => (ab_g4.1 6 0 k (by decide)).1)) lI_PF_43 d_PF_init_56 rfl rfl (by (repeat' (first | (intro q hq; exact absurd hq (List.not_mem_nil)) | refine List.forall_mem_cons.mpr ⟨?_, ?_⟩)) <;> (first | trivial | (refine Or.inl ?_; first | assumption | exact Nat.le_of_ble_eq_true rfl | exact Nat.lt_succ_self _ | (simp [ab_nx]; done) | (simp [ab_nx]; omega)))) (by (repeat' (first | (intro q hq; exact absurd hq (List.not_mem_nil)) | refine List.forall_mem_cons.mpr ⟨?_, ?_⟩)) <;> (first | trivial | (refine Or.inl ?_; first | assumption | exact Nat.le_of_ble_eq_true rfl | exact Nat.lt_succ_self _ | (simp [ab_nx]; done) | (simp [ab_nx]; omega)))) ⟨by first | exact Nat.le_of_ble_eq_true rfl | (simp only [ab_rm]; omega), by first | exact Nat.le_of_ble_eq_true rfl | (simp only [ab_rm]; omega)⟩ ⟨by first | exact Nat.le_of_ble_eq_true rfl | (simp only [ab_rm]; omega), by first | exact Nat.le_of_ble_eq_true rfl | (simp only [ab_rm]; omega)⟩ (Nat.le_of_ble_eq_true rfl) (fun ad56 u56 x56 h56 => ?_)
  obtain rfl := h56
  refine ab_widen (k := 415) (n := 6827) (Nat.le_of_ble_eq_true rfl) (Nat.le_of_ble_eq_true rfl) ?_
  refine ab_Nr ab_e5 ?_
  refine ab_putFR X fF_PF_44 (by first | exact Or.inl ⟨_, rfl⟩ | exact Or.inr ⟨_, rfl⟩) hin d_PF_init_59 (by decide) ?_
  refine ab_aload_n X 0 d_PF_init_62 rfl rfl ?_
  refine ab_u (u' := ab_u5) rfl ?_
  have y5 := ab_ex.trans (ab_ex.trans y4 (le1 (l := [1, 1, 20, 61, 123, 1, 0, 0, 123, 61, 20, 1, 1, 1, 1]) (by decide +kernel)) x52) (fun k => Nat.le_trans (le1 (l := [1, 1, 20, 61, 123, 1, 0, 0, 123, 61, 20, 1, 1, 1, 1]) (by decide +kernel) k) (ab_nx_le _ 6 k)) x56
  refine ab_new X nw_PF_25 d_PF_init_63 (by decide) (ab_g5) (by (repeat' (first | (intro q hq; exact absurd hq (List.not_mem_nil)) | refine List.forall_mem_cons.mpr ⟨?_, ?_⟩)) <;> (first | trivial | (refine Or.inl ?_; first | assumption | exact Nat.le_of_ble_eq_true rfl | exact Nat.lt_succ_self _ | (simp [ab_nx]; done) | (simp [ab_nx]; omega)))) (by (repeat' (first | (intro q hq; exact absurd hq (List.not_mem_nil)) | refine List.forall_mem_cons.mpr ⟨?_, ?_⟩)) <;> (first | trivial | (refine Or.inl ?_; first | assumption | exact Nat.le_of_ble_eq_true rfl | exact Nat.lt_succ_self _ | (simp [ab_nx]; done) | (simp [ab_nx]; omega)))) ⟨by first | exact Nat.le_of_ble_eq_true rfl | (simp only [ab_rm]; omega), by first | exact Nat.le_of_ble_eq_true rfl | (simp only [ab_rm]; omega)⟩ (fun ad63 x63 => ?_)
  refine ab_widen (k := 416) (n := 6831) (Nat.le_of_ble_eq_true rfl) (Nat.le_of_ble_eq_true rfl) ?_
  refine ab_dup X d_PF_init_66 rfl ?_
  refine ab_bipush (v := 40) X d_PF_init_67 (by decide) ?_
  refine ab_top (v := nI (ab_ln 8 (ab_nx ab_n5 4 8))) (by decide) ?_
  refine ab_callI (as := [ab_I (nI (ab_ln 8 (ab_nx ab_n5 4 8)))]) X (c_RW_init (N := ab_nx ab_n5 4) ab_u5 123 (by decide) (ab_g5.more (ab_nx_le _ 4)) (ab_g5.1 4 123 1 (by decide)).1 (ab_g5.1 4 123 2 (by decide)).1 (ab_g5.1 4 123 3 (by decide)).1) lI_PF_27 d_PF_init_69 rfl rfl (by (repeat' (first | (intro q hq; exact absurd hq (List.not_mem_nil)) | refine List.forall_mem_cons.mpr ⟨?_, ?_⟩)) <;> (first | trivial | (refine Or.inl ?_; first | assumption | exact Nat.le_of_ble_eq_true rfl | exact Nat.lt_succ_self _ | (simp [ab_nx]; done) | (simp [ab_nx]; omega)))) (by (repeat' (first | (intro q hq; exact absurd hq (List.not_mem_nil)) | refine List.forall_mem_cons.mpr ⟨?_, ?_⟩)) <;> (first | trivial | (refine Or.inl ?_; first | assumption | exact Nat.le_of_ble_eq_true rfl | exact Nat.lt_succ_self _ | (simp [ab_nx]; done) | (simp [ab_nx]; omega)))) ⟨by first | exact Nat.le_of_ble_eq_true rfl | (simp only [ab_rm]; omega), by first | exact Nat.le_of_ble_eq_true rfl | (simp only [ab_rm]; omega)⟩ ⟨by first | exact Nat.le_of_ble_eq_true rfl | (simp only [ab_rm]; omega), by first | exact Nat.le_of_ble_eq_true rfl | (simp only [ab_rm]; omega)⟩ (Nat.le_of_ble_eq_true rfl) (fun ad69 u69 x69 h69 => ?_)
  obtain rfl := h69
  refine ab_widen (k := 417) (n := 6871) (Nat.le_of_ble_eq_true rfl) (Nat.le_of_ble_eq_true rfl) ?_
  refine ab_Nr ab_e6 ?_
  refine ab_putFR X fF_PF_48 (by first | exact Or.inl ⟨_, rfl⟩ | exact Or.inr ⟨_, rfl⟩) hin d_PF_init_72 (by decide) ?_
  refine ab_aload_n X 0 d_PF_init_75 rfl rfl ?_
  refine ab_u (u' := ab_u6) rfl ?_
  have y6 := ab_ex.trans (ab_ex.trans y5 (le1 (l := [1, 1, 20, 61, 123, 1, 1, 0, 123, 61, 20, 1, 1, 1, 1]) (by decide +kernel)) x63) (fun k => Nat.le_trans (le1 (l := [1, 1, 20, 61, 123, 1, 1, 0, 123, 61, 20, 1, 1, 1, 1]) (by decide +kernel) k) (ab_nx_le _ 4 k)) x69
  refine ab_new X nw_PF_51 d_PF_init_76 (by decide) (ab_g6) (by (repeat' (first | (intro q hq; exact absurd hq (List.not_mem_nil)) | refine List.forall_mem_cons.mpr ⟨?_, ?_⟩)) <;> (first | trivial | (refine Or.inl ?_; first | assumption | exact Nat.le_of_ble_eq_true rfl | exact Nat.lt_succ_self _ | (simp [ab_nx]; done) | (simp [ab_nx]; omega)))) (by (repeat' (first | (intro q hq; exact absurd hq (List.not_mem_nil)) | refine List.forall_mem_cons.mpr ⟨?_, ?_⟩)) <;> (first | trivial | (refine Or.inl ?_; first | assumption | exact Nat.le_of_ble_eq_true rfl | exact Nat.lt_succ_self _ | (simp [ab_nx]; done) | (simp [ab_nx]; omega)))) ⟨by first | exact Nat.le_of_ble_eq_true rfl | (simp only [ab_rm]; omega), by first | exact Nat.le_of_ble_eq_true rfl | (simp only [ab_rm]; omega)⟩ (fun ad76 x76 => ?_)
  refine ab_widen (k := 418) (n := 6878) (Nat.le_of_ble_eq_true rfl) (Nat.le_of_ble_eq_true rfl) ?_
  refine ab_dup X d_PF_init_79 rfl ?_
  refine ab_callIN (as := []) X (c_MA_init (N := ab_nx ab_n6 7) ab_u6 0 (by decide) (ab_g6.more (ab_nx_le _ 7)) (fun k => (ab_g6.1 7 0 k (by decide)).1)) lI_PF_53 d_PF_init_80 rfl rfl (by (repeat' (first | (intro q hq; exact absurd hq (List.not_mem_nil)) | refine List.forall_mem_cons.mpr ⟨?_, ?_⟩)) <;> (first | trivial | (refine Or.inl ?_; first | assumption | exact Nat.le_of_ble_eq_true rfl | exact Nat.lt_succ_self _ | (simp [ab_nx]; done) | (simp [ab_nx]; omega)))) (by (repeat' (first | (intro q hq; exact absurd hq (List.not_mem_nil)) | refine List.forall_mem_cons.mpr ⟨?_, ?_⟩)) <;> (first | trivial | (refine Or.inl ?_; first | assumption | exact Nat.le_of_ble_eq_true rfl | exact Nat.lt_succ_self _ | (simp [ab_nx]; done) | (simp [ab_nx]; omega)))) ⟨by first | exact Nat.le_of_ble_eq_true rfl | (simp only [ab_rm]; omega), by first | exact Nat.le_of_ble_eq_true rfl | (simp only [ab_rm]; omega)⟩ ⟨by first | exact Nat.le_of_ble_eq_true rfl | (simp only [ab_rm]; omega), by first | exact Nat.le_of_ble_eq_true rfl | (simp only [ab_rm]; omega)⟩ (Nat.le_of_ble_eq_true rfl) (fun ad80 u80 x80 h80 => ?_)
  obtain rfl := h80
  refine ab_widen (k := 420) (n := 7174) (Nat.le_of_ble_eq_true rfl) (Nat.le_of_ble_eq_true rfl) ?_
  refine ab_Nr ab_e7 ?_
  refine ab_putFR X fF_PF_54 (by first | exact Or.inl ⟨_, rfl⟩ | exact Or.inr ⟨_, rfl⟩) hin d_PF_init_83 (by decide) ?_
  refine ab_u (u' := ab_u7) rfl ?_
  have y7 := ab_ex.trans (ab_ex.trans y6 (le1 (l := [1, 1, 20, 61, 124, 1, 1, 0, 124, 61, 20, 1, 1, 1, 1]) (by decide +kernel)) x76) (fun k => Nat.le_trans (le1 (l := [1, 1, 20, 61, 124, 1, 1, 0, 124, 61, 20, 1, 1, 1, 1]) (by decide +kernel) k) (ab_nx_le _ 7 k)) x80
  refine ab_aload_n X 0 d_PF_init_86 rfl rfl ?_
  refine ab_null X d_PF_init_87 ?_
  refine ab_putR X fp_PF_58 d_PF_init_88 (by decide) ?_
  refine ab_u (ab_ur_same rfl) ?_
  refine ab_aload_n X 0 d_PF_init_91 rfl rfl ?_
  refine ab_gR X fl_PF_48 d_PF_init_92 (by decide) (rfl) ?_
  refine ab_callV (as := []) X (fun h => by cases h) (c_RW_start (N := ab_n7) ab_u7 123 (by decide)) lk_PF_62 d_PF_init_95 rfl rfl (by decide) ⟨by first | exact Nat.le_of_ble_eq_true rfl | (simp only [ab_rm]; omega), by first | exact Nat.le_of_ble_eq_true rfl | (simp only [ab_rm]; omega)⟩ ⟨by first | exact Nat.le_of_ble_eq_true rfl | (simp only [ab_rm]; omega), by first | exact Nat.le_of_ble_eq_true rfl | (simp only [ab_rm]; omega)⟩ (Nat.le_of_ble_eq_true rfl) (fun u95 r95 h95 => ?_)
  obtain ⟨rfl, rfl⟩ := h95
  exact ab_retA X hr0 hlk y7 d_PF_init_98 rfl
end
section
/-! The constructor of the reference. -/
theorem ab_m_ext {N M : Nat → Nat} (h : (List.range 21).all (fun c => decide (N c = M c)) = true) (h1 : ∀ c, 21 ≤ c → N c = 0) (h2 : ∀ c, 21 ≤ c → M c = 0) : N = M := by
  funext c
  by_cases hc : c < 21
  · exact of_decide_eq_true (List.all_eq_true.mp h c (List.mem_range.mpr hc))
  · rw [h1 c (by omega), h2 c (by omega)]
theorem ab_kle {M : Nat → Nat} (h : (List.range 21).all (fun c => decide (ab_nx ab_n7 17 c ≤ M c)) = true) (c : Nat) : ab_nx ab_n7 17 c ≤ M c := by
  by_cases hc : c < 21
  · exact of_decide_eq_true (List.all_eq_true.mp h c (List.mem_range.mpr hc))
  · have e : ab_nx ab_n7 17 c = 0 := by
      unfold ab_nx
      rw [if_neg (by omega)]
      exact ab_nl_out (by simp; omega)
    rw [e]; exact Nat.zero_le _
def ab_m0 : ab_S := ab_uC
def ab_k0 : Nat → Nat := ab_nl [1, 1, 20, 61, 124, 1, 1, 1, 124, 61, 20, 1, 1, 1, 1, 1, 1, 1]
theorem ab_ke : ab_nx ab_n7 17 = ab_k0 := ab_m_ext (by decide +kernel) (fun c h => by unfold ab_nx; rw [if_neg (by omega)]; exact ab_nl_out (by simp; omega)) (fun c h => ab_nl_out (by simp; omega))
theorem ab_h0 : ab_G ab_k0 ab_m0 := by
  have h := ab_gC.more (ab_nx_le _ 17)
  rw [ab_ke] at h
  exact h
def ab_k1 : Nat → Nat := ab_nl [1, 1, 20, 61, 124, 1, 1, 1, 124, 61, 20, 1, 1, 1, 1, 1, 1, 1, 1]
theorem ab_ke1 : ab_nx ab_k0 18 = ab_k1 := ab_m_ext (by decide +kernel) (fun c h => by unfold ab_nx; rw [if_neg (by omega)]; exact ab_nl_out (by simp; omega)) (fun c h => ab_nl_out (by simp; omega))
def ab_m1 : ab_S := ab_ur ab_m0 17 0 1 (some (18, 0))
theorem ab_h1 : ab_G ab_k1 ab_m1 := by
  have h := ab_h0.more (ab_nx_le _ 18)
  rw [ab_ke1] at h
  exact h.ur (c := 17) (i := 0) (k := 1) (r := some (18, 0)) (by decide) (Or.inl (by decide))
def ab_m2 : ab_S := ab_ui ab_m1 17 0 3 (-1)
theorem ab_h2 : ab_G ab_k1 ab_m2 := ab_h1.ui (c := 17) (i := 0) (k := 3) (by decide) (-1)
def ab_k2 : Nat → Nat := ab_nl [1, 1, 20, 61, 124, 1, 1, 1, 124, 61, 20, 1, 1, 1, 1, 1, 1, 1, 2]
theorem ab_ke2 : ab_nx ab_k1 18 = ab_k2 := ab_m_ext (by decide +kernel) (fun c h => by unfold ab_nx; rw [if_neg (by omega)]; exact ab_nl_out (by simp; omega)) (fun c h => ab_nl_out (by simp; omega))
def ab_m3 : ab_S := ab_ur ab_m2 17 0 7 (some (18, 1))
theorem ab_h3 : ab_G ab_k2 ab_m3 := by
  have h := ab_h2.more (ab_nx_le _ 18)
  rw [ab_ke2] at h
  exact h.ur (c := 17) (i := 0) (k := 7) (r := some (18, 1)) (by decide) (Or.inl (by decide))
def ab_k3 : Nat → Nat := ab_nl [1, 1, 20, 61, 124, 1, 1, 1, 124, 61, 20, 1, 1, 1, 1, 1, 1, 1, 3]
theorem ab_ke3 : ab_nx ab_k2 18 = ab_k3 := ab_m_ext (by decide +kernel) (fun c h => by unfold ab_nx; rw [if_neg (by omega)]; exact ab_nl_out (by simp; omega)) (fun c h => ab_nl_out (by simp; omega))
def ab_m4 : ab_S := ab_ur ab_m3 17 0 8 (some (18, 2))
theorem ab_h4 : ab_G ab_k3 ab_m4 := by
  have h := ab_h3.more (ab_nx_le _ 18)
  rw [ab_ke3] at h
  exact h.ur (c := 17) (i := 0) (k := 8) (r := some (18, 2)) (by decide) (Or.inl (by decide))
def ab_k4 : Nat → Nat := ab_nl [1, 1, 20, 61, 124, 1, 1, 1, 124, 61, 20, 1, 1, 1, 1, 1, 1, 1, 4]
theorem ab_ke4 : ab_nx ab_k3 18 = ab_k4 := ab_m_ext (by decide +kernel) (fun c h => by unfold ab_nx; rw [if_neg (by omega)]; exact ab_nl_out (by simp; omega)) (fun c h => ab_nl_out (by simp; omega))
def ab_m5 : ab_S := ab_ur ab_m4 17 0 9 (some (18, 3))
theorem ab_h5 : ab_G ab_k4 ab_m5 := by
  have h := ab_h4.more (ab_nx_le _ 18)
  rw [ab_ke4] at h
  exact h.ur (c := 17) (i := 0) (k := 9) (r := some (18, 3)) (by decide) (Or.inl (by decide))
def ab_k5 : Nat → Nat := ab_nl [1, 1, 20, 61, 124, 1, 1, 1, 124, 61, 20, 1, 1, 1, 1, 1, 1, 1, 5]
theorem ab_ke5 : ab_nx ab_k4 18 = ab_k5 := ab_m_ext (by decide +kernel) (fun c h => by unfold ab_nx; rw [if_neg (by omega)]; exact ab_nl_out (by simp; omega)) (fun c h => ab_nl_out (by simp; omega))
def ab_m6 : ab_S := ab_ur ab_m5 17 0 10 (some (18, 4))
theorem ab_h6 : ab_G ab_k5 ab_m6 := by
  have h := ab_h5.more (ab_nx_le _ 18)
  rw [ab_ke5] at h
  exact h.ur (c := 17) (i := 0) (k := 10) (r := some (18, 4)) (by decide) (Or.inl (by decide))
def ab_k6 : Nat → Nat := ab_nl [1, 1, 20, 61, 124, 1, 1, 1, 124, 61, 20, 1, 1, 1, 1, 1, 1, 1, 6]
theorem ab_ke6 : ab_nx ab_k5 18 = ab_k6 := ab_m_ext (by decide +kernel) (fun c h => by unfold ab_nx; rw [if_neg (by omega)]; exact ab_nl_out (by simp; omega)) (fun c h => ab_nl_out (by simp; omega))
def ab_m7 : ab_S := ab_ur ab_m6 17 0 11 (some (18, 5))
theorem ab_h7 : ab_G ab_k6 ab_m7 := by
  have h := ab_h6.more (ab_nx_le _ 18)
  rw [ab_ke6] at h
  exact h.ur (c := 17) (i := 0) (k := 11) (r := some (18, 5)) (by decide) (Or.inl (by decide))
def ab_k7 : Nat → Nat := ab_nl [1, 1, 20, 61, 124, 1, 1, 1, 124, 61, 20, 1, 1, 1, 1, 1, 1, 1, 7]
theorem ab_ke7 : ab_nx ab_k6 18 = ab_k7 := ab_m_ext (by decide +kernel) (fun c h => by unfold ab_nx; rw [if_neg (by omega)]; exact ab_nl_out (by simp; omega)) (fun c h => ab_nl_out (by simp; omega))
def ab_m8 : ab_S := ab_ur ab_m7 17 0 12 (some (18, 6))
theorem ab_h8 : ab_G ab_k7 ab_m8 := by
  have h := ab_h7.more (ab_nx_le _ 18)
  rw [ab_ke7] at h
  exact h.ur (c := 17) (i := 0) (k := 12) (r := some (18, 6)) (by decide) (Or.inl (by decide))
def ab_k8 : Nat → Nat := ab_nl [1, 1, 20, 61, 124, 1, 1, 1, 124, 61, 20, 1, 1, 1, 1, 1, 1, 1, 8]
theorem ab_ke8 : ab_nx ab_k7 18 = ab_k8 := ab_m_ext (by decide +kernel) (fun c h => by unfold ab_nx; rw [if_neg (by omega)]; exact ab_nl_out (by simp; omega)) (fun c h => ab_nl_out (by simp; omega))
def ab_m9 : ab_S := ab_ur ab_m8 17 0 13 (some (18, 7))
theorem ab_h9 : ab_G ab_k8 ab_m9 := by
  have h := ab_h8.more (ab_nx_le _ 18)
  rw [ab_ke8] at h
  exact h.ur (c := 17) (i := 0) (k := 13) (r := some (18, 7)) (by decide) (Or.inl (by decide))
def ab_k9 : Nat → Nat := ab_nl [1, 1, 20, 61, 124, 1, 1, 1, 124, 61, 20, 1, 1, 1, 1, 1, 1, 1, 9]
theorem ab_ke9 : ab_nx ab_k8 18 = ab_k9 := ab_m_ext (by decide +kernel) (fun c h => by unfold ab_nx; rw [if_neg (by omega)]; exact ab_nl_out (by simp; omega)) (fun c h => ab_nl_out (by simp; omega))
def ab_m10 : ab_S := ab_ur ab_m9 17 0 14 (some (18, 8))
theorem ab_h10 : ab_G ab_k9 ab_m10 := by
  have h := ab_h9.more (ab_nx_le _ 18)
  rw [ab_ke9] at h
  exact h.ur (c := 17) (i := 0) (k := 14) (r := some (18, 8)) (by decide) (Or.inl (by decide))
def ab_k10 : Nat → Nat := ab_nl [1, 1, 20, 61, 124, 1, 1, 1, 124, 61, 20, 1, 1, 1, 1, 1, 1, 1, 10]
theorem ab_ke10 : ab_nx ab_k9 18 = ab_k10 := ab_m_ext (by decide +kernel) (fun c h => by unfold ab_nx; rw [if_neg (by omega)]; exact ab_nl_out (by simp; omega)) (fun c h => ab_nl_out (by simp; omega))
def ab_m11 : ab_S := ab_ur ab_m10 17 0 15 (some (18, 9))
theorem ab_h11 : ab_G ab_k10 ab_m11 := by
  have h := ab_h10.more (ab_nx_le _ 18)
  rw [ab_ke10] at h
  exact h.ur (c := 17) (i := 0) (k := 15) (r := some (18, 9)) (by decide) (Or.inl (by decide))
def ab_k11 : Nat → Nat := ab_nl [1, 1, 20, 61, 124, 1, 1, 1, 124, 61, 20, 1, 1, 1, 1, 1, 1, 1, 11]
theorem ab_ke11 : ab_nx ab_k10 18 = ab_k11 := ab_m_ext (by decide +kernel) (fun c h => by unfold ab_nx; rw [if_neg (by omega)]; exact ab_nl_out (by simp; omega)) (fun c h => ab_nl_out (by simp; omega))
def ab_m12 : ab_S := ab_ur ab_m11 17 0 20 (some (18, 10))
theorem ab_h12 : ab_G ab_k11 ab_m12 := by
  have h := ab_h11.more (ab_nx_le _ 18)
  rw [ab_ke11] at h
  exact h.ur (c := 17) (i := 0) (k := 20) (r := some (18, 10)) (by decide) (Or.inl (by decide))
def ab_k12 : Nat → Nat := ab_nl [1, 1, 20, 61, 124, 1, 1, 1, 124, 61, 20, 1, 1, 1, 1, 1, 1, 1, 12]
theorem ab_ke12 : ab_nx ab_k11 18 = ab_k12 := ab_m_ext (by decide +kernel) (fun c h => by unfold ab_nx; rw [if_neg (by omega)]; exact ab_nl_out (by simp; omega)) (fun c h => ab_nl_out (by simp; omega))
def ab_m13 : ab_S := ab_ur ab_m12 17 0 21 (some (18, 11))
theorem ab_h13 : ab_G ab_k12 ab_m13 := by
  have h := ab_h12.more (ab_nx_le _ 18)
  rw [ab_ke12] at h
  exact h.ur (c := 17) (i := 0) (k := 21) (r := some (18, 11)) (by decide) (Or.inl (by decide))
def ab_k13 : Nat → Nat := ab_nl [1, 1, 20, 61, 124, 1, 1, 1, 124, 61, 20, 1, 1, 1, 1, 1, 1, 1, 13]
theorem ab_ke13 : ab_nx ab_k12 18 = ab_k13 := ab_m_ext (by decide +kernel) (fun c h => by unfold ab_nx; rw [if_neg (by omega)]; exact ab_nl_out (by simp; omega)) (fun c h => ab_nl_out (by simp; omega))
def ab_m14 : ab_S := ab_ur ab_m13 17 0 22 (some (18, 12))
theorem ab_h14 : ab_G ab_k13 ab_m14 := by
  have h := ab_h13.more (ab_nx_le _ 18)
  rw [ab_ke13] at h
  exact h.ur (c := 17) (i := 0) (k := 22) (r := some (18, 12)) (by decide) (Or.inl (by decide))
def ab_k14 : Nat → Nat := ab_nl [1, 1, 20, 61, 124, 1, 1, 1, 124, 61, 20, 1, 1, 1, 1, 1, 1, 1, 14]
theorem ab_ke14 : ab_nx ab_k13 18 = ab_k14 := ab_m_ext (by decide +kernel) (fun c h => by unfold ab_nx; rw [if_neg (by omega)]; exact ab_nl_out (by simp; omega)) (fun c h => ab_nl_out (by simp; omega))
def ab_m15 : ab_S := ab_ur ab_m14 17 0 23 (some (18, 13))
theorem ab_h15 : ab_G ab_k14 ab_m15 := by
  have h := ab_h14.more (ab_nx_le _ 18)
  rw [ab_ke14] at h
  exact h.ur (c := 17) (i := 0) (k := 23) (r := some (18, 13)) (by decide) (Or.inl (by decide))
def ab_k15 : Nat → Nat := ab_nl [1, 1, 20, 61, 124, 1, 1, 1, 124, 61, 20, 1, 1, 1, 1, 1, 1, 1, 15]
theorem ab_ke15 : ab_nx ab_k14 18 = ab_k15 := ab_m_ext (by decide +kernel) (fun c h => by unfold ab_nx; rw [if_neg (by omega)]; exact ab_nl_out (by simp; omega)) (fun c h => ab_nl_out (by simp; omega))
def ab_m16 : ab_S := ab_ur ab_m15 17 0 24 (some (18, 14))
theorem ab_h16 : ab_G ab_k15 ab_m16 := by
  have h := ab_h15.more (ab_nx_le _ 18)
  rw [ab_ke15] at h
  exact h.ur (c := 17) (i := 0) (k := 24) (r := some (18, 14)) (by decide) (Or.inl (by decide))
def ab_k16 : Nat → Nat := ab_nl [1, 1, 20, 61, 124, 1, 1, 1, 124, 61, 20, 1, 1, 1, 1, 1, 1, 1, 16]
theorem ab_ke16 : ab_nx ab_k15 18 = ab_k16 := ab_m_ext (by decide +kernel) (fun c h => by unfold ab_nx; rw [if_neg (by omega)]; exact ab_nl_out (by simp; omega)) (fun c h => ab_nl_out (by simp; omega))
def ab_m17 : ab_S := ab_ur ab_m16 17 0 25 (some (18, 15))
theorem ab_h17 : ab_G ab_k16 ab_m17 := by
  have h := ab_h16.more (ab_nx_le _ 18)
  rw [ab_ke16] at h
  exact h.ur (c := 17) (i := 0) (k := 25) (r := some (18, 15)) (by decide) (Or.inl (by decide))
def ab_k17 : Nat → Nat := ab_nl [1, 1, 20, 61, 124, 1, 1, 1, 124, 61, 20, 1, 1, 1, 1, 1, 1, 1, 17]
theorem ab_ke17 : ab_nx ab_k16 18 = ab_k17 := ab_m_ext (by decide +kernel) (fun c h => by unfold ab_nx; rw [if_neg (by omega)]; exact ab_nl_out (by simp; omega)) (fun c h => ab_nl_out (by simp; omega))
def ab_m18 : ab_S := ab_ur ab_m17 17 0 28 (some (18, 16))
theorem ab_h18 : ab_G ab_k17 ab_m18 := by
  have h := ab_h17.more (ab_nx_le _ 18)
  rw [ab_ke17] at h
  exact h.ur (c := 17) (i := 0) (k := 28) (r := some (18, 16)) (by decide) (Or.inl (by decide))
def ab_k18 : Nat → Nat := ab_nl [1, 1, 20, 61, 124, 1, 1, 1, 124, 61, 20, 1, 1, 1, 1, 1, 1, 1, 18]
theorem ab_ke18 : ab_nx ab_k17 18 = ab_k18 := ab_m_ext (by decide +kernel) (fun c h => by unfold ab_nx; rw [if_neg (by omega)]; exact ab_nl_out (by simp; omega)) (fun c h => ab_nl_out (by simp; omega))
def ab_m19 : ab_S := ab_ur ab_m18 17 0 31 (some (18, 17))
theorem ab_h19 : ab_G ab_k18 ab_m19 := by
  have h := ab_h18.more (ab_nx_le _ 18)
  rw [ab_ke18] at h
  exact h.ur (c := 17) (i := 0) (k := 31) (r := some (18, 17)) (by decide) (Or.inl (by decide))
def ab_k19 : Nat → Nat := ab_nl [1, 1, 20, 61, 124, 1, 1, 1, 124, 61, 20, 1, 1, 1, 1, 1, 1, 1, 19]
theorem ab_ke19 : ab_nx ab_k18 18 = ab_k19 := ab_m_ext (by decide +kernel) (fun c h => by unfold ab_nx; rw [if_neg (by omega)]; exact ab_nl_out (by simp; omega)) (fun c h => ab_nl_out (by simp; omega))
def ab_m20 : ab_S := ab_ur ab_m19 17 0 34 (some (18, 18))
theorem ab_h20 : ab_G ab_k19 ab_m20 := by
  have h := ab_h19.more (ab_nx_le _ 18)
  rw [ab_ke19] at h
  exact h.ur (c := 17) (i := 0) (k := 34) (r := some (18, 18)) (by decide) (Or.inl (by decide))
def ab_k20 : Nat → Nat := ab_nl [1, 1, 20, 61, 124, 1, 1, 1, 124, 61, 20, 1, 1, 1, 1, 1, 1, 1, 20]
theorem ab_ke20 : ab_nx ab_k19 18 = ab_k20 := ab_m_ext (by decide +kernel) (fun c h => by unfold ab_nx; rw [if_neg (by omega)]; exact ab_nl_out (by simp; omega)) (fun c h => ab_nl_out (by simp; omega))
def ab_m21 : ab_S := ab_ur ab_m20 17 0 36 (some (18, 19))
theorem ab_h21 : ab_G ab_k20 ab_m21 := by
  have h := ab_h20.more (ab_nx_le _ 18)
  rw [ab_ke20] at h
  exact h.ur (c := 17) (i := 0) (k := 36) (r := some (18, 19)) (by decide) (Or.inl (by decide))
def ab_k21 : Nat → Nat := ab_nl [1, 1, 20, 61, 124, 1, 1, 1, 124, 61, 20, 1, 1, 1, 1, 1, 1, 1, 21]
theorem ab_ke21 : ab_nx ab_k20 18 = ab_k21 := ab_m_ext (by decide +kernel) (fun c h => by unfold ab_nx; rw [if_neg (by omega)]; exact ab_nl_out (by simp; omega)) (fun c h => ab_nl_out (by simp; omega))
def ab_m22 : ab_S := ab_ur ab_m21 17 0 38 (some (18, 20))
theorem ab_h22 : ab_G ab_k21 ab_m22 := by
  have h := ab_h21.more (ab_nx_le _ 18)
  rw [ab_ke21] at h
  exact h.ur (c := 17) (i := 0) (k := 38) (r := some (18, 20)) (by decide) (Or.inl (by decide))
def ab_k22 : Nat → Nat := ab_nl [1, 1, 20, 61, 124, 1, 1, 1, 124, 61, 20, 1, 1, 1, 1, 1, 1, 1, 21, 1]
theorem ab_ke22 : ab_nx ab_k21 19 = ab_k22 := ab_m_ext (by decide +kernel) (fun c h => by unfold ab_nx; rw [if_neg (by omega)]; exact ab_nl_out (by simp; omega)) (fun c h => ab_nl_out (by simp; omega))
def ab_m23 : ab_S := ab_ur ab_m22 17 0 43 (some (19, 0))
theorem ab_h23 : ab_G ab_k22 ab_m23 := by
  have h := ab_h22.more (ab_nx_le _ 19)
  rw [ab_ke22] at h
  exact h.ur (c := 17) (i := 0) (k := 43) (r := some (19, 0)) (by decide) (Or.inl (by decide))
abbrev ab_uM : ab_S := ab_m23
abbrev ab_nM : Nat → Nat := ab_k22
abbrev b_MO_init : ByteArray := prog_10_method_1_code
def y_MO_init : MethodName := ⟨"PolicyForgeModel", "<init>", "()V"⟩
theorem d_MO_init_0 : decode b_MO_init 0 = .ok (.aload_n 0, 1) := by decide +kernel
theorem d_MO_init_1 : decode b_MO_init 1 = .ok (.invokespecial 1, 3) := by decide +kernel
theorem d_MO_init_4 : decode b_MO_init 4 = .ok (.aload_n 0, 1) := by decide +kernel
theorem d_MO_init_5 : decode b_MO_init 5 = .ok (.iconst 0, 1) := by decide +kernel
theorem d_MO_init_6 : decode b_MO_init 6 = .ok (.putfield 7, 3) := by decide +kernel
theorem d_MO_init_9 : decode b_MO_init 9 = .ok (.aload_n 0, 1) := by decide +kernel
theorem d_MO_init_10 : decode b_MO_init 10 = .ok (.bipush 100, 2) := by decide +kernel
theorem d_MO_init_12 : decode b_MO_init 12 = .ok (.newarray .int, 2) := by decide +kernel
theorem d_MO_init_14 : decode b_MO_init 14 = .ok (.putfield 13, 3) := by decide +kernel
theorem d_MO_init_17 : decode b_MO_init 17 = .ok (.aload_n 0, 1) := by decide +kernel
theorem d_MO_init_18 : decode b_MO_init 18 = .ok (.iconst 0, 1) := by decide +kernel
theorem d_MO_init_19 : decode b_MO_init 19 = .ok (.putfield 17, 3) := by decide +kernel
theorem d_MO_init_22 : decode b_MO_init 22 = .ok (.aload_n 0, 1) := by decide +kernel
theorem d_MO_init_23 : decode b_MO_init 23 = .ok (.iconst (-1), 1) := by decide +kernel
theorem d_MO_init_24 : decode b_MO_init 24 = .ok (.putfield 20, 3) := by decide +kernel
theorem d_MO_init_27 : decode b_MO_init 27 = .ok (.aload_n 0, 1) := by decide +kernel
theorem d_MO_init_28 : decode b_MO_init 28 = .ok (.iconst 0, 1) := by decide +kernel
theorem d_MO_init_29 : decode b_MO_init 29 = .ok (.putfield 23, 3) := by decide +kernel
theorem d_MO_init_32 : decode b_MO_init 32 = .ok (.aload_n 0, 1) := by decide +kernel
theorem d_MO_init_33 : decode b_MO_init 33 = .ok (.iconst 0, 1) := by decide +kernel
theorem d_MO_init_34 : decode b_MO_init 34 = .ok (.putfield 27, 3) := by decide +kernel
theorem d_MO_init_37 : decode b_MO_init 37 = .ok (.aload_n 0, 1) := by decide +kernel
theorem d_MO_init_38 : decode b_MO_init 38 = .ok (.iconst 0, 1) := by decide +kernel
theorem d_MO_init_39 : decode b_MO_init 39 = .ok (.putfield 30, 3) := by decide +kernel
theorem d_MO_init_42 : decode b_MO_init 42 = .ok (.aload_n 0, 1) := by decide +kernel
theorem d_MO_init_43 : decode b_MO_init 43 = .ok (.bipush 40, 2) := by decide +kernel
theorem d_MO_init_45 : decode b_MO_init 45 = .ok (.newarray .int, 2) := by decide +kernel
theorem d_MO_init_47 : decode b_MO_init 47 = .ok (.putfield 33, 3) := by decide +kernel
theorem d_MO_init_50 : decode b_MO_init 50 = .ok (.aload_n 0, 1) := by decide +kernel
theorem d_MO_init_51 : decode b_MO_init 51 = .ok (.bipush 40, 2) := by decide +kernel
theorem d_MO_init_53 : decode b_MO_init 53 = .ok (.newarray .int, 2) := by decide +kernel
theorem d_MO_init_55 : decode b_MO_init 55 = .ok (.putfield 36, 3) := by decide +kernel
theorem d_MO_init_58 : decode b_MO_init 58 = .ok (.aload_n 0, 1) := by decide +kernel
theorem d_MO_init_59 : decode b_MO_init 59 = .ok (.bipush 40, 2) := by decide +kernel
theorem d_MO_init_61 : decode b_MO_init 61 = .ok (.newarray .int, 2) := by decide +kernel
theorem d_MO_init_63 : decode b_MO_init 63 = .ok (.putfield 39, 3) := by decide +kernel
theorem d_MO_init_66 : decode b_MO_init 66 = .ok (.aload_n 0, 1) := by decide +kernel
theorem d_MO_init_67 : decode b_MO_init 67 = .ok (.sipush 160, 3) := by decide +kernel
theorem d_MO_init_70 : decode b_MO_init 70 = .ok (.newarray .int, 2) := by decide +kernel
theorem d_MO_init_72 : decode b_MO_init 72 = .ok (.putfield 42, 3) := by decide +kernel
theorem d_MO_init_75 : decode b_MO_init 75 = .ok (.aload_n 0, 1) := by decide +kernel
theorem d_MO_init_76 : decode b_MO_init 76 = .ok (.bipush 72, 2) := by decide +kernel
theorem d_MO_init_78 : decode b_MO_init 78 = .ok (.newarray .int, 2) := by decide +kernel
theorem d_MO_init_80 : decode b_MO_init 80 = .ok (.putfield 45, 3) := by decide +kernel
theorem d_MO_init_83 : decode b_MO_init 83 = .ok (.aload_n 0, 1) := by decide +kernel
theorem d_MO_init_84 : decode b_MO_init 84 = .ok (.bipush 72, 2) := by decide +kernel
theorem d_MO_init_86 : decode b_MO_init 86 = .ok (.newarray .int, 2) := by decide +kernel
theorem d_MO_init_88 : decode b_MO_init 88 = .ok (.putfield 48, 3) := by decide +kernel
theorem d_MO_init_91 : decode b_MO_init 91 = .ok (.aload_n 0, 1) := by decide +kernel
theorem d_MO_init_92 : decode b_MO_init 92 = .ok (.bipush 72, 2) := by decide +kernel
theorem d_MO_init_94 : decode b_MO_init 94 = .ok (.newarray .int, 2) := by decide +kernel
theorem d_MO_init_96 : decode b_MO_init 96 = .ok (.putfield 51, 3) := by decide +kernel
theorem d_MO_init_99 : decode b_MO_init 99 = .ok (.aload_n 0, 1) := by decide +kernel
theorem d_MO_init_100 : decode b_MO_init 100 = .ok (.bipush 24, 2) := by decide +kernel
theorem d_MO_init_102 : decode b_MO_init 102 = .ok (.newarray .int, 2) := by decide +kernel
theorem d_MO_init_104 : decode b_MO_init 104 = .ok (.putfield 54, 3) := by decide +kernel
theorem d_MO_init_107 : decode b_MO_init 107 = .ok (.aload_n 0, 1) := by decide +kernel
theorem d_MO_init_108 : decode b_MO_init 108 = .ok (.sipush 7200, 3) := by decide +kernel
theorem d_MO_init_111 : decode b_MO_init 111 = .ok (.newarray .int, 2) := by decide +kernel
theorem d_MO_init_113 : decode b_MO_init 113 = .ok (.putfield 57, 3) := by decide +kernel
theorem d_MO_init_116 : decode b_MO_init 116 = .ok (.aload_n 0, 1) := by decide +kernel
theorem d_MO_init_117 : decode b_MO_init 117 = .ok (.iconst 0, 1) := by decide +kernel
theorem d_MO_init_118 : decode b_MO_init 118 = .ok (.putfield 60, 3) := by decide +kernel
theorem d_MO_init_121 : decode b_MO_init 121 = .ok (.aload_n 0, 1) := by decide +kernel
theorem d_MO_init_122 : decode b_MO_init 122 = .ok (.iconst 0, 1) := by decide +kernel
theorem d_MO_init_123 : decode b_MO_init 123 = .ok (.putfield 63, 3) := by decide +kernel
theorem d_MO_init_126 : decode b_MO_init 126 = .ok (.aload_n 0, 1) := by decide +kernel
theorem d_MO_init_127 : decode b_MO_init 127 = .ok (.iconst 0, 1) := by decide +kernel
theorem d_MO_init_128 : decode b_MO_init 128 = .ok (.putfield 66, 3) := by decide +kernel
theorem d_MO_init_131 : decode b_MO_init 131 = .ok (.aload_n 0, 1) := by decide +kernel
theorem d_MO_init_132 : decode b_MO_init 132 = .ok (.iconst 0, 1) := by decide +kernel
theorem d_MO_init_133 : decode b_MO_init 133 = .ok (.putfield 69, 3) := by decide +kernel
theorem d_MO_init_136 : decode b_MO_init 136 = .ok (.aload_n 0, 1) := by decide +kernel
theorem d_MO_init_137 : decode b_MO_init 137 = .ok (.sipush 3600, 3) := by decide +kernel
theorem d_MO_init_140 : decode b_MO_init 140 = .ok (.newarray .int, 2) := by decide +kernel
theorem d_MO_init_142 : decode b_MO_init 142 = .ok (.putfield 72, 3) := by decide +kernel
theorem d_MO_init_145 : decode b_MO_init 145 = .ok (.aload_n 0, 1) := by decide +kernel
theorem d_MO_init_146 : decode b_MO_init 146 = .ok (.bipush 72, 2) := by decide +kernel
theorem d_MO_init_148 : decode b_MO_init 148 = .ok (.newarray .int, 2) := by decide +kernel
theorem d_MO_init_150 : decode b_MO_init 150 = .ok (.putfield 75, 3) := by decide +kernel
theorem d_MO_init_153 : decode b_MO_init 153 = .ok (.aload_n 0, 1) := by decide +kernel
theorem d_MO_init_154 : decode b_MO_init 154 = .ok (.bipush 72, 2) := by decide +kernel
theorem d_MO_init_156 : decode b_MO_init 156 = .ok (.newarray .int, 2) := by decide +kernel
theorem d_MO_init_158 : decode b_MO_init 158 = .ok (.putfield 78, 3) := by decide +kernel
theorem d_MO_init_161 : decode b_MO_init 161 = .ok (.aload_n 0, 1) := by decide +kernel
theorem d_MO_init_162 : decode b_MO_init 162 = .ok (.sipush 1200, 3) := by decide +kernel
theorem d_MO_init_165 : decode b_MO_init 165 = .ok (.newarray .int, 2) := by decide +kernel
theorem d_MO_init_167 : decode b_MO_init 167 = .ok (.putfield 81, 3) := by decide +kernel
theorem d_MO_init_170 : decode b_MO_init 170 = .ok (.aload_n 0, 1) := by decide +kernel
theorem d_MO_init_171 : decode b_MO_init 171 = .ok (.bipush 24, 2) := by decide +kernel
theorem d_MO_init_173 : decode b_MO_init 173 = .ok (.newarray .int, 2) := by decide +kernel
theorem d_MO_init_175 : decode b_MO_init 175 = .ok (.putfield 84, 3) := by decide +kernel
theorem d_MO_init_178 : decode b_MO_init 178 = .ok (.aload_n 0, 1) := by decide +kernel
theorem d_MO_init_179 : decode b_MO_init 179 = .ok (.bipush 64, 2) := by decide +kernel
theorem d_MO_init_181 : decode b_MO_init 181 = .ok (.newarray .int, 2) := by decide +kernel
theorem d_MO_init_183 : decode b_MO_init 183 = .ok (.putfield 87, 3) := by decide +kernel
theorem d_MO_init_186 : decode b_MO_init 186 = .ok (.aload_n 0, 1) := by decide +kernel
theorem d_MO_init_187 : decode b_MO_init 187 = .ok (.iconst 0, 1) := by decide +kernel
theorem d_MO_init_188 : decode b_MO_init 188 = .ok (.putfield 90, 3) := by decide +kernel
theorem d_MO_init_191 : decode b_MO_init 191 = .ok (.aload_n 0, 1) := by decide +kernel
theorem d_MO_init_192 : decode b_MO_init 192 = .ok (.iconst 0, 1) := by decide +kernel
theorem d_MO_init_193 : decode b_MO_init 193 = .ok (.putfield 93, 3) := by decide +kernel
theorem d_MO_init_196 : decode b_MO_init 196 = .ok (.aload_n 0, 1) := by decide +kernel
theorem d_MO_init_197 : decode b_MO_init 197 = .ok (.bipush 64, 2) := by decide +kernel
theorem d_MO_init_199 : decode b_MO_init 199 = .ok (.newarray .int, 2) := by decide +kernel
theorem d_MO_init_201 : decode b_MO_init 201 = .ok (.putfield 96, 3) := by decide +kernel
theorem d_MO_init_204 : decode b_MO_init 204 = .ok (.aload_n 0, 1) := by decide +kernel
theorem d_MO_init_205 : decode b_MO_init 205 = .ok (.iconst 0, 1) := by decide +kernel
theorem d_MO_init_206 : decode b_MO_init 206 = .ok (.putfield 99, 3) := by decide +kernel
theorem d_MO_init_209 : decode b_MO_init 209 = .ok (.aload_n 0, 1) := by decide +kernel
theorem d_MO_init_210 : decode b_MO_init 210 = .ok (.iconst 0, 1) := by decide +kernel
theorem d_MO_init_211 : decode b_MO_init 211 = .ok (.putfield 102, 3) := by decide +kernel
theorem d_MO_init_214 : decode b_MO_init 214 = .ok (.aload_n 0, 1) := by decide +kernel
theorem d_MO_init_215 : decode b_MO_init 215 = .ok (.bipush 64, 2) := by decide +kernel
theorem d_MO_init_217 : decode b_MO_init 217 = .ok (.newarray .int, 2) := by decide +kernel
theorem d_MO_init_219 : decode b_MO_init 219 = .ok (.putfield 105, 3) := by decide +kernel
theorem d_MO_init_222 : decode b_MO_init 222 = .ok (.aload_n 0, 1) := by decide +kernel
theorem d_MO_init_223 : decode b_MO_init 223 = .ok (.iconst 0, 1) := by decide +kernel
theorem d_MO_init_224 : decode b_MO_init 224 = .ok (.putfield 108, 3) := by decide +kernel
theorem d_MO_init_227 : decode b_MO_init 227 = .ok (.aload_n 0, 1) := by decide +kernel
theorem d_MO_init_228 : decode b_MO_init 228 = .ok (.iconst 0, 1) := by decide +kernel
theorem d_MO_init_229 : decode b_MO_init 229 = .ok (.putfield 111, 3) := by decide +kernel
theorem d_MO_init_232 : decode b_MO_init 232 = .ok (.aload_n 0, 1) := by decide +kernel
theorem d_MO_init_233 : decode b_MO_init 233 = .ok (.sipush 128, 3) := by decide +kernel
theorem d_MO_init_236 : decode b_MO_init 236 = .ok (.newarray .int, 2) := by decide +kernel
theorem d_MO_init_238 : decode b_MO_init 238 = .ok (.putfield 114, 3) := by decide +kernel
theorem d_MO_init_241 : decode b_MO_init 241 = .ok (.aload_n 0, 1) := by decide +kernel
theorem d_MO_init_242 : decode b_MO_init 242 = .ok (.iconst 0, 1) := by decide +kernel
theorem d_MO_init_243 : decode b_MO_init 243 = .ok (.putfield 117, 3) := by decide +kernel
theorem d_MO_init_246 : decode b_MO_init 246 = .ok (.aload_n 0, 1) := by decide +kernel
theorem d_MO_init_247 : decode b_MO_init 247 = .ok (.bipush 64, 2) := by decide +kernel
theorem d_MO_init_249 : decode b_MO_init 249 = .ok (.newarray .int, 2) := by decide +kernel
theorem d_MO_init_251 : decode b_MO_init 251 = .ok (.putfield 120, 3) := by decide +kernel
theorem d_MO_init_254 : decode b_MO_init 254 = .ok (.aload_n 0, 1) := by decide +kernel
theorem d_MO_init_255 : decode b_MO_init 255 = .ok (.iconst 0, 1) := by decide +kernel
theorem d_MO_init_256 : decode b_MO_init 256 = .ok (.putfield 123, 3) := by decide +kernel
theorem d_MO_init_259 : decode b_MO_init 259 = .ok (.aload_n 0, 1) := by decide +kernel
theorem d_MO_init_260 : decode b_MO_init 260 = .ok (.bipush 40, 2) := by decide +kernel
theorem d_MO_init_262 : decode b_MO_init 262 = .ok (.newarray .int, 2) := by decide +kernel
theorem d_MO_init_264 : decode b_MO_init 264 = .ok (.putfield 126, 3) := by decide +kernel
theorem d_MO_init_267 : decode b_MO_init 267 = .ok (.aload_n 0, 1) := by decide +kernel
theorem d_MO_init_268 : decode b_MO_init 268 = .ok (.iconst 0, 1) := by decide +kernel
theorem d_MO_init_269 : decode b_MO_init 269 = .ok (.putfield 129, 3) := by decide +kernel
theorem d_MO_init_272 : decode b_MO_init 272 = .ok (.aload_n 0, 1) := by decide +kernel
theorem d_MO_init_273 : decode b_MO_init 273 = .ok (.iconst 0, 1) := by decide +kernel
theorem d_MO_init_274 : decode b_MO_init 274 = .ok (.putfield 132, 3) := by decide +kernel
theorem d_MO_init_277 : decode b_MO_init 277 = .ok (.aload_n 0, 1) := by decide +kernel
theorem d_MO_init_278 : decode b_MO_init 278 = .ok (.iconst 0, 1) := by decide +kernel
theorem d_MO_init_279 : decode b_MO_init 279 = .ok (.putfield 135, 3) := by decide +kernel
theorem d_MO_init_282 : decode b_MO_init 282 = .ok (.aload_n 0, 1) := by decide +kernel
theorem d_MO_init_283 : decode b_MO_init 283 = .ok (.iconst 0, 1) := by decide +kernel
theorem d_MO_init_284 : decode b_MO_init 284 = .ok (.putfield 138, 3) := by decide +kernel
theorem d_MO_init_287 : decode b_MO_init 287 = .ok (.aload_n 0, 1) := by decide +kernel
theorem d_MO_init_288 : decode b_MO_init 288 = .ok (.bipush 24, 2) := by decide +kernel
theorem d_MO_init_290 : decode b_MO_init 290 = .ok (.newarray .boolean, 2) := by decide +kernel
theorem d_MO_init_292 : decode b_MO_init 292 = .ok (.putfield 141, 3) := by decide +kernel
theorem d_MO_init_295 : decode b_MO_init 295 = .ok (.return_, 1) := by decide +kernel
theorem oi_MO_1 : ∀ w ∈ ([.methodLink "PolicyForgeModel" 1 objectInit, .instanceMethod objectInit, .code objectInit ⟨#[0xb1]⟩ 1 none] : List Cond), w ∈ ab_T := List.forall_mem_cons.mpr ⟨(ab_in 925 (by decide +kernel) (by decide +kernel)), List.forall_mem_cons.mpr ⟨(ab_in 120 (by decide +kernel) (by decide +kernel)), List.forall_mem_cons.mpr ⟨(ab_in 121 (by decide +kernel) (by decide +kernel)), fun _ h => absurd h List.not_mem_nil⟩⟩⟩
theorem uw_MO : ∀ w ∈ u_ws R_MO T_MO 44, w ∈ ab_T := fun w h => List.mem_filter.mpr ⟨by have h2 := h; revert w; decide +kernel, by revert w; decide +kernel⟩
theorem fp_MO_7 : ab_fp "PolicyForgeModel" 7 17 0 0 .int := ⟨rfl, R_MO, T_MO, 44, t_MO, rfl, uw_MO, by decide, rfl, (ab_in 926 (by decide +kernel) (by decide +kernel)), t_MO_ok, n_MO, rfl, rfl⟩
theorem fF_MO_13 : ab_fF "PolicyForgeModel" 13 17 1 1 (t_MO 1) := ⟨rfl, R_MO, T_MO, 44, t_MO, rfl, uw_MO, by decide, rfl, (ab_in 927 (by decide +kernel) (by decide +kernel)), t_MO_ok, n_MO, rfl, rfl, rfl⟩
theorem fp_MO_17 : ab_fp "PolicyForgeModel" 17 17 2 0 .int := ⟨rfl, R_MO, T_MO, 44, t_MO, rfl, uw_MO, by decide, rfl, (ab_in 928 (by decide +kernel) (by decide +kernel)), t_MO_ok, n_MO, rfl, rfl⟩
theorem fp_MO_20 : ab_fp "PolicyForgeModel" 20 17 3 0 .int := ⟨rfl, R_MO, T_MO, 44, t_MO, rfl, uw_MO, by decide, rfl, (ab_in 929 (by decide +kernel) (by decide +kernel)), t_MO_ok, n_MO, rfl, rfl⟩
theorem fp_MO_23 : ab_fp "PolicyForgeModel" 23 17 4 0 .boolean := ⟨rfl, R_MO, T_MO, 44, t_MO, rfl, uw_MO, by decide, rfl, (ab_in 930 (by decide +kernel) (by decide +kernel)), t_MO_ok, n_MO, rfl, rfl⟩
theorem fp_MO_27 : ab_fp "PolicyForgeModel" 27 17 5 0 .int := ⟨rfl, R_MO, T_MO, 44, t_MO, rfl, uw_MO, by decide, rfl, (ab_in 931 (by decide +kernel) (by decide +kernel)), t_MO_ok, n_MO, rfl, rfl⟩
theorem fp_MO_30 : ab_fp "PolicyForgeModel" 30 17 6 0 .int := ⟨rfl, R_MO, T_MO, 44, t_MO, rfl, uw_MO, by decide, rfl, (ab_in 932 (by decide +kernel) (by decide +kernel)), t_MO_ok, n_MO, rfl, rfl⟩
theorem fF_MO_33 : ab_fF "PolicyForgeModel" 33 17 7 1 (t_MO 7) := ⟨rfl, R_MO, T_MO, 44, t_MO, rfl, uw_MO, by decide, rfl, (ab_in 933 (by decide +kernel) (by decide +kernel)), t_MO_ok, n_MO, rfl, rfl, rfl⟩
theorem fF_MO_36 : ab_fF "PolicyForgeModel" 36 17 8 1 (t_MO 8) := ⟨rfl, R_MO, T_MO, 44, t_MO, rfl, uw_MO, by decide, rfl, (ab_in 934 (by decide +kernel) (by decide +kernel)), t_MO_ok, n_MO, rfl, rfl, rfl⟩
theorem fF_MO_39 : ab_fF "PolicyForgeModel" 39 17 9 1 (t_MO 9) := ⟨rfl, R_MO, T_MO, 44, t_MO, rfl, uw_MO, by decide, rfl, (ab_in 935 (by decide +kernel) (by decide +kernel)), t_MO_ok, n_MO, rfl, rfl, rfl⟩
theorem fF_MO_42 : ab_fF "PolicyForgeModel" 42 17 10 1 (t_MO 10) := ⟨rfl, R_MO, T_MO, 44, t_MO, rfl, uw_MO, by decide, rfl, (ab_in 936 (by decide +kernel) (by decide +kernel)), t_MO_ok, n_MO, rfl, rfl, rfl⟩
theorem fF_MO_45 : ab_fF "PolicyForgeModel" 45 17 11 1 (t_MO 11) := ⟨rfl, R_MO, T_MO, 44, t_MO, rfl, uw_MO, by decide, rfl, (ab_in 937 (by decide +kernel) (by decide +kernel)), t_MO_ok, n_MO, rfl, rfl, rfl⟩
theorem fF_MO_48 : ab_fF "PolicyForgeModel" 48 17 12 1 (t_MO 12) := ⟨rfl, R_MO, T_MO, 44, t_MO, rfl, uw_MO, by decide, rfl, (ab_in 938 (by decide +kernel) (by decide +kernel)), t_MO_ok, n_MO, rfl, rfl, rfl⟩
theorem fF_MO_51 : ab_fF "PolicyForgeModel" 51 17 13 1 (t_MO 13) := ⟨rfl, R_MO, T_MO, 44, t_MO, rfl, uw_MO, by decide, rfl, (ab_in 939 (by decide +kernel) (by decide +kernel)), t_MO_ok, n_MO, rfl, rfl, rfl⟩
theorem fF_MO_54 : ab_fF "PolicyForgeModel" 54 17 14 1 (t_MO 14) := ⟨rfl, R_MO, T_MO, 44, t_MO, rfl, uw_MO, by decide, rfl, (ab_in 940 (by decide +kernel) (by decide +kernel)), t_MO_ok, n_MO, rfl, rfl, rfl⟩
theorem fF_MO_57 : ab_fF "PolicyForgeModel" 57 17 15 1 (t_MO 15) := ⟨rfl, R_MO, T_MO, 44, t_MO, rfl, uw_MO, by decide, rfl, (ab_in 941 (by decide +kernel) (by decide +kernel)), t_MO_ok, n_MO, rfl, rfl, rfl⟩
theorem fp_MO_60 : ab_fp "PolicyForgeModel" 60 17 16 0 .int := ⟨rfl, R_MO, T_MO, 44, t_MO, rfl, uw_MO, by decide, rfl, (ab_in 942 (by decide +kernel) (by decide +kernel)), t_MO_ok, n_MO, rfl, rfl⟩
theorem fp_MO_63 : ab_fp "PolicyForgeModel" 63 17 17 0 .int := ⟨rfl, R_MO, T_MO, 44, t_MO, rfl, uw_MO, by decide, rfl, (ab_in 943 (by decide +kernel) (by decide +kernel)), t_MO_ok, n_MO, rfl, rfl⟩
theorem fp_MO_66 : ab_fp "PolicyForgeModel" 66 17 18 0 .int := ⟨rfl, R_MO, T_MO, 44, t_MO, rfl, uw_MO, by decide, rfl, (ab_in 944 (by decide +kernel) (by decide +kernel)), t_MO_ok, n_MO, rfl, rfl⟩
theorem fp_MO_69 : ab_fp "PolicyForgeModel" 69 17 19 0 .int := ⟨rfl, R_MO, T_MO, 44, t_MO, rfl, uw_MO, by decide, rfl, (ab_in 945 (by decide +kernel) (by decide +kernel)), t_MO_ok, n_MO, rfl, rfl⟩
theorem fF_MO_72 : ab_fF "PolicyForgeModel" 72 17 20 1 (t_MO 20) := ⟨rfl, R_MO, T_MO, 44, t_MO, rfl, uw_MO, by decide, rfl, (ab_in 946 (by decide +kernel) (by decide +kernel)), t_MO_ok, n_MO, rfl, rfl, rfl⟩
theorem fF_MO_75 : ab_fF "PolicyForgeModel" 75 17 21 1 (t_MO 21) := ⟨rfl, R_MO, T_MO, 44, t_MO, rfl, uw_MO, by decide, rfl, (ab_in 947 (by decide +kernel) (by decide +kernel)), t_MO_ok, n_MO, rfl, rfl, rfl⟩
theorem fF_MO_78 : ab_fF "PolicyForgeModel" 78 17 22 1 (t_MO 22) := ⟨rfl, R_MO, T_MO, 44, t_MO, rfl, uw_MO, by decide, rfl, (ab_in 948 (by decide +kernel) (by decide +kernel)), t_MO_ok, n_MO, rfl, rfl, rfl⟩
theorem fF_MO_81 : ab_fF "PolicyForgeModel" 81 17 23 1 (t_MO 23) := ⟨rfl, R_MO, T_MO, 44, t_MO, rfl, uw_MO, by decide, rfl, (ab_in 949 (by decide +kernel) (by decide +kernel)), t_MO_ok, n_MO, rfl, rfl, rfl⟩
theorem fF_MO_84 : ab_fF "PolicyForgeModel" 84 17 24 1 (t_MO 24) := ⟨rfl, R_MO, T_MO, 44, t_MO, rfl, uw_MO, by decide, rfl, (ab_in 950 (by decide +kernel) (by decide +kernel)), t_MO_ok, n_MO, rfl, rfl, rfl⟩
theorem fF_MO_87 : ab_fF "PolicyForgeModel" 87 17 25 1 (t_MO 25) := ⟨rfl, R_MO, T_MO, 44, t_MO, rfl, uw_MO, by decide, rfl, (ab_in 951 (by decide +kernel) (by decide +kernel)), t_MO_ok, n_MO, rfl, rfl, rfl⟩
theorem fp_MO_90 : ab_fp "PolicyForgeModel" 90 17 26 0 .int := ⟨rfl, R_MO, T_MO, 44, t_MO, rfl, uw_MO, by decide, rfl, (ab_in 952 (by decide +kernel) (by decide +kernel)), t_MO_ok, n_MO, rfl, rfl⟩
theorem fp_MO_93 : ab_fp "PolicyForgeModel" 93 17 27 0 .int := ⟨rfl, R_MO, T_MO, 44, t_MO, rfl, uw_MO, by decide, rfl, (ab_in 953 (by decide +kernel) (by decide +kernel)), t_MO_ok, n_MO, rfl, rfl⟩
theorem fF_MO_96 : ab_fF "PolicyForgeModel" 96 17 28 1 (t_MO 28) := ⟨rfl, R_MO, T_MO, 44, t_MO, rfl, uw_MO, by decide, rfl, (ab_in 954 (by decide +kernel) (by decide +kernel)), t_MO_ok, n_MO, rfl, rfl, rfl⟩
theorem fp_MO_99 : ab_fp "PolicyForgeModel" 99 17 29 0 .int := ⟨rfl, R_MO, T_MO, 44, t_MO, rfl, uw_MO, by decide, rfl, (ab_in 955 (by decide +kernel) (by decide +kernel)), t_MO_ok, n_MO, rfl, rfl⟩
theorem fp_MO_102 : ab_fp "PolicyForgeModel" 102 17 30 0 .int := ⟨rfl, R_MO, T_MO, 44, t_MO, rfl, uw_MO, by decide, rfl, (ab_in 956 (by decide +kernel) (by decide +kernel)), t_MO_ok, n_MO, rfl, rfl⟩
theorem fF_MO_105 : ab_fF "PolicyForgeModel" 105 17 31 1 (t_MO 31) := ⟨rfl, R_MO, T_MO, 44, t_MO, rfl, uw_MO, by decide, rfl, (ab_in 957 (by decide +kernel) (by decide +kernel)), t_MO_ok, n_MO, rfl, rfl, rfl⟩
theorem fp_MO_108 : ab_fp "PolicyForgeModel" 108 17 32 0 .int := ⟨rfl, R_MO, T_MO, 44, t_MO, rfl, uw_MO, by decide, rfl, (ab_in 958 (by decide +kernel) (by decide +kernel)), t_MO_ok, n_MO, rfl, rfl⟩
theorem fp_MO_111 : ab_fp "PolicyForgeModel" 111 17 33 0 .int := ⟨rfl, R_MO, T_MO, 44, t_MO, rfl, uw_MO, by decide, rfl, (ab_in 959 (by decide +kernel) (by decide +kernel)), t_MO_ok, n_MO, rfl, rfl⟩
theorem fF_MO_114 : ab_fF "PolicyForgeModel" 114 17 34 1 (t_MO 34) := ⟨rfl, R_MO, T_MO, 44, t_MO, rfl, uw_MO, by decide, rfl, (ab_in 960 (by decide +kernel) (by decide +kernel)), t_MO_ok, n_MO, rfl, rfl, rfl⟩
theorem fp_MO_117 : ab_fp "PolicyForgeModel" 117 17 35 0 .int := ⟨rfl, R_MO, T_MO, 44, t_MO, rfl, uw_MO, by decide, rfl, (ab_in 961 (by decide +kernel) (by decide +kernel)), t_MO_ok, n_MO, rfl, rfl⟩
theorem fF_MO_120 : ab_fF "PolicyForgeModel" 120 17 36 1 (t_MO 36) := ⟨rfl, R_MO, T_MO, 44, t_MO, rfl, uw_MO, by decide, rfl, (ab_in 962 (by decide +kernel) (by decide +kernel)), t_MO_ok, n_MO, rfl, rfl, rfl⟩
theorem fp_MO_123 : ab_fp "PolicyForgeModel" 123 17 37 0 .int := ⟨rfl, R_MO, T_MO, 44, t_MO, rfl, uw_MO, by decide, rfl, (ab_in 963 (by decide +kernel) (by decide +kernel)), t_MO_ok, n_MO, rfl, rfl⟩
theorem fF_MO_126 : ab_fF "PolicyForgeModel" 126 17 38 1 (t_MO 38) := ⟨rfl, R_MO, T_MO, 44, t_MO, rfl, uw_MO, by decide, rfl, (ab_in 964 (by decide +kernel) (by decide +kernel)), t_MO_ok, n_MO, rfl, rfl, rfl⟩
theorem fp_MO_129 : ab_fp "PolicyForgeModel" 129 17 39 0 .int := ⟨rfl, R_MO, T_MO, 44, t_MO, rfl, uw_MO, by decide, rfl, (ab_in 965 (by decide +kernel) (by decide +kernel)), t_MO_ok, n_MO, rfl, rfl⟩
theorem fp_MO_132 : ab_fp "PolicyForgeModel" 132 17 40 0 .boolean := ⟨rfl, R_MO, T_MO, 44, t_MO, rfl, uw_MO, by decide, rfl, (ab_in 966 (by decide +kernel) (by decide +kernel)), t_MO_ok, n_MO, rfl, rfl⟩
theorem fp_MO_135 : ab_fp "PolicyForgeModel" 135 17 41 0 .int := ⟨rfl, R_MO, T_MO, 44, t_MO, rfl, uw_MO, by decide, rfl, (ab_in 967 (by decide +kernel) (by decide +kernel)), t_MO_ok, n_MO, rfl, rfl⟩
theorem fp_MO_138 : ab_fp "PolicyForgeModel" 138 17 42 0 .boolean := ⟨rfl, R_MO, T_MO, 44, t_MO, rfl, uw_MO, by decide, rfl, (ab_in 968 (by decide +kernel) (by decide +kernel)), t_MO_ok, n_MO, rfl, rfl⟩
theorem fF_MO_141 : ab_fF "PolicyForgeModel" 141 17 43 1 (t_MO 43) := ⟨rfl, R_MO, T_MO, 44, t_MO, rfl, uw_MO, by decide, rfl, (ab_in 969 (by decide +kernel) (by decide +kernel)), t_MO_ok, n_MO, rfl, rfl, rfl⟩
set_option maxRecDepth 100000 in
set_option maxHeartbeats 8000000 in
theorem c_MO_init {l : Launch} {D : va_G} {ca : Nat → ClassId} : ab_CA l D ca y_MO_init b_MO_init 1 1 22 13236 (ab_nx ab_n7 17) ab_uC [ab_O 17 0] ab_nM (fun u' => u' = ab_uM) := by
  refine ab_CA.of (by decide) rfl (Nat.le_of_ble_eq_true rfl) ?_
  intro p e s m args below meth c ad X hr0 hlk hin
  have hX : True := trivial
  refine ab_aload_n X 0 d_MO_init_0 rfl rfl ?_
  refine ab_objInit X oi_MO_1 d_MO_init_1 ⟨by first | exact Nat.le_of_ble_eq_true rfl | (simp only [ab_rm]; omega), by first | exact Nat.le_of_ble_eq_true rfl | (simp only [ab_rm]; omega)⟩ (Nat.le_of_ble_eq_true rfl) ?_
  refine ab_Nr ab_ke ?_
  refine ab_u (u' := ab_m0) rfl ?_
  refine ab_aload_n X 0 d_MO_init_4 rfl rfl ?_
  refine ab_iconst (v := 0) X d_MO_init_5 (by decide) ?_
  refine ab_putI X fp_MO_7 d_MO_init_6 (by decide) rfl rfl ?_
  refine ab_u (ab_ui_same (show (ab_m0).1 17 0 0 = 0 from (ab_gC.1 17 0 0 (by decide)).1)) ?_
  refine ab_aload_n X 0 d_MO_init_9 rfl rfl ?_
  refine ab_bipush (v := 100) X d_MO_init_10 (by decide) ?_
  refine ab_newa (c' := 18) X rfl (ab_in 171 (by decide +kernel) (by decide +kernel)) (Or.inl ⟨rfl, Or.inl rfl⟩) (fun _ => rfl) d_MO_init_12 (by decide) (ab_ln_le _ _) (by decide) (ab_h0) (by (repeat' (first | (intro q hq; exact absurd hq (List.not_mem_nil)) | refine List.forall_mem_cons.mpr ⟨?_, ?_⟩)) <;> (first | trivial | (refine Or.inl ?_; first | assumption | exact Nat.le_of_ble_eq_true rfl | exact Nat.lt_succ_self _ | (simp [ab_nx]; done) | (simp [ab_nx]; omega)))) (by (repeat' (first | (intro q hq; exact absurd hq (List.not_mem_nil)) | refine List.forall_mem_cons.mpr ⟨?_, ?_⟩)) <;> (first | trivial | (refine Or.inl ?_; first | assumption | exact Nat.le_of_ble_eq_true rfl | exact Nat.lt_succ_self _ | (simp [ab_nx]; done) | (simp [ab_nx]; omega)))) ⟨by first | exact Nat.le_of_ble_eq_true rfl | (simp only [ab_rm]; omega), by first | exact Nat.le_of_ble_eq_true rfl | (simp only [ab_rm]; omega)⟩ (fun ad12 x12 => ?_)
  refine ab_widen (k := 1) (n := 100) (Nat.le_of_ble_eq_true rfl) (Nat.le_of_ble_eq_true rfl) ?_
  refine ab_Nr ab_ke1 ?_
  refine ab_putFR X fF_MO_13 (by first | exact Or.inl ⟨_, rfl⟩ | exact Or.inr ⟨_, rfl⟩) hin d_MO_init_14 (by decide) ?_
  refine ab_u (u' := ab_m1) rfl ?_
  have y1 : ab_ex (ab_nx ab_n7 17) ad ad12 := by rw [ab_ke]; exact x12
  refine ab_aload_n X 0 d_MO_init_17 rfl rfl ?_
  refine ab_iconst (v := 0) X d_MO_init_18 (by decide) ?_
  refine ab_putI X fp_MO_17 d_MO_init_19 (by decide) rfl rfl ?_
  refine ab_u (ab_ui_same (show (ab_m1).1 17 0 2 = 0 from (ab_gC.1 17 0 2 (by decide)).1)) ?_
  refine ab_aload_n X 0 d_MO_init_22 rfl rfl ?_
  refine ab_iconst (v := (-1)) X d_MO_init_23 (by decide) ?_
  refine ab_putI X fp_MO_20 d_MO_init_24 (by decide) rfl rfl ?_
  refine ab_u (u' := ab_m2) rfl ?_
  refine ab_aload_n X 0 d_MO_init_27 rfl rfl ?_
  refine ab_iconst (v := 0) X d_MO_init_28 (by decide) ?_
  refine ab_putI X fp_MO_23 d_MO_init_29 (by decide) (by decide +kernel) (by decide +kernel) ?_
  refine ab_u (ab_ui_same (show (ab_m2).1 17 0 4 = 0 from (ab_gC.1 17 0 4 (by decide)).1)) ?_
  refine ab_aload_n X 0 d_MO_init_32 rfl rfl ?_
  refine ab_iconst (v := 0) X d_MO_init_33 (by decide) ?_
  refine ab_putI X fp_MO_27 d_MO_init_34 (by decide) rfl rfl ?_
  refine ab_u (ab_ui_same (show (ab_m2).1 17 0 5 = 0 from (ab_gC.1 17 0 5 (by decide)).1)) ?_
  refine ab_aload_n X 0 d_MO_init_37 rfl rfl ?_
  refine ab_iconst (v := 0) X d_MO_init_38 (by decide) ?_
  refine ab_putI X fp_MO_30 d_MO_init_39 (by decide) rfl rfl ?_
  refine ab_u (ab_ui_same (show (ab_m2).1 17 0 6 = 0 from (ab_gC.1 17 0 6 (by decide)).1)) ?_
  refine ab_aload_n X 0 d_MO_init_42 rfl rfl ?_
  refine ab_bipush (v := 40) X d_MO_init_43 (by decide) ?_
  refine ab_newa (c' := 18) X rfl (ab_in 171 (by decide +kernel) (by decide +kernel)) (Or.inl ⟨rfl, Or.inl rfl⟩) (fun _ => rfl) d_MO_init_45 (by decide) (ab_ln_le _ _) (by decide) (ab_h2) (by (repeat' (first | (intro q hq; exact absurd hq (List.not_mem_nil)) | refine List.forall_mem_cons.mpr ⟨?_, ?_⟩)) <;> (first | trivial | (refine Or.inl ?_; first | assumption | exact Nat.le_of_ble_eq_true rfl | exact Nat.lt_succ_self _ | (simp [ab_nx]; done) | (simp [ab_nx]; omega)))) (by (repeat' (first | (intro q hq; exact absurd hq (List.not_mem_nil)) | refine List.forall_mem_cons.mpr ⟨?_, ?_⟩)) <;> (first | trivial | (refine Or.inl ?_; first | assumption | exact Nat.le_of_ble_eq_true rfl | exact Nat.lt_succ_self _ | (simp [ab_nx]; done) | (simp [ab_nx]; omega)))) ⟨by first | exact Nat.le_of_ble_eq_true rfl | (simp only [ab_rm]; omega), by first | exact Nat.le_of_ble_eq_true rfl | (simp only [ab_rm]; omega)⟩ (fun ad45 x45 => ?_)
  refine ab_widen (k := 2) (n := 140) (Nat.le_of_ble_eq_true rfl) (Nat.le_of_ble_eq_true rfl) ?_
  refine ab_Nr ab_ke2 ?_
  refine ab_putFR X fF_MO_33 (by first | exact Or.inl ⟨_, rfl⟩ | exact Or.inr ⟨_, rfl⟩) hin d_MO_init_47 (by decide) ?_
  refine ab_u (u' := ab_m3) rfl ?_
  have y2 := ab_ex.trans y1 (ab_kle (by decide +kernel)) x45
  refine ab_aload_n X 0 d_MO_init_50 rfl rfl ?_
  refine ab_bipush (v := 40) X d_MO_init_51 (by decide) ?_
  refine ab_newa (c' := 18) X rfl (ab_in 171 (by decide +kernel) (by decide +kernel)) (Or.inl ⟨rfl, Or.inl rfl⟩) (fun _ => rfl) d_MO_init_53 (by decide) (ab_ln_le _ _) (by decide) (ab_h3) (by (repeat' (first | (intro q hq; exact absurd hq (List.not_mem_nil)) | refine List.forall_mem_cons.mpr ⟨?_, ?_⟩)) <;> (first | trivial | (refine Or.inl ?_; first | assumption | exact Nat.le_of_ble_eq_true rfl | exact Nat.lt_succ_self _ | (simp [ab_nx]; done) | (simp [ab_nx]; omega)))) (by (repeat' (first | (intro q hq; exact absurd hq (List.not_mem_nil)) | refine List.forall_mem_cons.mpr ⟨?_, ?_⟩)) <;> (first | trivial | (refine Or.inl ?_; first | assumption | exact Nat.le_of_ble_eq_true rfl | exact Nat.lt_succ_self _ | (simp [ab_nx]; done) | (simp [ab_nx]; omega)))) ⟨by first | exact Nat.le_of_ble_eq_true rfl | (simp only [ab_rm]; omega), by first | exact Nat.le_of_ble_eq_true rfl | (simp only [ab_rm]; omega)⟩ (fun ad53 x53 => ?_)
  refine ab_widen (k := 3) (n := 180) (Nat.le_of_ble_eq_true rfl) (Nat.le_of_ble_eq_true rfl) ?_
  refine ab_Nr ab_ke3 ?_
  refine ab_putFR X fF_MO_36 (by first | exact Or.inl ⟨_, rfl⟩ | exact Or.inr ⟨_, rfl⟩) hin d_MO_init_55 (by decide) ?_
  refine ab_u (u' := ab_m4) rfl ?_
  have y3 := ab_ex.trans y2 (ab_kle (by decide +kernel)) x53
  refine ab_aload_n X 0 d_MO_init_58 rfl rfl ?_
  refine ab_bipush (v := 40) X d_MO_init_59 (by decide) ?_
  refine ab_newa (c' := 18) X rfl (ab_in 171 (by decide +kernel) (by decide +kernel)) (Or.inl ⟨rfl, Or.inl rfl⟩) (fun _ => rfl) d_MO_init_61 (by decide) (ab_ln_le _ _) (by decide) (ab_h4) (by (repeat' (first | (intro q hq; exact absurd hq (List.not_mem_nil)) | refine List.forall_mem_cons.mpr ⟨?_, ?_⟩)) <;> (first | trivial | (refine Or.inl ?_; first | assumption | exact Nat.le_of_ble_eq_true rfl | exact Nat.lt_succ_self _ | (simp [ab_nx]; done) | (simp [ab_nx]; omega)))) (by (repeat' (first | (intro q hq; exact absurd hq (List.not_mem_nil)) | refine List.forall_mem_cons.mpr ⟨?_, ?_⟩)) <;> (first | trivial | (refine Or.inl ?_; first | assumption | exact Nat.le_of_ble_eq_true rfl | exact Nat.lt_succ_self _ | (simp [ab_nx]; done) | (simp [ab_nx]; omega)))) ⟨by first | exact Nat.le_of_ble_eq_true rfl | (simp only [ab_rm]; omega), by first | exact Nat.le_of_ble_eq_true rfl | (simp only [ab_rm]; omega)⟩ (fun ad61 x61 => ?_)
  refine ab_widen (k := 4) (n := 220) (Nat.le_of_ble_eq_true rfl) (Nat.le_of_ble_eq_true rfl) ?_
  refine ab_Nr ab_ke4 ?_
  refine ab_putFR X fF_MO_39 (by first | exact Or.inl ⟨_, rfl⟩ | exact Or.inr ⟨_, rfl⟩) hin d_MO_init_63 (by decide) ?_
  refine ab_u (u' := ab_m5) rfl ?_
  have y4 := ab_ex.trans y3 (ab_kle (by decide +kernel)) x61
  refine ab_aload_n X 0 d_MO_init_66 rfl rfl ?_
  refine ab_sipush (v := 160) X d_MO_init_67 (by decide) ?_
  refine ab_newa (c' := 18) X rfl (ab_in 171 (by decide +kernel) (by decide +kernel)) (Or.inl ⟨rfl, Or.inl rfl⟩) (fun _ => rfl) d_MO_init_70 (by decide) (ab_ln_le _ _) (by decide) (ab_h5) (by (repeat' (first | (intro q hq; exact absurd hq (List.not_mem_nil)) | refine List.forall_mem_cons.mpr ⟨?_, ?_⟩)) <;> (first | trivial | (refine Or.inl ?_; first | assumption | exact Nat.le_of_ble_eq_true rfl | exact Nat.lt_succ_self _ | (simp [ab_nx]; done) | (simp [ab_nx]; omega)))) (by (repeat' (first | (intro q hq; exact absurd hq (List.not_mem_nil)) | refine List.forall_mem_cons.mpr ⟨?_, ?_⟩)) <;> (first | trivial | (refine Or.inl ?_; first | assumption | exact Nat.le_of_ble_eq_true rfl | exact Nat.lt_succ_self _ | (simp [ab_nx]; done) | (simp [ab_nx]; omega)))) ⟨by first | exact Nat.le_of_ble_eq_true rfl | (simp only [ab_rm]; omega), by first | exact Nat.le_of_ble_eq_true rfl | (simp only [ab_rm]; omega)⟩ (fun ad70 x70 => ?_)
  refine ab_widen (k := 5) (n := 380) (Nat.le_of_ble_eq_true rfl) (Nat.le_of_ble_eq_true rfl) ?_
  refine ab_Nr ab_ke5 ?_
  refine ab_putFR X fF_MO_42 (by first | exact Or.inl ⟨_, rfl⟩ | exact Or.inr ⟨_, rfl⟩) hin d_MO_init_72 (by decide) ?_
  refine ab_u (u' := ab_m6) rfl ?_
  have y5 := ab_ex.trans y4 (ab_kle (by decide +kernel)) x70
  refine ab_aload_n X 0 d_MO_init_75 rfl rfl ?_
  refine ab_bipush (v := 72) X d_MO_init_76 (by decide) ?_
  refine ab_newa (c' := 18) X rfl (ab_in 171 (by decide +kernel) (by decide +kernel)) (Or.inl ⟨rfl, Or.inl rfl⟩) (fun _ => rfl) d_MO_init_78 (by decide) (ab_ln_le _ _) (by decide) (ab_h6) (by (repeat' (first | (intro q hq; exact absurd hq (List.not_mem_nil)) | refine List.forall_mem_cons.mpr ⟨?_, ?_⟩)) <;> (first | trivial | (refine Or.inl ?_; first | assumption | exact Nat.le_of_ble_eq_true rfl | exact Nat.lt_succ_self _ | (simp [ab_nx]; done) | (simp [ab_nx]; omega)))) (by (repeat' (first | (intro q hq; exact absurd hq (List.not_mem_nil)) | refine List.forall_mem_cons.mpr ⟨?_, ?_⟩)) <;> (first | trivial | (refine Or.inl ?_; first | assumption | exact Nat.le_of_ble_eq_true rfl | exact Nat.lt_succ_self _ | (simp [ab_nx]; done) | (simp [ab_nx]; omega)))) ⟨by first | exact Nat.le_of_ble_eq_true rfl | (simp only [ab_rm]; omega), by first | exact Nat.le_of_ble_eq_true rfl | (simp only [ab_rm]; omega)⟩ (fun ad78 x78 => ?_)
  refine ab_widen (k := 6) (n := 452) (Nat.le_of_ble_eq_true rfl) (Nat.le_of_ble_eq_true rfl) ?_
  refine ab_Nr ab_ke6 ?_
  refine ab_putFR X fF_MO_45 (by first | exact Or.inl ⟨_, rfl⟩ | exact Or.inr ⟨_, rfl⟩) hin d_MO_init_80 (by decide) ?_
  refine ab_u (u' := ab_m7) rfl ?_
  have y6 := ab_ex.trans y5 (ab_kle (by decide +kernel)) x78
  refine ab_aload_n X 0 d_MO_init_83 rfl rfl ?_
  refine ab_bipush (v := 72) X d_MO_init_84 (by decide) ?_
  refine ab_newa (c' := 18) X rfl (ab_in 171 (by decide +kernel) (by decide +kernel)) (Or.inl ⟨rfl, Or.inl rfl⟩) (fun _ => rfl) d_MO_init_86 (by decide) (ab_ln_le _ _) (by decide) (ab_h7) (by (repeat' (first | (intro q hq; exact absurd hq (List.not_mem_nil)) | refine List.forall_mem_cons.mpr ⟨?_, ?_⟩)) <;> (first | trivial | (refine Or.inl ?_; first | assumption | exact Nat.le_of_ble_eq_true rfl | exact Nat.lt_succ_self _ | (simp [ab_nx]; done) | (simp [ab_nx]; omega)))) (by (repeat' (first | (intro q hq; exact absurd hq (List.not_mem_nil)) | refine List.forall_mem_cons.mpr ⟨?_, ?_⟩)) <;> (first | trivial | (refine Or.inl ?_; first | assumption | exact Nat.le_of_ble_eq_true rfl | exact Nat.lt_succ_self _ | (simp [ab_nx]; done) | (simp [ab_nx]; omega)))) ⟨by first | exact Nat.le_of_ble_eq_true rfl | (simp only [ab_rm]; omega), by first | exact Nat.le_of_ble_eq_true rfl | (simp only [ab_rm]; omega)⟩ (fun ad86 x86 => ?_)
  refine ab_widen (k := 7) (n := 524) (Nat.le_of_ble_eq_true rfl) (Nat.le_of_ble_eq_true rfl) ?_
  refine ab_Nr ab_ke7 ?_
  refine ab_putFR X fF_MO_48 (by first | exact Or.inl ⟨_, rfl⟩ | exact Or.inr ⟨_, rfl⟩) hin d_MO_init_88 (by decide) ?_
  refine ab_u (u' := ab_m8) rfl ?_
  have y7 := ab_ex.trans y6 (ab_kle (by decide +kernel)) x86
  refine ab_aload_n X 0 d_MO_init_91 rfl rfl ?_
  refine ab_bipush (v := 72) X d_MO_init_92 (by decide) ?_
  refine ab_newa (c' := 18) X rfl (ab_in 171 (by decide +kernel) (by decide +kernel)) (Or.inl ⟨rfl, Or.inl rfl⟩) (fun _ => rfl) d_MO_init_94 (by decide) (ab_ln_le _ _) (by decide) (ab_h8) (by (repeat' (first | (intro q hq; exact absurd hq (List.not_mem_nil)) | refine List.forall_mem_cons.mpr ⟨?_, ?_⟩)) <;> (first | trivial | (refine Or.inl ?_; first | assumption | exact Nat.le_of_ble_eq_true rfl | exact Nat.lt_succ_self _ | (simp [ab_nx]; done) | (simp [ab_nx]; omega)))) (by (repeat' (first | (intro q hq; exact absurd hq (List.not_mem_nil)) | refine List.forall_mem_cons.mpr ⟨?_, ?_⟩)) <;> (first | trivial | (refine Or.inl ?_; first | assumption | exact Nat.le_of_ble_eq_true rfl | exact Nat.lt_succ_self _ | (simp [ab_nx]; done) | (simp [ab_nx]; omega)))) ⟨by first | exact Nat.le_of_ble_eq_true rfl | (simp only [ab_rm]; omega), by first | exact Nat.le_of_ble_eq_true rfl | (simp only [ab_rm]; omega)⟩ (fun ad94 x94 => ?_)
  refine ab_widen (k := 8) (n := 596) (Nat.le_of_ble_eq_true rfl) (Nat.le_of_ble_eq_true rfl) ?_
  refine ab_Nr ab_ke8 ?_
  refine ab_putFR X fF_MO_51 (by first | exact Or.inl ⟨_, rfl⟩ | exact Or.inr ⟨_, rfl⟩) hin d_MO_init_96 (by decide) ?_
  refine ab_u (u' := ab_m9) rfl ?_
  have y8 := ab_ex.trans y7 (ab_kle (by decide +kernel)) x94
  refine ab_aload_n X 0 d_MO_init_99 rfl rfl ?_
  refine ab_bipush (v := 24) X d_MO_init_100 (by decide) ?_
  refine ab_newa (c' := 18) X rfl (ab_in 171 (by decide +kernel) (by decide +kernel)) (Or.inl ⟨rfl, Or.inl rfl⟩) (fun _ => rfl) d_MO_init_102 (by decide) (ab_ln_le _ _) (by decide) (ab_h9) (by (repeat' (first | (intro q hq; exact absurd hq (List.not_mem_nil)) | refine List.forall_mem_cons.mpr ⟨?_, ?_⟩)) <;> (first | trivial | (refine Or.inl ?_; first | assumption | exact Nat.le_of_ble_eq_true rfl | exact Nat.lt_succ_self _ | (simp [ab_nx]; done) | (simp [ab_nx]; omega)))) (by (repeat' (first | (intro q hq; exact absurd hq (List.not_mem_nil)) | refine List.forall_mem_cons.mpr ⟨?_, ?_⟩)) <;> (first | trivial | (refine Or.inl ?_; first | assumption | exact Nat.le_of_ble_eq_true rfl | exact Nat.lt_succ_self _ | (simp [ab_nx]; done) | (simp [ab_nx]; omega)))) ⟨by first | exact Nat.le_of_ble_eq_true rfl | (simp only [ab_rm]; omega), by first | exact Nat.le_of_ble_eq_true rfl | (simp only [ab_rm]; omega)⟩ (fun ad102 x102 => ?_)
  refine ab_widen (k := 9) (n := 620) (Nat.le_of_ble_eq_true rfl) (Nat.le_of_ble_eq_true rfl) ?_
  refine ab_Nr ab_ke9 ?_
  refine ab_putFR X fF_MO_54 (by first | exact Or.inl ⟨_, rfl⟩ | exact Or.inr ⟨_, rfl⟩) hin d_MO_init_104 (by decide) ?_
  refine ab_u (u' := ab_m10) rfl ?_
  have y9 := ab_ex.trans y8 (ab_kle (by decide +kernel)) x102
  refine ab_aload_n X 0 d_MO_init_107 rfl rfl ?_
  refine ab_sipush (v := 7200) X d_MO_init_108 (by decide) ?_
  refine ab_newa (c' := 18) X rfl (ab_in 171 (by decide +kernel) (by decide +kernel)) (Or.inl ⟨rfl, Or.inl rfl⟩) (fun _ => rfl) d_MO_init_111 (by decide) (ab_ln_le _ _) (by decide) (ab_h10) (by (repeat' (first | (intro q hq; exact absurd hq (List.not_mem_nil)) | refine List.forall_mem_cons.mpr ⟨?_, ?_⟩)) <;> (first | trivial | (refine Or.inl ?_; first | assumption | exact Nat.le_of_ble_eq_true rfl | exact Nat.lt_succ_self _ | (simp [ab_nx]; done) | (simp [ab_nx]; omega)))) (by (repeat' (first | (intro q hq; exact absurd hq (List.not_mem_nil)) | refine List.forall_mem_cons.mpr ⟨?_, ?_⟩)) <;> (first | trivial | (refine Or.inl ?_; first | assumption | exact Nat.le_of_ble_eq_true rfl | exact Nat.lt_succ_self _ | (simp [ab_nx]; done) | (simp [ab_nx]; omega)))) ⟨by first | exact Nat.le_of_ble_eq_true rfl | (simp only [ab_rm]; omega), by first | exact Nat.le_of_ble_eq_true rfl | (simp only [ab_rm]; omega)⟩ (fun ad111 x111 => ?_)
  refine ab_widen (k := 10) (n := 7820) (Nat.le_of_ble_eq_true rfl) (Nat.le_of_ble_eq_true rfl) ?_
  refine ab_Nr ab_ke10 ?_
  refine ab_putFR X fF_MO_57 (by first | exact Or.inl ⟨_, rfl⟩ | exact Or.inr ⟨_, rfl⟩) hin d_MO_init_113 (by decide) ?_
  refine ab_u (u' := ab_m11) rfl ?_
  have y10 := ab_ex.trans y9 (ab_kle (by decide +kernel)) x111
  refine ab_aload_n X 0 d_MO_init_116 rfl rfl ?_
  refine ab_iconst (v := 0) X d_MO_init_117 (by decide) ?_
  refine ab_putI X fp_MO_60 d_MO_init_118 (by decide) rfl rfl ?_
  refine ab_u (ab_ui_same (show (ab_m11).1 17 0 16 = 0 from (ab_gC.1 17 0 16 (by decide)).1)) ?_
  refine ab_aload_n X 0 d_MO_init_121 rfl rfl ?_
  refine ab_iconst (v := 0) X d_MO_init_122 (by decide) ?_
  refine ab_putI X fp_MO_63 d_MO_init_123 (by decide) rfl rfl ?_
  refine ab_u (ab_ui_same (show (ab_m11).1 17 0 17 = 0 from (ab_gC.1 17 0 17 (by decide)).1)) ?_
  refine ab_aload_n X 0 d_MO_init_126 rfl rfl ?_
  refine ab_iconst (v := 0) X d_MO_init_127 (by decide) ?_
  refine ab_putI X fp_MO_66 d_MO_init_128 (by decide) rfl rfl ?_
  refine ab_u (ab_ui_same (show (ab_m11).1 17 0 18 = 0 from (ab_gC.1 17 0 18 (by decide)).1)) ?_
  refine ab_aload_n X 0 d_MO_init_131 rfl rfl ?_
  refine ab_iconst (v := 0) X d_MO_init_132 (by decide) ?_
  refine ab_putI X fp_MO_69 d_MO_init_133 (by decide) rfl rfl ?_
  refine ab_u (ab_ui_same (show (ab_m11).1 17 0 19 = 0 from (ab_gC.1 17 0 19 (by decide)).1)) ?_
  refine ab_aload_n X 0 d_MO_init_136 rfl rfl ?_
  refine ab_sipush (v := 3600) X d_MO_init_137 (by decide) ?_
  refine ab_newa (c' := 18) X rfl (ab_in 171 (by decide +kernel) (by decide +kernel)) (Or.inl ⟨rfl, Or.inl rfl⟩) (fun _ => rfl) d_MO_init_140 (by decide) (ab_ln_le _ _) (by decide) (ab_h11) (by (repeat' (first | (intro q hq; exact absurd hq (List.not_mem_nil)) | refine List.forall_mem_cons.mpr ⟨?_, ?_⟩)) <;> (first | trivial | (refine Or.inl ?_; first | assumption | exact Nat.le_of_ble_eq_true rfl | exact Nat.lt_succ_self _ | (simp [ab_nx]; done) | (simp [ab_nx]; omega)))) (by (repeat' (first | (intro q hq; exact absurd hq (List.not_mem_nil)) | refine List.forall_mem_cons.mpr ⟨?_, ?_⟩)) <;> (first | trivial | (refine Or.inl ?_; first | assumption | exact Nat.le_of_ble_eq_true rfl | exact Nat.lt_succ_self _ | (simp [ab_nx]; done) | (simp [ab_nx]; omega)))) ⟨by first | exact Nat.le_of_ble_eq_true rfl | (simp only [ab_rm]; omega), by first | exact Nat.le_of_ble_eq_true rfl | (simp only [ab_rm]; omega)⟩ (fun ad140 x140 => ?_)
  refine ab_widen (k := 11) (n := 11420) (Nat.le_of_ble_eq_true rfl) (Nat.le_of_ble_eq_true rfl) ?_
  refine ab_Nr ab_ke11 ?_
  refine ab_putFR X fF_MO_72 (by first | exact Or.inl ⟨_, rfl⟩ | exact Or.inr ⟨_, rfl⟩) hin d_MO_init_142 (by decide) ?_
  refine ab_u (u' := ab_m12) rfl ?_
  have y11 := ab_ex.trans y10 (ab_kle (by decide +kernel)) x140
  refine ab_aload_n X 0 d_MO_init_145 rfl rfl ?_
  refine ab_bipush (v := 72) X d_MO_init_146 (by decide) ?_
  refine ab_newa (c' := 18) X rfl (ab_in 171 (by decide +kernel) (by decide +kernel)) (Or.inl ⟨rfl, Or.inl rfl⟩) (fun _ => rfl) d_MO_init_148 (by decide) (ab_ln_le _ _) (by decide) (ab_h12) (by (repeat' (first | (intro q hq; exact absurd hq (List.not_mem_nil)) | refine List.forall_mem_cons.mpr ⟨?_, ?_⟩)) <;> (first | trivial | (refine Or.inl ?_; first | assumption | exact Nat.le_of_ble_eq_true rfl | exact Nat.lt_succ_self _ | (simp [ab_nx]; done) | (simp [ab_nx]; omega)))) (by (repeat' (first | (intro q hq; exact absurd hq (List.not_mem_nil)) | refine List.forall_mem_cons.mpr ⟨?_, ?_⟩)) <;> (first | trivial | (refine Or.inl ?_; first | assumption | exact Nat.le_of_ble_eq_true rfl | exact Nat.lt_succ_self _ | (simp [ab_nx]; done) | (simp [ab_nx]; omega)))) ⟨by first | exact Nat.le_of_ble_eq_true rfl | (simp only [ab_rm]; omega), by first | exact Nat.le_of_ble_eq_true rfl | (simp only [ab_rm]; omega)⟩ (fun ad148 x148 => ?_)
  refine ab_widen (k := 12) (n := 11492) (Nat.le_of_ble_eq_true rfl) (Nat.le_of_ble_eq_true rfl) ?_
  refine ab_Nr ab_ke12 ?_
  refine ab_putFR X fF_MO_75 (by first | exact Or.inl ⟨_, rfl⟩ | exact Or.inr ⟨_, rfl⟩) hin d_MO_init_150 (by decide) ?_
  refine ab_u (u' := ab_m13) rfl ?_
  have y12 := ab_ex.trans y11 (ab_kle (by decide +kernel)) x148
  refine ab_aload_n X 0 d_MO_init_153 rfl rfl ?_
  refine ab_bipush (v := 72) X d_MO_init_154 (by decide) ?_
  refine ab_newa (c' := 18) X rfl (ab_in 171 (by decide +kernel) (by decide +kernel)) (Or.inl ⟨rfl, Or.inl rfl⟩) (fun _ => rfl) d_MO_init_156 (by decide) (ab_ln_le _ _) (by decide) (ab_h13) (by (repeat' (first | (intro q hq; exact absurd hq (List.not_mem_nil)) | refine List.forall_mem_cons.mpr ⟨?_, ?_⟩)) <;> (first | trivial | (refine Or.inl ?_; first | assumption | exact Nat.le_of_ble_eq_true rfl | exact Nat.lt_succ_self _ | (simp [ab_nx]; done) | (simp [ab_nx]; omega)))) (by (repeat' (first | (intro q hq; exact absurd hq (List.not_mem_nil)) | refine List.forall_mem_cons.mpr ⟨?_, ?_⟩)) <;> (first | trivial | (refine Or.inl ?_; first | assumption | exact Nat.le_of_ble_eq_true rfl | exact Nat.lt_succ_self _ | (simp [ab_nx]; done) | (simp [ab_nx]; omega)))) ⟨by first | exact Nat.le_of_ble_eq_true rfl | (simp only [ab_rm]; omega), by first | exact Nat.le_of_ble_eq_true rfl | (simp only [ab_rm]; omega)⟩ (fun ad156 x156 => ?_)
  refine ab_widen (k := 13) (n := 11564) (Nat.le_of_ble_eq_true rfl) (Nat.le_of_ble_eq_true rfl) ?_
  refine ab_Nr ab_ke13 ?_
  refine ab_putFR X fF_MO_78 (by first | exact Or.inl ⟨_, rfl⟩ | exact Or.inr ⟨_, rfl⟩) hin d_MO_init_158 (by decide) ?_
  refine ab_u (u' := ab_m14) rfl ?_
  have y13 := ab_ex.trans y12 (ab_kle (by decide +kernel)) x156
  refine ab_aload_n X 0 d_MO_init_161 rfl rfl ?_
  refine ab_sipush (v := 1200) X d_MO_init_162 (by decide) ?_
  refine ab_newa (c' := 18) X rfl (ab_in 171 (by decide +kernel) (by decide +kernel)) (Or.inl ⟨rfl, Or.inl rfl⟩) (fun _ => rfl) d_MO_init_165 (by decide) (ab_ln_le _ _) (by decide) (ab_h14) (by (repeat' (first | (intro q hq; exact absurd hq (List.not_mem_nil)) | refine List.forall_mem_cons.mpr ⟨?_, ?_⟩)) <;> (first | trivial | (refine Or.inl ?_; first | assumption | exact Nat.le_of_ble_eq_true rfl | exact Nat.lt_succ_self _ | (simp [ab_nx]; done) | (simp [ab_nx]; omega)))) (by (repeat' (first | (intro q hq; exact absurd hq (List.not_mem_nil)) | refine List.forall_mem_cons.mpr ⟨?_, ?_⟩)) <;> (first | trivial | (refine Or.inl ?_; first | assumption | exact Nat.le_of_ble_eq_true rfl | exact Nat.lt_succ_self _ | (simp [ab_nx]; done) | (simp [ab_nx]; omega)))) ⟨by first | exact Nat.le_of_ble_eq_true rfl | (simp only [ab_rm]; omega), by first | exact Nat.le_of_ble_eq_true rfl | (simp only [ab_rm]; omega)⟩ (fun ad165 x165 => ?_)
  refine ab_widen (k := 14) (n := 12764) (Nat.le_of_ble_eq_true rfl) (Nat.le_of_ble_eq_true rfl) ?_
  refine ab_Nr ab_ke14 ?_
  refine ab_putFR X fF_MO_81 (by first | exact Or.inl ⟨_, rfl⟩ | exact Or.inr ⟨_, rfl⟩) hin d_MO_init_167 (by decide) ?_
  refine ab_u (u' := ab_m15) rfl ?_
  have y14 := ab_ex.trans y13 (ab_kle (by decide +kernel)) x165
  refine ab_aload_n X 0 d_MO_init_170 rfl rfl ?_
  refine ab_bipush (v := 24) X d_MO_init_171 (by decide) ?_
  refine ab_newa (c' := 18) X rfl (ab_in 171 (by decide +kernel) (by decide +kernel)) (Or.inl ⟨rfl, Or.inl rfl⟩) (fun _ => rfl) d_MO_init_173 (by decide) (ab_ln_le _ _) (by decide) (ab_h15) (by (repeat' (first | (intro q hq; exact absurd hq (List.not_mem_nil)) | refine List.forall_mem_cons.mpr ⟨?_, ?_⟩)) <;> (first | trivial | (refine Or.inl ?_; first | assumption | exact Nat.le_of_ble_eq_true rfl | exact Nat.lt_succ_self _ | (simp [ab_nx]; done) | (simp [ab_nx]; omega)))) (by (repeat' (first | (intro q hq; exact absurd hq (List.not_mem_nil)) | refine List.forall_mem_cons.mpr ⟨?_, ?_⟩)) <;> (first | trivial | (refine Or.inl ?_; first | assumption | exact Nat.le_of_ble_eq_true rfl | exact Nat.lt_succ_self _ | (simp [ab_nx]; done) | (simp [ab_nx]; omega)))) ⟨by first | exact Nat.le_of_ble_eq_true rfl | (simp only [ab_rm]; omega), by first | exact Nat.le_of_ble_eq_true rfl | (simp only [ab_rm]; omega)⟩ (fun ad173 x173 => ?_)
  refine ab_widen (k := 15) (n := 12788) (Nat.le_of_ble_eq_true rfl) (Nat.le_of_ble_eq_true rfl) ?_
  refine ab_Nr ab_ke15 ?_
  refine ab_putFR X fF_MO_84 (by first | exact Or.inl ⟨_, rfl⟩ | exact Or.inr ⟨_, rfl⟩) hin d_MO_init_175 (by decide) ?_
  refine ab_u (u' := ab_m16) rfl ?_
  have y15 := ab_ex.trans y14 (ab_kle (by decide +kernel)) x173
  refine ab_aload_n X 0 d_MO_init_178 rfl rfl ?_
  refine ab_bipush (v := 64) X d_MO_init_179 (by decide) ?_
  refine ab_newa (c' := 18) X rfl (ab_in 171 (by decide +kernel) (by decide +kernel)) (Or.inl ⟨rfl, Or.inl rfl⟩) (fun _ => rfl) d_MO_init_181 (by decide) (ab_ln_le _ _) (by decide) (ab_h16) (by (repeat' (first | (intro q hq; exact absurd hq (List.not_mem_nil)) | refine List.forall_mem_cons.mpr ⟨?_, ?_⟩)) <;> (first | trivial | (refine Or.inl ?_; first | assumption | exact Nat.le_of_ble_eq_true rfl | exact Nat.lt_succ_self _ | (simp [ab_nx]; done) | (simp [ab_nx]; omega)))) (by (repeat' (first | (intro q hq; exact absurd hq (List.not_mem_nil)) | refine List.forall_mem_cons.mpr ⟨?_, ?_⟩)) <;> (first | trivial | (refine Or.inl ?_; first | assumption | exact Nat.le_of_ble_eq_true rfl | exact Nat.lt_succ_self _ | (simp [ab_nx]; done) | (simp [ab_nx]; omega)))) ⟨by first | exact Nat.le_of_ble_eq_true rfl | (simp only [ab_rm]; omega), by first | exact Nat.le_of_ble_eq_true rfl | (simp only [ab_rm]; omega)⟩ (fun ad181 x181 => ?_)
  refine ab_widen (k := 16) (n := 12852) (Nat.le_of_ble_eq_true rfl) (Nat.le_of_ble_eq_true rfl) ?_
  refine ab_Nr ab_ke16 ?_
  refine ab_putFR X fF_MO_87 (by first | exact Or.inl ⟨_, rfl⟩ | exact Or.inr ⟨_, rfl⟩) hin d_MO_init_183 (by decide) ?_
  refine ab_u (u' := ab_m17) rfl ?_
  have y16 := ab_ex.trans y15 (ab_kle (by decide +kernel)) x181
  refine ab_aload_n X 0 d_MO_init_186 rfl rfl ?_
  refine ab_iconst (v := 0) X d_MO_init_187 (by decide) ?_
  refine ab_putI X fp_MO_90 d_MO_init_188 (by decide) rfl rfl ?_
  refine ab_u (ab_ui_same (show (ab_m17).1 17 0 26 = 0 from (ab_gC.1 17 0 26 (by decide)).1)) ?_
  refine ab_aload_n X 0 d_MO_init_191 rfl rfl ?_
  refine ab_iconst (v := 0) X d_MO_init_192 (by decide) ?_
  refine ab_putI X fp_MO_93 d_MO_init_193 (by decide) rfl rfl ?_
  refine ab_u (ab_ui_same (show (ab_m17).1 17 0 27 = 0 from (ab_gC.1 17 0 27 (by decide)).1)) ?_
  refine ab_aload_n X 0 d_MO_init_196 rfl rfl ?_
  refine ab_bipush (v := 64) X d_MO_init_197 (by decide) ?_
  refine ab_newa (c' := 18) X rfl (ab_in 171 (by decide +kernel) (by decide +kernel)) (Or.inl ⟨rfl, Or.inl rfl⟩) (fun _ => rfl) d_MO_init_199 (by decide) (ab_ln_le _ _) (by decide) (ab_h17) (by (repeat' (first | (intro q hq; exact absurd hq (List.not_mem_nil)) | refine List.forall_mem_cons.mpr ⟨?_, ?_⟩)) <;> (first | trivial | (refine Or.inl ?_; first | assumption | exact Nat.le_of_ble_eq_true rfl | exact Nat.lt_succ_self _ | (simp [ab_nx]; done) | (simp [ab_nx]; omega)))) (by (repeat' (first | (intro q hq; exact absurd hq (List.not_mem_nil)) | refine List.forall_mem_cons.mpr ⟨?_, ?_⟩)) <;> (first | trivial | (refine Or.inl ?_; first | assumption | exact Nat.le_of_ble_eq_true rfl | exact Nat.lt_succ_self _ | (simp [ab_nx]; done) | (simp [ab_nx]; omega)))) ⟨by first | exact Nat.le_of_ble_eq_true rfl | (simp only [ab_rm]; omega), by first | exact Nat.le_of_ble_eq_true rfl | (simp only [ab_rm]; omega)⟩ (fun ad199 x199 => ?_)
  refine ab_widen (k := 17) (n := 12916) (Nat.le_of_ble_eq_true rfl) (Nat.le_of_ble_eq_true rfl) ?_
  refine ab_Nr ab_ke17 ?_
  refine ab_putFR X fF_MO_96 (by first | exact Or.inl ⟨_, rfl⟩ | exact Or.inr ⟨_, rfl⟩) hin d_MO_init_201 (by decide) ?_
  refine ab_u (u' := ab_m18) rfl ?_
  have y17 := ab_ex.trans y16 (ab_kle (by decide +kernel)) x199
  refine ab_aload_n X 0 d_MO_init_204 rfl rfl ?_
  refine ab_iconst (v := 0) X d_MO_init_205 (by decide) ?_
  refine ab_putI X fp_MO_99 d_MO_init_206 (by decide) rfl rfl ?_
  refine ab_u (ab_ui_same (show (ab_m18).1 17 0 29 = 0 from (ab_gC.1 17 0 29 (by decide)).1)) ?_
  refine ab_aload_n X 0 d_MO_init_209 rfl rfl ?_
  refine ab_iconst (v := 0) X d_MO_init_210 (by decide) ?_
  refine ab_putI X fp_MO_102 d_MO_init_211 (by decide) rfl rfl ?_
  refine ab_u (ab_ui_same (show (ab_m18).1 17 0 30 = 0 from (ab_gC.1 17 0 30 (by decide)).1)) ?_
  refine ab_aload_n X 0 d_MO_init_214 rfl rfl ?_
  refine ab_bipush (v := 64) X d_MO_init_215 (by decide) ?_
  refine ab_newa (c' := 18) X rfl (ab_in 171 (by decide +kernel) (by decide +kernel)) (Or.inl ⟨rfl, Or.inl rfl⟩) (fun _ => rfl) d_MO_init_217 (by decide) (ab_ln_le _ _) (by decide) (ab_h18) (by (repeat' (first | (intro q hq; exact absurd hq (List.not_mem_nil)) | refine List.forall_mem_cons.mpr ⟨?_, ?_⟩)) <;> (first | trivial | (refine Or.inl ?_; first | assumption | exact Nat.le_of_ble_eq_true rfl | exact Nat.lt_succ_self _ | (simp [ab_nx]; done) | (simp [ab_nx]; omega)))) (by (repeat' (first | (intro q hq; exact absurd hq (List.not_mem_nil)) | refine List.forall_mem_cons.mpr ⟨?_, ?_⟩)) <;> (first | trivial | (refine Or.inl ?_; first | assumption | exact Nat.le_of_ble_eq_true rfl | exact Nat.lt_succ_self _ | (simp [ab_nx]; done) | (simp [ab_nx]; omega)))) ⟨by first | exact Nat.le_of_ble_eq_true rfl | (simp only [ab_rm]; omega), by first | exact Nat.le_of_ble_eq_true rfl | (simp only [ab_rm]; omega)⟩ (fun ad217 x217 => ?_)
  refine ab_widen (k := 18) (n := 12980) (Nat.le_of_ble_eq_true rfl) (Nat.le_of_ble_eq_true rfl) ?_
  refine ab_Nr ab_ke18 ?_
  refine ab_putFR X fF_MO_105 (by first | exact Or.inl ⟨_, rfl⟩ | exact Or.inr ⟨_, rfl⟩) hin d_MO_init_219 (by decide) ?_
  refine ab_u (u' := ab_m19) rfl ?_
  have y18 := ab_ex.trans y17 (ab_kle (by decide +kernel)) x217
  refine ab_aload_n X 0 d_MO_init_222 rfl rfl ?_
  refine ab_iconst (v := 0) X d_MO_init_223 (by decide) ?_
  refine ab_putI X fp_MO_108 d_MO_init_224 (by decide) rfl rfl ?_
  refine ab_u (ab_ui_same (show (ab_m19).1 17 0 32 = 0 from (ab_gC.1 17 0 32 (by decide)).1)) ?_
  refine ab_aload_n X 0 d_MO_init_227 rfl rfl ?_
  refine ab_iconst (v := 0) X d_MO_init_228 (by decide) ?_
  refine ab_putI X fp_MO_111 d_MO_init_229 (by decide) rfl rfl ?_
  refine ab_u (ab_ui_same (show (ab_m19).1 17 0 33 = 0 from (ab_gC.1 17 0 33 (by decide)).1)) ?_
  refine ab_aload_n X 0 d_MO_init_232 rfl rfl ?_
  refine ab_sipush (v := 128) X d_MO_init_233 (by decide) ?_
  refine ab_newa (c' := 18) X rfl (ab_in 171 (by decide +kernel) (by decide +kernel)) (Or.inl ⟨rfl, Or.inl rfl⟩) (fun _ => rfl) d_MO_init_236 (by decide) (ab_ln_le _ _) (by decide) (ab_h19) (by (repeat' (first | (intro q hq; exact absurd hq (List.not_mem_nil)) | refine List.forall_mem_cons.mpr ⟨?_, ?_⟩)) <;> (first | trivial | (refine Or.inl ?_; first | assumption | exact Nat.le_of_ble_eq_true rfl | exact Nat.lt_succ_self _ | (simp [ab_nx]; done) | (simp [ab_nx]; omega)))) (by (repeat' (first | (intro q hq; exact absurd hq (List.not_mem_nil)) | refine List.forall_mem_cons.mpr ⟨?_, ?_⟩)) <;> (first | trivial | (refine Or.inl ?_; first | assumption | exact Nat.le_of_ble_eq_true rfl | exact Nat.lt_succ_self _ | (simp [ab_nx]; done) | (simp [ab_nx]; omega)))) ⟨by first | exact Nat.le_of_ble_eq_true rfl | (simp only [ab_rm]; omega), by first | exact Nat.le_of_ble_eq_true rfl | (simp only [ab_rm]; omega)⟩ (fun ad236 x236 => ?_)
  refine ab_widen (k := 19) (n := 13108) (Nat.le_of_ble_eq_true rfl) (Nat.le_of_ble_eq_true rfl) ?_
  refine ab_Nr ab_ke19 ?_
  refine ab_putFR X fF_MO_114 (by first | exact Or.inl ⟨_, rfl⟩ | exact Or.inr ⟨_, rfl⟩) hin d_MO_init_238 (by decide) ?_
  refine ab_u (u' := ab_m20) rfl ?_
  have y19 := ab_ex.trans y18 (ab_kle (by decide +kernel)) x236
  refine ab_aload_n X 0 d_MO_init_241 rfl rfl ?_
  refine ab_iconst (v := 0) X d_MO_init_242 (by decide) ?_
  refine ab_putI X fp_MO_117 d_MO_init_243 (by decide) rfl rfl ?_
  refine ab_u (ab_ui_same (show (ab_m20).1 17 0 35 = 0 from (ab_gC.1 17 0 35 (by decide)).1)) ?_
  refine ab_aload_n X 0 d_MO_init_246 rfl rfl ?_
  refine ab_bipush (v := 64) X d_MO_init_247 (by decide) ?_
  refine ab_newa (c' := 18) X rfl (ab_in 171 (by decide +kernel) (by decide +kernel)) (Or.inl ⟨rfl, Or.inl rfl⟩) (fun _ => rfl) d_MO_init_249 (by decide) (ab_ln_le _ _) (by decide) (ab_h20) (by (repeat' (first | (intro q hq; exact absurd hq (List.not_mem_nil)) | refine List.forall_mem_cons.mpr ⟨?_, ?_⟩)) <;> (first | trivial | (refine Or.inl ?_; first | assumption | exact Nat.le_of_ble_eq_true rfl | exact Nat.lt_succ_self _ | (simp [ab_nx]; done) | (simp [ab_nx]; omega)))) (by (repeat' (first | (intro q hq; exact absurd hq (List.not_mem_nil)) | refine List.forall_mem_cons.mpr ⟨?_, ?_⟩)) <;> (first | trivial | (refine Or.inl ?_; first | assumption | exact Nat.le_of_ble_eq_true rfl | exact Nat.lt_succ_self _ | (simp [ab_nx]; done) | (simp [ab_nx]; omega)))) ⟨by first | exact Nat.le_of_ble_eq_true rfl | (simp only [ab_rm]; omega), by first | exact Nat.le_of_ble_eq_true rfl | (simp only [ab_rm]; omega)⟩ (fun ad249 x249 => ?_)
  refine ab_widen (k := 20) (n := 13172) (Nat.le_of_ble_eq_true rfl) (Nat.le_of_ble_eq_true rfl) ?_
  refine ab_Nr ab_ke20 ?_
  refine ab_putFR X fF_MO_120 (by first | exact Or.inl ⟨_, rfl⟩ | exact Or.inr ⟨_, rfl⟩) hin d_MO_init_251 (by decide) ?_
  refine ab_u (u' := ab_m21) rfl ?_
  have y20 := ab_ex.trans y19 (ab_kle (by decide +kernel)) x249
  refine ab_aload_n X 0 d_MO_init_254 rfl rfl ?_
  refine ab_iconst (v := 0) X d_MO_init_255 (by decide) ?_
  refine ab_putI X fp_MO_123 d_MO_init_256 (by decide) rfl rfl ?_
  refine ab_u (ab_ui_same (show (ab_m21).1 17 0 37 = 0 from (ab_gC.1 17 0 37 (by decide)).1)) ?_
  refine ab_aload_n X 0 d_MO_init_259 rfl rfl ?_
  refine ab_bipush (v := 40) X d_MO_init_260 (by decide) ?_
  refine ab_newa (c' := 18) X rfl (ab_in 171 (by decide +kernel) (by decide +kernel)) (Or.inl ⟨rfl, Or.inl rfl⟩) (fun _ => rfl) d_MO_init_262 (by decide) (ab_ln_le _ _) (by decide) (ab_h21) (by (repeat' (first | (intro q hq; exact absurd hq (List.not_mem_nil)) | refine List.forall_mem_cons.mpr ⟨?_, ?_⟩)) <;> (first | trivial | (refine Or.inl ?_; first | assumption | exact Nat.le_of_ble_eq_true rfl | exact Nat.lt_succ_self _ | (simp [ab_nx]; done) | (simp [ab_nx]; omega)))) (by (repeat' (first | (intro q hq; exact absurd hq (List.not_mem_nil)) | refine List.forall_mem_cons.mpr ⟨?_, ?_⟩)) <;> (first | trivial | (refine Or.inl ?_; first | assumption | exact Nat.le_of_ble_eq_true rfl | exact Nat.lt_succ_self _ | (simp [ab_nx]; done) | (simp [ab_nx]; omega)))) ⟨by first | exact Nat.le_of_ble_eq_true rfl | (simp only [ab_rm]; omega), by first | exact Nat.le_of_ble_eq_true rfl | (simp only [ab_rm]; omega)⟩ (fun ad262 x262 => ?_)
  refine ab_widen (k := 21) (n := 13212) (Nat.le_of_ble_eq_true rfl) (Nat.le_of_ble_eq_true rfl) ?_
  refine ab_Nr ab_ke21 ?_
  refine ab_putFR X fF_MO_126 (by first | exact Or.inl ⟨_, rfl⟩ | exact Or.inr ⟨_, rfl⟩) hin d_MO_init_264 (by decide) ?_
  refine ab_u (u' := ab_m22) rfl ?_
  have y21 := ab_ex.trans y20 (ab_kle (by decide +kernel)) x262
  refine ab_aload_n X 0 d_MO_init_267 rfl rfl ?_
  refine ab_iconst (v := 0) X d_MO_init_268 (by decide) ?_
  refine ab_putI X fp_MO_129 d_MO_init_269 (by decide) rfl rfl ?_
  refine ab_u (ab_ui_same (show (ab_m22).1 17 0 39 = 0 from (ab_gC.1 17 0 39 (by decide)).1)) ?_
  refine ab_aload_n X 0 d_MO_init_272 rfl rfl ?_
  refine ab_iconst (v := 0) X d_MO_init_273 (by decide) ?_
  refine ab_putI X fp_MO_132 d_MO_init_274 (by decide) (by decide +kernel) (by decide +kernel) ?_
  refine ab_u (ab_ui_same (show (ab_m22).1 17 0 40 = 0 from (ab_gC.1 17 0 40 (by decide)).1)) ?_
  refine ab_aload_n X 0 d_MO_init_277 rfl rfl ?_
  refine ab_iconst (v := 0) X d_MO_init_278 (by decide) ?_
  refine ab_putI X fp_MO_135 d_MO_init_279 (by decide) rfl rfl ?_
  refine ab_u (ab_ui_same (show (ab_m22).1 17 0 41 = 0 from (ab_gC.1 17 0 41 (by decide)).1)) ?_
  refine ab_aload_n X 0 d_MO_init_282 rfl rfl ?_
  refine ab_iconst (v := 0) X d_MO_init_283 (by decide) ?_
  refine ab_putI X fp_MO_138 d_MO_init_284 (by decide) (by decide +kernel) (by decide +kernel) ?_
  refine ab_u (ab_ui_same (show (ab_m22).1 17 0 42 = 0 from (ab_gC.1 17 0 42 (by decide)).1)) ?_
  refine ab_aload_n X 0 d_MO_init_287 rfl rfl ?_
  refine ab_bipush (v := 24) X d_MO_init_288 (by decide) ?_
  refine ab_newa (c' := 19) X rfl (ab_in 1059 (by decide +kernel) (by decide +kernel)) (Or.inl ⟨rfl, Or.inr rfl⟩) (fun _ => rfl) d_MO_init_290 (by decide) (ab_ln_le _ _) (by decide) (ab_h22) (by (repeat' (first | (intro q hq; exact absurd hq (List.not_mem_nil)) | refine List.forall_mem_cons.mpr ⟨?_, ?_⟩)) <;> (first | trivial | (refine Or.inl ?_; first | assumption | exact Nat.le_of_ble_eq_true rfl | exact Nat.lt_succ_self _ | (simp [ab_nx]; done) | (simp [ab_nx]; omega)))) (by (repeat' (first | (intro q hq; exact absurd hq (List.not_mem_nil)) | refine List.forall_mem_cons.mpr ⟨?_, ?_⟩)) <;> (first | trivial | (refine Or.inl ?_; first | assumption | exact Nat.le_of_ble_eq_true rfl | exact Nat.lt_succ_self _ | (simp [ab_nx]; done) | (simp [ab_nx]; omega)))) ⟨by first | exact Nat.le_of_ble_eq_true rfl | (simp only [ab_rm]; omega), by first | exact Nat.le_of_ble_eq_true rfl | (simp only [ab_rm]; omega)⟩ (fun ad290 x290 => ?_)
  refine ab_widen (k := 22) (n := 13236) (Nat.le_of_ble_eq_true rfl) (Nat.le_of_ble_eq_true rfl) ?_
  refine ab_Nr ab_ke22 ?_
  refine ab_putFR X fF_MO_141 (by first | exact Or.inl ⟨_, rfl⟩ | exact Or.inr ⟨_, rfl⟩) hin d_MO_init_292 (by decide) ?_
  refine ab_u (u' := ab_m23) rfl ?_
  have y22 := ab_ex.trans y21 (ab_kle (by decide +kernel)) x290
  exact ab_retA X hr0 hlk y22 d_MO_init_295 rfl
end
section
/-! Short methods of the class. -/
abbrev ab_IAE : String := "java/lang/IllegalArgumentException"
abbrev ab_ISE : String := "java/lang/IllegalStateException"
abbrev ab_NSE : String := "java/util/NoSuchElementException"
abbrev ab_IOB : String := "java/lang/IndexOutOfBoundsException"
abbrev ab_fl0 (l : Launch) : Prop := l.flags = pinnedFlags ++ [noTraceFlag]
section AbSimple
variable {l : Launch} {D : va_G} {ca : Nat → ClassId} {N : Nat → Nat}
abbrev b_PF_fault : ByteArray := prog_1_method_4_code
def y_PF_fault : MethodName := ⟨"PolicyForge", "fault", "()I"⟩
theorem d_PF_fault_0 : decode b_PF_fault 0 = .ok (.aload_n 0, 1) := by decide +kernel
theorem d_PF_fault_1 : decode b_PF_fault 1 = .ok (.getfield 12, 3) := by decide +kernel
theorem d_PF_fault_4 : decode b_PF_fault 4 = .ok (.getfield 104, 3) := by decide +kernel
theorem d_PF_fault_7 : decode b_PF_fault 7 = .ok (.ireturn, 1) := by decide +kernel
theorem fl_PF_12 : ab_fl "PolicyForge" 12 0 0 1 := ⟨rfl, R_PF, T_PF, 8, rfl, uw_PF, by decide, rfl, (ab_in 355 (by decide +kernel) (by decide +kernel))⟩
theorem fl_PF_104 : ab_fl "PolicyForge" 104 1 5 0 := ⟨rfl, R_RD, T_RD, 8, rfl, uw_RD, by decide, rfl, (ab_in 251 (by decide +kernel) (by decide +kernel))⟩
theorem c_PF_fault (u : ab_S) (h0 : 0 < N 0) (h1 : 0 < N 1) (e0 : u.2.1 0 0 0 = some (1, 0)) : ab_C false l D ca y_PF_fault b_PF_fault 1 (some .int) 0 N u [ab_O 0 0] (fun u' v => u' = u ∧ v = some (ab_I (u.1 1 0 5))) := by
  refine ab_C.of (by decide) (Nat.le_of_ble_eq_true rfl) ?_
  intro p e s m args below meth c ad X hZ hr0 hlk
  refine ab_aload_n X 0 d_PF_fault_0 rfl rfl ?_
  refine ab_gR X fl_PF_12 d_PF_fault_1 (by first | assumption | decide) (e0) ?_
  refine ab_gI X fl_PF_104 d_PF_fault_4 (by first | assumption | decide) (rfl) ?_
  exact ab_reti X hr0 hlk d_PF_fault_7 ⟨rfl, rfl⟩
abbrev b_PF_done : ByteArray := prog_1_method_13_code
def y_PF_done : MethodName := ⟨"PolicyForge", "done", "()I"⟩
theorem d_PF_done_0 : decode b_PF_done 0 = .ok (.aload_n 0, 1) := by decide +kernel
theorem d_PF_done_1 : decode b_PF_done 1 = .ok (.getfield 54, 3) := by decide +kernel
theorem d_PF_done_4 : decode b_PF_done 4 = .ok (.getfield 183, 3) := by decide +kernel
theorem d_PF_done_7 : decode b_PF_done 7 = .ok (.ireturn, 1) := by decide +kernel
theorem fl_PF_54 : ab_fl "PolicyForge" 54 0 6 1 := ⟨rfl, R_PF, T_PF, 8, rfl, uw_PF, by decide, rfl, (ab_in 361 (by decide +kernel) (by decide +kernel))⟩
theorem fl_PF_183 : ab_fl "PolicyForge" 183 7 5 0 := ⟨rfl, R_MA, T_MA, 7, rfl, uw_MA, by decide, rfl, (ab_in 334 (by decide +kernel) (by decide +kernel))⟩
theorem c_PF_done (u : ab_S) (h0 : 0 < N 0) (h1 : 0 < N 7) (e0 : u.2.1 0 0 6 = some (7, 0)) : ab_C false l D ca y_PF_done b_PF_done 1 (some .int) 0 N u [ab_O 0 0] (fun u' v => u' = u ∧ v = some (ab_I (u.1 7 0 5))) := by
  refine ab_C.of (by decide) (Nat.le_of_ble_eq_true rfl) ?_
  intro p e s m args below meth c ad X hZ hr0 hlk
  refine ab_aload_n X 0 d_PF_done_0 rfl rfl ?_
  refine ab_gR X fl_PF_54 d_PF_done_1 (by first | assumption | decide) (e0) ?_
  refine ab_gI X fl_PF_183 d_PF_done_4 (by first | assumption | decide) (rfl) ?_
  exact ab_reti X hr0 hlk d_PF_done_7 ⟨rfl, rfl⟩
abbrev b_PF_clear : ByteArray := prog_1_method_10_code
def y_PF_clear : MethodName := ⟨"PolicyForge", "clear", "()V"⟩
theorem d_PF_clear_0 : decode b_PF_clear 0 = .ok (.aload_n 0, 1) := by decide +kernel
theorem d_PF_clear_1 : decode b_PF_clear 1 = .ok (.getfield 48, 3) := by decide +kernel
theorem d_PF_clear_4 : decode b_PF_clear 4 = .ok (.invokevirtual 62, 3) := by decide +kernel
theorem d_PF_clear_7 : decode b_PF_clear 7 = .ok (.return_, 1) := by decide +kernel
theorem c_PF_clear (u : ab_S) (h0 : 0 < N 0) (h1 : 123 < N 4) (e0 : u.2.1 0 0 5 = some (4, 123)) : ab_C false l D ca y_PF_clear b_PF_clear 1 none 1 N u [ab_O 0 0] (fun u' v => u' = ab_ui (ab_ui (ab_ui u 4 123 1 0) 4 123 2 0) 4 123 3 1 ∧ v = none) := by
  refine ab_C.of (by decide) (Nat.le_of_ble_eq_true rfl) ?_
  intro p e s m args below meth c ad X hZ hr0 hlk
  refine ab_aload_n X 0 d_PF_clear_0 rfl rfl ?_
  refine ab_gR X fl_PF_48 d_PF_clear_1 (by first | assumption | decide) (e0) ?_
  refine ab_callV (as := []) X (fun h => by cases h) (c_RW_start u 123 h1) lk_PF_62 d_PF_clear_4 rfl rfl (by first | assumption | decide) ⟨by first | exact Nat.le_of_ble_eq_true rfl | (simp only [ab_rm]; omega), by first | exact Nat.le_of_ble_eq_true rfl | (simp only [ab_rm]; omega)⟩ ⟨by first | exact Nat.le_of_ble_eq_true rfl | (simp only [ab_rm]; omega), by first | exact Nat.le_of_ble_eq_true rfl | (simp only [ab_rm]; omega)⟩ (Nat.le_of_ble_eq_true rfl) (fun u4 r4 h4 => ?_)
  obtain ⟨rfl, rfl⟩ := h4
  exact ab_retv X hr0 hlk d_PF_clear_7 ⟨rfl, rfl⟩
/-- what may be put -/
def ab_item (x : Int32) : Prop := x = 0 ∨ x = 1 ∨ (10 ≤ x ∧ x < 18) ∨ (20 ≤ x ∧ x < 30)
abbrev b_PF_isItem : ByteArray := prog_1_method_14_code
def y_PF_isItem : MethodName := ⟨"PolicyForge", "isItem", "(I)Z"⟩
theorem d_PF_isItem_0 : decode b_PF_isItem 0 = .ok (.iload_n 0, 1) := by decide +kernel
theorem d_PF_isItem_1 : decode b_PF_isItem 1 = .ok (.ifCond .eq 32, 3) := by decide +kernel
theorem d_PF_isItem_4 : decode b_PF_isItem 4 = .ok (.iload_n 0, 1) := by decide +kernel
theorem d_PF_isItem_5 : decode b_PF_isItem 5 = .ok (.iconst 1, 1) := by decide +kernel
theorem d_PF_isItem_6 : decode b_PF_isItem 6 = .ok (.if_icmp .eq 27, 3) := by decide +kernel
theorem d_PF_isItem_9 : decode b_PF_isItem 9 = .ok (.iload_n 0, 1) := by decide +kernel
theorem d_PF_isItem_10 : decode b_PF_isItem 10 = .ok (.bipush 10, 2) := by decide +kernel
theorem d_PF_isItem_12 : decode b_PF_isItem 12 = .ok (.if_icmp .lt 9, 3) := by decide +kernel
theorem d_PF_isItem_15 : decode b_PF_isItem 15 = .ok (.iload_n 0, 1) := by decide +kernel
theorem d_PF_isItem_16 : decode b_PF_isItem 16 = .ok (.bipush 18, 2) := by decide +kernel
theorem d_PF_isItem_18 : decode b_PF_isItem 18 = .ok (.if_icmp .lt 15, 3) := by decide +kernel
theorem d_PF_isItem_21 : decode b_PF_isItem 21 = .ok (.iload_n 0, 1) := by decide +kernel
theorem d_PF_isItem_22 : decode b_PF_isItem 22 = .ok (.bipush 20, 2) := by decide +kernel
theorem d_PF_isItem_24 : decode b_PF_isItem 24 = .ok (.if_icmp .lt 13, 3) := by decide +kernel
theorem d_PF_isItem_27 : decode b_PF_isItem 27 = .ok (.iload_n 0, 1) := by decide +kernel
theorem d_PF_isItem_28 : decode b_PF_isItem 28 = .ok (.bipush 30, 2) := by decide +kernel
theorem d_PF_isItem_30 : decode b_PF_isItem 30 = .ok (.if_icmp .ge 7, 3) := by decide +kernel
theorem d_PF_isItem_33 : decode b_PF_isItem 33 = .ok (.iconst 1, 1) := by decide +kernel
theorem d_PF_isItem_34 : decode b_PF_isItem 34 = .ok (.goto 4, 3) := by decide +kernel
theorem d_PF_isItem_37 : decode b_PF_isItem 37 = .ok (.iconst 0, 1) := by decide +kernel
theorem d_PF_isItem_38 : decode b_PF_isItem 38 = .ok (.ireturn, 1) := by decide +kernel
set_option maxRecDepth 100000 in
set_option maxHeartbeats 4000000 in
theorem c_PF_isItem (u : ab_S) (x : Int32) : ab_C false l D ca y_PF_isItem b_PF_isItem 1 (some .boolean) 0 N u [ab_I x] (fun u' v => u' = u ∧ ((ab_item x ∧ v = some (ab_I 1)) ∨ (¬ ab_item x ∧ v = some (ab_I 0)))) := by
  refine ab_C.of (by decide) (Nat.le_of_ble_eq_true rfl) ?_
  intro p e s m args below meth c ad X hZ hr0 hlk
  have yes : ab_item x → ab_J p l e (ab_rm 0 0 0) s m args below meth c (MQ below (ab_Q D ca ad N s.heap.size fun u' v => u' = u ∧ ((ab_item x ∧ v = some (ab_I 1)) ∨ (¬ ab_item x ∧ v = some (ab_I 0)))) args s 0 0 (ab_A ad N s.heap.size)) D ca (ab_A ad N s.heap.size) s.heap 1 0 0 ad N u 33 [(0, ab_I x)] [] := by
    intro hi
    refine ab_iconst (v := 1) X d_PF_isItem_33 (by decide) ?_
    refine ab_goto X 38 d_PF_isItem_34 rfl ?_
    exact ab_retz X hr0 hlk (Or.inr rfl) d_PF_isItem_38 ⟨rfl, Or.inl ⟨hi, rfl⟩⟩
  have no : ¬ ab_item x → ab_J p l e (ab_rm 0 0 0) s m args below meth c (MQ below (ab_Q D ca ad N s.heap.size fun u' v => u' = u ∧ ((ab_item x ∧ v = some (ab_I 1)) ∨ (¬ ab_item x ∧ v = some (ab_I 0)))) args s 0 0 (ab_A ad N s.heap.size)) D ca (ab_A ad N s.heap.size) s.heap 1 0 0 ad N u 37 [(0, ab_I x)] [] := by
    intro hi
    refine ab_iconst (v := 0) X d_PF_isItem_37 (by decide) ?_
    exact ab_retz X hr0 hlk (Or.inl rfl) d_PF_isItem_38 ⟨rfl, Or.inr ⟨hi, rfl⟩⟩
  have lt : ∀ {a b : Int32}, ¬ a ≤ b → b < a := fun h => Int32.not_le.mp h
  have ge : ∀ {a b : Int32}, ¬ a < b → b ≤ a := fun h => Int32.not_lt.mp h
  have from21 : ¬ x = 0 → ¬ x = 1 → ¬ (10 ≤ x ∧ x < 18) → ab_J p l e (ab_rm 0 0 0) s m args below meth c (MQ below (ab_Q D ca ad N s.heap.size fun u' v => u' = u ∧ ((ab_item x ∧ v = some (ab_I 1)) ∨ (¬ ab_item x ∧ v = some (ab_I 0)))) args s 0 0 (ab_A ad N s.heap.size)) D ca (ab_A ad N s.heap.size) s.heap 1 0 0 ad N u 21 [(0, ab_I x)] [] := by
    intro a0 a1 a2
    refine ab_iload_n X 0 d_PF_isItem_21 rfl rfl ?_
    refine ab_bipush (v := 20) X d_PF_isItem_22 (by decide) ?_
    refine ab_icmp_lt X 37 d_PF_isItem_24 rfl (fun h24 => ?_) (fun h24 => ?_)
    · exact no (fun h => by
        rcases h with h | h | h | h
        · exact a0 h
        · exact a1 h
        · exact a2 h
        · exact absurd h24 (Int32.not_lt.mpr h.1))
    ·
      refine ab_iload_n X 0 d_PF_isItem_27 rfl rfl ?_
      refine ab_bipush (v := 30) X d_PF_isItem_28 (by decide) ?_
      refine ab_icmp_ge X 37 d_PF_isItem_30 rfl (fun h30 => ?_) (fun h30 => ?_)
      · exact no (fun h => by
          rcases h with h | h | h | h
          · exact a0 h
          · exact a1 h
          · exact a2 h
          · exact absurd h30 (Int32.not_le.mpr h.2))
      · exact yes (Or.inr (Or.inr (Or.inr ⟨ge h24, lt h30⟩)))
  refine ab_iload_n X 0 d_PF_isItem_0 rfl rfl ?_
  refine ab_if_eq X 33 d_PF_isItem_1 rfl (fun h1 => ?_) (fun h1 => ?_)
  · exact yes (Or.inl h1)
  ·
    refine ab_iload_n X 0 d_PF_isItem_4 rfl rfl ?_
    refine ab_iconst (v := 1) X d_PF_isItem_5 (by decide) ?_
    refine ab_icmp_eq X 33 d_PF_isItem_6 rfl (fun h6 => ?_) (fun h6 => ?_)
    · exact yes (Or.inr (Or.inl h6))
    ·
      refine ab_iload_n X 0 d_PF_isItem_9 rfl rfl ?_
      refine ab_bipush (v := 10) X d_PF_isItem_10 (by decide) ?_
      refine ab_icmp_lt X 21 d_PF_isItem_12 rfl (fun h12 => ?_) (fun h12 => ?_)
      · exact from21 h1 h6 (fun h => absurd h12 (Int32.not_lt.mpr h.1))
      ·
        refine ab_iload_n X 0 d_PF_isItem_15 rfl rfl ?_
        refine ab_bipush (v := 18) X d_PF_isItem_16 (by decide) ?_
        refine ab_icmp_lt X 33 d_PF_isItem_18 rfl (fun h18 => ?_) (fun h18 => ?_)
        · exact yes (Or.inr (Or.inr (Or.inl ⟨ge h12, h18⟩)))
        · exact from21 h1 h6 (fun h => absurd h.2 h18)
abbrev b_RW_add : ByteArray := prog_7_method_3_code
def y_RW_add : MethodName := ⟨"PolicyForge$Row", "add", "(I)V"⟩
theorem d_RW_add_0 : decode b_RW_add 0 = .ok (.aload_n 0, 1) := by decide +kernel
theorem d_RW_add_1 : decode b_RW_add 1 = .ok (.getfield 9, 3) := by decide +kernel
theorem d_RW_add_4 : decode b_RW_add 4 = .ok (.aload_n 0, 1) := by decide +kernel
theorem d_RW_add_5 : decode b_RW_add 5 = .ok (.getfield 22, 3) := by decide +kernel
theorem d_RW_add_8 : decode b_RW_add 8 = .ok (.arraylength, 1) := by decide +kernel
theorem d_RW_add_9 : decode b_RW_add 9 = .ok (.if_icmp .ge 36, 3) := by decide +kernel
theorem d_RW_add_12 : decode b_RW_add 12 = .ok (.aload_n 0, 1) := by decide +kernel
theorem d_RW_add_13 : decode b_RW_add 13 = .ok (.getfield 22, 3) := by decide +kernel
theorem d_RW_add_16 : decode b_RW_add 16 = .ok (.aload_n 0, 1) := by decide +kernel
theorem d_RW_add_17 : decode b_RW_add 17 = .ok (.getfield 9, 3) := by decide +kernel
theorem d_RW_add_20 : decode b_RW_add 20 = .ok (.iload_n 1, 1) := by decide +kernel
theorem d_RW_add_21 : decode b_RW_add 21 = .ok (.iastore, 1) := by decide +kernel
theorem d_RW_add_22 : decode b_RW_add 22 = .ok (.aload_n 0, 1) := by decide +kernel
theorem d_RW_add_23 : decode b_RW_add 23 = .ok (.dup, 1) := by decide +kernel
theorem d_RW_add_24 : decode b_RW_add 24 = .ok (.getfield 9, 3) := by decide +kernel
theorem d_RW_add_27 : decode b_RW_add 27 = .ok (.iconst 1, 1) := by decide +kernel
theorem d_RW_add_28 : decode b_RW_add 28 = .ok (.iadd, 1) := by decide +kernel
theorem d_RW_add_29 : decode b_RW_add 29 = .ok (.putfield 9, 3) := by decide +kernel
theorem d_RW_add_32 : decode b_RW_add 32 = .ok (.aload_n 0, 1) := by decide +kernel
theorem d_RW_add_33 : decode b_RW_add 33 = .ok (.dup, 1) := by decide +kernel
theorem d_RW_add_34 : decode b_RW_add 34 = .ok (.getfield 15, 3) := by decide +kernel
theorem d_RW_add_37 : decode b_RW_add 37 = .ok (.iload_n 1, 1) := by decide +kernel
theorem d_RW_add_38 : decode b_RW_add 38 = .ok (.invokestatic 26, 3) := by decide +kernel
theorem d_RW_add_41 : decode b_RW_add 41 = .ok (.iadd, 1) := by decide +kernel
theorem d_RW_add_42 : decode b_RW_add 42 = .ok (.putfield 15, 3) := by decide +kernel
theorem d_RW_add_45 : decode b_RW_add 45 = .ok (.return_, 1) := by decide +kernel
theorem fl_RW_9 : ab_fl "PolicyForge$Row" 9 4 1 0 := ⟨rfl, R_RW, T_RW, 4, rfl, uw_RW, by decide, rfl, (ab_in 153 (by decide +kernel) (by decide +kernel))⟩
theorem fl_RW_22 : ab_fl "PolicyForge$Row" 22 4 0 1 := ⟨rfl, R_RW, T_RW, 4, rfl, uw_RW, by decide, rfl, (ab_in 150 (by decide +kernel) (by decide +kernel))⟩
theorem fl_RW_15 : ab_fl "PolicyForge$Row" 15 4 2 0 := ⟨rfl, R_RW, T_RW, 4, rfl, uw_RW, by decide, rfl, (ab_in 156 (by decide +kernel) (by decide +kernel))⟩
theorem ls_RW_26 : ab_ls "PolicyForge$Row" 26 y_RW_weightOf b_RW_weightOf 1 (some FieldType.int) 1 := ⟨List.forall_mem_cons.mpr ⟨(ab_in 672 (by decide +kernel) (by decide +kernel)), List.forall_mem_cons.mpr ⟨(ab_in 629 (by decide +kernel) (by decide +kernel)), List.forall_mem_cons.mpr ⟨(ab_in 96 (by decide +kernel) (by decide +kernel)), List.forall_mem_cons.mpr ⟨(ab_in 630 (by decide +kernel) (by decide +kernel)), fun _ h => absurd h List.not_mem_nil⟩⟩⟩⟩, ⟨by decide +kernel, by decide +kernel, by decide +kernel⟩, by decide⟩
set_option maxRecDepth 100000 in
set_option maxHeartbeats 4000000 in
theorem c_RW_add (u : ab_S) (r n : Nat) (x : Int32) (hr : r < N 4) (hr8 : r < N 8) (e0 : u.2.1 4 r 0 = some (8, r)) (en : u.1 4 r 1 = nI n) (hn : n < ab_ln 8 r) : ab_C false l D ca y_RW_add b_RW_add 2 none 1 N u [ab_O 4 r, ab_I x] (fun u' v => u' = ab_ui (ab_ui (ab_ui u 8 r n x) 4 r 1 (nI (n + 1))) 4 r 2 (u.1 4 r 2 + (if 20 ≤ x then 5 else if 10 ≤ x then 9 else 1)) ∧ v = none) := by
  refine ab_C.of (by decide) (Nat.le_of_ble_eq_true rfl) ?_
  intro p e s m args below meth c ad X hZ hr0 hlk
  have hl := ab_ln_lt 8 r
  refine ab_aload_n X 0 d_RW_add_0 rfl rfl ?_
  refine ab_gI X fl_RW_9 d_RW_add_1 (by first | assumption | decide) (en) ?_
  refine ab_aload_n X 0 d_RW_add_4 rfl rfl ?_
  refine ab_gR X fl_RW_22 d_RW_add_5 (by first | assumption | decide) (e0) ?_
  refine ab_alen X ⟨by decide, _, fun _ => rfl⟩ d_RW_add_8 (by first | assumption | decide) (rfl) ?_
  refine ab_icmp_ge X 45 d_RW_add_9 rfl (fun hb => absurd hb (nI_ge hn hl)) (fun _ => ?_)
  refine ab_aload_n X 0 d_RW_add_12 rfl rfl ?_
  refine ab_gR X fl_RW_22 d_RW_add_13 (by first | assumption | decide) (e0) ?_
  refine ab_aload_n X 0 d_RW_add_16 rfl rfl ?_
  refine ab_gI X fl_RW_9 d_RW_add_17 (by first | assumption | decide) (en) ?_
  refine ab_iload_n X 1 d_RW_add_20 rfl rfl ?_
  refine ab_iast X (n) ⟨rfl, rfl⟩ d_RW_add_21 (by first | assumption | decide) (rfl) (hn) (ab_ln_lt _ _) ?_
  refine ab_aload_n X 0 d_RW_add_22 rfl rfl ?_
  refine ab_dup X d_RW_add_23 rfl ?_
  refine ab_gI X fl_RW_9 d_RW_add_24 (by first | assumption | decide) (en) ?_
  refine ab_iconst (v := 1) X d_RW_add_27 (by decide) ?_
  refine ab_iadd X d_RW_add_28 ?_
  refine ab_putI X fp_RW_9 d_RW_add_29 (by first | assumption | decide) rfl rfl ?_
  rw [show nI n + 1 = nI (n + 1) from (nI_succ n).symm]
  refine ab_aload_n X 0 d_RW_add_32 rfl rfl ?_
  refine ab_dup X d_RW_add_33 rfl ?_
  refine ab_gI X fl_RW_15 d_RW_add_34 (by first | assumption | decide) (show _ = u.1 4 r 2 by simp [ab_up]) ?_
  refine ab_iload_n X 1 d_RW_add_37 rfl rfl ?_
  refine ab_callS (as := [ab_I x]) X (fun h => by cases h) (c_RW_weightOf (N := N) _ x) ls_RW_26 d_RW_add_38 rfl rfl ⟨by first | exact Nat.le_of_ble_eq_true rfl | (simp only [ab_rm]; omega), by first | exact Nat.le_of_ble_eq_true rfl | (simp only [ab_rm]; omega)⟩ ⟨by first | exact Nat.le_of_ble_eq_true rfl | (simp only [ab_rm]; omega), by first | exact Nat.le_of_ble_eq_true rfl | (simp only [ab_rm]; omega)⟩ (Nat.le_of_ble_eq_true rfl) (fun u38 r38 h38 => ?_)
  obtain ⟨rfl, rfl⟩ := h38
  refine ab_iadd X d_RW_add_41 ?_
  refine ab_putI X fp_RW_15 d_RW_add_42 (by first | assumption | decide) rfl rfl ?_
  exact ab_retv X hr0 hlk d_RW_add_45 ⟨rfl, rfl⟩
end AbSimple
end
section
/-! Methods of the class that may throw. -/
section AbTh
variable {p : Program} {l : Launch} {e : Env} {R : Room} {s : State} {m : MethodId} {args : Array Value} {below : List Frame} {meth : Method} {c : Code}
variable {cc : ByteArray} {own : String} {nL : Nat} {D : va_G} {ca : Nat → ClassId} {cells slots : Nat} {ad : ab_Ad} {N : Nat → Nat} {u : ab_S} {pc : Nat} {lv : List (Nat × ab_V)} {Post : ab_S → Option ab_V → Prop} {PT : ab_S → String → Prop}
theorem ab_retTi (X : ab_X p s m args c cc own nL D ca (ab_A ad N s.heap.size) s.heap) (hr : meth.sig.returnType = some .int) (hlk : meth.locks = false) {v : Int32} (hd : decode cc pc = .ok (.ireturn, 1)) (hP : Post u (some (ab_I v))) : ab_J p l e R s m args below meth c (ab_MQ below (ab_QT D ca ad N s.heap.size Post PT) args s 1 6 (ab_A ad N s.heap.size)) D ca (ab_A ad N s.heap.size) s.heap nL 0 0 ad N u pc lv [ab_I v] :=
  ab_widen (k := 1) (n := 6) (by decide) (by decide) (ab_J_mono (fun t h => ab_QT_ret t h) (ab_reti X hr hlk hd hP))
theorem ab_retTz (X : ab_X p s m args c cc own nL D ca (ab_A ad N s.heap.size) s.heap) (hr : meth.sig.returnType = some .boolean) (hlk : meth.locks = false) {v : Int32} (hv : v = 0 ∨ v = 1) (hd : decode cc pc = .ok (.ireturn, 1)) (hP : Post u (some (ab_I v))) : ab_J p l e R s m args below meth c (ab_MQ below (ab_QT D ca ad N s.heap.size Post PT) args s 1 6 (ab_A ad N s.heap.size)) D ca (ab_A ad N s.heap.size) s.heap nL 0 0 ad N u pc lv [ab_I v] :=
  ab_widen (k := 1) (n := 6) (by decide) (by decide) (ab_J_mono (fun t h => ab_QT_ret t h) (ab_retz X hr hlk hv hd hP))
end AbTh
section AbThrows
variable {l : Launch} {D : va_G} {ca : Nat → ClassId} {N : Nat → Nat}
abbrev b_PF_holds : ByteArray := prog_1_method_5_code
def y_PF_holds : MethodName := ⟨"PolicyForge", "holds", "(IIII)Z"⟩
theorem d_PF_holds_0 : decode b_PF_holds 0 = .ok (.aload_n 0, 1) := by decide +kernel
theorem d_PF_holds_1 : decode b_PF_holds 1 = .ok (.getfield 58, 3) := by decide +kernel
theorem d_PF_holds_4 : decode b_PF_holds 4 = .ok (.ifnonnull 11, 3) := by decide +kernel
theorem d_PF_holds_7 : decode b_PF_holds 7 = .ok (.new 107, 3) := by decide +kernel
theorem d_PF_holds_10 : decode b_PF_holds 10 = .ok (.dup, 1) := by decide +kernel
theorem d_PF_holds_11 : decode b_PF_holds 11 = .ok (.invokespecial 109, 3) := by decide +kernel
theorem d_PF_holds_14 : decode b_PF_holds 14 = .ok (.athrow, 1) := by decide +kernel
theorem d_PF_holds_15 : decode b_PF_holds 15 = .ok (.aload_n 0, 1) := by decide +kernel
theorem d_PF_holds_16 : decode b_PF_holds 16 = .ok (.getfield 44, 3) := by decide +kernel
theorem d_PF_holds_19 : decode b_PF_holds 19 = .ok (.iload_n 1, 1) := by decide +kernel
theorem d_PF_holds_20 : decode b_PF_holds 20 = .ok (.iload_n 2, 1) := by decide +kernel
theorem d_PF_holds_21 : decode b_PF_holds 21 = .ok (.iload_n 3, 1) := by decide +kernel
theorem d_PF_holds_22 : decode b_PF_holds 22 = .ok (.iload 4, 2) := by decide +kernel
theorem d_PF_holds_24 : decode b_PF_holds 24 = .ok (.invokevirtual 110, 3) := by decide +kernel
theorem d_PF_holds_27 : decode b_PF_holds 27 = .ok (.aload_n 0, 1) := by decide +kernel
theorem d_PF_holds_28 : decode b_PF_holds 28 = .ok (.getfield 12, 3) := by decide +kernel
theorem d_PF_holds_31 : decode b_PF_holds 31 = .ok (.getfield 81, 3) := by decide +kernel
theorem d_PF_holds_34 : decode b_PF_holds 34 = .ok (.iconst 1, 1) := by decide +kernel
theorem d_PF_holds_35 : decode b_PF_holds 35 = .ok (.isub, 1) := by decide +kernel
theorem d_PF_holds_36 : decode b_PF_holds 36 = .ok (.istore 5, 2) := by decide +kernel
theorem d_PF_holds_38 : decode b_PF_holds 38 = .ok (.iload 5, 2) := by decide +kernel
theorem d_PF_holds_40 : decode b_PF_holds 40 = .ok (.ifCond .lt 26, 3) := by decide +kernel
theorem d_PF_holds_43 : decode b_PF_holds 43 = .ok (.aload_n 0, 1) := by decide +kernel
theorem d_PF_holds_44 : decode b_PF_holds 44 = .ok (.getfield 12, 3) := by decide +kernel
theorem d_PF_holds_47 : decode b_PF_holds 47 = .ok (.getfield 84, 3) := by decide +kernel
theorem d_PF_holds_50 : decode b_PF_holds 50 = .ok (.iload 5, 2) := by decide +kernel
theorem d_PF_holds_52 : decode b_PF_holds 52 = .ok (.aaload, 1) := by decide +kernel
theorem d_PF_holds_53 : decode b_PF_holds 53 = .ok (.aload_n 0, 1) := by decide +kernel
theorem d_PF_holds_54 : decode b_PF_holds 54 = .ok (.getfield 44, 3) := by decide +kernel
theorem d_PF_holds_57 : decode b_PF_holds 57 = .ok (.invokevirtual 114, 3) := by decide +kernel
theorem d_PF_holds_60 : decode b_PF_holds 60 = .ok (.iinc 5 (-1), 3) := by decide +kernel
theorem d_PF_holds_63 : decode b_PF_holds 63 = .ok (.goto (-25), 3) := by decide +kernel
theorem d_PF_holds_66 : decode b_PF_holds 66 = .ok (.aload_n 0, 1) := by decide +kernel
theorem d_PF_holds_67 : decode b_PF_holds 67 = .ok (.getfield 58, 3) := by decide +kernel
theorem d_PF_holds_70 : decode b_PF_holds 70 = .ok (.getfield 118, 3) := by decide +kernel
theorem d_PF_holds_73 : decode b_PF_holds 73 = .ok (.ireturn, 1) := by decide +kernel
theorem fl_PF_58 : ab_fl "PolicyForge" 58 0 7 1 := ⟨rfl, R_PF, T_PF, 8, rfl, uw_PF, by decide, rfl, (ab_in 362 (by decide +kernel) (by decide +kernel))⟩
theorem ow_PF_107 : ab_own "PolicyForge" 107 109 "java/util/NoSuchElementException" ["java/lang/RuntimeException", "java/lang/Exception"] := ⟨⟨by decide +kernel, by decide +kernel⟩, List.forall_mem_cons.mpr ⟨(ab_in 722 (by decide +kernel) (by decide +kernel)), List.forall_mem_cons.mpr ⟨(ab_in 723 (by decide +kernel) (by decide +kernel)), List.forall_mem_cons.mpr ⟨(ab_in 111 (by decide +kernel) (by decide +kernel)), fun _ h => absurd h List.not_mem_nil⟩⟩⟩, by decide, by decide +kernel⟩
theorem fl_PF_44 : ab_fl "PolicyForge" 44 0 4 1 := ⟨rfl, R_PF, T_PF, 8, rfl, uw_PF, by decide, rfl, (ab_in 359 (by decide +kernel) (by decide +kernel))⟩
abbrev b_FA_set : ByteArray := prog_2_method_2_code
def y_FA_set : MethodName := ⟨"PolicyForge$Facts", "set", "(IIII)V"⟩
theorem lk_PF_110 : ab_lk "PolicyForge" 110 y_FA_set b_FA_set 5 none 4 6 := ⟨⟨rfl, T_FA, 4, rfl⟩, List.forall_mem_cons.mpr ⟨(ab_in 737 (by decide +kernel) (by decide +kernel)), List.forall_mem_cons.mpr ⟨(ab_in 738 (by decide +kernel) (by decide +kernel)), List.forall_mem_cons.mpr ⟨(ab_in 739 (by decide +kernel) (by decide +kernel)), List.forall_mem_cons.mpr ⟨(ab_in 98 (by decide +kernel) (by decide +kernel)), List.forall_mem_cons.mpr ⟨(ab_in 740 (by decide +kernel) (by decide +kernel)), fun _ h => absurd h List.not_mem_nil⟩⟩⟩⟩⟩, ⟨by decide +kernel, by decide +kernel, by decide +kernel⟩, by decide⟩
theorem fl_PF_81 : ab_fl "PolicyForge" 81 1 7 0 := ⟨rfl, R_RD, T_RD, 8, rfl, uw_RD, by decide, rfl, (ab_in 255 (by decide +kernel) (by decide +kernel))⟩
theorem fl_PF_84 : ab_fl "PolicyForge" 84 1 1 1 := ⟨rfl, R_RD, T_RD, 8, rfl, uw_RD, by decide, rfl, (ab_in 245 (by decide +kernel) (by decide +kernel))⟩
abbrev b_PT_weigh : ByteArray := prog_5_method_4_code
def y_PT_weigh : MethodName := ⟨"PolicyForge$Part", "weigh", "(LPolicyForge$Facts;)V"⟩
theorem lk_PF_114 : ab_lk "PolicyForge" 114 y_PT_weigh b_PT_weigh 4 none 1 2 := ⟨⟨rfl, T_PT, 8, rfl⟩, List.forall_mem_cons.mpr ⟨(ab_in 741 (by decide +kernel) (by decide +kernel)), List.forall_mem_cons.mpr ⟨(ab_in 742 (by decide +kernel) (by decide +kernel)), List.forall_mem_cons.mpr ⟨(ab_in 743 (by decide +kernel) (by decide +kernel)), List.forall_mem_cons.mpr ⟨(ab_in 94 (by decide +kernel) (by decide +kernel)), List.forall_mem_cons.mpr ⟨(ab_in 744 (by decide +kernel) (by decide +kernel)), fun _ h => absurd h List.not_mem_nil⟩⟩⟩⟩⟩, ⟨by decide +kernel, by decide +kernel, by decide +kernel⟩, by decide⟩
theorem fl_PF_118 : ab_fl "PolicyForge" 118 2 7 0 := ⟨rfl, R_PT, T_PT, 8, rfl, uw_PT, by decide, rfl, (ab_in 225 (by decide +kernel) (by decide +kernel))⟩
set_option maxRecDepth 100000 in
set_option maxHeartbeats 4000000 in
theorem c_PF_holds0 (hfl : ab_fl0 l) (u : ab_S) (a1 a2 a3 a4 : Int32) (h0 : 0 < N 0) (e7 : u.2.1 0 0 7 = none) : ab_CT l D ca y_PF_holds b_PF_holds 6 (some .boolean) 8 N u [ab_O 0 0, ab_I a1, ab_I a2, ab_I a3, ab_I a4] (fun _ _ => False) (fun u' E => u' = u ∧ E = ab_NSE) := by
  refine ab_CT.of (by decide) (Nat.le_of_ble_eq_true rfl) ?_
  intro p e s m args below meth c ad X hZ hW0 hnh hr0 hlk
  refine ab_aload_n X 0 d_PF_holds_0 rfl rfl ?_
  refine ab_gR X fl_PF_58 d_PF_holds_1 (by first | assumption | decide) (e7) ?_
  refine ab_ifnonnull X 15 d_PF_holds_4 rfl (fun hb => absurd (rfl) hb) (fun _ => ?_)
  exact ab_throw (cells := 0) (slots := 0) X hfl hZ hW0 hnh hlk ow_PF_107 d_PF_holds_7 d_PF_holds_10 d_PF_holds_11 d_PF_holds_14 ⟨Nat.le_of_ble_eq_true rfl, Nat.le_of_ble_eq_true rfl⟩ ⟨Nat.le_of_ble_eq_true rfl, Nat.le_of_ble_eq_true rfl⟩ ⟨rfl, rfl⟩
abbrev b_PF_size : ByteArray := prog_1_method_7_code
def y_PF_size : MethodName := ⟨"PolicyForge", "size", "(I)I"⟩
theorem d_PF_size_0 : decode b_PF_size 0 = .ok (.aload_n 0, 1) := by decide +kernel
theorem d_PF_size_1 : decode b_PF_size 1 = .ok (.getfield 58, 3) := by decide +kernel
theorem d_PF_size_4 : decode b_PF_size 4 = .ok (.ifnonnull 11, 3) := by decide +kernel
theorem d_PF_size_7 : decode b_PF_size 7 = .ok (.new 107, 3) := by decide +kernel
theorem d_PF_size_10 : decode b_PF_size 10 = .ok (.dup, 1) := by decide +kernel
theorem d_PF_size_11 : decode b_PF_size 11 = .ok (.invokespecial 109, 3) := by decide +kernel
theorem d_PF_size_14 : decode b_PF_size 14 = .ok (.athrow, 1) := by decide +kernel
theorem d_PF_size_15 : decode b_PF_size 15 = .ok (.iload_n 1, 1) := by decide +kernel
theorem d_PF_size_16 : decode b_PF_size 16 = .ok (.tableswitch 130 0 7 #[48, 56, 67, 78, 89, 100, 111, 122], 48) := by decide +kernel
theorem d_PF_size_64 : decode b_PF_size 64 = .ok (.aload_n 0, 1) := by decide +kernel
theorem d_PF_size_65 : decode b_PF_size 65 = .ok (.getfield 12, 3) := by decide +kernel
theorem d_PF_size_68 : decode b_PF_size 68 = .ok (.getfield 129, 3) := by decide +kernel
theorem d_PF_size_71 : decode b_PF_size 71 = .ok (.ireturn, 1) := by decide +kernel
theorem d_PF_size_72 : decode b_PF_size 72 = .ok (.aload_n 0, 1) := by decide +kernel
theorem d_PF_size_73 : decode b_PF_size 73 = .ok (.getfield 58, 3) := by decide +kernel
theorem d_PF_size_76 : decode b_PF_size 76 = .ok (.getfield 94, 3) := by decide +kernel
theorem d_PF_size_79 : decode b_PF_size 79 = .ok (.getfield 132, 3) := by decide +kernel
theorem d_PF_size_82 : decode b_PF_size 82 = .ok (.ireturn, 1) := by decide +kernel
theorem d_PF_size_83 : decode b_PF_size 83 = .ok (.aload_n 0, 1) := by decide +kernel
theorem d_PF_size_84 : decode b_PF_size 84 = .ok (.getfield 58, 3) := by decide +kernel
theorem d_PF_size_87 : decode b_PF_size 87 = .ok (.getfield 134, 3) := by decide +kernel
theorem d_PF_size_90 : decode b_PF_size 90 = .ok (.getfield 132, 3) := by decide +kernel
theorem d_PF_size_93 : decode b_PF_size 93 = .ok (.ireturn, 1) := by decide +kernel
theorem d_PF_size_94 : decode b_PF_size 94 = .ok (.aload_n 0, 1) := by decide +kernel
theorem d_PF_size_95 : decode b_PF_size 95 = .ok (.getfield 58, 3) := by decide +kernel
theorem d_PF_size_98 : decode b_PF_size 98 = .ok (.getfield 137, 3) := by decide +kernel
theorem d_PF_size_101 : decode b_PF_size 101 = .ok (.getfield 132, 3) := by decide +kernel
theorem d_PF_size_104 : decode b_PF_size 104 = .ok (.ireturn, 1) := by decide +kernel
theorem d_PF_size_105 : decode b_PF_size 105 = .ok (.aload_n 0, 1) := by decide +kernel
theorem d_PF_size_106 : decode b_PF_size 106 = .ok (.getfield 58, 3) := by decide +kernel
theorem d_PF_size_109 : decode b_PF_size 109 = .ok (.getfield 94, 3) := by decide +kernel
theorem d_PF_size_112 : decode b_PF_size 112 = .ok (.getfield 140, 3) := by decide +kernel
theorem d_PF_size_115 : decode b_PF_size 115 = .ok (.ireturn, 1) := by decide +kernel
theorem d_PF_size_116 : decode b_PF_size 116 = .ok (.aload_n 0, 1) := by decide +kernel
theorem d_PF_size_117 : decode b_PF_size 117 = .ok (.getfield 58, 3) := by decide +kernel
theorem d_PF_size_120 : decode b_PF_size 120 = .ok (.getfield 134, 3) := by decide +kernel
theorem d_PF_size_123 : decode b_PF_size 123 = .ok (.getfield 140, 3) := by decide +kernel
theorem d_PF_size_126 : decode b_PF_size 126 = .ok (.ireturn, 1) := by decide +kernel
theorem d_PF_size_127 : decode b_PF_size 127 = .ok (.aload_n 0, 1) := by decide +kernel
theorem d_PF_size_128 : decode b_PF_size 128 = .ok (.getfield 58, 3) := by decide +kernel
theorem d_PF_size_131 : decode b_PF_size 131 = .ok (.getfield 137, 3) := by decide +kernel
theorem d_PF_size_134 : decode b_PF_size 134 = .ok (.getfield 140, 3) := by decide +kernel
theorem d_PF_size_137 : decode b_PF_size 137 = .ok (.ireturn, 1) := by decide +kernel
theorem d_PF_size_138 : decode b_PF_size 138 = .ok (.aload_n 0, 1) := by decide +kernel
theorem d_PF_size_139 : decode b_PF_size 139 = .ok (.getfield 12, 3) := by decide +kernel
theorem d_PF_size_142 : decode b_PF_size 142 = .ok (.getfield 81, 3) := by decide +kernel
theorem d_PF_size_145 : decode b_PF_size 145 = .ok (.ireturn, 1) := by decide +kernel
theorem d_PF_size_146 : decode b_PF_size 146 = .ok (.new 78, 3) := by decide +kernel
theorem d_PF_size_149 : decode b_PF_size 149 = .ok (.dup, 1) := by decide +kernel
theorem d_PF_size_150 : decode b_PF_size 150 = .ok (.invokespecial 80, 3) := by decide +kernel
theorem d_PF_size_153 : decode b_PF_size 153 = .ok (.athrow, 1) := by decide +kernel
theorem fl_PF_129 : ab_fl "PolicyForge" 129 1 6 0 := ⟨rfl, R_RD, T_RD, 8, rfl, uw_RD, by decide, rfl, (ab_in 253 (by decide +kernel) (by decide +kernel))⟩
theorem fl_PF_94 : ab_fl "PolicyForge" 94 2 1 1 := ⟨rfl, R_PT, T_PT, 8, rfl, uw_PT, by decide, rfl, (ab_in 214 (by decide +kernel) (by decide +kernel))⟩
theorem fl_PF_132 : ab_fl "PolicyForge" 132 3 8 0 := ⟨rfl, R_FM, T_FM, 10, rfl, uw_FM, by decide, rfl, (ab_in 188 (by decide +kernel) (by decide +kernel))⟩
theorem fl_PF_134 : ab_fl "PolicyForge" 134 2 2 1 := ⟨rfl, R_PT, T_PT, 8, rfl, uw_PT, by decide, rfl, (ab_in 216 (by decide +kernel) (by decide +kernel))⟩
theorem fl_PF_137 : ab_fl "PolicyForge" 137 2 3 1 := ⟨rfl, R_PT, T_PT, 8, rfl, uw_PT, by decide, rfl, (ab_in 218 (by decide +kernel) (by decide +kernel))⟩
theorem fl_PF_140 : ab_fl "PolicyForge" 140 3 9 0 := ⟨rfl, R_FM, T_FM, 10, rfl, uw_FM, by decide, rfl, (ab_in 190 (by decide +kernel) (by decide +kernel))⟩
theorem ow_PF_78 : ab_own "PolicyForge" 78 80 "java/lang/IllegalArgumentException" ["java/lang/RuntimeException", "java/lang/Exception"] := ⟨⟨by decide +kernel, by decide +kernel⟩, List.forall_mem_cons.mpr ⟨(ab_in 534 (by decide +kernel) (by decide +kernel)), List.forall_mem_cons.mpr ⟨(ab_in 535 (by decide +kernel) (by decide +kernel)), List.forall_mem_cons.mpr ⟨(ab_in 109 (by decide +kernel) (by decide +kernel)), fun _ h => absurd h List.not_mem_nil⟩⟩⟩, by decide, by decide +kernel⟩
set_option maxRecDepth 100000 in
set_option maxHeartbeats 4000000 in
theorem c_PF_size0 (hfl : ab_fl0 l) (u : ab_S) (a1 : Int32) (h0 : 0 < N 0) (e7 : u.2.1 0 0 7 = none) : ab_CT l D ca y_PF_size b_PF_size 2 (some .int) 8 N u [ab_O 0 0, ab_I a1] (fun _ _ => False) (fun u' E => u' = u ∧ E = ab_NSE) := by
  refine ab_CT.of (by decide) (Nat.le_of_ble_eq_true rfl) ?_
  intro p e s m args below meth c ad X hZ hW0 hnh hr0 hlk
  refine ab_aload_n X 0 d_PF_size_0 rfl rfl ?_
  refine ab_gR X fl_PF_58 d_PF_size_1 (by first | assumption | decide) (e7) ?_
  refine ab_ifnonnull X 15 d_PF_size_4 rfl (fun hb => absurd (rfl) hb) (fun _ => ?_)
  exact ab_throw (cells := 0) (slots := 0) X hfl hZ hW0 hnh hlk ow_PF_107 d_PF_size_7 d_PF_size_10 d_PF_size_11 d_PF_size_14 ⟨Nat.le_of_ble_eq_true rfl, Nat.le_of_ble_eq_true rfl⟩ ⟨Nat.le_of_ble_eq_true rfl, Nat.le_of_ble_eq_true rfl⟩ ⟨rfl, rfl⟩
abbrev b_PF_satisfy : ByteArray := prog_1_method_8_code
def y_PF_satisfy : MethodName := ⟨"PolicyForge", "satisfy", "(IIII)I"⟩
theorem d_PF_satisfy_0 : decode b_PF_satisfy 0 = .ok (.aload_n 0, 1) := by decide +kernel
theorem d_PF_satisfy_1 : decode b_PF_satisfy 1 = .ok (.getfield 58, 3) := by decide +kernel
theorem d_PF_satisfy_4 : decode b_PF_satisfy 4 = .ok (.ifnonnull 11, 3) := by decide +kernel
theorem d_PF_satisfy_7 : decode b_PF_satisfy 7 = .ok (.new 107, 3) := by decide +kernel
theorem d_PF_satisfy_10 : decode b_PF_satisfy 10 = .ok (.dup, 1) := by decide +kernel
theorem d_PF_satisfy_11 : decode b_PF_satisfy 11 = .ok (.invokespecial 109, 3) := by decide +kernel
theorem d_PF_satisfy_14 : decode b_PF_satisfy 14 = .ok (.athrow, 1) := by decide +kernel
theorem d_PF_satisfy_15 : decode b_PF_satisfy 15 = .ok (.aload_n 0, 1) := by decide +kernel
theorem d_PF_satisfy_16 : decode b_PF_satisfy 16 = .ok (.getfield 44, 3) := by decide +kernel
theorem d_PF_satisfy_19 : decode b_PF_satisfy 19 = .ok (.iload_n 1, 1) := by decide +kernel
theorem d_PF_satisfy_20 : decode b_PF_satisfy 20 = .ok (.iload_n 2, 1) := by decide +kernel
theorem d_PF_satisfy_21 : decode b_PF_satisfy 21 = .ok (.iload_n 3, 1) := by decide +kernel
theorem d_PF_satisfy_22 : decode b_PF_satisfy 22 = .ok (.iload 4, 2) := by decide +kernel
theorem d_PF_satisfy_24 : decode b_PF_satisfy 24 = .ok (.invokevirtual 110, 3) := by decide +kernel
theorem d_PF_satisfy_27 : decode b_PF_satisfy 27 = .ok (.iconst 0, 1) := by decide +kernel
theorem d_PF_satisfy_28 : decode b_PF_satisfy 28 = .ok (.istore 5, 2) := by decide +kernel
theorem d_PF_satisfy_30 : decode b_PF_satisfy 30 = .ok (.iload 5, 2) := by decide +kernel
theorem d_PF_satisfy_32 : decode b_PF_satisfy 32 = .ok (.aload_n 0, 1) := by decide +kernel
theorem d_PF_satisfy_33 : decode b_PF_satisfy 33 = .ok (.getfield 37, 3) := by decide +kernel
theorem d_PF_satisfy_36 : decode b_PF_satisfy 36 = .ok (.getfield 143, 3) := by decide +kernel
theorem d_PF_satisfy_39 : decode b_PF_satisfy 39 = .ok (.if_icmp .ge 30, 3) := by decide +kernel
theorem d_PF_satisfy_42 : decode b_PF_satisfy 42 = .ok (.aload_n 0, 1) := by decide +kernel
theorem d_PF_satisfy_43 : decode b_PF_satisfy 43 = .ok (.getfield 37, 3) := by decide +kernel
theorem d_PF_satisfy_46 : decode b_PF_satisfy 46 = .ok (.getfield 146, 3) := by decide +kernel
theorem d_PF_satisfy_49 : decode b_PF_satisfy 49 = .ok (.iload 5, 2) := by decide +kernel
theorem d_PF_satisfy_51 : decode b_PF_satisfy 51 = .ok (.aaload, 1) := by decide +kernel
theorem d_PF_satisfy_52 : decode b_PF_satisfy 52 = .ok (.aload_n 0, 1) := by decide +kernel
theorem d_PF_satisfy_53 : decode b_PF_satisfy 53 = .ok (.getfield 44, 3) := by decide +kernel
theorem d_PF_satisfy_56 : decode b_PF_satisfy 56 = .ok (.aload_n 0, 1) := by decide +kernel
theorem d_PF_satisfy_57 : decode b_PF_satisfy 57 = .ok (.getfield 30, 3) := by decide +kernel
theorem d_PF_satisfy_60 : decode b_PF_satisfy 60 = .ok (.invokevirtual 150, 3) := by decide +kernel
theorem d_PF_satisfy_63 : decode b_PF_satisfy 63 = .ok (.iinc 5 1, 3) := by decide +kernel
theorem d_PF_satisfy_66 : decode b_PF_satisfy 66 = .ok (.goto (-36), 3) := by decide +kernel
theorem d_PF_satisfy_69 : decode b_PF_satisfy 69 = .ok (.aload_n 0, 1) := by decide +kernel
theorem d_PF_satisfy_70 : decode b_PF_satisfy 70 = .ok (.getfield 58, 3) := by decide +kernel
theorem d_PF_satisfy_73 : decode b_PF_satisfy 73 = .ok (.getfield 94, 3) := by decide +kernel
theorem d_PF_satisfy_76 : decode b_PF_satisfy 76 = .ok (.getfield 154, 3) := by decide +kernel
theorem d_PF_satisfy_79 : decode b_PF_satisfy 79 = .ok (.astore 5, 2) := by decide +kernel
theorem d_PF_satisfy_81 : decode b_PF_satisfy 81 = .ok (.aload 5, 2) := by decide +kernel
theorem d_PF_satisfy_83 : decode b_PF_satisfy 83 = .ok (.getfield 157, 3) := by decide +kernel
theorem d_PF_satisfy_86 : decode b_PF_satisfy 86 = .ok (.ifCond .ne 5, 3) := by decide +kernel
theorem d_PF_satisfy_89 : decode b_PF_satisfy 89 = .ok (.iconst (-1), 1) := by decide +kernel
theorem d_PF_satisfy_90 : decode b_PF_satisfy 90 = .ok (.ireturn, 1) := by decide +kernel
theorem d_PF_satisfy_91 : decode b_PF_satisfy 91 = .ok (.aload_n 0, 1) := by decide +kernel
theorem d_PF_satisfy_92 : decode b_PF_satisfy 92 = .ok (.getfield 48, 3) := by decide +kernel
theorem d_PF_satisfy_95 : decode b_PF_satisfy 95 = .ok (.aload 5, 2) := by decide +kernel
theorem d_PF_satisfy_97 : decode b_PF_satisfy 97 = .ok (.invokevirtual 160, 3) := by decide +kernel
theorem d_PF_satisfy_100 : decode b_PF_satisfy 100 = .ok (.aload_n 0, 1) := by decide +kernel
theorem d_PF_satisfy_101 : decode b_PF_satisfy 101 = .ok (.getfield 48, 3) := by decide +kernel
theorem d_PF_satisfy_104 : decode b_PF_satisfy 104 = .ok (.getfield 164, 3) := by decide +kernel
theorem d_PF_satisfy_107 : decode b_PF_satisfy 107 = .ok (.ireturn, 1) := by decide +kernel
theorem fl_PF_37 : ab_fl "PolicyForge" 37 0 3 1 := ⟨rfl, R_PF, T_PF, 8, rfl, uw_PF, by decide, rfl, (ab_in 358 (by decide +kernel) (by decide +kernel))⟩
theorem fl_PF_143 : ab_fl "PolicyForge" 143 5 3 0 := ⟨rfl, R_SC, T_SC, 4, rfl, uw_SC, by decide, rfl, (ab_in 293 (by decide +kernel) (by decide +kernel))⟩
theorem fl_PF_146 : ab_fl "PolicyForge" 146 5 1 1 := ⟨rfl, R_SC, T_SC, 4, rfl, uw_SC, by decide, rfl, (ab_in 288 (by decide +kernel) (by decide +kernel))⟩
theorem fl_PF_30 : ab_fl "PolicyForge" 30 0 2 1 := ⟨rfl, R_PF, T_PF, 8, rfl, uw_PF, by decide, rfl, (ab_in 357 (by decide +kernel) (by decide +kernel))⟩
abbrev b_FM_lighten : ByteArray := prog_3_method_10_code
def y_FM_lighten : MethodName := ⟨"PolicyForge$Form", "lighten", "(LPolicyForge$Facts;LPolicyForge$Row;)V"⟩
theorem lk_PF_150 : ab_lk "PolicyForge" 150 y_FM_lighten b_FM_lighten 3 none 2 3 := ⟨⟨rfl, T_FM, 10, rfl⟩, List.forall_mem_cons.mpr ⟨(ab_in 786 (by decide +kernel) (by decide +kernel)), List.forall_mem_cons.mpr ⟨(ab_in 787 (by decide +kernel) (by decide +kernel)), List.forall_mem_cons.mpr ⟨(ab_in 788 (by decide +kernel) (by decide +kernel)), List.forall_mem_cons.mpr ⟨(ab_in 95 (by decide +kernel) (by decide +kernel)), List.forall_mem_cons.mpr ⟨(ab_in 789 (by decide +kernel) (by decide +kernel)), fun _ h => absurd h List.not_mem_nil⟩⟩⟩⟩⟩, ⟨by decide +kernel, by decide +kernel, by decide +kernel⟩, by decide⟩
theorem fl_PF_154 : ab_fl "PolicyForge" 154 3 3 1 := ⟨rfl, R_FM, T_FM, 10, rfl, uw_FM, by decide, rfl, (ab_in 177 (by decide +kernel) (by decide +kernel))⟩
theorem fl_PF_157 : ab_fl "PolicyForge" 157 4 3 0 := ⟨rfl, R_RW, T_RW, 4, rfl, uw_RW, by decide, rfl, (ab_in 160 (by decide +kernel) (by decide +kernel))⟩
abbrev b_RW_become : ByteArray := prog_7_method_5_code
def y_RW_become : MethodName := ⟨"PolicyForge$Row", "become", "(LPolicyForge$Row;)V"⟩
theorem lk_PF_160 : ab_lk "PolicyForge" 160 y_RW_become b_RW_become 2 none 1 4 := ⟨⟨rfl, T_RW, 4, rfl⟩, List.forall_mem_cons.mpr ⟨(ab_in 822 (by decide +kernel) (by decide +kernel)), List.forall_mem_cons.mpr ⟨(ab_in 808 (by decide +kernel) (by decide +kernel)), List.forall_mem_cons.mpr ⟨(ab_in 809 (by decide +kernel) (by decide +kernel)), List.forall_mem_cons.mpr ⟨(ab_in 96 (by decide +kernel) (by decide +kernel)), List.forall_mem_cons.mpr ⟨(ab_in 810 (by decide +kernel) (by decide +kernel)), fun _ h => absurd h List.not_mem_nil⟩⟩⟩⟩⟩, ⟨by decide +kernel, by decide +kernel, by decide +kernel⟩, by decide⟩
theorem fl_PF_164 : ab_fl "PolicyForge" 164 4 2 0 := ⟨rfl, R_RW, T_RW, 4, rfl, uw_RW, by decide, rfl, (ab_in 158 (by decide +kernel) (by decide +kernel))⟩
set_option maxRecDepth 100000 in
set_option maxHeartbeats 4000000 in
theorem c_PF_satisfy0 (hfl : ab_fl0 l) (u : ab_S) (a1 a2 a3 a4 : Int32) (h0 : 0 < N 0) (e7 : u.2.1 0 0 7 = none) : ab_CT l D ca y_PF_satisfy b_PF_satisfy 6 (some .int) 8 N u [ab_O 0 0, ab_I a1, ab_I a2, ab_I a3, ab_I a4] (fun _ _ => False) (fun u' E => u' = u ∧ E = ab_NSE) := by
  refine ab_CT.of (by decide) (Nat.le_of_ble_eq_true rfl) ?_
  intro p e s m args below meth c ad X hZ hW0 hnh hr0 hlk
  refine ab_aload_n X 0 d_PF_satisfy_0 rfl rfl ?_
  refine ab_gR X fl_PF_58 d_PF_satisfy_1 (by first | assumption | decide) (e7) ?_
  refine ab_ifnonnull X 15 d_PF_satisfy_4 rfl (fun hb => absurd (rfl) hb) (fun _ => ?_)
  exact ab_throw (cells := 0) (slots := 0) X hfl hZ hW0 hnh hlk ow_PF_107 d_PF_satisfy_7 d_PF_satisfy_10 d_PF_satisfy_11 d_PF_satisfy_14 ⟨Nat.le_of_ble_eq_true rfl, Nat.le_of_ble_eq_true rfl⟩ ⟨Nat.le_of_ble_eq_true rfl, Nat.le_of_ble_eq_true rfl⟩ ⟨rfl, rfl⟩
abbrev b_PF_check : ByteArray := prog_1_method_12_code
def y_PF_check : MethodName := ⟨"PolicyForge", "check", "(II)I"⟩
theorem d_PF_check_0 : decode b_PF_check 0 = .ok (.aload_n 0, 1) := by decide +kernel
theorem d_PF_check_1 : decode b_PF_check 1 = .ok (.getfield 58, 3) := by decide +kernel
theorem d_PF_check_4 : decode b_PF_check 4 = .ok (.ifnonnull 11, 3) := by decide +kernel
theorem d_PF_check_7 : decode b_PF_check 7 = .ok (.new 107, 3) := by decide +kernel
theorem d_PF_check_10 : decode b_PF_check 10 = .ok (.dup, 1) := by decide +kernel
theorem d_PF_check_11 : decode b_PF_check 11 = .ok (.invokespecial 109, 3) := by decide +kernel
theorem d_PF_check_14 : decode b_PF_check 14 = .ok (.athrow, 1) := by decide +kernel
theorem d_PF_check_15 : decode b_PF_check 15 = .ok (.aload_n 0, 1) := by decide +kernel
theorem d_PF_check_16 : decode b_PF_check 16 = .ok (.getfield 44, 3) := by decide +kernel
theorem d_PF_check_19 : decode b_PF_check 19 = .ok (.iconst 0, 1) := by decide +kernel
theorem d_PF_check_20 : decode b_PF_check 20 = .ok (.iconst 0, 1) := by decide +kernel
theorem d_PF_check_21 : decode b_PF_check 21 = .ok (.iload_n 1, 1) := by decide +kernel
theorem d_PF_check_22 : decode b_PF_check 22 = .ok (.iload_n 2, 1) := by decide +kernel
theorem d_PF_check_23 : decode b_PF_check 23 = .ok (.invokevirtual 110, 3) := by decide +kernel
theorem d_PF_check_26 : decode b_PF_check 26 = .ok (.aload_n 0, 1) := by decide +kernel
theorem d_PF_check_27 : decode b_PF_check 27 = .ok (.getfield 54, 3) := by decide +kernel
theorem d_PF_check_30 : decode b_PF_check 30 = .ok (.aload_n 0, 1) := by decide +kernel
theorem d_PF_check_31 : decode b_PF_check 31 = .ok (.getfield 37, 3) := by decide +kernel
theorem d_PF_check_34 : decode b_PF_check 34 = .ok (.aload_n 0, 1) := by decide +kernel
theorem d_PF_check_35 : decode b_PF_check 35 = .ok (.getfield 48, 3) := by decide +kernel
theorem d_PF_check_38 : decode b_PF_check 38 = .ok (.aload_n 0, 1) := by decide +kernel
theorem d_PF_check_39 : decode b_PF_check 39 = .ok (.getfield 44, 3) := by decide +kernel
theorem d_PF_check_42 : decode b_PF_check 42 = .ok (.invokevirtual 179, 3) := by decide +kernel
theorem d_PF_check_45 : decode b_PF_check 45 = .ok (.ireturn, 1) := by decide +kernel
abbrev b_MA_run : ByteArray := prog_4_method_2_code
def y_MA_run : MethodName := ⟨"PolicyForge$Machine", "run", "(LPolicyForge$Script;LPolicyForge$Row;LPolicyForge$Facts;)I"⟩
theorem lk_PF_179 : ab_lk "PolicyForge" 179 y_MA_run b_MA_run 5 (some FieldType.int) 3 7 := ⟨⟨rfl, T_MA, 7, rfl⟩, List.forall_mem_cons.mpr ⟨(ab_in 864 (by decide +kernel) (by decide +kernel)), List.forall_mem_cons.mpr ⟨(ab_in 865 (by decide +kernel) (by decide +kernel)), List.forall_mem_cons.mpr ⟨(ab_in 866 (by decide +kernel) (by decide +kernel)), List.forall_mem_cons.mpr ⟨(ab_in 99 (by decide +kernel) (by decide +kernel)), List.forall_mem_cons.mpr ⟨(ab_in 867 (by decide +kernel) (by decide +kernel)), fun _ h => absurd h List.not_mem_nil⟩⟩⟩⟩⟩, ⟨by decide +kernel, by decide +kernel, by decide +kernel⟩, by decide⟩
set_option maxRecDepth 100000 in
set_option maxHeartbeats 4000000 in
theorem c_PF_check0 (hfl : ab_fl0 l) (u : ab_S) (a1 a2 : Int32) (h0 : 0 < N 0) (e7 : u.2.1 0 0 7 = none) : ab_CT l D ca y_PF_check b_PF_check 3 (some .int) 8 N u [ab_O 0 0, ab_I a1, ab_I a2] (fun _ _ => False) (fun u' E => u' = u ∧ E = ab_NSE) := by
  refine ab_CT.of (by decide) (Nat.le_of_ble_eq_true rfl) ?_
  intro p e s m args below meth c ad X hZ hW0 hnh hr0 hlk
  refine ab_aload_n X 0 d_PF_check_0 rfl rfl ?_
  refine ab_gR X fl_PF_58 d_PF_check_1 (by first | assumption | decide) (e7) ?_
  refine ab_ifnonnull X 15 d_PF_check_4 rfl (fun hb => absurd (rfl) hb) (fun _ => ?_)
  exact ab_throw (cells := 0) (slots := 0) X hfl hZ hW0 hnh hlk ow_PF_107 d_PF_check_7 d_PF_check_10 d_PF_check_11 d_PF_check_14 ⟨Nat.le_of_ble_eq_true rfl, Nat.le_of_ble_eq_true rfl⟩ ⟨Nat.le_of_ble_eq_true rfl, Nat.le_of_ble_eq_true rfl⟩ ⟨rfl, rfl⟩
abbrev b_PF_item : ByteArray := prog_1_method_11_code
def y_PF_item : MethodName := ⟨"PolicyForge", "item", "(I)I"⟩
theorem d_PF_item_0 : decode b_PF_item 0 = .ok (.iload_n 1, 1) := by decide +kernel
theorem d_PF_item_1 : decode b_PF_item 1 = .ok (.ifCond .lt 14, 3) := by decide +kernel
theorem d_PF_item_4 : decode b_PF_item 4 = .ok (.iload_n 1, 1) := by decide +kernel
theorem d_PF_item_5 : decode b_PF_item 5 = .ok (.aload_n 0, 1) := by decide +kernel
theorem d_PF_item_6 : decode b_PF_item 6 = .ok (.getfield 48, 3) := by decide +kernel
theorem d_PF_item_9 : decode b_PF_item 9 = .ok (.getfield 169, 3) := by decide +kernel
theorem d_PF_item_12 : decode b_PF_item 12 = .ok (.if_icmp .lt 11, 3) := by decide +kernel
theorem d_PF_item_15 : decode b_PF_item 15 = .ok (.new 122, 3) := by decide +kernel
theorem d_PF_item_18 : decode b_PF_item 18 = .ok (.dup, 1) := by decide +kernel
theorem d_PF_item_19 : decode b_PF_item 19 = .ok (.invokespecial 124, 3) := by decide +kernel
theorem d_PF_item_22 : decode b_PF_item 22 = .ok (.athrow, 1) := by decide +kernel
theorem d_PF_item_23 : decode b_PF_item 23 = .ok (.aload_n 0, 1) := by decide +kernel
theorem d_PF_item_24 : decode b_PF_item 24 = .ok (.getfield 48, 3) := by decide +kernel
theorem d_PF_item_27 : decode b_PF_item 27 = .ok (.getfield 176, 3) := by decide +kernel
theorem d_PF_item_30 : decode b_PF_item 30 = .ok (.iload_n 1, 1) := by decide +kernel
theorem d_PF_item_31 : decode b_PF_item 31 = .ok (.iaload, 1) := by decide +kernel
theorem d_PF_item_32 : decode b_PF_item 32 = .ok (.ireturn, 1) := by decide +kernel
theorem fl_PF_169 : ab_fl "PolicyForge" 169 4 1 0 := ⟨rfl, R_RW, T_RW, 4, rfl, uw_RW, by decide, rfl, (ab_in 155 (by decide +kernel) (by decide +kernel))⟩
theorem ow_PF_122 : ab_own "PolicyForge" 122 124 "java/lang/IndexOutOfBoundsException" ["java/lang/RuntimeException", "java/lang/Exception"] := ⟨⟨by decide +kernel, by decide +kernel⟩, List.forall_mem_cons.mpr ⟨(ab_in 757 (by decide +kernel) (by decide +kernel)), List.forall_mem_cons.mpr ⟨(ab_in 758 (by decide +kernel) (by decide +kernel)), List.forall_mem_cons.mpr ⟨(ab_in 112 (by decide +kernel) (by decide +kernel)), fun _ h => absurd h List.not_mem_nil⟩⟩⟩, by decide, by decide +kernel⟩
theorem fl_PF_176 : ab_fl "PolicyForge" 176 4 0 1 := ⟨rfl, R_RW, T_RW, 4, rfl, uw_RW, by decide, rfl, (ab_in 152 (by decide +kernel) (by decide +kernel))⟩
set_option maxRecDepth 100000 in
set_option maxHeartbeats 4000000 in
theorem c_PF_item (hfl : ab_fl0 l) (u : ab_S) (x : Int32) (n : Nat) (h0 : 0 < N 0) (h4 : 123 < N 4) (h8 : 123 < N 8) (e5 : u.2.1 0 0 5 = some (4, 123)) (ei : u.2.1 4 123 0 = some (8, 123)) (en : u.1 4 123 1 = nI n) (hn : n ≤ 40) : ab_CT l D ca y_PF_item b_PF_item 2 (some .int) 8 N u [ab_O 0 0, ab_I x] (fun u' v => u' = u ∧ ∃ j, j < n ∧ x = nI j ∧ v = some (ab_I (u.1 8 123 j))) (fun u' E => u' = u ∧ E = ab_IOB ∧ (x < 0 ∨ nI n ≤ x)) := by
  refine ab_CT.of (by decide) (Nat.le_of_ble_eq_true rfl) ?_
  intro p e s m args below meth c ad X hZ hW0 hnh hr0 hlk
  have bad : (x < 0 ∨ nI n ≤ x) → ab_J p l e (ab_rm 8 1 6) s m args below meth c (ab_MQ below (ab_QT D ca ad N s.heap.size (fun u' v => u' = u ∧ ∃ j, j < n ∧ x = nI j ∧ v = some (ab_I (u.1 8 123 j))) (fun u' E => u' = u ∧ E = ab_IOB ∧ (x < 0 ∨ nI n ≤ x))) args s 1 6 (ab_A ad N s.heap.size)) D ca (ab_A ad N s.heap.size) s.heap 2 0 0 ad N u 15 [(0, ab_O 0 0), (1, ab_I x)] [] := fun hb =>
    ab_throw (cells := 0) (slots := 0) X hfl hZ hW0 hnh hlk ow_PF_122 d_PF_item_15 d_PF_item_18 d_PF_item_19 d_PF_item_22 ⟨Nat.le_of_ble_eq_true rfl, Nat.le_of_ble_eq_true rfl⟩ ⟨Nat.le_of_ble_eq_true rfl, Nat.le_of_ble_eq_true rfl⟩ ⟨rfl, rfl, hb⟩
  refine ab_iload_n X 1 d_PF_item_0 rfl rfl ?_
  refine ab_if_lt X 15 d_PF_item_1 rfl (fun h1 => ?_) (fun h1 => ?_)
  · exact bad (Or.inl h1)
  ·
    refine ab_iload_n X 1 d_PF_item_4 rfl rfl ?_
    refine ab_aload_n X 0 d_PF_item_5 rfl rfl ?_
    refine ab_gR X fl_PF_48 d_PF_item_6 (by first | assumption | decide) (e5) ?_
    refine ab_gI X fl_PF_169 d_PF_item_9 (by first | assumption | decide) (en) ?_
    refine ab_icmp_lt X 23 d_PF_item_12 rfl (fun h12 => ?_) (fun h12 => ?_)
    · obtain ⟨j, hj, rfl⟩ : ∃ j, j < n ∧ x = nI j := by
        rcases pk_ix x (n := n) (by omega) with h | h | h
        · exact absurd h h1
        · exact absurd h12 (Int32.not_lt.mpr h)
        · exact h
      refine ab_aload_n X 0 d_PF_item_23 rfl rfl ?_
      refine ab_gR X fl_PF_48 d_PF_item_24 (by first | assumption | decide) (e5) ?_
      refine ab_gR X fl_PF_176 d_PF_item_27 (by first | assumption | decide) (ei) ?_
      refine ab_iload_n X 1 d_PF_item_30 rfl rfl ?_
      refine ab_iald X (j) ⟨rfl, rfl⟩ d_PF_item_31 (by first | assumption | decide) (rfl) (show j < 40 by omega) (ab_ln_lt _ _) ?_
      exact ab_retTi X hr0 hlk d_PF_item_32 ⟨rfl, j, hj, rfl, rfl⟩
    · exact bad (Or.inr (Int32.not_lt.mp h12))
abbrev b_PF_word : ByteArray := prog_1_method_6_code
def y_PF_word : MethodName := ⟨"PolicyForge", "word", "(I)I"⟩
theorem d_PF_word_0 : decode b_PF_word 0 = .ok (.iload_n 1, 1) := by decide +kernel
theorem d_PF_word_1 : decode b_PF_word 1 = .ok (.ifCond .lt 14, 3) := by decide +kernel
theorem d_PF_word_4 : decode b_PF_word 4 = .ok (.iload_n 1, 1) := by decide +kernel
theorem d_PF_word_5 : decode b_PF_word 5 = .ok (.aload_n 0, 1) := by decide +kernel
theorem d_PF_word_6 : decode b_PF_word 6 = .ok (.getfield 37, 3) := by decide +kernel
theorem d_PF_word_9 : decode b_PF_word 9 = .ok (.getfield 101, 3) := by decide +kernel
theorem d_PF_word_12 : decode b_PF_word 12 = .ok (.if_icmp .lt 11, 3) := by decide +kernel
theorem d_PF_word_15 : decode b_PF_word 15 = .ok (.new 122, 3) := by decide +kernel
theorem d_PF_word_18 : decode b_PF_word 18 = .ok (.dup, 1) := by decide +kernel
theorem d_PF_word_19 : decode b_PF_word 19 = .ok (.invokespecial 124, 3) := by decide +kernel
theorem d_PF_word_22 : decode b_PF_word 22 = .ok (.athrow, 1) := by decide +kernel
theorem d_PF_word_23 : decode b_PF_word 23 = .ok (.aload_n 0, 1) := by decide +kernel
theorem d_PF_word_24 : decode b_PF_word 24 = .ok (.getfield 37, 3) := by decide +kernel
theorem d_PF_word_27 : decode b_PF_word 27 = .ok (.getfield 125, 3) := by decide +kernel
theorem d_PF_word_30 : decode b_PF_word 30 = .ok (.iload_n 1, 1) := by decide +kernel
theorem d_PF_word_31 : decode b_PF_word 31 = .ok (.iaload, 1) := by decide +kernel
theorem d_PF_word_32 : decode b_PF_word 32 = .ok (.ireturn, 1) := by decide +kernel
theorem fl_PF_101 : ab_fl "PolicyForge" 101 5 2 0 := ⟨rfl, R_SC, T_SC, 4, rfl, uw_SC, by decide, rfl, (ab_in 291 (by decide +kernel) (by decide +kernel))⟩
theorem fl_PF_125 : ab_fl "PolicyForge" 125 5 0 1 := ⟨rfl, R_SC, T_SC, 4, rfl, uw_SC, by decide, rfl, (ab_in 286 (by decide +kernel) (by decide +kernel))⟩
set_option maxRecDepth 100000 in
set_option maxHeartbeats 4000000 in
theorem c_PF_word (hfl : ab_fl0 l) (u : ab_S) (x : Int32) (n : Nat) (h0 : 0 < N 0) (h5 : 0 < N 5) (h13 : 0 < N 13) (e3 : u.2.1 0 0 3 = some (5, 0)) (ei : u.2.1 5 0 0 = some (13, 0)) (en : u.1 5 0 2 = nI n) (hn : n ≤ 128) : ab_CT l D ca y_PF_word b_PF_word 2 (some .int) 8 N u [ab_O 0 0, ab_I x] (fun u' v => u' = u ∧ ∃ j, j < n ∧ x = nI j ∧ v = some (ab_I (u.1 13 0 j))) (fun u' E => u' = u ∧ E = ab_IOB ∧ (x < 0 ∨ nI n ≤ x)) := by
  refine ab_CT.of (by decide) (Nat.le_of_ble_eq_true rfl) ?_
  intro p e s m args below meth c ad X hZ hW0 hnh hr0 hlk
  have bad : (x < 0 ∨ nI n ≤ x) → ab_J p l e (ab_rm 8 1 6) s m args below meth c (ab_MQ below (ab_QT D ca ad N s.heap.size (fun u' v => u' = u ∧ ∃ j, j < n ∧ x = nI j ∧ v = some (ab_I (u.1 13 0 j))) (fun u' E => u' = u ∧ E = ab_IOB ∧ (x < 0 ∨ nI n ≤ x))) args s 1 6 (ab_A ad N s.heap.size)) D ca (ab_A ad N s.heap.size) s.heap 2 0 0 ad N u 15 [(0, ab_O 0 0), (1, ab_I x)] [] := fun hb =>
    ab_throw (cells := 0) (slots := 0) X hfl hZ hW0 hnh hlk ow_PF_122 d_PF_word_15 d_PF_word_18 d_PF_word_19 d_PF_word_22 ⟨Nat.le_of_ble_eq_true rfl, Nat.le_of_ble_eq_true rfl⟩ ⟨Nat.le_of_ble_eq_true rfl, Nat.le_of_ble_eq_true rfl⟩ ⟨rfl, rfl, hb⟩
  refine ab_iload_n X 1 d_PF_word_0 rfl rfl ?_
  refine ab_if_lt X 15 d_PF_word_1 rfl (fun h1 => ?_) (fun h1 => ?_)
  · exact bad (Or.inl h1)
  ·
    refine ab_iload_n X 1 d_PF_word_4 rfl rfl ?_
    refine ab_aload_n X 0 d_PF_word_5 rfl rfl ?_
    refine ab_gR X fl_PF_37 d_PF_word_6 (by first | assumption | decide) (e3) ?_
    refine ab_gI X fl_PF_101 d_PF_word_9 (by first | assumption | decide) (en) ?_
    refine ab_icmp_lt X 23 d_PF_word_12 rfl (fun h12 => ?_) (fun h12 => ?_)
    · obtain ⟨j, hj, rfl⟩ : ∃ j, j < n ∧ x = nI j := by
        rcases pk_ix x (n := n) (by omega) with h | h | h
        · exact absurd h h1
        · exact absurd h12 (Int32.not_lt.mpr h)
        · exact h
      refine ab_aload_n X 0 d_PF_word_23 rfl rfl ?_
      refine ab_gR X fl_PF_37 d_PF_word_24 (by first | assumption | decide) (e3) ?_
      refine ab_gR X fl_PF_125 d_PF_word_27 (by first | assumption | decide) (ei) ?_
      refine ab_iload_n X 1 d_PF_word_30 rfl rfl ?_
      refine ab_iald X (j) ⟨rfl, rfl⟩ d_PF_word_31 (by first | assumption | decide) (rfl) (show j < 128 by omega) (ab_ln_lt _ _) ?_
      exact ab_retTi X hr0 hlk d_PF_word_32 ⟨rfl, j, hj, rfl, rfl⟩
    · exact bad (Or.inr (Int32.not_lt.mp h12))
abbrev b_PF_put : ByteArray := prog_1_method_9_code
def y_PF_put : MethodName := ⟨"PolicyForge", "put", "(I)I"⟩
theorem d_PF_put_0 : decode b_PF_put 0 = .ok (.iload_n 1, 1) := by decide +kernel
theorem d_PF_put_1 : decode b_PF_put 1 = .ok (.invokestatic 165, 3) := by decide +kernel
theorem d_PF_put_4 : decode b_PF_put 4 = .ok (.ifCond .ne 11, 3) := by decide +kernel
theorem d_PF_put_7 : decode b_PF_put 7 = .ok (.new 78, 3) := by decide +kernel
theorem d_PF_put_10 : decode b_PF_put 10 = .ok (.dup, 1) := by decide +kernel
theorem d_PF_put_11 : decode b_PF_put 11 = .ok (.invokespecial 80, 3) := by decide +kernel
theorem d_PF_put_14 : decode b_PF_put 14 = .ok (.athrow, 1) := by decide +kernel
theorem d_PF_put_15 : decode b_PF_put 15 = .ok (.aload_n 0, 1) := by decide +kernel
theorem d_PF_put_16 : decode b_PF_put 16 = .ok (.getfield 48, 3) := by decide +kernel
theorem d_PF_put_19 : decode b_PF_put 19 = .ok (.getfield 169, 3) := by decide +kernel
theorem d_PF_put_22 : decode b_PF_put 22 = .ok (.bipush 24, 2) := by decide +kernel
theorem d_PF_put_24 : decode b_PF_put 24 = .ok (.if_icmp .lt 11, 3) := by decide +kernel
theorem d_PF_put_27 : decode b_PF_put 27 = .ok (.new 170, 3) := by decide +kernel
theorem d_PF_put_30 : decode b_PF_put 30 = .ok (.dup, 1) := by decide +kernel
theorem d_PF_put_31 : decode b_PF_put 31 = .ok (.invokespecial 172, 3) := by decide +kernel
theorem d_PF_put_34 : decode b_PF_put 34 = .ok (.athrow, 1) := by decide +kernel
theorem d_PF_put_35 : decode b_PF_put 35 = .ok (.aload_n 0, 1) := by decide +kernel
theorem d_PF_put_36 : decode b_PF_put 36 = .ok (.getfield 48, 3) := by decide +kernel
theorem d_PF_put_39 : decode b_PF_put 39 = .ok (.iload_n 1, 1) := by decide +kernel
theorem d_PF_put_40 : decode b_PF_put 40 = .ok (.invokevirtual 173, 3) := by decide +kernel
theorem d_PF_put_43 : decode b_PF_put 43 = .ok (.aload_n 0, 1) := by decide +kernel
theorem d_PF_put_44 : decode b_PF_put 44 = .ok (.getfield 48, 3) := by decide +kernel
theorem d_PF_put_47 : decode b_PF_put 47 = .ok (.getfield 169, 3) := by decide +kernel
theorem d_PF_put_50 : decode b_PF_put 50 = .ok (.ireturn, 1) := by decide +kernel
theorem ls_PF_165 : ab_ls "PolicyForge" 165 y_PF_isItem b_PF_isItem 1 (some FieldType.boolean) 1 := ⟨List.forall_mem_cons.mpr ⟨(ab_in 831 (by decide +kernel) (by decide +kernel)), List.forall_mem_cons.mpr ⟨(ab_in 832 (by decide +kernel) (by decide +kernel)), List.forall_mem_cons.mpr ⟨(ab_in 92 (by decide +kernel) (by decide +kernel)), List.forall_mem_cons.mpr ⟨(ab_in 833 (by decide +kernel) (by decide +kernel)), fun _ h => absurd h List.not_mem_nil⟩⟩⟩⟩, ⟨by decide +kernel, by decide +kernel, by decide +kernel⟩, by decide⟩
theorem ow_PF_170 : ab_own "PolicyForge" 170 172 "java/lang/IllegalStateException" ["java/lang/RuntimeException", "java/lang/Exception"] := ⟨⟨by decide +kernel, by decide +kernel⟩, List.forall_mem_cons.mpr ⟨(ab_in 834 (by decide +kernel) (by decide +kernel)), List.forall_mem_cons.mpr ⟨(ab_in 835 (by decide +kernel) (by decide +kernel)), List.forall_mem_cons.mpr ⟨(ab_in 113 (by decide +kernel) (by decide +kernel)), fun _ h => absurd h List.not_mem_nil⟩⟩⟩, by decide, by decide +kernel⟩
theorem lk_PF_173 : ab_lk "PolicyForge" 173 y_RW_add b_RW_add 2 none 1 4 := ⟨⟨rfl, T_RW, 4, rfl⟩, List.forall_mem_cons.mpr ⟨(ab_in 849 (by decide +kernel) (by decide +kernel)), List.forall_mem_cons.mpr ⟨(ab_in 669 (by decide +kernel) (by decide +kernel)), List.forall_mem_cons.mpr ⟨(ab_in 670 (by decide +kernel) (by decide +kernel)), List.forall_mem_cons.mpr ⟨(ab_in 96 (by decide +kernel) (by decide +kernel)), List.forall_mem_cons.mpr ⟨(ab_in 671 (by decide +kernel) (by decide +kernel)), fun _ h => absurd h List.not_mem_nil⟩⟩⟩⟩⟩, ⟨by decide +kernel, by decide +kernel, by decide +kernel⟩, by decide⟩
set_option maxRecDepth 100000 in
set_option maxHeartbeats 4000000 in
theorem c_PF_put (hfl : ab_fl0 l) (u : ab_S) (x : Int32) (n : Nat) (h0 : 0 < N 0) (h4 : 123 < N 4) (h8 : 123 < N 8) (e5 : u.2.1 0 0 5 = some (4, 123)) (ei : u.2.1 4 123 0 = some (8, 123)) (en : u.1 4 123 1 = nI n) (hn : n ≤ 40) : ab_CT l D ca y_PF_put b_PF_put 2 (some .int) 8 N u [ab_O 0 0, ab_I x] (fun u' v => ab_item x ∧ n < 24 ∧ u' = ab_ui (ab_ui (ab_ui u 8 123 n x) 4 123 1 (nI (n + 1))) 4 123 2 (u.1 4 123 2 + (if 20 ≤ x then 5 else if 10 ≤ x then 9 else 1)) ∧ v = some (ab_I (nI (n + 1)))) (fun u' E => u' = u ∧ ((E = ab_IAE ∧ ¬ ab_item x) ∨ (E = ab_ISE ∧ ab_item x ∧ 24 ≤ n))) := by
  refine ab_CT.of (by decide) (Nat.le_of_ble_eq_true rfl) ?_
  intro p e s m args below meth c ad X hZ hW0 hnh hr0 hlk
  refine ab_iload_n X 1 d_PF_put_0 rfl rfl ?_
  refine ab_callS (as := [ab_I x]) X (fun h => by cases h) (c_PF_isItem u x) ls_PF_165 d_PF_put_1 rfl rfl ⟨by first | exact Nat.le_of_ble_eq_true rfl | (simp only [ab_rm]; omega), by first | exact Nat.le_of_ble_eq_true rfl | (simp only [ab_rm]; omega)⟩ ⟨by first | exact Nat.le_of_ble_eq_true rfl | (simp only [ab_rm]; omega), by first | exact Nat.le_of_ble_eq_true rfl | (simp only [ab_rm]; omega)⟩ (Nat.le_of_ble_eq_true rfl) (fun u1 r1 h1 => ?_)
  obtain ⟨e1, hv⟩ := h1
  obtain rfl := e1.symm
  rcases hv with ⟨hi, rfl⟩ | ⟨hi, rfl⟩
  ·
    refine ab_if_ne X 15 d_PF_put_4 rfl (fun _ => ?_) (fun hb => absurd hb ((by decide)))
    by_cases h24 : n < 24
    ·
      refine ab_aload_n X 0 d_PF_put_15 rfl rfl ?_
      refine ab_gR X fl_PF_48 d_PF_put_16 (by first | assumption | decide) (e5) ?_
      refine ab_gI X fl_PF_169 d_PF_put_19 (by first | assumption | decide) (en) ?_
      refine ab_bipush (v := 24) X d_PF_put_22 (by decide) ?_
      refine ab_icmp_lt X 35 d_PF_put_24 rfl (fun _ => ?_) (fun hb => absurd ((show nI n < 24 from nI_lt (b := 24) h24 (by decide))) hb)
      refine ab_aload_n X 0 d_PF_put_35 rfl rfl ?_
      refine ab_gR X fl_PF_48 d_PF_put_36 (by first | assumption | decide) (e5) ?_
      refine ab_iload_n X 1 d_PF_put_39 rfl rfl ?_
      refine ab_callV (as := [ab_I x]) X (fun h => by cases h) (c_RW_add u 123 n x h4 h8 ei en (show n < 40 by omega)) lk_PF_173 d_PF_put_40 rfl rfl (by first | assumption | decide) ⟨by first | exact Nat.le_of_ble_eq_true rfl | (simp only [ab_rm]; omega), by first | exact Nat.le_of_ble_eq_true rfl | (simp only [ab_rm]; omega)⟩ ⟨by first | exact Nat.le_of_ble_eq_true rfl | (simp only [ab_rm]; omega), by first | exact Nat.le_of_ble_eq_true rfl | (simp only [ab_rm]; omega)⟩ (Nat.le_of_ble_eq_true rfl) (fun u40 r40 h40 => ?_)
      obtain ⟨rfl, rfl⟩ := h40
      refine ab_aload_n X 0 d_PF_put_43 rfl rfl ?_
      refine ab_gR X fl_PF_48 d_PF_put_44 (by first | assumption | decide) (e5) ?_
      refine ab_gI X fl_PF_169 d_PF_put_47 (by first | assumption | decide) (show _ = nI (n + 1) by simp [ab_up]) ?_
      exact ab_retTi X hr0 hlk d_PF_put_50 ⟨hi, h24, rfl, rfl⟩
    ·
      refine ab_aload_n X 0 d_PF_put_15 rfl rfl ?_
      refine ab_gR X fl_PF_48 d_PF_put_16 (by first | assumption | decide) (e5) ?_
      refine ab_gI X fl_PF_169 d_PF_put_19 (by first | assumption | decide) (en) ?_
      refine ab_bipush (v := 24) X d_PF_put_22 (by decide) ?_
      refine ab_icmp_lt X 35 d_PF_put_24 rfl (fun hb => absurd hb ((show ¬ nI n < 24 from nI_nlt (b := 24) (by omega) (by omega)))) (fun _ => ?_)
      exact ab_throw (cells := 0) (slots := 0) X hfl hZ hW0 hnh hlk ow_PF_170 d_PF_put_27 d_PF_put_30 d_PF_put_31 d_PF_put_34 ⟨Nat.le_of_ble_eq_true rfl, Nat.le_of_ble_eq_true rfl⟩ ⟨Nat.le_of_ble_eq_true rfl, Nat.le_of_ble_eq_true rfl⟩ ⟨rfl, Or.inr ⟨rfl, hi, by omega⟩⟩
  ·
    refine ab_if_ne X 15 d_PF_put_4 rfl (fun hb => absurd (rfl) hb) (fun _ => ?_)
    exact ab_throw (cells := 0) (slots := 0) X hfl hZ hW0 hnh hlk ow_PF_78 d_PF_put_7 d_PF_put_10 d_PF_put_11 d_PF_put_14 ⟨Nat.le_of_ble_eq_true rfl, Nat.le_of_ble_eq_true rfl⟩ ⟨Nat.le_of_ble_eq_true rfl, Nat.le_of_ble_eq_true rfl⟩ ⟨rfl, Or.inl ⟨rfl, hi⟩⟩
end AbThrows
end
section
/-! Text: typed by the class, taken by the reference. -/
def tb_b (x s : Int32) : Int32 := (x.toUInt32 >>> (s.toUInt32 &&& Int32.toUInt32 31)).toInt32 &&& 255
def tb_l (x : Int32) : List Int32 := [tb_b x 24, tb_b x 16, tb_b x 8, tb_b x 0]
theorem tb_sh (b : BitVec 32) (k : Nat) (hk : k ≤ 24) : b.sshiftRight k &&& 255#32 = (b >>> k) &&& 255#32 := by
  apply BitVec.eq_of_getLsbD_eq
  intro i hi
  simp only [BitVec.getLsbD_and, BitVec.getLsbD_sshiftRight, BitVec.getLsbD_ushiftRight]
  by_cases h8 : i < 8
  · have h1 : ¬ (32 ≤ i) := by omega
    have h2 : k + i < 32 := by omega
    simp [h1, h2]
  · have h3 : (255#32).getLsbD i = false := by
      rw [BitVec.getLsbD_ofNat]
      have h4 : Nat.testBit 255 i = false := Nat.testBit_lt_two_pow (Nat.lt_of_lt_of_le (show 255 < 2 ^ 8 by decide) (Nat.pow_le_pow_right (by decide) (by omega)))
      simp [h4]
    simp [h3]
theorem tb_s24 (x : Int32) : x >>> ((24 : Int32) &&& 31) &&& 255 = tb_b x 24 := Int32.toBitVec_inj.mp (tb_sh x.toBitVec 24 (by decide))
theorem tb_s16 (x : Int32) : x >>> ((16 : Int32) &&& 31) &&& 255 = tb_b x 16 := Int32.toBitVec_inj.mp (tb_sh x.toBitVec 16 (by decide))
theorem tb_s8 (x : Int32) : x >>> ((8 : Int32) &&& 31) &&& 255 = tb_b x 8 := Int32.toBitVec_inj.mp (tb_sh x.toBitVec 8 (by decide))
theorem tb_s0 (x : Int32) : x >>> ((0 : Int32) &&& 31) &&& 255 = tb_b x 0 := Int32.toBitVec_inj.mp (tb_sh x.toBitVec 0 (by decide))
def tc_v : Option Nat → Int32
  | none => -1
  | some k => nI k
def tc_st (u : ab_S) (o : Option Nat) (c : Int32) : ab_S × Option Nat := match o with
  | none => (u, none)
  | some k => if c = 0 then (u, some k) else if c < 33 ∨ 126 < c then (u, none) else (ab_ui u 11 0 k c, some (k + 1))
def tc_run (cs : List Int32) (q : ab_S × Option Nat) : ab_S × Option Nat := cs.foldl (fun q c => tc_st q.1 q.2 c) q
theorem tc_st0 {u : ab_S} {k : Nat} {c : Int32} (h : c = 0) : tc_st u (some k) c = (u, some k) := by show (if c = 0 then _ else _) = _; rw [if_pos h]
theorem tc_stb {u : ab_S} {k : Nat} {c : Int32} (h : ¬ c = 0) (hb : c < 33 ∨ 126 < c) : tc_st u (some k) c = (u, none) := by show (if c = 0 then _ else _) = _; rw [if_neg h, if_pos hb]
theorem tc_stg {u : ab_S} {k : Nat} {c : Int32} (h : ¬ c = 0) (hb : ¬ (c < 33 ∨ 126 < c)) : tc_st u (some k) c = (ab_ui u 11 0 k c, some (k + 1)) := by show (if c = 0 then _ else _) = _; rw [if_neg h, if_neg hb]
theorem tc_none (cs : List Int32) (u : ab_S) : tc_run cs (u, none) = (u, none) := by
  induction cs with
  | nil => rfl
  | cons c cs ih => exact ih
theorem tc_app (a b : List Int32) (q : ab_S × Option Nat) : tc_run (a ++ b) q = tc_run b (tc_run a q) := List.foldl_append
theorem tc_refs (cs : List Int32) : ∀ q : ab_S × Option Nat, (tc_run cs q).1.2 = q.1.2 := by
  induction cs with
  | nil => exact fun _ => rfl
  | cons c cs ih =>
    intro q
    refine (ih _).trans ?_
    obtain ⟨u, o⟩ := q
    cases o with
    | none => rfl
    | some k =>
      by_cases h : c = 0
      · show (tc_st u (some k) c).1.2 = u.2
        rw [tc_st0 h]
      · by_cases hb : c < 33 ∨ 126 < c
        · show (tc_st u (some k) c).1.2 = u.2
          rw [tc_stb h hb]
        · show (tc_st u (some k) c).1.2 = u.2
          rw [tc_stg h hb]
theorem tc_le (cs : List Int32) : ∀ (q : ab_S × Option Nat) (k : Nat), (tc_run cs q).2 = some k → ∃ j, q.2 = some j ∧ j ≤ k ∧ k ≤ j + cs.length := by
  induction cs with
  | nil => exact fun q k h => ⟨k, h, Nat.le_refl _, Nat.le_refl _⟩
  | cons c cs ih =>
    intro q k h
    obtain ⟨j, h1, h2, h3⟩ := ih _ k h
    obtain ⟨u, o⟩ := q
    cases o with
    | none => cases h1
    | some n =>
      refine ⟨n, rfl, ?_⟩
      have h1' : (tc_st u (some n) c).2 = some j := h1
      rw [List.length_cons]
      by_cases h : c = 0
      · rw [tc_st0 h] at h1'
        cases h1'
        omega
      · by_cases hb : c < 33 ∨ 126 < c
        · rw [tc_stb h hb] at h1'
          cases h1'
        · rw [tc_stg h hb] at h1'
          cases h1'
          omega
section AbText
variable {l : Launch} {D : va_G} {ca : Nat → ClassId} {N : Nat → Nat}
abbrev b_RD_typed : ByteArray := prog_6_method_2_code
def y_RD_typed : MethodName := ⟨"PolicyForge$Reader", "typed", "(II)I"⟩
theorem d_RD_typed_0 : decode b_RD_typed 0 = .ok (.iload_n 2, 1) := by decide +kernel
theorem d_RD_typed_1 : decode b_RD_typed 1 = .ok (.istore_n 3, 1) := by decide +kernel
theorem d_RD_typed_2 : decode b_RD_typed 2 = .ok (.bipush 24, 2) := by decide +kernel
theorem d_RD_typed_4 : decode b_RD_typed 4 = .ok (.istore 4, 2) := by decide +kernel
theorem d_RD_typed_6 : decode b_RD_typed 6 = .ok (.iload 4, 2) := by decide +kernel
theorem d_RD_typed_8 : decode b_RD_typed 8 = .ok (.ifCond .lt 67, 3) := by decide +kernel
theorem d_RD_typed_11 : decode b_RD_typed 11 = .ok (.iload_n 1, 1) := by decide +kernel
theorem d_RD_typed_12 : decode b_RD_typed 12 = .ok (.iload 4, 2) := by decide +kernel
theorem d_RD_typed_14 : decode b_RD_typed 14 = .ok (.iushr, 1) := by decide +kernel
theorem d_RD_typed_15 : decode b_RD_typed 15 = .ok (.sipush 255, 3) := by decide +kernel
theorem d_RD_typed_18 : decode b_RD_typed 18 = .ok (.iand, 1) := by decide +kernel
theorem d_RD_typed_19 : decode b_RD_typed 19 = .ok (.istore 5, 2) := by decide +kernel
theorem d_RD_typed_21 : decode b_RD_typed 21 = .ok (.iload_n 3, 1) := by decide +kernel
theorem d_RD_typed_22 : decode b_RD_typed 22 = .ok (.ifCond .lt 47, 3) := by decide +kernel
theorem d_RD_typed_25 : decode b_RD_typed 25 = .ok (.iload 5, 2) := by decide +kernel
theorem d_RD_typed_27 : decode b_RD_typed 27 = .ok (.ifCond .ne 6, 3) := by decide +kernel
theorem d_RD_typed_30 : decode b_RD_typed 30 = .ok (.goto 39, 3) := by decide +kernel
theorem d_RD_typed_33 : decode b_RD_typed 33 = .ok (.iload 5, 2) := by decide +kernel
theorem d_RD_typed_35 : decode b_RD_typed 35 = .ok (.bipush 33, 2) := by decide +kernel
theorem d_RD_typed_37 : decode b_RD_typed 37 = .ok (.if_icmp .lt 19, 3) := by decide +kernel
theorem d_RD_typed_40 : decode b_RD_typed 40 = .ok (.iload 5, 2) := by decide +kernel
theorem d_RD_typed_42 : decode b_RD_typed 42 = .ok (.bipush 126, 2) := by decide +kernel
theorem d_RD_typed_44 : decode b_RD_typed 44 = .ok (.if_icmp .gt 12, 3) := by decide +kernel
theorem d_RD_typed_47 : decode b_RD_typed 47 = .ok (.iload_n 3, 1) := by decide +kernel
theorem d_RD_typed_48 : decode b_RD_typed 48 = .ok (.aload_n 0, 1) := by decide +kernel
theorem d_RD_typed_49 : decode b_RD_typed 49 = .ok (.getfield 9, 3) := by decide +kernel
theorem d_RD_typed_52 : decode b_RD_typed 52 = .ok (.arraylength, 1) := by decide +kernel
theorem d_RD_typed_53 : decode b_RD_typed 53 = .ok (.if_icmp .lt 5, 3) := by decide +kernel
theorem d_RD_typed_56 : decode b_RD_typed 56 = .ok (.iconst (-1), 1) := by decide +kernel
theorem d_RD_typed_57 : decode b_RD_typed 57 = .ok (.ireturn, 1) := by decide +kernel
theorem d_RD_typed_58 : decode b_RD_typed 58 = .ok (.aload_n 0, 1) := by decide +kernel
theorem d_RD_typed_59 : decode b_RD_typed 59 = .ok (.getfield 9, 3) := by decide +kernel
theorem d_RD_typed_62 : decode b_RD_typed 62 = .ok (.iload_n 3, 1) := by decide +kernel
theorem d_RD_typed_63 : decode b_RD_typed 63 = .ok (.iload 5, 2) := by decide +kernel
theorem d_RD_typed_65 : decode b_RD_typed 65 = .ok (.iastore, 1) := by decide +kernel
theorem d_RD_typed_66 : decode b_RD_typed 66 = .ok (.iinc 3 1, 3) := by decide +kernel
theorem d_RD_typed_69 : decode b_RD_typed 69 = .ok (.iinc 4 (-8), 3) := by decide +kernel
theorem d_RD_typed_72 : decode b_RD_typed 72 = .ok (.goto (-66), 3) := by decide +kernel
theorem d_RD_typed_75 : decode b_RD_typed 75 = .ok (.iload_n 3, 1) := by decide +kernel
theorem d_RD_typed_76 : decode b_RD_typed 76 = .ok (.ireturn, 1) := by decide +kernel
theorem fl_RD_9 : ab_fl "PolicyForge$Reader" 9 1 0 1 := ⟨rfl, R_RD, T_RD, 8, rfl, uw_RD, by decide, rfl, (ab_in 243 (by decide +kernel) (by decide +kernel))⟩
set_option maxRecDepth 100000 in
set_option maxHeartbeats 4000000 in
theorem c_RD_typed (u : ab_S) (x : Int32) (o : Option Nat) (h1 : 0 < N 1) (h11 : 0 < N 11) (e0 : u.2.1 1 0 0 = some (11, 0)) (ho : ∀ k, o = some k → k + 4 ≤ 120) : ab_C false l D ca y_RD_typed b_RD_typed 6 (some .int) 0 N u [ab_O 1 0, ab_I x, ab_I (tc_v o)] (fun u' v => u' = (tc_run (tb_l x) (u, o)).1 ∧ v = some (ab_I (tc_v (tc_run (tb_l x) (u, o)).2))) := by
  refine ab_C.of (by decide) (Nat.le_of_ble_eq_true rfl) ?_
  intro p e s m args below meth c ad X hZ hr0 hlk
  have fin : ∀ (sh : Int32), sh < 0 → ∀ (u1 : ab_S) (o1 : Option Nat), tc_run [] (u1, o1) = tc_run (tb_l x) (u, o) → ab_J p l e (ab_rm 0 0 0) s m args below meth c (MQ below (ab_Q D ca ad N s.heap.size (fun u' v => u' = (tc_run (tb_l x) (u, o)).1 ∧ v = some (ab_I (tc_v (tc_run (tb_l x) (u, o)).2)))) args s 0 0 (ab_A ad N s.heap.size)) D ca (ab_A ad N s.heap.size) s.heap 6 0 0 ad N u1 6 [(4, ab_I sh), (3, ab_I (tc_v o1)), (0, ab_O 1 0), (1, ab_I x), (2, ab_I (tc_v o))] [] := by
    intro sh hs u1 o1 hq
    refine ab_iload X 0 d_RD_typed_6 rfl ?_
    refine ab_if_lt X 75 d_RD_typed_8 rfl (fun _ => ?_) (fun hb => absurd (hs) hb)
    refine ab_iload_n X 1 d_RD_typed_75 rfl rfl ?_
    exact ab_reti X hr0 hlk d_RD_typed_76 ⟨by rw [← hq]; rfl, by rw [← hq]; rfl⟩
  have stp : ∀ (sh : Int32) (cs : List Int32), ¬ sh < 0 → (∀ (u1 : ab_S) (o1 : Option Nat), tc_run cs (u1, o1) = tc_run (tb_l x) (u, o) → u1.2 = u.2 → (∀ k, o1 = some k → k + cs.length ≤ 120) → ab_J p l e (ab_rm 0 0 0) s m args below meth c (MQ below (ab_Q D ca ad N s.heap.size (fun u' v => u' = (tc_run (tb_l x) (u, o)).1 ∧ v = some (ab_I (tc_v (tc_run (tb_l x) (u, o)).2)))) args s 0 0 (ab_A ad N s.heap.size)) D ca (ab_A ad N s.heap.size) s.heap 6 0 0 ad N u1 6 [(4, ab_I (sh + Int32.ofInt (-8))), (3, ab_I (tc_v o1)), (0, ab_O 1 0), (1, ab_I x), (2, ab_I (tc_v o))] []) → ∀ (u1 : ab_S) (o1 : Option Nat), tc_run (tb_b x sh :: cs) (u1, o1) = tc_run (tb_l x) (u, o) → u1.2 = u.2 → (∀ k, o1 = some k → k + (cs.length + 1) ≤ 120) → ab_J p l e (ab_rm 0 0 0) s m args below meth c (MQ below (ab_Q D ca ad N s.heap.size (fun u' v => u' = (tc_run (tb_l x) (u, o)).1 ∧ v = some (ab_I (tc_v (tc_run (tb_l x) (u, o)).2)))) args s 0 0 (ab_A ad N s.heap.size)) D ca (ab_A ad N s.heap.size) s.heap 6 0 0 ad N u1 6 [(4, ab_I sh), (3, ab_I (tc_v o1)), (0, ab_O 1 0), (1, ab_I x), (2, ab_I (tc_v o))] [] := by
    intro sh cs hs ih u1 o1 hq hu hk
    have hT : tc_run cs (tc_st u1 o1 (tb_b x sh)) = tc_run (tb_l x) (u, o) := hq
    have e1 : u1.2.1 1 0 0 = some (11, 0) := by rw [hu]; exact e0
    cases o1 with
    | none =>
      refine ab_iload X 0 d_RD_typed_6 rfl ?_
      refine ab_if_lt X 75 d_RD_typed_8 rfl (fun hb => absurd hb (hs)) (fun _ => ?_)
      refine ab_iload_n X 3 d_RD_typed_11 rfl rfl ?_
      refine ab_iload X 0 d_RD_typed_12 rfl ?_
      refine ab_iushr X d_RD_typed_14 ?_
      refine ab_sipush (v := 255) X d_RD_typed_15 (by decide) ?_
      refine ab_iand X d_RD_typed_18 ?_
      refine ab_istore5 X 0 1 2 3 4 d_RD_typed_19 (by decide) rfl rfl rfl rfl rfl rfl rfl rfl rfl rfl ?_
      refine ab_iload_n X 2 d_RD_typed_21 rfl rfl ?_
      refine ab_if_lt X 69 d_RD_typed_22 rfl (fun _ => ?_) (fun hb => absurd ((by decide)) hb)
      refine ab_iinc5 X 1 0 2 3 4 5 d_RD_typed_69 rfl (by decide) rfl rfl rfl rfl rfl rfl rfl rfl rfl rfl ?_
      refine ab_goto X 6 d_RD_typed_72 rfl ?_
      refine ab_lv (List.forall_mem_cons.mpr ⟨List.mem_of_getElem? (i := 0) rfl, List.forall_mem_cons.mpr ⟨List.mem_of_getElem? (i := 2) rfl, List.forall_mem_cons.mpr ⟨List.mem_of_getElem? (i := 3) rfl, List.forall_mem_cons.mpr ⟨List.mem_of_getElem? (i := 4) rfl, List.forall_mem_cons.mpr ⟨List.mem_of_getElem? (i := 5) rfl, fun _ h => absurd h List.not_mem_nil⟩⟩⟩⟩⟩) ?_
      exact ih u1 none hT hu (fun k h => by cases h)
    | some k =>
      have hk1 := hk k rfl
      have bad : ∀ lv, tc_st u1 (some k) (tb_b x sh) = (u1, none) → ab_J p l e (ab_rm 0 0 0) s m args below meth c (MQ below (ab_Q D ca ad N s.heap.size (fun u' v => u' = (tc_run (tb_l x) (u, o)).1 ∧ v = some (ab_I (tc_v (tc_run (tb_l x) (u, o)).2)))) args s 0 0 (ab_A ad N s.heap.size)) D ca (ab_A ad N s.heap.size) s.heap 6 0 0 ad N u1 56 lv [] := by
        intro lv hz
        rw [hz, tc_none] at hT
        refine ab_iconst (v := (-1)) X d_RD_typed_56 (by decide) ?_
        exact ab_reti X hr0 hlk d_RD_typed_57 ⟨by rw [← hT], by rw [← hT]; rfl⟩
      by_cases c0 : tb_b x sh = 0
      · rw [tc_st0 c0] at hT
        refine ab_iload X 0 d_RD_typed_6 rfl ?_
        refine ab_if_lt X 75 d_RD_typed_8 rfl (fun hb => absurd hb (hs)) (fun _ => ?_)
        refine ab_iload_n X 3 d_RD_typed_11 rfl rfl ?_
        refine ab_iload X 0 d_RD_typed_12 rfl ?_
        refine ab_iushr X d_RD_typed_14 ?_
        refine ab_sipush (v := 255) X d_RD_typed_15 (by decide) ?_
        refine ab_iand X d_RD_typed_18 ?_
        refine ab_istore5 X 0 1 2 3 4 d_RD_typed_19 (by decide) rfl rfl rfl rfl rfl rfl rfl rfl rfl rfl ?_
        refine ab_iload_n X 2 d_RD_typed_21 rfl rfl ?_
        refine ab_if_lt X 69 d_RD_typed_22 rfl (fun hb => absurd hb ((nI_pos (show k < 2 ^ 31 by omega)))) (fun _ => ?_)
        refine ab_iload X 0 d_RD_typed_25 rfl ?_
        refine ab_if_ne X 33 d_RD_typed_27 rfl (fun hb => absurd (c0) hb) (fun _ => ?_)
        refine ab_goto X 69 d_RD_typed_30 rfl ?_
        refine ab_iinc5 X 1 0 2 3 4 5 d_RD_typed_69 rfl (by decide) rfl rfl rfl rfl rfl rfl rfl rfl rfl rfl ?_
        refine ab_goto X 6 d_RD_typed_72 rfl ?_
        refine ab_lv (List.forall_mem_cons.mpr ⟨List.mem_of_getElem? (i := 0) rfl, List.forall_mem_cons.mpr ⟨List.mem_of_getElem? (i := 2) rfl, List.forall_mem_cons.mpr ⟨List.mem_of_getElem? (i := 3) rfl, List.forall_mem_cons.mpr ⟨List.mem_of_getElem? (i := 4) rfl, List.forall_mem_cons.mpr ⟨List.mem_of_getElem? (i := 5) rfl, fun _ h => absurd h List.not_mem_nil⟩⟩⟩⟩⟩) ?_
        exact ih u1 (some k) hT hu (fun j h => by cases h; omega)
      · by_cases c33 : tb_b x sh < 33
        ·
          refine ab_iload X 0 d_RD_typed_6 rfl ?_
          refine ab_if_lt X 75 d_RD_typed_8 rfl (fun hb => absurd hb (hs)) (fun _ => ?_)
          refine ab_iload_n X 3 d_RD_typed_11 rfl rfl ?_
          refine ab_iload X 0 d_RD_typed_12 rfl ?_
          refine ab_iushr X d_RD_typed_14 ?_
          refine ab_sipush (v := 255) X d_RD_typed_15 (by decide) ?_
          refine ab_iand X d_RD_typed_18 ?_
          refine ab_istore5 X 0 1 2 3 4 d_RD_typed_19 (by decide) rfl rfl rfl rfl rfl rfl rfl rfl rfl rfl ?_
          refine ab_iload_n X 2 d_RD_typed_21 rfl rfl ?_
          refine ab_if_lt X 69 d_RD_typed_22 rfl (fun hb => absurd hb ((nI_pos (show k < 2 ^ 31 by omega)))) (fun _ => ?_)
          refine ab_iload X 0 d_RD_typed_25 rfl ?_
          refine ab_if_ne X 33 d_RD_typed_27 rfl (fun _ => ?_) (fun hb => absurd hb (c0))
          refine ab_iload X 0 d_RD_typed_33 rfl ?_
          refine ab_bipush (v := 33) X d_RD_typed_35 (by decide) ?_
          refine ab_icmp_lt X 56 d_RD_typed_37 rfl (fun _ => ?_) (fun hb => absurd (c33) hb)
          exact bad _ (tc_stb c0 (Or.inl c33))
        · by_cases c126 : 126 < tb_b x sh
          ·
            refine ab_iload X 0 d_RD_typed_6 rfl ?_
            refine ab_if_lt X 75 d_RD_typed_8 rfl (fun hb => absurd hb (hs)) (fun _ => ?_)
            refine ab_iload_n X 3 d_RD_typed_11 rfl rfl ?_
            refine ab_iload X 0 d_RD_typed_12 rfl ?_
            refine ab_iushr X d_RD_typed_14 ?_
            refine ab_sipush (v := 255) X d_RD_typed_15 (by decide) ?_
            refine ab_iand X d_RD_typed_18 ?_
            refine ab_istore5 X 0 1 2 3 4 d_RD_typed_19 (by decide) rfl rfl rfl rfl rfl rfl rfl rfl rfl rfl ?_
            refine ab_iload_n X 2 d_RD_typed_21 rfl rfl ?_
            refine ab_if_lt X 69 d_RD_typed_22 rfl (fun hb => absurd hb ((nI_pos (show k < 2 ^ 31 by omega)))) (fun _ => ?_)
            refine ab_iload X 0 d_RD_typed_25 rfl ?_
            refine ab_if_ne X 33 d_RD_typed_27 rfl (fun _ => ?_) (fun hb => absurd hb (c0))
            refine ab_iload X 0 d_RD_typed_33 rfl ?_
            refine ab_bipush (v := 33) X d_RD_typed_35 (by decide) ?_
            refine ab_icmp_lt X 56 d_RD_typed_37 rfl (fun hb => absurd hb (c33)) (fun _ => ?_)
            refine ab_iload X 0 d_RD_typed_40 rfl ?_
            refine ab_bipush (v := 126) X d_RD_typed_42 (by decide) ?_
            refine ab_icmp_gt X 56 d_RD_typed_44 rfl (fun _ => ?_) (fun hb => absurd (c126) hb)
            exact bad _ (tc_stb c0 (Or.inr c126))
          · have hb : ¬ (tb_b x sh < 33 ∨ 126 < tb_b x sh) := fun h => h.elim c33 c126
            rw [tc_stg c0 hb] at hT
            refine ab_iload X 0 d_RD_typed_6 rfl ?_
            refine ab_if_lt X 75 d_RD_typed_8 rfl (fun hb => absurd hb (hs)) (fun _ => ?_)
            refine ab_iload_n X 3 d_RD_typed_11 rfl rfl ?_
            refine ab_iload X 0 d_RD_typed_12 rfl ?_
            refine ab_iushr X d_RD_typed_14 ?_
            refine ab_sipush (v := 255) X d_RD_typed_15 (by decide) ?_
            refine ab_iand X d_RD_typed_18 ?_
            refine ab_istore5 X 0 1 2 3 4 d_RD_typed_19 (by decide) rfl rfl rfl rfl rfl rfl rfl rfl rfl rfl ?_
            refine ab_iload_n X 2 d_RD_typed_21 rfl rfl ?_
            refine ab_if_lt X 69 d_RD_typed_22 rfl (fun hb => absurd hb ((nI_pos (show k < 2 ^ 31 by omega)))) (fun _ => ?_)
            refine ab_iload X 0 d_RD_typed_25 rfl ?_
            refine ab_if_ne X 33 d_RD_typed_27 rfl (fun _ => ?_) (fun hb => absurd hb (c0))
            refine ab_iload X 0 d_RD_typed_33 rfl ?_
            refine ab_bipush (v := 33) X d_RD_typed_35 (by decide) ?_
            refine ab_icmp_lt X 56 d_RD_typed_37 rfl (fun hb => absurd hb (c33)) (fun _ => ?_)
            refine ab_iload X 0 d_RD_typed_40 rfl ?_
            refine ab_bipush (v := 126) X d_RD_typed_42 (by decide) ?_
            refine ab_icmp_gt X 56 d_RD_typed_44 rfl (fun hb => absurd hb (c126)) (fun _ => ?_)
            refine ab_iload_n X 2 d_RD_typed_47 rfl rfl ?_
            refine ab_aload_n X 3 d_RD_typed_48 rfl rfl ?_
            refine ab_gR X fl_RD_9 d_RD_typed_49 (by first | assumption | decide) (e1) ?_
            refine ab_alen X ⟨by decide, _, fun _ => rfl⟩ d_RD_typed_52 (by first | assumption | decide) (rfl) ?_
            refine ab_icmp_lt X 58 d_RD_typed_53 rfl (fun _ => ?_) (fun hb => absurd ((nI_lt (b := 120) (show k < 120 by omega) (by decide))) hb)
            refine ab_aload_n X 3 d_RD_typed_58 rfl rfl ?_
            refine ab_gR X fl_RD_9 d_RD_typed_59 (by first | assumption | decide) (e1) ?_
            refine ab_iload_n X 2 d_RD_typed_62 rfl rfl ?_
            refine ab_iload X 0 d_RD_typed_63 rfl ?_
            refine ab_iast X (k) ⟨rfl, rfl⟩ d_RD_typed_65 (by first | assumption | decide) (rfl) (show k < 120 by omega) (ab_ln_lt _ _) ?_
            refine ab_iinc5 X 2 0 1 3 4 5 d_RD_typed_66 rfl (by decide) rfl rfl rfl rfl rfl rfl rfl rfl rfl rfl ?_
            refine ab_iinc5 X 2 0 1 3 4 5 d_RD_typed_69 rfl (by decide) rfl rfl rfl rfl rfl rfl rfl rfl rfl rfl ?_
            refine ab_goto X 6 d_RD_typed_72 rfl ?_
            refine ab_lv (List.forall_mem_cons.mpr ⟨List.mem_of_getElem? (i := 0) rfl, List.forall_mem_cons.mpr ⟨List.mem_of_getElem? (i := 1) rfl, List.forall_mem_cons.mpr ⟨List.mem_of_getElem? (i := 3) rfl, List.forall_mem_cons.mpr ⟨List.mem_of_getElem? (i := 4) rfl, List.forall_mem_cons.mpr ⟨List.mem_of_getElem? (i := 5) rfl, fun _ h => absurd h List.not_mem_nil⟩⟩⟩⟩⟩) ?_
            have hi := ih (ab_ui u1 11 0 k (tb_b x sh)) (some (k + 1)) hT hu (fun j h => by cases h; omega)
            rw [show tc_v (some (k + 1)) = tc_v (some k) + Int32.ofInt 1 from nI_succ k] at hi
            exact hi
  refine ab_iload_n X 2 d_RD_typed_0 rfl rfl ?_
  refine ab_istore_n3 X 0 1 2 d_RD_typed_1 rfl (by decide) rfl rfl rfl rfl rfl rfl ?_
  refine ab_bipush (v := 24) X d_RD_typed_2 (by decide) ?_
  refine ab_istore4 X 0 1 2 3 d_RD_typed_4 (by decide) rfl rfl rfl rfl rfl rfl rfl rfl ?_
  refine stp 24 [tb_b x 16, tb_b x 8, tb_b x 0] (by decide) (fun u1 o1 q1 q2 q3 => ?_) u o rfl rfl (fun k h => ho k h)
  refine stp (24 + Int32.ofInt (-8)) [tb_b x 8, tb_b x 0] (by decide) (fun u2 o2 q4 q5 q6 => ?_) u1 o1 q1 q2 q3
  refine stp (24 + Int32.ofInt (-8) + Int32.ofInt (-8)) [tb_b x 0] (by decide) (fun u3 o3 q7 q8 q9 => ?_) u2 o2 q4 q5 q6
  refine stp (24 + Int32.ofInt (-8) + Int32.ofInt (-8) + Int32.ofInt (-8)) [] (by decide) (fun u4 o4 q10 q11 q12 => ?_) u3 o3 q7 q8 q9
  exact fin _ (by decide) u4 o4 q10
abbrev b_PF_text : ByteArray := prog_1_method_2_code
def y_PF_text : MethodName := ⟨"PolicyForge", "text", "(IIIII)Z"⟩
theorem d_PF_text_0 : decode b_PF_text 0 = .ok (.aload_n 0, 1) := by decide +kernel
theorem d_PF_text_1 : decode b_PF_text 1 = .ok (.getfield 12, 3) := by decide +kernel
theorem d_PF_text_4 : decode b_PF_text 4 = .ok (.iload_n 1, 1) := by decide +kernel
theorem d_PF_text_5 : decode b_PF_text 5 = .ok (.aload_n 0, 1) := by decide +kernel
theorem d_PF_text_6 : decode b_PF_text 6 = .ok (.getfield 12, 3) := by decide +kernel
theorem d_PF_text_9 : decode b_PF_text 9 = .ok (.getfield 65, 3) := by decide +kernel
theorem d_PF_text_12 : decode b_PF_text 12 = .ok (.invokevirtual 69, 3) := by decide +kernel
theorem d_PF_text_15 : decode b_PF_text 15 = .ok (.istore 6, 2) := by decide +kernel
theorem d_PF_text_17 : decode b_PF_text 17 = .ok (.aload_n 0, 1) := by decide +kernel
theorem d_PF_text_18 : decode b_PF_text 18 = .ok (.getfield 12, 3) := by decide +kernel
theorem d_PF_text_21 : decode b_PF_text 21 = .ok (.iload_n 2, 1) := by decide +kernel
theorem d_PF_text_22 : decode b_PF_text 22 = .ok (.iload 6, 2) := by decide +kernel
theorem d_PF_text_24 : decode b_PF_text 24 = .ok (.invokevirtual 69, 3) := by decide +kernel
theorem d_PF_text_27 : decode b_PF_text 27 = .ok (.istore 6, 2) := by decide +kernel
theorem d_PF_text_29 : decode b_PF_text 29 = .ok (.aload_n 0, 1) := by decide +kernel
theorem d_PF_text_30 : decode b_PF_text 30 = .ok (.getfield 12, 3) := by decide +kernel
theorem d_PF_text_33 : decode b_PF_text 33 = .ok (.iload_n 3, 1) := by decide +kernel
theorem d_PF_text_34 : decode b_PF_text 34 = .ok (.iload 6, 2) := by decide +kernel
theorem d_PF_text_36 : decode b_PF_text 36 = .ok (.invokevirtual 69, 3) := by decide +kernel
theorem d_PF_text_39 : decode b_PF_text 39 = .ok (.istore 6, 2) := by decide +kernel
theorem d_PF_text_41 : decode b_PF_text 41 = .ok (.aload_n 0, 1) := by decide +kernel
theorem d_PF_text_42 : decode b_PF_text 42 = .ok (.getfield 12, 3) := by decide +kernel
theorem d_PF_text_45 : decode b_PF_text 45 = .ok (.iload 4, 2) := by decide +kernel
theorem d_PF_text_47 : decode b_PF_text 47 = .ok (.iload 6, 2) := by decide +kernel
theorem d_PF_text_49 : decode b_PF_text 49 = .ok (.invokevirtual 69, 3) := by decide +kernel
theorem d_PF_text_52 : decode b_PF_text 52 = .ok (.istore 6, 2) := by decide +kernel
theorem d_PF_text_54 : decode b_PF_text 54 = .ok (.aload_n 0, 1) := by decide +kernel
theorem d_PF_text_55 : decode b_PF_text 55 = .ok (.getfield 12, 3) := by decide +kernel
theorem d_PF_text_58 : decode b_PF_text 58 = .ok (.iload 5, 2) := by decide +kernel
theorem d_PF_text_60 : decode b_PF_text 60 = .ok (.iload 6, 2) := by decide +kernel
theorem d_PF_text_62 : decode b_PF_text 62 = .ok (.invokevirtual 69, 3) := by decide +kernel
theorem d_PF_text_65 : decode b_PF_text 65 = .ok (.istore 6, 2) := by decide +kernel
theorem d_PF_text_67 : decode b_PF_text 67 = .ok (.iload 6, 2) := by decide +kernel
theorem d_PF_text_69 : decode b_PF_text 69 = .ok (.ifCond .lt 10, 3) := by decide +kernel
theorem d_PF_text_72 : decode b_PF_text 72 = .ok (.iload 6, 2) := by decide +kernel
theorem d_PF_text_74 : decode b_PF_text 74 = .ok (.bipush 100, 2) := by decide +kernel
theorem d_PF_text_76 : decode b_PF_text 76 = .ok (.if_icmp .le 5, 3) := by decide +kernel
theorem d_PF_text_79 : decode b_PF_text 79 = .ok (.iconst 0, 1) := by decide +kernel
theorem d_PF_text_80 : decode b_PF_text 80 = .ok (.ireturn, 1) := by decide +kernel
theorem d_PF_text_81 : decode b_PF_text 81 = .ok (.aload_n 0, 1) := by decide +kernel
theorem d_PF_text_82 : decode b_PF_text 82 = .ok (.getfield 12, 3) := by decide +kernel
theorem d_PF_text_85 : decode b_PF_text 85 = .ok (.iload 6, 2) := by decide +kernel
theorem d_PF_text_87 : decode b_PF_text 87 = .ok (.putfield 65, 3) := by decide +kernel
theorem d_PF_text_90 : decode b_PF_text 90 = .ok (.iconst 1, 1) := by decide +kernel
theorem d_PF_text_91 : decode b_PF_text 91 = .ok (.ireturn, 1) := by decide +kernel
theorem fl_PF_65 : ab_fl "PolicyForge" 65 1 3 0 := ⟨rfl, R_RD, T_RD, 8, rfl, uw_RD, by decide, rfl, (ab_in 248 (by decide +kernel) (by decide +kernel))⟩
theorem lk_PF_69 : ab_lk "PolicyForge" 69 y_RD_typed b_RD_typed 6 (some FieldType.int) 2 1 := ⟨⟨rfl, T_RD, 8, rfl⟩, List.forall_mem_cons.mpr ⟨(ab_in 384 (by decide +kernel) (by decide +kernel)), List.forall_mem_cons.mpr ⟨(ab_in 385 (by decide +kernel) (by decide +kernel)), List.forall_mem_cons.mpr ⟨(ab_in 386 (by decide +kernel) (by decide +kernel)), List.forall_mem_cons.mpr ⟨(ab_in 93 (by decide +kernel) (by decide +kernel)), List.forall_mem_cons.mpr ⟨(ab_in 387 (by decide +kernel) (by decide +kernel)), fun _ h => absurd h List.not_mem_nil⟩⟩⟩⟩⟩, ⟨by decide +kernel, by decide +kernel, by decide +kernel⟩, by decide⟩
theorem fp_PF_65 : ab_fp "PolicyForge" 65 1 3 0 .int := ⟨rfl, R_RD, T_RD, 8, t_RD, rfl, uw_RD, by decide, rfl, (ab_in 248 (by decide +kernel) (by decide +kernel)), t_RD_ok, n_RD, rfl, rfl⟩
/-- what text answers -/
def tx_a (o : Option Nat) : Bool := match o with
  | none => false
  | some k => decide (k ≤ 100)
def tx_s (q : ab_S × Option Nat) : ab_S := match q.2 with
  | none => q.1
  | some k => if k ≤ 100 then ab_ui q.1 1 0 3 (nI k) else q.1
set_option maxRecDepth 100000 in
set_option maxHeartbeats 4000000 in
theorem c_PF_text (u : ab_S) (x1 x2 x3 x4 x5 : Int32) (n : Nat) (hn : n ≤ 100) (h0 : 0 < N 0) (h1 : 0 < N 1) (h11 : 0 < N 11) (er : u.2.1 0 0 0 = some (1, 0)) (e0 : u.2.1 1 0 0 = some (11, 0)) (el : u.1 1 0 3 = nI n) : ab_C false l D ca y_PF_text b_PF_text 7 (some .boolean) 1 N u [ab_O 0 0, ab_I x1, ab_I x2, ab_I x3, ab_I x4, ab_I x5] (fun u' v => u' = tx_s (tc_run (tb_l x1 ++ (tb_l x2 ++ (tb_l x3 ++ (tb_l x4 ++ tb_l x5)))) (u, some n)) ∧ v = some (ab_I (if tx_a (tc_run (tb_l x1 ++ (tb_l x2 ++ (tb_l x3 ++ (tb_l x4 ++ tb_l x5)))) (u, some n)).2 = true then 1 else 0))) := by
  refine ab_C.of (by decide) (Nat.le_of_ble_eq_true rfl) ?_
  intro p e s m args below meth c ad X hZ hr0 hlk
  have l4 : ∀ x, (tb_l x).length = 4 := fun _ => rfl
  refine ab_aload_n X 0 d_PF_text_0 rfl rfl ?_
  refine ab_gR X fl_PF_12 d_PF_text_1 (by first | assumption | decide) (er) ?_
  refine ab_iload_n X 1 d_PF_text_4 rfl rfl ?_
  refine ab_aload_n X 0 d_PF_text_5 rfl rfl ?_
  refine ab_gR X fl_PF_12 d_PF_text_6 (by first | assumption | decide) (er) ?_
  refine ab_gI X fl_PF_65 d_PF_text_9 (by first | assumption | decide) (el) ?_
  refine ab_callV (as := [ab_I x1, ab_I (tc_v (some n))]) X (fun h => by cases h) (c_RD_typed u x1 (some n) h1 h11 e0 (fun k h => by cases h; omega)) lk_PF_69 d_PF_text_12 rfl rfl (by first | assumption | decide) ⟨by first | exact Nat.le_of_ble_eq_true rfl | (simp only [ab_rm]; omega), by first | exact Nat.le_of_ble_eq_true rfl | (simp only [ab_rm]; omega)⟩ ⟨by first | exact Nat.le_of_ble_eq_true rfl | (simp only [ab_rm]; omega), by first | exact Nat.le_of_ble_eq_true rfl | (simp only [ab_rm]; omega)⟩ (Nat.le_of_ble_eq_true rfl) (fun u12 r12 h12 => ?_)
  obtain ⟨rfl, rfl⟩ := h12
  refine ab_istore6 X 0 1 2 3 4 5 d_PF_text_15 (by decide) rfl rfl rfl rfl rfl rfl rfl rfl rfl rfl rfl rfl ?_
  have r1 : (tc_run (tb_l x1) (u, some n)).1.2 = u.2 := tc_refs _ _
  have k1 : ∀ k, (tc_run (tb_l x1) (u, some n)).2 = some k → k ≤ n + 4 := fun k h => by
    obtain ⟨j, a1, a2, a3⟩ := tc_le _ _ _ h
    cases a1
    exact a3
  have hF1 : tc_run (tb_l x2 ++ (tb_l x3 ++ (tb_l x4 ++ tb_l x5))) (tc_run (tb_l x1) (u, some n)) = (tc_run (tb_l x1 ++ (tb_l x2 ++ (tb_l x3 ++ (tb_l x4 ++ tb_l x5)))) (u, some n)) := (tc_app _ _ _).symm
  revert hF1 k1 r1
  generalize tc_run (tb_l x1) (u, some n) = F1
  intro r1 k1 hF1
  obtain ⟨u1, o1⟩ := F1
  dsimp only at r1 k1
  refine ab_aload_n X 1 d_PF_text_17 rfl rfl ?_
  refine ab_gR X fl_PF_12 d_PF_text_18 (by first | assumption | decide) ((show u1.2.1 0 0 0 = some (1, 0) by rw [r1]; exact er)) ?_
  refine ab_iload_n X 3 d_PF_text_21 rfl rfl ?_
  refine ab_iload X 0 d_PF_text_22 rfl ?_
  refine ab_callV (as := [ab_I x2, ab_I (tc_v o1)]) X (fun h => by cases h) (c_RD_typed u1 x2 o1 h1 h11 (by rw [r1]; exact e0) (fun k h => by have := k1 k h; omega)) lk_PF_69 d_PF_text_24 rfl rfl (by first | assumption | decide) ⟨by first | exact Nat.le_of_ble_eq_true rfl | (simp only [ab_rm]; omega), by first | exact Nat.le_of_ble_eq_true rfl | (simp only [ab_rm]; omega)⟩ ⟨by first | exact Nat.le_of_ble_eq_true rfl | (simp only [ab_rm]; omega), by first | exact Nat.le_of_ble_eq_true rfl | (simp only [ab_rm]; omega)⟩ (Nat.le_of_ble_eq_true rfl) (fun u24 r24 h24 => ?_)
  obtain ⟨rfl, rfl⟩ := h24
  refine ab_istore6 X 1 2 3 4 5 6 d_PF_text_27 (by decide) rfl rfl rfl rfl rfl rfl rfl rfl rfl rfl rfl rfl ?_
  have r2 : (tc_run (tb_l x2) (u1, o1)).1.2 = u.2 := (tc_refs _ _).trans r1
  have k2 : ∀ k, (tc_run (tb_l x2) (u1, o1)).2 = some k → k ≤ n + 8 := fun k h => by
    obtain ⟨j, a1, a2, a3⟩ := tc_le _ _ _ h
    have := k1 j a1
    rw [l4] at a3
    omega
  have hF2 : tc_run (tb_l x3 ++ (tb_l x4 ++ tb_l x5)) (tc_run (tb_l x2) (u1, o1)) = (tc_run (tb_l x1 ++ (tb_l x2 ++ (tb_l x3 ++ (tb_l x4 ++ tb_l x5)))) (u, some n)) := (tc_app _ _ _).symm.trans hF1
  revert hF2 k2 r2
  generalize tc_run (tb_l x2) (u1, o1) = F2
  intro r2 k2 hF2
  obtain ⟨u2, o2⟩ := F2
  dsimp only at r2 k2
  refine ab_aload_n X 1 d_PF_text_29 rfl rfl ?_
  refine ab_gR X fl_PF_12 d_PF_text_30 (by first | assumption | decide) ((show u2.2.1 0 0 0 = some (1, 0) by rw [r2]; exact er)) ?_
  refine ab_iload_n X 4 d_PF_text_33 rfl rfl ?_
  refine ab_iload X 0 d_PF_text_34 rfl ?_
  refine ab_callV (as := [ab_I x3, ab_I (tc_v o2)]) X (fun h => by cases h) (c_RD_typed u2 x3 o2 h1 h11 (by rw [r2]; exact e0) (fun k h => by have := k2 k h; omega)) lk_PF_69 d_PF_text_36 rfl rfl (by first | assumption | decide) ⟨by first | exact Nat.le_of_ble_eq_true rfl | (simp only [ab_rm]; omega), by first | exact Nat.le_of_ble_eq_true rfl | (simp only [ab_rm]; omega)⟩ ⟨by first | exact Nat.le_of_ble_eq_true rfl | (simp only [ab_rm]; omega), by first | exact Nat.le_of_ble_eq_true rfl | (simp only [ab_rm]; omega)⟩ (Nat.le_of_ble_eq_true rfl) (fun u36 r36 h36 => ?_)
  obtain ⟨rfl, rfl⟩ := h36
  refine ab_istore6 X 1 2 3 4 5 6 d_PF_text_39 (by decide) rfl rfl rfl rfl rfl rfl rfl rfl rfl rfl rfl rfl ?_
  have r3 : (tc_run (tb_l x3) (u2, o2)).1.2 = u.2 := (tc_refs _ _).trans r2
  have k3 : ∀ k, (tc_run (tb_l x3) (u2, o2)).2 = some k → k ≤ n + 12 := fun k h => by
    obtain ⟨j, a1, a2, a3⟩ := tc_le _ _ _ h
    have := k2 j a1
    rw [l4] at a3
    omega
  have hF3 : tc_run (tb_l x4 ++ tb_l x5) (tc_run (tb_l x3) (u2, o2)) = (tc_run (tb_l x1 ++ (tb_l x2 ++ (tb_l x3 ++ (tb_l x4 ++ tb_l x5)))) (u, some n)) := (tc_app _ _ _).symm.trans hF2
  revert hF3 k3 r3
  generalize tc_run (tb_l x3) (u2, o2) = F3
  intro r3 k3 hF3
  obtain ⟨u3, o3⟩ := F3
  dsimp only at r3 k3
  refine ab_aload_n X 1 d_PF_text_41 rfl rfl ?_
  refine ab_gR X fl_PF_12 d_PF_text_42 (by first | assumption | decide) ((show u3.2.1 0 0 0 = some (1, 0) by rw [r3]; exact er)) ?_
  refine ab_iload X 5 d_PF_text_45 rfl ?_
  refine ab_iload X 0 d_PF_text_47 rfl ?_
  refine ab_callV (as := [ab_I x4, ab_I (tc_v o3)]) X (fun h => by cases h) (c_RD_typed u3 x4 o3 h1 h11 (by rw [r3]; exact e0) (fun k h => by have := k3 k h; omega)) lk_PF_69 d_PF_text_49 rfl rfl (by first | assumption | decide) ⟨by first | exact Nat.le_of_ble_eq_true rfl | (simp only [ab_rm]; omega), by first | exact Nat.le_of_ble_eq_true rfl | (simp only [ab_rm]; omega)⟩ ⟨by first | exact Nat.le_of_ble_eq_true rfl | (simp only [ab_rm]; omega), by first | exact Nat.le_of_ble_eq_true rfl | (simp only [ab_rm]; omega)⟩ (Nat.le_of_ble_eq_true rfl) (fun u49 r49 h49 => ?_)
  obtain ⟨rfl, rfl⟩ := h49
  refine ab_istore6 X 1 2 3 4 5 6 d_PF_text_52 (by decide) rfl rfl rfl rfl rfl rfl rfl rfl rfl rfl rfl rfl ?_
  have r4 : (tc_run (tb_l x4) (u3, o3)).1.2 = u.2 := (tc_refs _ _).trans r3
  have k4 : ∀ k, (tc_run (tb_l x4) (u3, o3)).2 = some k → k ≤ n + 16 := fun k h => by
    obtain ⟨j, a1, a2, a3⟩ := tc_le _ _ _ h
    have := k3 j a1
    rw [l4] at a3
    omega
  have hF4 : tc_run (tb_l x5) (tc_run (tb_l x4) (u3, o3)) = (tc_run (tb_l x1 ++ (tb_l x2 ++ (tb_l x3 ++ (tb_l x4 ++ tb_l x5)))) (u, some n)) := (tc_app _ _ _).symm.trans hF3
  revert hF4 k4 r4
  generalize tc_run (tb_l x4) (u3, o3) = F4
  intro r4 k4 hF4
  obtain ⟨u4, o4⟩ := F4
  dsimp only at r4 k4
  refine ab_aload_n X 1 d_PF_text_54 rfl rfl ?_
  refine ab_gR X fl_PF_12 d_PF_text_55 (by first | assumption | decide) ((show u4.2.1 0 0 0 = some (1, 0) by rw [r4]; exact er)) ?_
  refine ab_iload X 6 d_PF_text_58 rfl ?_
  refine ab_iload X 0 d_PF_text_60 rfl ?_
  refine ab_callV (as := [ab_I x5, ab_I (tc_v o4)]) X (fun h => by cases h) (c_RD_typed u4 x5 o4 h1 h11 (by rw [r4]; exact e0) (fun k h => by have := k4 k h; omega)) lk_PF_69 d_PF_text_62 rfl rfl (by first | assumption | decide) ⟨by first | exact Nat.le_of_ble_eq_true rfl | (simp only [ab_rm]; omega), by first | exact Nat.le_of_ble_eq_true rfl | (simp only [ab_rm]; omega)⟩ ⟨by first | exact Nat.le_of_ble_eq_true rfl | (simp only [ab_rm]; omega), by first | exact Nat.le_of_ble_eq_true rfl | (simp only [ab_rm]; omega)⟩ (Nat.le_of_ble_eq_true rfl) (fun u62 r62 h62 => ?_)
  obtain ⟨rfl, rfl⟩ := h62
  refine ab_istore6 X 1 2 3 4 5 6 d_PF_text_65 (by decide) rfl rfl rfl rfl rfl rfl rfl rfl rfl rfl rfl rfl ?_
  have r5 : (tc_run (tb_l x5) (u4, o4)).1.2 = u.2 := (tc_refs _ _).trans r4
  have k5 : ∀ k, (tc_run (tb_l x5) (u4, o4)).2 = some k → k ≤ n + 20 := fun k h => by
    obtain ⟨j, a1, a2, a3⟩ := tc_le _ _ _ h
    have := k4 j a1
    rw [l4] at a3
    omega
  revert hF4 k5 r5
  generalize tc_run (tb_l x5) (u4, o4) = F5
  intro hF5 r5 k5
  rw [← hF5]
  obtain ⟨u5, o5⟩ := F5
  dsimp only at r5 k5
  cases o5 with
  | none =>
    refine ab_iload X 0 d_PF_text_67 rfl ?_
    refine ab_if_lt X 79 d_PF_text_69 rfl (fun _ => ?_) (fun hb => absurd ((show (-1 : Int32) < 0 by decide)) hb)
    refine ab_iconst (v := 0) X d_PF_text_79 (by decide) ?_
    exact ab_retz X hr0 hlk (Or.inl rfl) d_PF_text_80 ⟨rfl, rfl⟩
  | some k =>
    have hk := k5 k rfl
    by_cases hz : k ≤ 100
    ·
      refine ab_iload X 0 d_PF_text_67 rfl ?_
      refine ab_if_lt X 79 d_PF_text_69 rfl (fun hb => absurd hb ((nI_pos (show k < 2 ^ 31 by omega)))) (fun _ => ?_)
      refine ab_iload X 0 d_PF_text_72 rfl ?_
      refine ab_bipush (v := 100) X d_PF_text_74 (by decide) ?_
      refine ab_icmp_le X 81 d_PF_text_76 rfl (fun _ => ?_) (fun hb => absurd ((nI_le (b := 100) hz (by decide))) hb)
      refine ab_aload_n X 1 d_PF_text_81 rfl rfl ?_
      refine ab_gR X fl_PF_12 d_PF_text_82 (by first | assumption | decide) ((show u5.2.1 0 0 0 = some (1, 0) by rw [r5]; exact er)) ?_
      refine ab_iload X 0 d_PF_text_85 rfl ?_
      refine ab_putI X fp_PF_65 d_PF_text_87 (by first | assumption | decide) rfl rfl ?_
      refine ab_iconst (v := 1) X d_PF_text_90 (by decide) ?_
      exact ab_retz X hr0 hlk (Or.inr rfl) d_PF_text_91 ⟨by show _ = if k ≤ 100 then _ else _; rw [if_pos hz]; rfl, by simp [tx_a, hz]⟩
    ·
      refine ab_iload X 0 d_PF_text_67 rfl ?_
      refine ab_if_lt X 79 d_PF_text_69 rfl (fun hb => absurd hb ((nI_pos (show k < 2 ^ 31 by omega)))) (fun _ => ?_)
      refine ab_iload X 0 d_PF_text_72 rfl ?_
      refine ab_bipush (v := 100) X d_PF_text_74 (by decide) ?_
      refine ab_icmp_le X 81 d_PF_text_76 rfl (fun hb => absurd hb ((nI_ge (b := k) (a := 100) (by omega) (by omega)))) (fun _ => ?_)
      refine ab_iconst (v := 0) X d_PF_text_79 (by decide) ?_
      exact ab_retz X hr0 hlk (Or.inl rfl) d_PF_text_80 ⟨by show _ = if k ≤ 100 then _ else _; rw [if_neg hz], by simp [tx_a, hz]⟩
end AbText
end
section
/-! The reference's text, and that both answer alike. -/
def tm_st (q : ab_S × Nat × Bool) (c : Int32) : ab_S × Nat × Bool :=
  if c = 0 then q else if c < 33 ∨ 126 < c ∨ q.2.1 = 100 then (ab_ui q.1 17 0 42 1, q.2.1, true) else (ab_ui (ab_ui q.1 18 0 q.2.1 c) 17 0 41 (nI (q.2.1 + 1)), q.2.1 + 1, q.2.2)
def tm_run (cs : List Int32) (q : ab_S × Nat × Bool) : ab_S × Nat × Bool := cs.foldl tm_st q
def tm_z (b : Bool) : Int32 := if b = true then 1 else 0
/-- the state knows its letters and whether one was bad -/
def tm_ok (q : ab_S × Nat × Bool) : Prop := q.1.1 17 0 41 = nI q.2.1 ∧ q.1.1 17 0 42 = tm_z q.2.2 ∧ q.2.1 ≤ 100
theorem tm_st0 {q : ab_S × Nat × Bool} {c : Int32} (h : c = 0) : tm_st q c = q := if_pos h
theorem tm_stb {q : ab_S × Nat × Bool} {c : Int32} (h : ¬ c = 0) (hb : c < 33 ∨ 126 < c ∨ q.2.1 = 100) : tm_st q c = (ab_ui q.1 17 0 42 1, q.2.1, true) := by unfold tm_st; rw [if_neg h, if_pos hb]
theorem tm_stg {q : ab_S × Nat × Bool} {c : Int32} (h : ¬ c = 0) (hb : ¬ (c < 33 ∨ 126 < c ∨ q.2.1 = 100)) : tm_st q c = (ab_ui (ab_ui q.1 18 0 q.2.1 c) 17 0 41 (nI (q.2.1 + 1)), q.2.1 + 1, q.2.2) := by unfold tm_st; rw [if_neg h, if_neg hb]
theorem tm_st_ok {q : ab_S × Nat × Bool} {c : Int32} (hq : tm_ok q) : tm_ok (tm_st q c) ∧ (tm_st q c).1.2 = q.1.2 := by
  by_cases h : c = 0
  · rw [tm_st0 h]; exact ⟨hq, rfl⟩
  · by_cases hb : c < 33 ∨ 126 < c ∨ q.2.1 = 100
    · rw [tm_stb h hb]
      exact ⟨⟨by simpa [ab_up] using hq.1, by simp [ab_up, tm_z], hq.2.2⟩, rfl⟩
    · rw [tm_stg h hb]
      have : q.2.1 ≠ 100 := fun e => hb (Or.inr (Or.inr e))
      have h3 := hq.2.2
      exact ⟨⟨by simp [ab_up], by simpa [ab_up] using hq.2.1, by show q.2.1 + 1 ≤ 100; omega⟩, rfl⟩
theorem tm_run_ok (cs : List Int32) : ∀ q : ab_S × Nat × Bool, tm_ok q → tm_ok (tm_run cs q) ∧ (tm_run cs q).1.2 = q.1.2 := by
  induction cs with
  | nil => exact fun q h => ⟨h, rfl⟩
  | cons c cs ih =>
    intro q h
    have a := tm_st_ok (c := c) h
    have b := ih _ a.1
    exact ⟨b.1, b.2.trans a.2⟩
theorem tm_app (a b : List Int32) (q : ab_S × Nat × Bool) : tm_run (a ++ b) q = tm_run b (tm_run a q) := List.foldl_append
/-- how the two stand to each other -/
def tx_R (o : Option Nat) (k : Nat) (b : Bool) : Prop := match o with
  | none => b = true
  | some j => (j ≤ 100 ∧ k = j ∧ b = false) ∨ (100 < j ∧ b = true)
theorem tx_rel (cs : List Int32) : ∀ (q : ab_S × Option Nat) (r : ab_S × Nat × Bool), tx_R q.2 r.2.1 r.2.2 → tx_R (tc_run cs q).2 (tm_run cs r).2.1 (tm_run cs r).2.2 := by
  induction cs with
  | nil => exact fun q r h => h
  | cons c cs ih =>
    intro q r h
    refine ih (tc_st q.1 q.2 c) (tm_st r c) ?_
    obtain ⟨u, o⟩ := q
    obtain ⟨w, k, b⟩ := r
    dsimp only at h ⊢
    by_cases h0 : c = 0
    · rw [tm_st0 h0]
      cases o with
      | none => exact h
      | some j => rw [tc_st0 h0]; exact h
    · by_cases hb : c < 33 ∨ 126 < c ∨ k = 100
      · rw [tm_stb (q := (w, k, b)) h0 hb]
        cases o with
        | none => rfl
        | some j =>
          by_cases hb2 : c < 33 ∨ 126 < c
          · rw [tc_stb h0 hb2]; rfl
          · rw [tc_stg h0 hb2]
            have hk : k = 100 := hb.elim (fun z => absurd (Or.inl z) hb2) fun z => z.elim (fun z => absurd (Or.inr z) hb2) id
            refine Or.inr ⟨?_, rfl⟩
            rcases h with h | h
            · have := h.2.1; omega
            · have := h.1; omega
      · rw [tm_stg (q := (w, k, b)) h0 hb]
        have hb2 : ¬ (c < 33 ∨ 126 < c) := fun z => hb (z.imp id Or.inl)
        have hk : k ≠ 100 := fun z => hb (Or.inr (Or.inr z))
        cases o with
        | none => exact h
        | some j =>
          rw [tc_stg h0 hb2]
          rcases h with ⟨a1, a2, a3⟩ | ⟨a1, a2⟩
          · exact Or.inl ⟨by omega, by show k + 1 = j + 1; omega, a3⟩
          · exact Or.inr ⟨by omega, a2⟩
theorem tx_alike {o : Option Nat} {k : Nat} {b : Bool} (h : tx_R o k b) : tx_a o = !b := by
  cases o with
  | none =>
    have : b = true := h
    rw [this]; rfl
  | some j =>
    rcases h with ⟨a1, a2, a3⟩ | ⟨a1, a2⟩
    · rw [a3]; show decide (j ≤ 100) = true; exact decide_eq_true a1
    · rw [a2]; show decide (j ≤ 100) = false; exact decide_eq_false (by omega)
section AbMText
variable {l : Launch} {D : va_G} {ca : Nat → ClassId} {N : Nat → Nat}
abbrev b_MO_bytesOf : ByteArray := prog_10_method_55_code
def y_MO_bytesOf : MethodName := ⟨"PolicyForgeModel", "bytesOf", "(I)V"⟩
theorem d_MO_bytesOf_0 : decode b_MO_bytesOf 0 = .ok (.bipush 24, 2) := by decide +kernel
theorem d_MO_bytesOf_2 : decode b_MO_bytesOf 2 = .ok (.istore_n 2, 1) := by decide +kernel
theorem d_MO_bytesOf_3 : decode b_MO_bytesOf 3 = .ok (.iload_n 2, 1) := by decide +kernel
theorem d_MO_bytesOf_4 : decode b_MO_bytesOf 4 = .ok (.ifCond .lt 70, 3) := by decide +kernel
theorem d_MO_bytesOf_7 : decode b_MO_bytesOf 7 = .ok (.iload_n 1, 1) := by decide +kernel
theorem d_MO_bytesOf_8 : decode b_MO_bytesOf 8 = .ok (.iload_n 2, 1) := by decide +kernel
theorem d_MO_bytesOf_9 : decode b_MO_bytesOf 9 = .ok (.ishr, 1) := by decide +kernel
theorem d_MO_bytesOf_10 : decode b_MO_bytesOf 10 = .ok (.sipush 255, 3) := by decide +kernel
theorem d_MO_bytesOf_13 : decode b_MO_bytesOf 13 = .ok (.iand, 1) := by decide +kernel
theorem d_MO_bytesOf_14 : decode b_MO_bytesOf 14 = .ok (.istore_n 3, 1) := by decide +kernel
theorem d_MO_bytesOf_15 : decode b_MO_bytesOf 15 = .ok (.iload_n 3, 1) := by decide +kernel
theorem d_MO_bytesOf_16 : decode b_MO_bytesOf 16 = .ok (.ifCond .eq 52, 3) := by decide +kernel
theorem d_MO_bytesOf_19 : decode b_MO_bytesOf 19 = .ok (.iload_n 3, 1) := by decide +kernel
theorem d_MO_bytesOf_20 : decode b_MO_bytesOf 20 = .ok (.bipush 33, 2) := by decide +kernel
theorem d_MO_bytesOf_22 : decode b_MO_bytesOf 22 = .ok (.if_icmp .lt 18, 3) := by decide +kernel
theorem d_MO_bytesOf_25 : decode b_MO_bytesOf 25 = .ok (.iload_n 3, 1) := by decide +kernel
theorem d_MO_bytesOf_26 : decode b_MO_bytesOf 26 = .ok (.bipush 126, 2) := by decide +kernel
theorem d_MO_bytesOf_28 : decode b_MO_bytesOf 28 = .ok (.if_icmp .gt 12, 3) := by decide +kernel
theorem d_MO_bytesOf_31 : decode b_MO_bytesOf 31 = .ok (.aload_n 0, 1) := by decide +kernel
theorem d_MO_bytesOf_32 : decode b_MO_bytesOf 32 = .ok (.getfield 135, 3) := by decide +kernel
theorem d_MO_bytesOf_35 : decode b_MO_bytesOf 35 = .ok (.bipush 100, 2) := by decide +kernel
theorem d_MO_bytesOf_37 : decode b_MO_bytesOf 37 = .ok (.if_icmp .ne 11, 3) := by decide +kernel
theorem d_MO_bytesOf_40 : decode b_MO_bytesOf 40 = .ok (.aload_n 0, 1) := by decide +kernel
theorem d_MO_bytesOf_41 : decode b_MO_bytesOf 41 = .ok (.iconst 1, 1) := by decide +kernel
theorem d_MO_bytesOf_42 : decode b_MO_bytesOf 42 = .ok (.putfield 138, 3) := by decide +kernel
theorem d_MO_bytesOf_45 : decode b_MO_bytesOf 45 = .ok (.goto 23, 3) := by decide +kernel
theorem d_MO_bytesOf_48 : decode b_MO_bytesOf 48 = .ok (.aload_n 0, 1) := by decide +kernel
theorem d_MO_bytesOf_49 : decode b_MO_bytesOf 49 = .ok (.getfield 13, 3) := by decide +kernel
theorem d_MO_bytesOf_52 : decode b_MO_bytesOf 52 = .ok (.aload_n 0, 1) := by decide +kernel
theorem d_MO_bytesOf_53 : decode b_MO_bytesOf 53 = .ok (.getfield 135, 3) := by decide +kernel
theorem d_MO_bytesOf_56 : decode b_MO_bytesOf 56 = .ok (.iload_n 3, 1) := by decide +kernel
theorem d_MO_bytesOf_57 : decode b_MO_bytesOf 57 = .ok (.iastore, 1) := by decide +kernel
theorem d_MO_bytesOf_58 : decode b_MO_bytesOf 58 = .ok (.aload_n 0, 1) := by decide +kernel
theorem d_MO_bytesOf_59 : decode b_MO_bytesOf 59 = .ok (.dup, 1) := by decide +kernel
theorem d_MO_bytesOf_60 : decode b_MO_bytesOf 60 = .ok (.getfield 135, 3) := by decide +kernel
theorem d_MO_bytesOf_63 : decode b_MO_bytesOf 63 = .ok (.iconst 1, 1) := by decide +kernel
theorem d_MO_bytesOf_64 : decode b_MO_bytesOf 64 = .ok (.iadd, 1) := by decide +kernel
theorem d_MO_bytesOf_65 : decode b_MO_bytesOf 65 = .ok (.putfield 135, 3) := by decide +kernel
theorem d_MO_bytesOf_68 : decode b_MO_bytesOf 68 = .ok (.iinc 2 (-8), 3) := by decide +kernel
theorem d_MO_bytesOf_71 : decode b_MO_bytesOf 71 = .ok (.goto (-68), 3) := by decide +kernel
theorem d_MO_bytesOf_74 : decode b_MO_bytesOf 74 = .ok (.return_, 1) := by decide +kernel
theorem fl_MO_135 : ab_fl "PolicyForgeModel" 135 17 41 0 := ⟨rfl, R_MO, T_MO, 44, rfl, uw_MO, by decide, rfl, (ab_in 967 (by decide +kernel) (by decide +kernel))⟩
theorem fl_MO_13 : ab_fl "PolicyForgeModel" 13 17 1 1 := ⟨rfl, R_MO, T_MO, 44, rfl, uw_MO, by decide, rfl, (ab_in 927 (by decide +kernel) (by decide +kernel))⟩
set_option maxRecDepth 100000 in
set_option maxHeartbeats 4000000 in
theorem c_MO_bytesOf (q0 : ab_S × Nat × Bool) (x : Int32) (h17 : 0 < N 17) (h18 : 0 < N 18) (e0 : q0.1.2.1 17 0 1 = some (18, 0)) (hok : tm_ok q0) : ab_C false l D ca y_MO_bytesOf b_MO_bytesOf 4 none 0 N q0.1 [ab_O 17 0, ab_I x] (fun u' v => u' = (tm_run (tb_l x) q0).1 ∧ v = none) := by
  refine ab_C.of (by decide) (Nat.le_of_ble_eq_true rfl) ?_
  intro p e s m args below meth c ad X hZ hr0 hlk
  have fin : ∀ (sh : Int32), sh < 0 → ∀ q : ab_S × Nat × Bool, tm_run [] q = tm_run (tb_l x) q0 → ab_J p l e (ab_rm 0 0 0) s m args below meth c (MQ below (ab_Q D ca ad N s.heap.size (fun u' v => u' = (tm_run (tb_l x) q0).1 ∧ v = none)) args s 0 0 (ab_A ad N s.heap.size)) D ca (ab_A ad N s.heap.size) s.heap 4 0 0 ad N q.1 3 [(2, ab_I sh), (0, ab_O 17 0), (1, ab_I x)] [] := by
    intro sh hs q hq
    refine ab_iload_n X 0 d_MO_bytesOf_3 rfl rfl ?_
    refine ab_if_lt X 74 d_MO_bytesOf_4 rfl (fun _ => ?_) (fun hb => absurd (hs) hb)
    exact ab_retv X hr0 hlk d_MO_bytesOf_74 ⟨by rw [← hq]; rfl, rfl⟩
  have stp : ∀ (sh b : Int32) (cs : List Int32), ¬ sh < 0 → x >>> (sh &&& 31) &&& 255 = b → (∀ q : ab_S × Nat × Bool, tm_run cs q = tm_run (tb_l x) q0 → tm_ok q → q.1.2 = q0.1.2 → ab_J p l e (ab_rm 0 0 0) s m args below meth c (MQ below (ab_Q D ca ad N s.heap.size (fun u' v => u' = (tm_run (tb_l x) q0).1 ∧ v = none)) args s 0 0 (ab_A ad N s.heap.size)) D ca (ab_A ad N s.heap.size) s.heap 4 0 0 ad N q.1 3 [(2, ab_I (sh + Int32.ofInt (-8))), (0, ab_O 17 0), (1, ab_I x)] []) → ∀ q : ab_S × Nat × Bool, tm_run (b :: cs) q = tm_run (tb_l x) q0 → tm_ok q → q.1.2 = q0.1.2 → ab_J p l e (ab_rm 0 0 0) s m args below meth c (MQ below (ab_Q D ca ad N s.heap.size (fun u' v => u' = (tm_run (tb_l x) q0).1 ∧ v = none)) args s 0 0 (ab_A ad N s.heap.size)) D ca (ab_A ad N s.heap.size) s.heap 4 0 0 ad N q.1 3 [(2, ab_I sh), (0, ab_O 17 0), (1, ab_I x)] [] := by
    intro sh b cs hs hb ih q hq hk hu
    have hT : tm_run cs (tm_st q b) = tm_run (tb_l x) q0 := hq
    have hk2 := tm_st_ok (c := b) hk
    have ih2 := ih (tm_st q b) hT hk2.1 (hk2.2.trans hu)
    have e1 : q.1.2.1 17 0 1 = some (18, 0) := by rw [hu]; exact e0
    refine ab_iload_n X 0 d_MO_bytesOf_3 rfl rfl ?_
    refine ab_if_lt X 74 d_MO_bytesOf_4 rfl (fun hb => absurd hb (hs)) (fun _ => ?_)
    refine ab_iload_n X 2 d_MO_bytesOf_7 rfl rfl ?_
    refine ab_iload_n X 0 d_MO_bytesOf_8 rfl rfl ?_
    refine ab_ishr X d_MO_bytesOf_9 ?_
    refine ab_sipush (v := 255) X d_MO_bytesOf_10 (by decide) ?_
    refine ab_iand X d_MO_bytesOf_13 ?_
    refine ab_top hb ?_
    have h3 := hk.2.2
    have bad : (b < 33 ∨ 126 < b ∨ q.2.1 = 100) → ¬ b = 0 → ab_J p l e (ab_rm 0 0 0) s m args below meth c (MQ below (ab_Q D ca ad N s.heap.size (fun u' v => u' = (tm_run (tb_l x) q0).1 ∧ v = none)) args s 0 0 (ab_A ad N s.heap.size)) D ca (ab_A ad N s.heap.size) s.heap 4 0 0 ad N q.1 40 [(3, ab_I b), (2, ab_I sh), (0, ab_O 17 0), (1, ab_I x)] [] := by
      intro hc h0
      rw [tm_stb h0 hc] at ih2
      refine ab_aload_n X 2 d_MO_bytesOf_40 rfl rfl ?_
      refine ab_iconst (v := 1) X d_MO_bytesOf_41 (by decide) ?_
      refine ab_putI X fp_MO_138 d_MO_bytesOf_42 (by first | assumption | decide) rfl rfl ?_
      refine ab_goto X 68 d_MO_bytesOf_45 rfl ?_
      refine ab_iinc3 X 1 0 2 3 d_MO_bytesOf_68 rfl (by decide) rfl rfl rfl rfl rfl rfl ?_
      refine ab_goto X 3 d_MO_bytesOf_71 rfl ?_
      refine ab_lv (List.forall_mem_cons.mpr ⟨List.mem_of_getElem? (i := 0) rfl, List.forall_mem_cons.mpr ⟨List.mem_of_getElem? (i := 2) rfl, List.forall_mem_cons.mpr ⟨List.mem_of_getElem? (i := 3) rfl, fun _ h => absurd h List.not_mem_nil⟩⟩⟩) ?_
      exact ih2
    by_cases c0 : b = 0
    · rw [tm_st0 c0] at ih2
      refine ab_istore_n3 X 0 1 2 d_MO_bytesOf_14 rfl (by decide) rfl rfl rfl rfl rfl rfl ?_
      refine ab_iload_n X 0 d_MO_bytesOf_15 rfl rfl ?_
      refine ab_if_eq X 68 d_MO_bytesOf_16 rfl (fun _ => ?_) (fun hb => absurd (c0) hb)
      refine ab_iinc3 X 1 0 2 3 d_MO_bytesOf_68 rfl (by decide) rfl rfl rfl rfl rfl rfl ?_
      refine ab_goto X 3 d_MO_bytesOf_71 rfl ?_
      refine ab_lv (List.forall_mem_cons.mpr ⟨List.mem_of_getElem? (i := 0) rfl, List.forall_mem_cons.mpr ⟨List.mem_of_getElem? (i := 2) rfl, List.forall_mem_cons.mpr ⟨List.mem_of_getElem? (i := 3) rfl, fun _ h => absurd h List.not_mem_nil⟩⟩⟩) ?_
      exact ih2
    · by_cases c33 : b < 33
      ·
        refine ab_istore_n3 X 0 1 2 d_MO_bytesOf_14 rfl (by decide) rfl rfl rfl rfl rfl rfl ?_
        refine ab_iload_n X 0 d_MO_bytesOf_15 rfl rfl ?_
        refine ab_if_eq X 68 d_MO_bytesOf_16 rfl (fun hb => absurd hb (c0)) (fun _ => ?_)
        refine ab_iload_n X 0 d_MO_bytesOf_19 rfl rfl ?_
        refine ab_bipush (v := 33) X d_MO_bytesOf_20 (by decide) ?_
        refine ab_icmp_lt X 40 d_MO_bytesOf_22 rfl (fun _ => ?_) (fun hb => absurd (c33) hb)
        exact bad (Or.inl c33) c0
      · by_cases c126 : 126 < b
        ·
          refine ab_istore_n3 X 0 1 2 d_MO_bytesOf_14 rfl (by decide) rfl rfl rfl rfl rfl rfl ?_
          refine ab_iload_n X 0 d_MO_bytesOf_15 rfl rfl ?_
          refine ab_if_eq X 68 d_MO_bytesOf_16 rfl (fun hb => absurd hb (c0)) (fun _ => ?_)
          refine ab_iload_n X 0 d_MO_bytesOf_19 rfl rfl ?_
          refine ab_bipush (v := 33) X d_MO_bytesOf_20 (by decide) ?_
          refine ab_icmp_lt X 40 d_MO_bytesOf_22 rfl (fun hb => absurd hb (c33)) (fun _ => ?_)
          refine ab_iload_n X 0 d_MO_bytesOf_25 rfl rfl ?_
          refine ab_bipush (v := 126) X d_MO_bytesOf_26 (by decide) ?_
          refine ab_icmp_gt X 40 d_MO_bytesOf_28 rfl (fun _ => ?_) (fun hb => absurd (c126) hb)
          exact bad (Or.inr (Or.inl c126)) c0
        · by_cases ck : q.2.1 = 100
          ·
            refine ab_istore_n3 X 0 1 2 d_MO_bytesOf_14 rfl (by decide) rfl rfl rfl rfl rfl rfl ?_
            refine ab_iload_n X 0 d_MO_bytesOf_15 rfl rfl ?_
            refine ab_if_eq X 68 d_MO_bytesOf_16 rfl (fun hb => absurd hb (c0)) (fun _ => ?_)
            refine ab_iload_n X 0 d_MO_bytesOf_19 rfl rfl ?_
            refine ab_bipush (v := 33) X d_MO_bytesOf_20 (by decide) ?_
            refine ab_icmp_lt X 40 d_MO_bytesOf_22 rfl (fun hb => absurd hb (c33)) (fun _ => ?_)
            refine ab_iload_n X 0 d_MO_bytesOf_25 rfl rfl ?_
            refine ab_bipush (v := 126) X d_MO_bytesOf_26 (by decide) ?_
            refine ab_icmp_gt X 40 d_MO_bytesOf_28 rfl (fun hb => absurd hb (c126)) (fun _ => ?_)
            refine ab_aload_n X 2 d_MO_bytesOf_31 rfl rfl ?_
            refine ab_gI X fl_MO_135 d_MO_bytesOf_32 (by first | assumption | decide) (hk.1) ?_
            refine ab_bipush (v := 100) X d_MO_bytesOf_35 (by decide) ?_
            refine ab_icmp_ne X 48 d_MO_bytesOf_37 rfl (fun hb => absurd ((by rw [ck]; rfl)) hb) (fun _ => ?_)
            exact bad (Or.inr (Or.inr ck)) c0
          · have hg : ¬ (b < 33 ∨ 126 < b ∨ q.2.1 = 100) := fun h => h.elim c33 fun h => h.elim c126 ck
            rw [tm_stg c0 hg] at ih2
            refine ab_istore_n3 X 0 1 2 d_MO_bytesOf_14 rfl (by decide) rfl rfl rfl rfl rfl rfl ?_
            refine ab_iload_n X 0 d_MO_bytesOf_15 rfl rfl ?_
            refine ab_if_eq X 68 d_MO_bytesOf_16 rfl (fun hb => absurd hb (c0)) (fun _ => ?_)
            refine ab_iload_n X 0 d_MO_bytesOf_19 rfl rfl ?_
            refine ab_bipush (v := 33) X d_MO_bytesOf_20 (by decide) ?_
            refine ab_icmp_lt X 40 d_MO_bytesOf_22 rfl (fun hb => absurd hb (c33)) (fun _ => ?_)
            refine ab_iload_n X 0 d_MO_bytesOf_25 rfl rfl ?_
            refine ab_bipush (v := 126) X d_MO_bytesOf_26 (by decide) ?_
            refine ab_icmp_gt X 40 d_MO_bytesOf_28 rfl (fun hb => absurd hb (c126)) (fun _ => ?_)
            refine ab_aload_n X 2 d_MO_bytesOf_31 rfl rfl ?_
            refine ab_gI X fl_MO_135 d_MO_bytesOf_32 (by first | assumption | decide) (hk.1) ?_
            refine ab_bipush (v := 100) X d_MO_bytesOf_35 (by decide) ?_
            refine ab_icmp_ne X 48 d_MO_bytesOf_37 rfl (fun _ => ?_) (fun hb => absurd hb ((fun h => ck ((nI_eq (b := 100) (by omega) (by decide)).mp h))))
            refine ab_aload_n X 2 d_MO_bytesOf_48 rfl rfl ?_
            refine ab_gR X fl_MO_13 d_MO_bytesOf_49 (by first | assumption | decide) (e1) ?_
            refine ab_aload_n X 2 d_MO_bytesOf_52 rfl rfl ?_
            refine ab_gI X fl_MO_135 d_MO_bytesOf_53 (by first | assumption | decide) (hk.1) ?_
            refine ab_iload_n X 0 d_MO_bytesOf_56 rfl rfl ?_
            refine ab_iast X (q.2.1) ⟨rfl, rfl⟩ d_MO_bytesOf_57 (by first | assumption | decide) (rfl) (show q.2.1 < 100 by omega) (ab_ln_lt _ _) ?_
            refine ab_aload_n X 2 d_MO_bytesOf_58 rfl rfl ?_
            refine ab_dup X d_MO_bytesOf_59 rfl ?_
            refine ab_gI X fl_MO_135 d_MO_bytesOf_60 (by first | assumption | decide) ((show _ = nI q.2.1 by simpa [ab_up] using hk.1)) ?_
            refine ab_iconst (v := 1) X d_MO_bytesOf_63 (by decide) ?_
            refine ab_iadd X d_MO_bytesOf_64 ?_
            refine ab_top (nI_1 _) ?_
            refine ab_putI X fp_MO_135 d_MO_bytesOf_65 (by first | assumption | decide) rfl rfl ?_
            refine ab_iinc3 X 1 0 2 3 d_MO_bytesOf_68 rfl (by decide) rfl rfl rfl rfl rfl rfl ?_
            refine ab_goto X 3 d_MO_bytesOf_71 rfl ?_
            refine ab_lv (List.forall_mem_cons.mpr ⟨List.mem_of_getElem? (i := 0) rfl, List.forall_mem_cons.mpr ⟨List.mem_of_getElem? (i := 2) rfl, List.forall_mem_cons.mpr ⟨List.mem_of_getElem? (i := 3) rfl, fun _ h => absurd h List.not_mem_nil⟩⟩⟩) ?_
            exact ih2
  refine ab_bipush (v := 24) X d_MO_bytesOf_0 (by decide) ?_
  refine ab_istore_n2 X 0 1 d_MO_bytesOf_2 rfl (by decide) rfl rfl rfl rfl ?_
  refine stp 24 (tb_b x 24) [tb_b x 16, tb_b x 8, tb_b x 0] (by decide) (tb_s24 x) (fun q1 a1 b1 d1 => ?_) q0 rfl hok rfl
  refine stp (24 + Int32.ofInt (-8)) (tb_b x 16) [tb_b x 8, tb_b x 0] (by decide) (by rw [show (24 + Int32.ofInt (-8) : Int32) = 16 by decide]; exact tb_s16 x) (fun q2 a2 b2 d2 => ?_) q1 a1 b1 d1
  refine stp (24 + Int32.ofInt (-8) + Int32.ofInt (-8)) (tb_b x 8) [tb_b x 0] (by decide) (by rw [show (24 + Int32.ofInt (-8) + Int32.ofInt (-8) : Int32) = 8 by decide]; exact tb_s8 x) (fun q3 a3 b3 d3 => ?_) q2 a2 b2 d2
  refine stp (24 + Int32.ofInt (-8) + Int32.ofInt (-8) + Int32.ofInt (-8)) (tb_b x 0) [] (by decide) (by rw [show (24 + Int32.ofInt (-8) + Int32.ofInt (-8) + Int32.ofInt (-8) : Int32) = 0 by decide]; exact tb_s0 x) (fun q4 a4 b4 d4 => ?_) q3 a3 b3 d3
  exact fin _ (by decide) q4 a4
abbrev b_MO_text : ByteArray := prog_10_method_56_code
def y_MO_text : MethodName := ⟨"PolicyForgeModel", "text", "(IIIII)Z"⟩
theorem d_MO_text_0 : decode b_MO_text 0 = .ok (.aload_n 0, 1) := by decide +kernel
theorem d_MO_text_1 : decode b_MO_text 1 = .ok (.iconst 0, 1) := by decide +kernel
theorem d_MO_text_2 : decode b_MO_text 2 = .ok (.putfield 7, 3) := by decide +kernel
theorem d_MO_text_5 : decode b_MO_text 5 = .ok (.aload_n 0, 1) := by decide +kernel
theorem d_MO_text_6 : decode b_MO_text 6 = .ok (.aload_n 0, 1) := by decide +kernel
theorem d_MO_text_7 : decode b_MO_text 7 = .ok (.getfield 17, 3) := by decide +kernel
theorem d_MO_text_10 : decode b_MO_text 10 = .ok (.putfield 135, 3) := by decide +kernel
theorem d_MO_text_13 : decode b_MO_text 13 = .ok (.aload_n 0, 1) := by decide +kernel
theorem d_MO_text_14 : decode b_MO_text 14 = .ok (.iconst 0, 1) := by decide +kernel
theorem d_MO_text_15 : decode b_MO_text 15 = .ok (.putfield 138, 3) := by decide +kernel
theorem d_MO_text_18 : decode b_MO_text 18 = .ok (.aload_n 0, 1) := by decide +kernel
theorem d_MO_text_19 : decode b_MO_text 19 = .ok (.iload_n 1, 1) := by decide +kernel
theorem d_MO_text_20 : decode b_MO_text 20 = .ok (.invokevirtual 310, 3) := by decide +kernel
theorem d_MO_text_23 : decode b_MO_text 23 = .ok (.aload_n 0, 1) := by decide +kernel
theorem d_MO_text_24 : decode b_MO_text 24 = .ok (.iload_n 2, 1) := by decide +kernel
theorem d_MO_text_25 : decode b_MO_text 25 = .ok (.invokevirtual 310, 3) := by decide +kernel
theorem d_MO_text_28 : decode b_MO_text 28 = .ok (.aload_n 0, 1) := by decide +kernel
theorem d_MO_text_29 : decode b_MO_text 29 = .ok (.iload_n 3, 1) := by decide +kernel
theorem d_MO_text_30 : decode b_MO_text 30 = .ok (.invokevirtual 310, 3) := by decide +kernel
theorem d_MO_text_33 : decode b_MO_text 33 = .ok (.aload_n 0, 1) := by decide +kernel
theorem d_MO_text_34 : decode b_MO_text 34 = .ok (.iload 4, 2) := by decide +kernel
theorem d_MO_text_36 : decode b_MO_text 36 = .ok (.invokevirtual 310, 3) := by decide +kernel
theorem d_MO_text_39 : decode b_MO_text 39 = .ok (.aload_n 0, 1) := by decide +kernel
theorem d_MO_text_40 : decode b_MO_text 40 = .ok (.iload 5, 2) := by decide +kernel
theorem d_MO_text_42 : decode b_MO_text 42 = .ok (.invokevirtual 310, 3) := by decide +kernel
theorem d_MO_text_45 : decode b_MO_text 45 = .ok (.aload_n 0, 1) := by decide +kernel
theorem d_MO_text_46 : decode b_MO_text 46 = .ok (.getfield 138, 3) := by decide +kernel
theorem d_MO_text_49 : decode b_MO_text 49 = .ok (.ifCond .eq 5, 3) := by decide +kernel
theorem d_MO_text_52 : decode b_MO_text 52 = .ok (.iconst 0, 1) := by decide +kernel
theorem d_MO_text_53 : decode b_MO_text 53 = .ok (.ireturn, 1) := by decide +kernel
theorem d_MO_text_54 : decode b_MO_text 54 = .ok (.aload_n 0, 1) := by decide +kernel
theorem d_MO_text_55 : decode b_MO_text 55 = .ok (.aload_n 0, 1) := by decide +kernel
theorem d_MO_text_56 : decode b_MO_text 56 = .ok (.getfield 135, 3) := by decide +kernel
theorem d_MO_text_59 : decode b_MO_text 59 = .ok (.putfield 17, 3) := by decide +kernel
theorem d_MO_text_62 : decode b_MO_text 62 = .ok (.iconst 1, 1) := by decide +kernel
theorem d_MO_text_63 : decode b_MO_text 63 = .ok (.ireturn, 1) := by decide +kernel
theorem fl_MO_17 : ab_fl "PolicyForgeModel" 17 17 2 0 := ⟨rfl, R_MO, T_MO, 44, rfl, uw_MO, by decide, rfl, (ab_in 928 (by decide +kernel) (by decide +kernel))⟩
theorem lk_MO_310 : ab_lk "PolicyForgeModel" 310 y_MO_bytesOf b_MO_bytesOf 4 none 1 17 := ⟨⟨rfl, T_MO, 44, rfl⟩, List.forall_mem_cons.mpr ⟨(ab_in 1064 (by decide +kernel) (by decide +kernel)), List.forall_mem_cons.mpr ⟨(ab_in 1066 (by decide +kernel) (by decide +kernel)), List.forall_mem_cons.mpr ⟨(ab_in 45 (by decide +kernel) (by decide +kernel)), List.forall_mem_cons.mpr ⟨(ab_in 100 (by decide +kernel) (by decide +kernel)), List.forall_mem_cons.mpr ⟨(ab_in 1067 (by decide +kernel) (by decide +kernel)), fun _ h => absurd h List.not_mem_nil⟩⟩⟩⟩⟩, ⟨by decide +kernel, by decide +kernel, by decide +kernel⟩, by decide⟩
theorem fl_MO_138 : ab_fl "PolicyForgeModel" 138 17 42 0 := ⟨rfl, R_MO, T_MO, 44, rfl, uw_MO, by decide, rfl, (ab_in 968 (by decide +kernel) (by decide +kernel))⟩
/-- what the reference's text leaves -/
def tm_s (q : ab_S × Nat × Bool) : ab_S := if q.2.2 = true then q.1 else ab_ui q.1 17 0 2 (nI q.2.1)
set_option maxRecDepth 100000 in
set_option maxHeartbeats 4000000 in
theorem c_MO_text (u : ab_S) (x1 x2 x3 x4 x5 : Int32) (n : Nat) (hn : n ≤ 100) (h17 : 0 < N 17) (h18 : 0 < N 18) (e0 : u.2.1 17 0 1 = some (18, 0)) (el : u.1 17 0 2 = nI n) : ab_C false l D ca y_MO_text b_MO_text 6 (some .boolean) 1 N u [ab_O 17 0, ab_I x1, ab_I x2, ab_I x3, ab_I x4, ab_I x5] (fun u' v => u' = tm_s (tm_run (tb_l x1 ++ (tb_l x2 ++ (tb_l x3 ++ (tb_l x4 ++ tb_l x5)))) (ab_ui (ab_ui (ab_ui u 17 0 0 0) 17 0 41 (nI n)) 17 0 42 0, n, false)) ∧ v = some (ab_I (if (!((tm_run (tb_l x1 ++ (tb_l x2 ++ (tb_l x3 ++ (tb_l x4 ++ tb_l x5)))) (ab_ui (ab_ui (ab_ui u 17 0 0 0) 17 0 41 (nI n)) 17 0 42 0, n, false))).2.2) = true then 1 else 0))) := by
  refine ab_C.of (by decide) (Nat.le_of_ble_eq_true rfl) ?_
  intro p e s m args below meth c ad X hZ hr0 hlk
  refine ab_aload_n X 0 d_MO_text_0 rfl rfl ?_
  refine ab_iconst (v := 0) X d_MO_text_1 (by decide) ?_
  refine ab_putI X fp_MO_7 d_MO_text_2 (by first | assumption | decide) rfl rfl ?_
  refine ab_aload_n X 0 d_MO_text_5 rfl rfl ?_
  refine ab_aload_n X 0 d_MO_text_6 rfl rfl ?_
  refine ab_gI X fl_MO_17 d_MO_text_7 (by first | assumption | decide) ((show _ = nI n by simpa [ab_up] using el)) ?_
  refine ab_putI X fp_MO_135 d_MO_text_10 (by first | assumption | decide) rfl rfl ?_
  refine ab_aload_n X 0 d_MO_text_13 rfl rfl ?_
  refine ab_iconst (v := 0) X d_MO_text_14 (by decide) ?_
  refine ab_putI X fp_MO_138 d_MO_text_15 (by first | assumption | decide) rfl rfl ?_
  have hok0 : tm_ok (ab_ui (ab_ui (ab_ui u 17 0 0 0) 17 0 41 (nI n)) 17 0 42 0, n, false) := ⟨by simp [ab_up], by simp [ab_up, tm_z], hn⟩
  have hr00 : ((ab_ui (ab_ui (ab_ui u 17 0 0 0) 17 0 41 (nI n)) 17 0 42 0, n, false) : ab_S × Nat × Bool).1.2 = u.2 := rfl
  have hF0 : (tm_run (tb_l x1 ++ (tb_l x2 ++ (tb_l x3 ++ (tb_l x4 ++ tb_l x5)))) (ab_ui (ab_ui (ab_ui u 17 0 0 0) 17 0 41 (nI n)) 17 0 42 0, n, false)) = (tm_run (tb_l x1 ++ (tb_l x2 ++ (tb_l x3 ++ (tb_l x4 ++ tb_l x5)))) (ab_ui (ab_ui (ab_ui u 17 0 0 0) 17 0 41 (nI n)) 17 0 42 0, n, false)) := rfl
  revert hF0 hr00 hok0
  generalize hG : ((ab_ui (ab_ui (ab_ui u 17 0 0 0) 17 0 41 (nI n)) 17 0 42 0, n, false) : ab_S × Nat × Bool) = q0
  rw [show ab_ui (ab_ui (ab_ui u 17 0 0 0) 17 0 41 (nI n)) 17 0 42 0 = q0.1 by rw [← hG]]
  intro o0 r0 hF0
  refine ab_aload_n X 0 d_MO_text_18 rfl rfl ?_
  refine ab_iload_n X 1 d_MO_text_19 rfl rfl ?_
  refine ab_callV (as := [ab_I x1]) X (fun h => by cases h) (c_MO_bytesOf q0 x1 h17 h18 (by rw [r0]; exact e0) o0) lk_MO_310 d_MO_text_20 rfl rfl (by first | assumption | decide) ⟨by first | exact Nat.le_of_ble_eq_true rfl | (simp only [ab_rm]; omega), by first | exact Nat.le_of_ble_eq_true rfl | (simp only [ab_rm]; omega)⟩ ⟨by first | exact Nat.le_of_ble_eq_true rfl | (simp only [ab_rm]; omega), by first | exact Nat.le_of_ble_eq_true rfl | (simp only [ab_rm]; omega)⟩ (Nat.le_of_ble_eq_true rfl) (fun u20 r20 h20 => ?_)
  obtain ⟨rfl, rfl⟩ := h20
  have o1 := tm_run_ok (tb_l x1) q0 o0
  have t1 : (tm_run (tb_l x1) q0).1.2 = u.2 := o1.2.trans r0
  have o1 := o1.1
  rw [tm_app]
  revert o1 t1
  generalize tm_run (tb_l x1) q0 = q1
  intro t1 o1
  refine ab_aload_n X 0 d_MO_text_23 rfl rfl ?_
  refine ab_iload_n X 2 d_MO_text_24 rfl rfl ?_
  refine ab_callV (as := [ab_I x2]) X (fun h => by cases h) (c_MO_bytesOf q1 x2 h17 h18 (by rw [t1]; exact e0) o1) lk_MO_310 d_MO_text_25 rfl rfl (by first | assumption | decide) ⟨by first | exact Nat.le_of_ble_eq_true rfl | (simp only [ab_rm]; omega), by first | exact Nat.le_of_ble_eq_true rfl | (simp only [ab_rm]; omega)⟩ ⟨by first | exact Nat.le_of_ble_eq_true rfl | (simp only [ab_rm]; omega), by first | exact Nat.le_of_ble_eq_true rfl | (simp only [ab_rm]; omega)⟩ (Nat.le_of_ble_eq_true rfl) (fun u25 r25 h25 => ?_)
  obtain ⟨rfl, rfl⟩ := h25
  have o2 := tm_run_ok (tb_l x2) q1 o1
  have t2 : (tm_run (tb_l x2) q1).1.2 = u.2 := o2.2.trans t1
  have o2 := o2.1
  rw [tm_app]
  revert o2 t2
  generalize tm_run (tb_l x2) q1 = q2
  intro t2 o2
  refine ab_aload_n X 0 d_MO_text_28 rfl rfl ?_
  refine ab_iload_n X 3 d_MO_text_29 rfl rfl ?_
  refine ab_callV (as := [ab_I x3]) X (fun h => by cases h) (c_MO_bytesOf q2 x3 h17 h18 (by rw [t2]; exact e0) o2) lk_MO_310 d_MO_text_30 rfl rfl (by first | assumption | decide) ⟨by first | exact Nat.le_of_ble_eq_true rfl | (simp only [ab_rm]; omega), by first | exact Nat.le_of_ble_eq_true rfl | (simp only [ab_rm]; omega)⟩ ⟨by first | exact Nat.le_of_ble_eq_true rfl | (simp only [ab_rm]; omega), by first | exact Nat.le_of_ble_eq_true rfl | (simp only [ab_rm]; omega)⟩ (Nat.le_of_ble_eq_true rfl) (fun u30 r30 h30 => ?_)
  obtain ⟨rfl, rfl⟩ := h30
  have o3 := tm_run_ok (tb_l x3) q2 o2
  have t3 : (tm_run (tb_l x3) q2).1.2 = u.2 := o3.2.trans t2
  have o3 := o3.1
  rw [tm_app]
  revert o3 t3
  generalize tm_run (tb_l x3) q2 = q3
  intro t3 o3
  refine ab_aload_n X 0 d_MO_text_33 rfl rfl ?_
  refine ab_iload X 4 d_MO_text_34 rfl ?_
  refine ab_callV (as := [ab_I x4]) X (fun h => by cases h) (c_MO_bytesOf q3 x4 h17 h18 (by rw [t3]; exact e0) o3) lk_MO_310 d_MO_text_36 rfl rfl (by first | assumption | decide) ⟨by first | exact Nat.le_of_ble_eq_true rfl | (simp only [ab_rm]; omega), by first | exact Nat.le_of_ble_eq_true rfl | (simp only [ab_rm]; omega)⟩ ⟨by first | exact Nat.le_of_ble_eq_true rfl | (simp only [ab_rm]; omega), by first | exact Nat.le_of_ble_eq_true rfl | (simp only [ab_rm]; omega)⟩ (Nat.le_of_ble_eq_true rfl) (fun u36 r36 h36 => ?_)
  obtain ⟨rfl, rfl⟩ := h36
  have o4 := tm_run_ok (tb_l x4) q3 o3
  have t4 : (tm_run (tb_l x4) q3).1.2 = u.2 := o4.2.trans t3
  have o4 := o4.1
  rw [tm_app]
  revert o4 t4
  generalize tm_run (tb_l x4) q3 = q4
  intro t4 o4
  refine ab_aload_n X 0 d_MO_text_39 rfl rfl ?_
  refine ab_iload X 5 d_MO_text_40 rfl ?_
  refine ab_callV (as := [ab_I x5]) X (fun h => by cases h) (c_MO_bytesOf q4 x5 h17 h18 (by rw [t4]; exact e0) o4) lk_MO_310 d_MO_text_42 rfl rfl (by first | assumption | decide) ⟨by first | exact Nat.le_of_ble_eq_true rfl | (simp only [ab_rm]; omega), by first | exact Nat.le_of_ble_eq_true rfl | (simp only [ab_rm]; omega)⟩ ⟨by first | exact Nat.le_of_ble_eq_true rfl | (simp only [ab_rm]; omega), by first | exact Nat.le_of_ble_eq_true rfl | (simp only [ab_rm]; omega)⟩ (Nat.le_of_ble_eq_true rfl) (fun u42 r42 h42 => ?_)
  obtain ⟨rfl, rfl⟩ := h42
  have o5 := tm_run_ok (tb_l x5) q4 o4
  have t5 : (tm_run (tb_l x5) q4).1.2 = u.2 := o5.2.trans t4
  have o5 := o5.1
  revert o5 t5
  generalize tm_run (tb_l x5) q4 = q5
  intro t5 o5
  by_cases hb : q5.2.2 = true
  ·
    refine ab_aload_n X 0 d_MO_text_45 rfl rfl ?_
    refine ab_gI X fl_MO_138 d_MO_text_46 (by first | assumption | decide) ((show _ = (1 : Int32) from o5.2.1.trans (by rw [hb]; rfl))) ?_
    refine ab_if_eq X 54 d_MO_text_49 rfl (fun hb => absurd hb ((by decide))) (fun _ => ?_)
    refine ab_iconst (v := 0) X d_MO_text_52 (by decide) ?_
    exact ab_retz X hr0 hlk (Or.inl rfl) d_MO_text_53 ⟨by unfold tm_s; rw [if_pos hb], by simp [hb]⟩
  ·
    refine ab_aload_n X 0 d_MO_text_45 rfl rfl ?_
    refine ab_gI X fl_MO_138 d_MO_text_46 (by first | assumption | decide) ((show _ = (0 : Int32) from o5.2.1.trans (by unfold tm_z; rw [if_neg hb]))) ?_
    refine ab_if_eq X 54 d_MO_text_49 rfl (fun _ => ?_) (fun hb => absurd (rfl) hb)
    refine ab_aload_n X 0 d_MO_text_54 rfl rfl ?_
    refine ab_aload_n X 0 d_MO_text_55 rfl rfl ?_
    refine ab_gI X fl_MO_135 d_MO_text_56 (by first | assumption | decide) (o5.1) ?_
    refine ab_putI X fp_MO_17 d_MO_text_59 (by first | assumption | decide) rfl rfl ?_
    refine ab_iconst (v := 1) X d_MO_text_62 (by decide) ?_
    exact ab_retz X hr0 hlk (Or.inr rfl) d_MO_text_63 ⟨by unfold tm_s; rw [if_neg hb], by simp [hb]⟩
end AbMText
end
section
/-! Short methods of the reference. -/
section AbMS
variable {l : Launch} {D : va_G} {ca : Nat → ClassId} {N : Nat → Nat}
abbrev b_MO_fault : ByteArray := prog_10_method_58_code
def y_MO_fault : MethodName := ⟨"PolicyForgeModel", "fault", "()I"⟩
theorem d_MO_fault_0 : decode b_MO_fault 0 = .ok (.aload_n 0, 1) := by decide +kernel
theorem d_MO_fault_1 : decode b_MO_fault 1 = .ok (.iconst 0, 1) := by decide +kernel
theorem d_MO_fault_2 : decode b_MO_fault 2 = .ok (.putfield 7, 3) := by decide +kernel
theorem d_MO_fault_5 : decode b_MO_fault 5 = .ok (.aload_n 0, 1) := by decide +kernel
theorem d_MO_fault_6 : decode b_MO_fault 6 = .ok (.getfield 20, 3) := by decide +kernel
theorem d_MO_fault_9 : decode b_MO_fault 9 = .ok (.ireturn, 1) := by decide +kernel
theorem fl_MO_20 : ab_fl "PolicyForgeModel" 20 17 3 0 := ⟨rfl, R_MO, T_MO, 44, rfl, uw_MO, by decide, rfl, (ab_in 929 (by decide +kernel) (by decide +kernel))⟩
theorem c_MO_fault (u : ab_S) (h17 : 0 < N 17) : ab_C false l D ca y_MO_fault b_MO_fault 1 (some .int) 0 N u [ab_O 17 0] (fun u' v => u' = ab_ui u 17 0 0 0 ∧ v = some (ab_I (u.1 17 0 3))) := by
  refine ab_C.of (by decide) (Nat.le_of_ble_eq_true rfl) ?_
  intro p e s m args below meth c ad X hZ hr0 hlk
  refine ab_aload_n X 0 d_MO_fault_0 rfl rfl ?_
  refine ab_iconst (v := 0) X d_MO_fault_1 (by decide) ?_
  refine ab_putI X fp_MO_7 d_MO_fault_2 (by first | assumption | decide) rfl rfl ?_
  refine ab_aload_n X 0 d_MO_fault_5 rfl rfl ?_
  refine ab_gI X fl_MO_20 d_MO_fault_6 (by first | assumption | decide) ((show _ = u.1 17 0 3 by simp [ab_up])) ?_
  exact ab_reti X hr0 hlk d_MO_fault_9 ⟨rfl, rfl⟩
abbrev b_MO_done : ByteArray := prog_10_method_67_code
def y_MO_done : MethodName := ⟨"PolicyForgeModel", "done", "()I"⟩
theorem d_MO_done_0 : decode b_MO_done 0 = .ok (.aload_n 0, 1) := by decide +kernel
theorem d_MO_done_1 : decode b_MO_done 1 = .ok (.iconst 0, 1) := by decide +kernel
theorem d_MO_done_2 : decode b_MO_done 2 = .ok (.putfield 7, 3) := by decide +kernel
theorem d_MO_done_5 : decode b_MO_done 5 = .ok (.aload_n 0, 1) := by decide +kernel
theorem d_MO_done_6 : decode b_MO_done 6 = .ok (.getfield 111, 3) := by decide +kernel
theorem d_MO_done_9 : decode b_MO_done 9 = .ok (.ireturn, 1) := by decide +kernel
theorem fl_MO_111 : ab_fl "PolicyForgeModel" 111 17 33 0 := ⟨rfl, R_MO, T_MO, 44, rfl, uw_MO, by decide, rfl, (ab_in 959 (by decide +kernel) (by decide +kernel))⟩
theorem c_MO_done (u : ab_S) (h17 : 0 < N 17) : ab_C false l D ca y_MO_done b_MO_done 1 (some .int) 0 N u [ab_O 17 0] (fun u' v => u' = ab_ui u 17 0 0 0 ∧ v = some (ab_I (u.1 17 0 33))) := by
  refine ab_C.of (by decide) (Nat.le_of_ble_eq_true rfl) ?_
  intro p e s m args below meth c ad X hZ hr0 hlk
  refine ab_aload_n X 0 d_MO_done_0 rfl rfl ?_
  refine ab_iconst (v := 0) X d_MO_done_1 (by decide) ?_
  refine ab_putI X fp_MO_7 d_MO_done_2 (by first | assumption | decide) rfl rfl ?_
  refine ab_aload_n X 0 d_MO_done_5 rfl rfl ?_
  refine ab_gI X fl_MO_111 d_MO_done_6 (by first | assumption | decide) ((show _ = u.1 17 0 33 by simp [ab_up])) ?_
  exact ab_reti X hr0 hlk d_MO_done_9 ⟨rfl, rfl⟩
abbrev b_MO_clear : ByteArray := prog_10_method_64_code
def y_MO_clear : MethodName := ⟨"PolicyForgeModel", "clear", "()V"⟩
theorem d_MO_clear_0 : decode b_MO_clear 0 = .ok (.aload_n 0, 1) := by decide +kernel
theorem d_MO_clear_1 : decode b_MO_clear 1 = .ok (.iconst 0, 1) := by decide +kernel
theorem d_MO_clear_2 : decode b_MO_clear 2 = .ok (.putfield 7, 3) := by decide +kernel
theorem d_MO_clear_5 : decode b_MO_clear 5 = .ok (.aload_n 0, 1) := by decide +kernel
theorem d_MO_clear_6 : decode b_MO_clear 6 = .ok (.iconst 0, 1) := by decide +kernel
theorem d_MO_clear_7 : decode b_MO_clear 7 = .ok (.putfield 108, 3) := by decide +kernel
theorem d_MO_clear_10 : decode b_MO_clear 10 = .ok (.return_, 1) := by decide +kernel
theorem c_MO_clear (u : ab_S) (h17 : 0 < N 17) : ab_C false l D ca y_MO_clear b_MO_clear 1 none 0 N u [ab_O 17 0] (fun u' v => u' = ab_ui (ab_ui u 17 0 0 0) 17 0 32 0 ∧ v = none) := by
  refine ab_C.of (by decide) (Nat.le_of_ble_eq_true rfl) ?_
  intro p e s m args below meth c ad X hZ hr0 hlk
  refine ab_aload_n X 0 d_MO_clear_0 rfl rfl ?_
  refine ab_iconst (v := 0) X d_MO_clear_1 (by decide) ?_
  refine ab_putI X fp_MO_7 d_MO_clear_2 (by first | assumption | decide) rfl rfl ?_
  refine ab_aload_n X 0 d_MO_clear_5 rfl rfl ?_
  refine ab_iconst (v := 0) X d_MO_clear_6 (by decide) ?_
  refine ab_putI X fp_MO_108 d_MO_clear_7 (by first | assumption | decide) rfl rfl ?_
  exact ab_retv X hr0 hlk d_MO_clear_10 ⟨rfl, rfl⟩
abbrev b_MO_holds : ByteArray := prog_10_method_59_code
def y_MO_holds : MethodName := ⟨"PolicyForgeModel", "holds", "(IIII)Z"⟩
theorem d_MO_holds_0 : decode b_MO_holds 0 = .ok (.aload_n 0, 1) := by decide +kernel
theorem d_MO_holds_1 : decode b_MO_holds 1 = .ok (.aload_n 0, 1) := by decide +kernel
theorem d_MO_holds_2 : decode b_MO_holds 2 = .ok (.getfield 23, 3) := by decide +kernel
theorem d_MO_holds_5 : decode b_MO_holds 5 = .ok (.ifCond .eq 7, 3) := by decide +kernel
theorem d_MO_holds_8 : decode b_MO_holds 8 = .ok (.iconst 0, 1) := by decide +kernel
theorem d_MO_holds_9 : decode b_MO_holds 9 = .ok (.goto 4, 3) := by decide +kernel
theorem d_MO_holds_12 : decode b_MO_holds 12 = .ok (.iconst 1, 1) := by decide +kernel
theorem d_MO_holds_13 : decode b_MO_holds 13 = .ok (.putfield 7, 3) := by decide +kernel
theorem d_MO_holds_16 : decode b_MO_holds 16 = .ok (.aload_n 0, 1) := by decide +kernel
theorem d_MO_holds_17 : decode b_MO_holds 17 = .ok (.getfield 23, 3) := by decide +kernel
theorem d_MO_holds_20 : decode b_MO_holds 20 = .ok (.ifCond .ne 5, 3) := by decide +kernel
theorem d_MO_holds_23 : decode b_MO_holds 23 = .ok (.iconst 0, 1) := by decide +kernel
theorem d_MO_holds_24 : decode b_MO_holds 24 = .ok (.ireturn, 1) := by decide +kernel
theorem d_MO_holds_25 : decode b_MO_holds 25 = .ok (.aload_n 0, 1) := by decide +kernel
theorem d_MO_holds_26 : decode b_MO_holds 26 = .ok (.getfield 27, 3) := by decide +kernel
theorem d_MO_holds_29 : decode b_MO_holds 29 = .ok (.iconst 1, 1) := by decide +kernel
theorem d_MO_holds_30 : decode b_MO_holds 30 = .ok (.isub, 1) := by decide +kernel
theorem d_MO_holds_31 : decode b_MO_holds 31 = .ok (.istore 5, 2) := by decide +kernel
theorem d_MO_holds_33 : decode b_MO_holds 33 = .ok (.iload 5, 2) := by decide +kernel
theorem d_MO_holds_35 : decode b_MO_holds 35 = .ok (.ifCond .lt 143, 3) := by decide +kernel
theorem d_MO_holds_38 : decode b_MO_holds 38 = .ok (.iconst 0, 1) := by decide +kernel
theorem d_MO_holds_39 : decode b_MO_holds 39 = .ok (.istore 6, 2) := by decide +kernel
theorem d_MO_holds_41 : decode b_MO_holds 41 = .ok (.iconst 0, 1) := by decide +kernel
theorem d_MO_holds_42 : decode b_MO_holds 42 = .ok (.istore 7, 2) := by decide +kernel
theorem d_MO_holds_44 : decode b_MO_holds 44 = .ok (.iload 7, 2) := by decide +kernel
theorem d_MO_holds_46 : decode b_MO_holds 46 = .ok (.aload_n 0, 1) := by decide +kernel
theorem d_MO_holds_47 : decode b_MO_holds 47 = .ok (.getfield 39, 3) := by decide +kernel
theorem d_MO_holds_50 : decode b_MO_holds 50 = .ok (.iload 5, 2) := by decide +kernel
theorem d_MO_holds_52 : decode b_MO_holds 52 = .ok (.iaload, 1) := by decide +kernel
theorem d_MO_holds_53 : decode b_MO_holds 53 = .ok (.if_icmp .ge 39, 3) := by decide +kernel
theorem d_MO_holds_56 : decode b_MO_holds 56 = .ok (.iload 6, 2) := by decide +kernel
theorem d_MO_holds_58 : decode b_MO_holds 58 = .ok (.aload_n 0, 1) := by decide +kernel
theorem d_MO_holds_59 : decode b_MO_holds 59 = .ok (.getfield 141, 3) := by decide +kernel
theorem d_MO_holds_62 : decode b_MO_holds 62 = .ok (.aload_n 0, 1) := by decide +kernel
theorem d_MO_holds_63 : decode b_MO_holds 63 = .ok (.getfield 42, 3) := by decide +kernel
theorem d_MO_holds_66 : decode b_MO_holds 66 = .ok (.iconst 4, 1) := by decide +kernel
theorem d_MO_holds_67 : decode b_MO_holds 67 = .ok (.iload 5, 2) := by decide +kernel
theorem d_MO_holds_69 : decode b_MO_holds 69 = .ok (.imul, 1) := by decide +kernel
theorem d_MO_holds_70 : decode b_MO_holds 70 = .ok (.iload 7, 2) := by decide +kernel
theorem d_MO_holds_72 : decode b_MO_holds 72 = .ok (.iadd, 1) := by decide +kernel
theorem d_MO_holds_73 : decode b_MO_holds 73 = .ok (.iaload, 1) := by decide +kernel
theorem d_MO_holds_74 : decode b_MO_holds 74 = .ok (.baload, 1) := by decide +kernel
theorem d_MO_holds_75 : decode b_MO_holds 75 = .ok (.ifCond .eq 7, 3) := by decide +kernel
theorem d_MO_holds_78 : decode b_MO_holds 78 = .ok (.iconst 1, 1) := by decide +kernel
theorem d_MO_holds_79 : decode b_MO_holds 79 = .ok (.goto 4, 3) := by decide +kernel
theorem d_MO_holds_82 : decode b_MO_holds 82 = .ok (.iconst 0, 1) := by decide +kernel
theorem d_MO_holds_83 : decode b_MO_holds 83 = .ok (.iadd, 1) := by decide +kernel
theorem d_MO_holds_84 : decode b_MO_holds 84 = .ok (.istore 6, 2) := by decide +kernel
theorem d_MO_holds_86 : decode b_MO_holds 86 = .ok (.iinc 7 1, 3) := by decide +kernel
theorem d_MO_holds_89 : decode b_MO_holds 89 = .ok (.goto (-45), 3) := by decide +kernel
theorem d_MO_holds_92 : decode b_MO_holds 92 = .ok (.aload_n 0, 1) := by decide +kernel
theorem d_MO_holds_93 : decode b_MO_holds 93 = .ok (.getfield 141, 3) := by decide +kernel
theorem d_MO_holds_96 : decode b_MO_holds 96 = .ok (.iload 5, 2) := by decide +kernel
theorem d_MO_holds_98 : decode b_MO_holds 98 = .ok (.aload_n 0, 1) := by decide +kernel
theorem d_MO_holds_99 : decode b_MO_holds 99 = .ok (.getfield 33, 3) := by decide +kernel
theorem d_MO_holds_102 : decode b_MO_holds 102 = .ok (.iload 5, 2) := by decide +kernel
theorem d_MO_holds_104 : decode b_MO_holds 104 = .ok (.iaload, 1) := by decide +kernel
theorem d_MO_holds_105 : decode b_MO_holds 105 = .ok (.iconst 5, 1) := by decide +kernel
theorem d_MO_holds_106 : decode b_MO_holds 106 = .ok (.if_icmp .ge 17, 3) := by decide +kernel
theorem d_MO_holds_109 : decode b_MO_holds 109 = .ok (.aload_n 0, 1) := by decide +kernel
theorem d_MO_holds_110 : decode b_MO_holds 110 = .ok (.iload 5, 2) := by decide +kernel
theorem d_MO_holds_112 : decode b_MO_holds 112 = .ok (.iload_n 1, 1) := by decide +kernel
theorem d_MO_holds_113 : decode b_MO_holds 113 = .ok (.iload_n 2, 1) := by decide +kernel
theorem d_MO_holds_114 : decode b_MO_holds 114 = .ok (.iload_n 3, 1) := by decide +kernel
theorem d_MO_holds_115 : decode b_MO_holds 115 = .ok (.iload 4, 2) := by decide +kernel
theorem d_MO_holds_117 : decode b_MO_holds 117 = .ok (.invokevirtual 319, 3) := by decide +kernel
theorem d_MO_holds_120 : decode b_MO_holds 120 = .ok (.goto 51, 3) := by decide +kernel
theorem d_MO_holds_123 : decode b_MO_holds 123 = .ok (.iload 6, 2) := by decide +kernel
theorem d_MO_holds_125 : decode b_MO_holds 125 = .ok (.aload_n 0, 1) := by decide +kernel
theorem d_MO_holds_126 : decode b_MO_holds 126 = .ok (.getfield 33, 3) := by decide +kernel
theorem d_MO_holds_129 : decode b_MO_holds 129 = .ok (.iload 5, 2) := by decide +kernel
theorem d_MO_holds_131 : decode b_MO_holds 131 = .ok (.iaload, 1) := by decide +kernel
theorem d_MO_holds_132 : decode b_MO_holds 132 = .ok (.iconst 5, 1) := by decide +kernel
theorem d_MO_holds_133 : decode b_MO_holds 133 = .ok (.if_icmp .ne 7, 3) := by decide +kernel
theorem d_MO_holds_136 : decode b_MO_holds 136 = .ok (.iconst 2, 1) := by decide +kernel
theorem d_MO_holds_137 : decode b_MO_holds 137 = .ok (.goto 26, 3) := by decide +kernel
theorem d_MO_holds_140 : decode b_MO_holds 140 = .ok (.aload_n 0, 1) := by decide +kernel
theorem d_MO_holds_141 : decode b_MO_holds 141 = .ok (.getfield 33, 3) := by decide +kernel
theorem d_MO_holds_144 : decode b_MO_holds 144 = .ok (.iload 5, 2) := by decide +kernel
theorem d_MO_holds_146 : decode b_MO_holds 146 = .ok (.iaload, 1) := by decide +kernel
theorem d_MO_holds_147 : decode b_MO_holds 147 = .ok (.bipush 6, 2) := by decide +kernel
theorem d_MO_holds_149 : decode b_MO_holds 149 = .ok (.if_icmp .ne 7, 3) := by decide +kernel
theorem d_MO_holds_152 : decode b_MO_holds 152 = .ok (.iconst 1, 1) := by decide +kernel
theorem d_MO_holds_153 : decode b_MO_holds 153 = .ok (.goto 10, 3) := by decide +kernel
theorem d_MO_holds_156 : decode b_MO_holds 156 = .ok (.aload_n 0, 1) := by decide +kernel
theorem d_MO_holds_157 : decode b_MO_holds 157 = .ok (.getfield 36, 3) := by decide +kernel
theorem d_MO_holds_160 : decode b_MO_holds 160 = .ok (.iload 5, 2) := by decide +kernel
theorem d_MO_holds_162 : decode b_MO_holds 162 = .ok (.iaload, 1) := by decide +kernel
theorem d_MO_holds_163 : decode b_MO_holds 163 = .ok (.if_icmp .lt 7, 3) := by decide +kernel
theorem d_MO_holds_166 : decode b_MO_holds 166 = .ok (.iconst 1, 1) := by decide +kernel
theorem d_MO_holds_167 : decode b_MO_holds 167 = .ok (.goto 4, 3) := by decide +kernel
theorem d_MO_holds_170 : decode b_MO_holds 170 = .ok (.iconst 0, 1) := by decide +kernel
theorem d_MO_holds_171 : decode b_MO_holds 171 = .ok (.bastore, 1) := by decide +kernel
theorem d_MO_holds_172 : decode b_MO_holds 172 = .ok (.iinc 5 (-1), 3) := by decide +kernel
theorem d_MO_holds_175 : decode b_MO_holds 175 = .ok (.goto (-142), 3) := by decide +kernel
theorem d_MO_holds_178 : decode b_MO_holds 178 = .ok (.aload_n 0, 1) := by decide +kernel
theorem d_MO_holds_179 : decode b_MO_holds 179 = .ok (.getfield 141, 3) := by decide +kernel
theorem d_MO_holds_182 : decode b_MO_holds 182 = .ok (.iconst 0, 1) := by decide +kernel
theorem d_MO_holds_183 : decode b_MO_holds 183 = .ok (.baload, 1) := by decide +kernel
theorem d_MO_holds_184 : decode b_MO_holds 184 = .ok (.ireturn, 1) := by decide +kernel
theorem fl_MO_23 : ab_fl "PolicyForgeModel" 23 17 4 0 := ⟨rfl, R_MO, T_MO, 44, rfl, uw_MO, by decide, rfl, (ab_in 930 (by decide +kernel) (by decide +kernel))⟩
theorem fl_MO_27 : ab_fl "PolicyForgeModel" 27 17 5 0 := ⟨rfl, R_MO, T_MO, 44, rfl, uw_MO, by decide, rfl, (ab_in 931 (by decide +kernel) (by decide +kernel))⟩
theorem fl_MO_39 : ab_fl "PolicyForgeModel" 39 17 9 1 := ⟨rfl, R_MO, T_MO, 44, rfl, uw_MO, by decide, rfl, (ab_in 935 (by decide +kernel) (by decide +kernel))⟩
theorem fl_MO_141 : ab_fl "PolicyForgeModel" 141 17 43 1 := ⟨rfl, R_MO, T_MO, 44, rfl, uw_MO, by decide, rfl, (ab_in 969 (by decide +kernel) (by decide +kernel))⟩
theorem fl_MO_42 : ab_fl "PolicyForgeModel" 42 17 10 1 := ⟨rfl, R_MO, T_MO, 44, rfl, uw_MO, by decide, rfl, (ab_in 936 (by decide +kernel) (by decide +kernel))⟩
theorem fl_MO_33 : ab_fl "PolicyForgeModel" 33 17 7 1 := ⟨rfl, R_MO, T_MO, 44, rfl, uw_MO, by decide, rfl, (ab_in 933 (by decide +kernel) (by decide +kernel))⟩
abbrev b_MO_leafHolds : ByteArray := prog_10_method_44_code
def y_MO_leafHolds : MethodName := ⟨"PolicyForgeModel", "leafHolds", "(IIIII)Z"⟩
theorem lk_MO_319 : ab_lk "PolicyForgeModel" 319 y_MO_leafHolds b_MO_leafHolds 7 (some FieldType.boolean) 5 17 := ⟨⟨rfl, T_MO, 44, rfl⟩, List.forall_mem_cons.mpr ⟨(ab_in 1209 (by decide +kernel) (by decide +kernel)), List.forall_mem_cons.mpr ⟨(ab_in 1211 (by decide +kernel) (by decide +kernel)), List.forall_mem_cons.mpr ⟨(ab_in 72 (by decide +kernel) (by decide +kernel)), List.forall_mem_cons.mpr ⟨(ab_in 100 (by decide +kernel) (by decide +kernel)), List.forall_mem_cons.mpr ⟨(ab_in 1212 (by decide +kernel) (by decide +kernel)), fun _ h => absurd h List.not_mem_nil⟩⟩⟩⟩⟩, ⟨by decide +kernel, by decide +kernel, by decide +kernel⟩, by decide⟩
theorem fl_MO_36 : ab_fl "PolicyForgeModel" 36 17 8 1 := ⟨rfl, R_MO, T_MO, 44, rfl, uw_MO, by decide, rfl, (ab_in 934 (by decide +kernel) (by decide +kernel))⟩
theorem c_MO_holds0 (u : ab_S) (a1 a2 a3 a4 : Int32) (h17 : 0 < N 17) (et : u.1 17 0 4 = 0) : ab_C false l D ca y_MO_holds b_MO_holds 8 (some .boolean) 0 N u [ab_O 17 0, ab_I a1, ab_I a2, ab_I a3, ab_I a4] (fun u' v => u' = ab_ui u 17 0 0 1 ∧ v = some (ab_I 0)) := by
  refine ab_C.of (by decide) (Nat.le_of_ble_eq_true rfl) ?_
  intro p e s m args below meth c ad X hZ hr0 hlk
  refine ab_aload_n X 0 d_MO_holds_0 rfl rfl ?_
  refine ab_aload_n X 0 d_MO_holds_1 rfl rfl ?_
  refine ab_gI X fl_MO_23 d_MO_holds_2 (by first | assumption | decide) (et) ?_
  refine ab_if_eq X 12 d_MO_holds_5 rfl (fun _ => ?_) (fun hb => absurd (rfl) hb)
  refine ab_iconst (v := 1) X d_MO_holds_12 (by decide) ?_
  refine ab_putI X fp_MO_7 d_MO_holds_13 (by first | assumption | decide) rfl rfl ?_
  refine ab_aload_n X 0 d_MO_holds_16 rfl rfl ?_
  refine ab_gI X fl_MO_23 d_MO_holds_17 (by first | assumption | decide) ((show _ = (0 : Int32) by simpa [ab_up] using et)) ?_
  refine ab_if_ne X 25 d_MO_holds_20 rfl (fun hb => absurd (rfl) hb) (fun _ => ?_)
  refine ab_iconst (v := 0) X d_MO_holds_23 (by decide) ?_
  exact ab_retz X hr0 hlk (Or.inl rfl) d_MO_holds_24 ⟨rfl, rfl⟩
abbrev b_MO_satisfy : ByteArray := prog_10_method_62_code
def y_MO_satisfy : MethodName := ⟨"PolicyForgeModel", "satisfy", "(IIII)I"⟩
theorem d_MO_satisfy_0 : decode b_MO_satisfy 0 = .ok (.aload_n 0, 1) := by decide +kernel
theorem d_MO_satisfy_1 : decode b_MO_satisfy 1 = .ok (.aload_n 0, 1) := by decide +kernel
theorem d_MO_satisfy_2 : decode b_MO_satisfy 2 = .ok (.getfield 23, 3) := by decide +kernel
theorem d_MO_satisfy_5 : decode b_MO_satisfy 5 = .ok (.ifCond .eq 7, 3) := by decide +kernel
theorem d_MO_satisfy_8 : decode b_MO_satisfy 8 = .ok (.iconst 0, 1) := by decide +kernel
theorem d_MO_satisfy_9 : decode b_MO_satisfy 9 = .ok (.goto 4, 3) := by decide +kernel
theorem d_MO_satisfy_12 : decode b_MO_satisfy 12 = .ok (.iconst 1, 1) := by decide +kernel
theorem d_MO_satisfy_13 : decode b_MO_satisfy 13 = .ok (.putfield 7, 3) := by decide +kernel
theorem d_MO_satisfy_16 : decode b_MO_satisfy 16 = .ok (.aload_n 0, 1) := by decide +kernel
theorem d_MO_satisfy_17 : decode b_MO_satisfy 17 = .ok (.getfield 23, 3) := by decide +kernel
theorem d_MO_satisfy_20 : decode b_MO_satisfy 20 = .ok (.ifCond .ne 5, 3) := by decide +kernel
theorem d_MO_satisfy_23 : decode b_MO_satisfy 23 = .ok (.iconst 0, 1) := by decide +kernel
theorem d_MO_satisfy_24 : decode b_MO_satisfy 24 = .ok (.ireturn, 1) := by decide +kernel
theorem d_MO_satisfy_25 : decode b_MO_satisfy 25 = .ok (.aload_n 0, 1) := by decide +kernel
theorem d_MO_satisfy_26 : decode b_MO_satisfy 26 = .ok (.getfield 27, 3) := by decide +kernel
theorem d_MO_satisfy_29 : decode b_MO_satisfy 29 = .ok (.iconst 1, 1) := by decide +kernel
theorem d_MO_satisfy_30 : decode b_MO_satisfy 30 = .ok (.isub, 1) := by decide +kernel
theorem d_MO_satisfy_31 : decode b_MO_satisfy 31 = .ok (.istore 5, 2) := by decide +kernel
theorem d_MO_satisfy_33 : decode b_MO_satisfy 33 = .ok (.iload 5, 2) := by decide +kernel
theorem d_MO_satisfy_35 : decode b_MO_satisfy 35 = .ok (.ifCond .lt 77, 3) := by decide +kernel
theorem d_MO_satisfy_38 : decode b_MO_satisfy 38 = .ok (.aload_n 0, 1) := by decide +kernel
theorem d_MO_satisfy_39 : decode b_MO_satisfy 39 = .ok (.getfield 33, 3) := by decide +kernel
theorem d_MO_satisfy_42 : decode b_MO_satisfy 42 = .ok (.iload 5, 2) := by decide +kernel
theorem d_MO_satisfy_44 : decode b_MO_satisfy 44 = .ok (.iaload, 1) := by decide +kernel
theorem d_MO_satisfy_45 : decode b_MO_satisfy 45 = .ok (.iconst 5, 1) := by decide +kernel
theorem d_MO_satisfy_46 : decode b_MO_satisfy 46 = .ok (.if_icmp .ge 21, 3) := by decide +kernel
theorem d_MO_satisfy_49 : decode b_MO_satisfy 49 = .ok (.aload_n 0, 1) := by decide +kernel
theorem d_MO_satisfy_50 : decode b_MO_satisfy 50 = .ok (.iload 5, 2) := by decide +kernel
theorem d_MO_satisfy_52 : decode b_MO_satisfy 52 = .ok (.iload_n 1, 1) := by decide +kernel
theorem d_MO_satisfy_53 : decode b_MO_satisfy 53 = .ok (.iload_n 2, 1) := by decide +kernel
theorem d_MO_satisfy_54 : decode b_MO_satisfy 54 = .ok (.iload_n 3, 1) := by decide +kernel
theorem d_MO_satisfy_55 : decode b_MO_satisfy 55 = .ok (.iload 4, 2) := by decide +kernel
theorem d_MO_satisfy_57 : decode b_MO_satisfy 57 = .ok (.invokevirtual 319, 3) := by decide +kernel
theorem d_MO_satisfy_60 : decode b_MO_satisfy 60 = .ok (.ifCond .eq 7, 3) := by decide +kernel
theorem d_MO_satisfy_63 : decode b_MO_satisfy 63 = .ok (.iconst 1, 1) := by decide +kernel
theorem d_MO_satisfy_64 : decode b_MO_satisfy 64 = .ok (.goto 4, 3) := by decide +kernel
theorem d_MO_satisfy_67 : decode b_MO_satisfy 67 = .ok (.iconst 0, 1) := by decide +kernel
theorem d_MO_satisfy_68 : decode b_MO_satisfy 68 = .ok (.istore 6, 2) := by decide +kernel
theorem d_MO_satisfy_70 : decode b_MO_satisfy 70 = .ok (.aload_n 0, 1) := by decide +kernel
theorem d_MO_satisfy_71 : decode b_MO_satisfy 71 = .ok (.iload 5, 2) := by decide +kernel
theorem d_MO_satisfy_73 : decode b_MO_satisfy 73 = .ok (.invokevirtual 323, 3) := by decide +kernel
theorem d_MO_satisfy_76 : decode b_MO_satisfy 76 = .ok (.iconst 0, 1) := by decide +kernel
theorem d_MO_satisfy_77 : decode b_MO_satisfy 77 = .ok (.istore 7, 2) := by decide +kernel
theorem d_MO_satisfy_79 : decode b_MO_satisfy 79 = .ok (.iload 7, 2) := by decide +kernel
theorem d_MO_satisfy_81 : decode b_MO_satisfy 81 = .ok (.iconst 3, 1) := by decide +kernel
theorem d_MO_satisfy_82 : decode b_MO_satisfy 82 = .ok (.if_icmp .ge 24, 3) := by decide +kernel
theorem d_MO_satisfy_85 : decode b_MO_satisfy 85 = .ok (.aload_n 0, 1) := by decide +kernel
theorem d_MO_satisfy_86 : decode b_MO_satisfy 86 = .ok (.iload 5, 2) := by decide +kernel
theorem d_MO_satisfy_88 : decode b_MO_satisfy 88 = .ok (.iconst 3, 1) := by decide +kernel
theorem d_MO_satisfy_89 : decode b_MO_satisfy 89 = .ok (.iload 5, 2) := by decide +kernel
theorem d_MO_satisfy_91 : decode b_MO_satisfy 91 = .ok (.imul, 1) := by decide +kernel
theorem d_MO_satisfy_92 : decode b_MO_satisfy 92 = .ok (.iload 7, 2) := by decide +kernel
theorem d_MO_satisfy_94 : decode b_MO_satisfy 94 = .ok (.iadd, 1) := by decide +kernel
theorem d_MO_satisfy_95 : decode b_MO_satisfy 95 = .ok (.iload 6, 2) := by decide +kernel
theorem d_MO_satisfy_97 : decode b_MO_satisfy 97 = .ok (.invokevirtual 326, 3) := by decide +kernel
theorem d_MO_satisfy_100 : decode b_MO_satisfy 100 = .ok (.iinc 7 1, 3) := by decide +kernel
theorem d_MO_satisfy_103 : decode b_MO_satisfy 103 = .ok (.goto (-24), 3) := by decide +kernel
theorem d_MO_satisfy_106 : decode b_MO_satisfy 106 = .ok (.iinc 5 (-1), 3) := by decide +kernel
theorem d_MO_satisfy_109 : decode b_MO_satisfy 109 = .ok (.goto (-76), 3) := by decide +kernel
theorem d_MO_satisfy_112 : decode b_MO_satisfy 112 = .ok (.aload_n 0, 1) := by decide +kernel
theorem d_MO_satisfy_113 : decode b_MO_satisfy 113 = .ok (.getfield 75, 3) := by decide +kernel
theorem d_MO_satisfy_116 : decode b_MO_satisfy 116 = .ok (.iconst 0, 1) := by decide +kernel
theorem d_MO_satisfy_117 : decode b_MO_satisfy 117 = .ok (.iaload, 1) := by decide +kernel
theorem d_MO_satisfy_118 : decode b_MO_satisfy 118 = .ok (.ifCond .ge 5, 3) := by decide +kernel
theorem d_MO_satisfy_121 : decode b_MO_satisfy 121 = .ok (.iconst (-1), 1) := by decide +kernel
theorem d_MO_satisfy_122 : decode b_MO_satisfy 122 = .ok (.ireturn, 1) := by decide +kernel
theorem d_MO_satisfy_123 : decode b_MO_satisfy 123 = .ok (.aload_n 0, 1) := by decide +kernel
theorem d_MO_satisfy_124 : decode b_MO_satisfy 124 = .ok (.aload_n 0, 1) := by decide +kernel
theorem d_MO_satisfy_125 : decode b_MO_satisfy 125 = .ok (.getfield 75, 3) := by decide +kernel
theorem d_MO_satisfy_128 : decode b_MO_satisfy 128 = .ok (.iconst 0, 1) := by decide +kernel
theorem d_MO_satisfy_129 : decode b_MO_satisfy 129 = .ok (.iaload, 1) := by decide +kernel
theorem d_MO_satisfy_130 : decode b_MO_satisfy 130 = .ok (.putfield 108, 3) := by decide +kernel
theorem d_MO_satisfy_133 : decode b_MO_satisfy 133 = .ok (.iconst 0, 1) := by decide +kernel
theorem d_MO_satisfy_134 : decode b_MO_satisfy 134 = .ok (.istore 5, 2) := by decide +kernel
theorem d_MO_satisfy_136 : decode b_MO_satisfy 136 = .ok (.iload 5, 2) := by decide +kernel
theorem d_MO_satisfy_138 : decode b_MO_satisfy 138 = .ok (.aload_n 0, 1) := by decide +kernel
theorem d_MO_satisfy_139 : decode b_MO_satisfy 139 = .ok (.getfield 108, 3) := by decide +kernel
theorem d_MO_satisfy_142 : decode b_MO_satisfy 142 = .ok (.if_icmp .ge 23, 3) := by decide +kernel
theorem d_MO_satisfy_145 : decode b_MO_satisfy 145 = .ok (.aload_n 0, 1) := by decide +kernel
theorem d_MO_satisfy_146 : decode b_MO_satisfy 146 = .ok (.getfield 105, 3) := by decide +kernel
theorem d_MO_satisfy_149 : decode b_MO_satisfy 149 = .ok (.iload 5, 2) := by decide +kernel
theorem d_MO_satisfy_151 : decode b_MO_satisfy 151 = .ok (.aload_n 0, 1) := by decide +kernel
theorem d_MO_satisfy_152 : decode b_MO_satisfy 152 = .ok (.getfield 72, 3) := by decide +kernel
theorem d_MO_satisfy_155 : decode b_MO_satisfy 155 = .ok (.iload 5, 2) := by decide +kernel
theorem d_MO_satisfy_157 : decode b_MO_satisfy 157 = .ok (.iaload, 1) := by decide +kernel
theorem d_MO_satisfy_158 : decode b_MO_satisfy 158 = .ok (.iastore, 1) := by decide +kernel
theorem d_MO_satisfy_159 : decode b_MO_satisfy 159 = .ok (.iinc 5 1, 3) := by decide +kernel
theorem d_MO_satisfy_162 : decode b_MO_satisfy 162 = .ok (.goto (-26), 3) := by decide +kernel
theorem d_MO_satisfy_165 : decode b_MO_satisfy 165 = .ok (.aload_n 0, 1) := by decide +kernel
theorem d_MO_satisfy_166 : decode b_MO_satisfy 166 = .ok (.getfield 78, 3) := by decide +kernel
theorem d_MO_satisfy_169 : decode b_MO_satisfy 169 = .ok (.iconst 0, 1) := by decide +kernel
theorem d_MO_satisfy_170 : decode b_MO_satisfy 170 = .ok (.iaload, 1) := by decide +kernel
theorem d_MO_satisfy_171 : decode b_MO_satisfy 171 = .ok (.ireturn, 1) := by decide +kernel
abbrev b_MO_dissatisfied : ByteArray := prog_10_method_47_code
def y_MO_dissatisfied : MethodName := ⟨"PolicyForgeModel", "dissatisfied", "(I)V"⟩
theorem lk_MO_323 : ab_lk "PolicyForgeModel" 323 y_MO_dissatisfied b_MO_dissatisfied 4 none 1 17 := ⟨⟨rfl, T_MO, 44, rfl⟩, List.forall_mem_cons.mpr ⟨(ab_in 1225 (by decide +kernel) (by decide +kernel)), List.forall_mem_cons.mpr ⟨(ab_in 1227 (by decide +kernel) (by decide +kernel)), List.forall_mem_cons.mpr ⟨(ab_in 73 (by decide +kernel) (by decide +kernel)), List.forall_mem_cons.mpr ⟨(ab_in 100 (by decide +kernel) (by decide +kernel)), List.forall_mem_cons.mpr ⟨(ab_in 1228 (by decide +kernel) (by decide +kernel)), fun _ h => absurd h List.not_mem_nil⟩⟩⟩⟩⟩, ⟨by decide +kernel, by decide +kernel, by decide +kernel⟩, by decide⟩
abbrev b_MO_satisfied : ByteArray := prog_10_method_45_code
def y_MO_satisfied : MethodName := ⟨"PolicyForgeModel", "satisfied", "(IIZ)V"⟩
theorem lk_MO_326 : ab_lk "PolicyForgeModel" 326 y_MO_satisfied b_MO_satisfied 8 none 3 17 := ⟨⟨rfl, T_MO, 44, rfl⟩, List.forall_mem_cons.mpr ⟨(ab_in 1244 (by decide +kernel) (by decide +kernel)), List.forall_mem_cons.mpr ⟨(ab_in 1246 (by decide +kernel) (by decide +kernel)), List.forall_mem_cons.mpr ⟨(ab_in 77 (by decide +kernel) (by decide +kernel)), List.forall_mem_cons.mpr ⟨(ab_in 100 (by decide +kernel) (by decide +kernel)), List.forall_mem_cons.mpr ⟨(ab_in 1247 (by decide +kernel) (by decide +kernel)), fun _ h => absurd h List.not_mem_nil⟩⟩⟩⟩⟩, ⟨by decide +kernel, by decide +kernel, by decide +kernel⟩, by decide⟩
theorem fl_MO_75 : ab_fl "PolicyForgeModel" 75 17 21 1 := ⟨rfl, R_MO, T_MO, 44, rfl, uw_MO, by decide, rfl, (ab_in 947 (by decide +kernel) (by decide +kernel))⟩
theorem fl_MO_108 : ab_fl "PolicyForgeModel" 108 17 32 0 := ⟨rfl, R_MO, T_MO, 44, rfl, uw_MO, by decide, rfl, (ab_in 958 (by decide +kernel) (by decide +kernel))⟩
theorem fl_MO_105 : ab_fl "PolicyForgeModel" 105 17 31 1 := ⟨rfl, R_MO, T_MO, 44, rfl, uw_MO, by decide, rfl, (ab_in 957 (by decide +kernel) (by decide +kernel))⟩
theorem fl_MO_72 : ab_fl "PolicyForgeModel" 72 17 20 1 := ⟨rfl, R_MO, T_MO, 44, rfl, uw_MO, by decide, rfl, (ab_in 946 (by decide +kernel) (by decide +kernel))⟩
theorem fl_MO_78 : ab_fl "PolicyForgeModel" 78 17 22 1 := ⟨rfl, R_MO, T_MO, 44, rfl, uw_MO, by decide, rfl, (ab_in 948 (by decide +kernel) (by decide +kernel))⟩
theorem c_MO_satisfy0 (u : ab_S) (a1 a2 a3 a4 : Int32) (h17 : 0 < N 17) (et : u.1 17 0 4 = 0) : ab_C false l D ca y_MO_satisfy b_MO_satisfy 8 (some .int) 0 N u [ab_O 17 0, ab_I a1, ab_I a2, ab_I a3, ab_I a4] (fun u' v => u' = ab_ui u 17 0 0 1 ∧ v = some (ab_I 0)) := by
  refine ab_C.of (by decide) (Nat.le_of_ble_eq_true rfl) ?_
  intro p e s m args below meth c ad X hZ hr0 hlk
  refine ab_aload_n X 0 d_MO_satisfy_0 rfl rfl ?_
  refine ab_aload_n X 0 d_MO_satisfy_1 rfl rfl ?_
  refine ab_gI X fl_MO_23 d_MO_satisfy_2 (by first | assumption | decide) (et) ?_
  refine ab_if_eq X 12 d_MO_satisfy_5 rfl (fun _ => ?_) (fun hb => absurd (rfl) hb)
  refine ab_iconst (v := 1) X d_MO_satisfy_12 (by decide) ?_
  refine ab_putI X fp_MO_7 d_MO_satisfy_13 (by first | assumption | decide) rfl rfl ?_
  refine ab_aload_n X 0 d_MO_satisfy_16 rfl rfl ?_
  refine ab_gI X fl_MO_23 d_MO_satisfy_17 (by first | assumption | decide) ((show _ = (0 : Int32) by simpa [ab_up] using et)) ?_
  refine ab_if_ne X 25 d_MO_satisfy_20 rfl (fun hb => absurd (rfl) hb) (fun _ => ?_)
  refine ab_iconst (v := 0) X d_MO_satisfy_23 (by decide) ?_
  exact ab_reti X hr0 hlk d_MO_satisfy_24 ⟨rfl, rfl⟩
abbrev b_MO_check : ByteArray := prog_10_method_66_code
def y_MO_check : MethodName := ⟨"PolicyForgeModel", "check", "(II)I"⟩
theorem d_MO_check_0 : decode b_MO_check 0 = .ok (.aload_n 0, 1) := by decide +kernel
theorem d_MO_check_1 : decode b_MO_check 1 = .ok (.aload_n 0, 1) := by decide +kernel
theorem d_MO_check_2 : decode b_MO_check 2 = .ok (.getfield 23, 3) := by decide +kernel
theorem d_MO_check_5 : decode b_MO_check 5 = .ok (.ifCond .eq 7, 3) := by decide +kernel
theorem d_MO_check_8 : decode b_MO_check 8 = .ok (.iconst 0, 1) := by decide +kernel
theorem d_MO_check_9 : decode b_MO_check 9 = .ok (.goto 4, 3) := by decide +kernel
theorem d_MO_check_12 : decode b_MO_check 12 = .ok (.iconst 1, 1) := by decide +kernel
theorem d_MO_check_13 : decode b_MO_check 13 = .ok (.putfield 7, 3) := by decide +kernel
theorem d_MO_check_16 : decode b_MO_check 16 = .ok (.aload_n 0, 1) := by decide +kernel
theorem d_MO_check_17 : decode b_MO_check 17 = .ok (.getfield 23, 3) := by decide +kernel
theorem d_MO_check_20 : decode b_MO_check 20 = .ok (.ifCond .ne 5, 3) := by decide +kernel
theorem d_MO_check_23 : decode b_MO_check 23 = .ok (.iconst 0, 1) := by decide +kernel
theorem d_MO_check_24 : decode b_MO_check 24 = .ok (.ireturn, 1) := by decide +kernel
theorem d_MO_check_25 : decode b_MO_check 25 = .ok (.aload_n 0, 1) := by decide +kernel
theorem d_MO_check_26 : decode b_MO_check 26 = .ok (.iconst 0, 1) := by decide +kernel
theorem d_MO_check_27 : decode b_MO_check 27 = .ok (.putfield 117, 3) := by decide +kernel
theorem d_MO_check_30 : decode b_MO_check 30 = .ok (.aload_n 0, 1) := by decide +kernel
theorem d_MO_check_31 : decode b_MO_check 31 = .ok (.iconst 0, 1) := by decide +kernel
theorem d_MO_check_32 : decode b_MO_check 32 = .ok (.putfield 123, 3) := by decide +kernel
theorem d_MO_check_35 : decode b_MO_check 35 = .ok (.aload_n 0, 1) := by decide +kernel
theorem d_MO_check_36 : decode b_MO_check 36 = .ok (.iconst 0, 1) := by decide +kernel
theorem d_MO_check_37 : decode b_MO_check 37 = .ok (.putfield 132, 3) := by decide +kernel
theorem d_MO_check_40 : decode b_MO_check 40 = .ok (.aload_n 0, 1) := by decide +kernel
theorem d_MO_check_41 : decode b_MO_check 41 = .ok (.iconst 0, 1) := by decide +kernel
theorem d_MO_check_42 : decode b_MO_check 42 = .ok (.putfield 111, 3) := by decide +kernel
theorem d_MO_check_45 : decode b_MO_check 45 = .ok (.aload_n 0, 1) := by decide +kernel
theorem d_MO_check_46 : decode b_MO_check 46 = .ok (.getfield 108, 3) := by decide +kernel
theorem d_MO_check_49 : decode b_MO_check 49 = .ok (.iconst 1, 1) := by decide +kernel
theorem d_MO_check_50 : decode b_MO_check 50 = .ok (.isub, 1) := by decide +kernel
theorem d_MO_check_51 : decode b_MO_check 51 = .ok (.istore_n 3, 1) := by decide +kernel
theorem d_MO_check_52 : decode b_MO_check 52 = .ok (.iload_n 3, 1) := by decide +kernel
theorem d_MO_check_53 : decode b_MO_check 53 = .ok (.ifCond .lt 19, 3) := by decide +kernel
theorem d_MO_check_56 : decode b_MO_check 56 = .ok (.aload_n 0, 1) := by decide +kernel
theorem d_MO_check_57 : decode b_MO_check 57 = .ok (.aload_n 0, 1) := by decide +kernel
theorem d_MO_check_58 : decode b_MO_check 58 = .ok (.getfield 105, 3) := by decide +kernel
theorem d_MO_check_61 : decode b_MO_check 61 = .ok (.iload_n 3, 1) := by decide +kernel
theorem d_MO_check_62 : decode b_MO_check 62 = .ok (.iaload, 1) := by decide +kernel
theorem d_MO_check_63 : decode b_MO_check 63 = .ok (.invokevirtual 301, 3) := by decide +kernel
theorem d_MO_check_66 : decode b_MO_check 66 = .ok (.iinc 3 (-1), 3) := by decide +kernel
theorem d_MO_check_69 : decode b_MO_check 69 = .ok (.goto (-17), 3) := by decide +kernel
theorem d_MO_check_72 : decode b_MO_check 72 = .ok (.iconst 0, 1) := by decide +kernel
theorem d_MO_check_73 : decode b_MO_check 73 = .ok (.istore_n 3, 1) := by decide +kernel
theorem d_MO_check_74 : decode b_MO_check 74 = .ok (.iconst 0, 1) := by decide +kernel
theorem d_MO_check_75 : decode b_MO_check 75 = .ok (.istore 4, 2) := by decide +kernel
theorem d_MO_check_77 : decode b_MO_check 77 = .ok (.iload_n 3, 1) := by decide +kernel
theorem d_MO_check_78 : decode b_MO_check 78 = .ok (.aload_n 0, 1) := by decide +kernel
theorem d_MO_check_79 : decode b_MO_check 79 = .ok (.getfield 48, 3) := by decide +kernel
theorem d_MO_check_82 : decode b_MO_check 82 = .ok (.iconst 0, 1) := by decide +kernel
theorem d_MO_check_83 : decode b_MO_check 83 = .ok (.iaload, 1) := by decide +kernel
theorem d_MO_check_84 : decode b_MO_check 84 = .ok (.if_icmp .ge 34, 3) := by decide +kernel
theorem d_MO_check_87 : decode b_MO_check 87 = .ok (.aload_n 0, 1) := by decide +kernel
theorem d_MO_check_88 : decode b_MO_check 88 = .ok (.getfield 132, 3) := by decide +kernel
theorem d_MO_check_91 : decode b_MO_check 91 = .ok (.ifCond .ne 27, 3) := by decide +kernel
theorem d_MO_check_94 : decode b_MO_check 94 = .ok (.iload_n 3, 1) := by decide +kernel
theorem d_MO_check_95 : decode b_MO_check 95 = .ok (.istore 4, 2) := by decide +kernel
theorem d_MO_check_97 : decode b_MO_check 97 = .ok (.aload_n 0, 1) := by decide +kernel
theorem d_MO_check_98 : decode b_MO_check 98 = .ok (.iload_n 3, 1) := by decide +kernel
theorem d_MO_check_99 : decode b_MO_check 99 = .ok (.iload_n 1, 1) := by decide +kernel
theorem d_MO_check_100 : decode b_MO_check 100 = .ok (.iload_n 2, 1) := by decide +kernel
theorem d_MO_check_101 : decode b_MO_check 101 = .ok (.invokevirtual 330, 3) := by decide +kernel
theorem d_MO_check_104 : decode b_MO_check 104 = .ok (.istore_n 3, 1) := by decide +kernel
theorem d_MO_check_105 : decode b_MO_check 105 = .ok (.aload_n 0, 1) := by decide +kernel
theorem d_MO_check_106 : decode b_MO_check 106 = .ok (.dup, 1) := by decide +kernel
theorem d_MO_check_107 : decode b_MO_check 107 = .ok (.getfield 111, 3) := by decide +kernel
theorem d_MO_check_110 : decode b_MO_check 110 = .ok (.iconst 1, 1) := by decide +kernel
theorem d_MO_check_111 : decode b_MO_check 111 = .ok (.iadd, 1) := by decide +kernel
theorem d_MO_check_112 : decode b_MO_check 112 = .ok (.putfield 111, 3) := by decide +kernel
theorem d_MO_check_115 : decode b_MO_check 115 = .ok (.goto (-38), 3) := by decide +kernel
theorem d_MO_check_118 : decode b_MO_check 118 = .ok (.aload_n 0, 1) := by decide +kernel
theorem d_MO_check_119 : decode b_MO_check 119 = .ok (.getfield 132, 3) := by decide +kernel
theorem d_MO_check_122 : decode b_MO_check 122 = .ok (.ifCond .eq 6, 3) := by decide +kernel
theorem d_MO_check_125 : decode b_MO_check 125 = .ok (.iload 4, 2) := by decide +kernel
theorem d_MO_check_127 : decode b_MO_check 127 = .ok (.ireturn, 1) := by decide +kernel
theorem d_MO_check_128 : decode b_MO_check 128 = .ok (.aload_n 0, 1) := by decide +kernel
theorem d_MO_check_129 : decode b_MO_check 129 = .ok (.getfield 117, 3) := by decide +kernel
theorem d_MO_check_132 : decode b_MO_check 132 = .ok (.iconst 1, 1) := by decide +kernel
theorem d_MO_check_133 : decode b_MO_check 133 = .ok (.if_icmp .ne 24, 3) := by decide +kernel
theorem d_MO_check_136 : decode b_MO_check 136 = .ok (.aload_n 0, 1) := by decide +kernel
theorem d_MO_check_137 : decode b_MO_check 137 = .ok (.getfield 114, 3) := by decide +kernel
theorem d_MO_check_140 : decode b_MO_check 140 = .ok (.iconst 0, 1) := by decide +kernel
theorem d_MO_check_141 : decode b_MO_check 141 = .ok (.iaload, 1) := by decide +kernel
theorem d_MO_check_142 : decode b_MO_check 142 = .ok (.iconst 1, 1) := by decide +kernel
theorem d_MO_check_143 : decode b_MO_check 143 = .ok (.if_icmp .ne 14, 3) := by decide +kernel
theorem d_MO_check_146 : decode b_MO_check 146 = .ok (.aload_n 0, 1) := by decide +kernel
theorem d_MO_check_147 : decode b_MO_check 147 = .ok (.getfield 123, 3) := by decide +kernel
theorem d_MO_check_150 : decode b_MO_check 150 = .ok (.ifCond .ne 7, 3) := by decide +kernel
theorem d_MO_check_153 : decode b_MO_check 153 = .ok (.iconst (-1), 1) := by decide +kernel
theorem d_MO_check_154 : decode b_MO_check 154 = .ok (.goto 9, 3) := by decide +kernel
theorem d_MO_check_157 : decode b_MO_check 157 = .ok (.aload_n 0, 1) := by decide +kernel
theorem d_MO_check_158 : decode b_MO_check 158 = .ok (.getfield 48, 3) := by decide +kernel
theorem d_MO_check_161 : decode b_MO_check 161 = .ok (.iconst 0, 1) := by decide +kernel
theorem d_MO_check_162 : decode b_MO_check 162 = .ok (.iaload, 1) := by decide +kernel
theorem d_MO_check_163 : decode b_MO_check 163 = .ok (.ireturn, 1) := by decide +kernel
abbrev b_MO_putOn : ByteArray := prog_10_method_50_code
def y_MO_putOn : MethodName := ⟨"PolicyForgeModel", "putOn", "(I)V"⟩
theorem lk_MO_301 : ab_lk "PolicyForgeModel" 301 y_MO_putOn b_MO_putOn 2 none 1 17 := ⟨⟨rfl, T_MO, 44, rfl⟩, List.forall_mem_cons.mpr ⟨(ab_in 1293 (by decide +kernel) (by decide +kernel)), List.forall_mem_cons.mpr ⟨(ab_in 1295 (by decide +kernel) (by decide +kernel)), List.forall_mem_cons.mpr ⟨(ab_in 85 (by decide +kernel) (by decide +kernel)), List.forall_mem_cons.mpr ⟨(ab_in 100 (by decide +kernel) (by decide +kernel)), List.forall_mem_cons.mpr ⟨(ab_in 1296 (by decide +kernel) (by decide +kernel)), fun _ h => absurd h List.not_mem_nil⟩⟩⟩⟩⟩, ⟨by decide +kernel, by decide +kernel, by decide +kernel⟩, by decide⟩
theorem fl_MO_48 : ab_fl "PolicyForgeModel" 48 17 12 1 := ⟨rfl, R_MO, T_MO, 44, rfl, uw_MO, by decide, rfl, (ab_in 938 (by decide +kernel) (by decide +kernel))⟩
theorem fl_MO_132 : ab_fl "PolicyForgeModel" 132 17 40 0 := ⟨rfl, R_MO, T_MO, 44, rfl, uw_MO, by decide, rfl, (ab_in 966 (by decide +kernel) (by decide +kernel))⟩
abbrev b_MO_step : ByteArray := prog_10_method_53_code
def y_MO_step : MethodName := ⟨"PolicyForgeModel", "step", "(III)I"⟩
theorem lk_MO_330 : ab_lk "PolicyForgeModel" 330 y_MO_step b_MO_step 7 (some FieldType.int) 3 17 := ⟨⟨rfl, T_MO, 44, rfl⟩, List.forall_mem_cons.mpr ⟨(ab_in 1297 (by decide +kernel) (by decide +kernel)), List.forall_mem_cons.mpr ⟨(ab_in 1299 (by decide +kernel) (by decide +kernel)), List.forall_mem_cons.mpr ⟨(ab_in 86 (by decide +kernel) (by decide +kernel)), List.forall_mem_cons.mpr ⟨(ab_in 100 (by decide +kernel) (by decide +kernel)), List.forall_mem_cons.mpr ⟨(ab_in 1300 (by decide +kernel) (by decide +kernel)), fun _ h => absurd h List.not_mem_nil⟩⟩⟩⟩⟩, ⟨by decide +kernel, by decide +kernel, by decide +kernel⟩, by decide⟩
theorem fl_MO_117 : ab_fl "PolicyForgeModel" 117 17 35 0 := ⟨rfl, R_MO, T_MO, 44, rfl, uw_MO, by decide, rfl, (ab_in 961 (by decide +kernel) (by decide +kernel))⟩
theorem fl_MO_114 : ab_fl "PolicyForgeModel" 114 17 34 1 := ⟨rfl, R_MO, T_MO, 44, rfl, uw_MO, by decide, rfl, (ab_in 960 (by decide +kernel) (by decide +kernel))⟩
theorem fl_MO_123 : ab_fl "PolicyForgeModel" 123 17 37 0 := ⟨rfl, R_MO, T_MO, 44, rfl, uw_MO, by decide, rfl, (ab_in 963 (by decide +kernel) (by decide +kernel))⟩
theorem c_MO_check0 (u : ab_S) (a1 a2 : Int32) (h17 : 0 < N 17) (et : u.1 17 0 4 = 0) : ab_C false l D ca y_MO_check b_MO_check 5 (some .int) 0 N u [ab_O 17 0, ab_I a1, ab_I a2] (fun u' v => u' = ab_ui u 17 0 0 1 ∧ v = some (ab_I 0)) := by
  refine ab_C.of (by decide) (Nat.le_of_ble_eq_true rfl) ?_
  intro p e s m args below meth c ad X hZ hr0 hlk
  refine ab_aload_n X 0 d_MO_check_0 rfl rfl ?_
  refine ab_aload_n X 0 d_MO_check_1 rfl rfl ?_
  refine ab_gI X fl_MO_23 d_MO_check_2 (by first | assumption | decide) (et) ?_
  refine ab_if_eq X 12 d_MO_check_5 rfl (fun _ => ?_) (fun hb => absurd (rfl) hb)
  refine ab_iconst (v := 1) X d_MO_check_12 (by decide) ?_
  refine ab_putI X fp_MO_7 d_MO_check_13 (by first | assumption | decide) rfl rfl ?_
  refine ab_aload_n X 0 d_MO_check_16 rfl rfl ?_
  refine ab_gI X fl_MO_23 d_MO_check_17 (by first | assumption | decide) ((show _ = (0 : Int32) by simpa [ab_up] using et)) ?_
  refine ab_if_ne X 25 d_MO_check_20 rfl (fun hb => absurd (rfl) hb) (fun _ => ?_)
  refine ab_iconst (v := 0) X d_MO_check_23 (by decide) ?_
  exact ab_reti X hr0 hlk d_MO_check_24 ⟨rfl, rfl⟩
abbrev b_MO_word : ByteArray := prog_10_method_60_code
def y_MO_word : MethodName := ⟨"PolicyForgeModel", "word", "(I)I"⟩
theorem d_MO_word_0 : decode b_MO_word 0 = .ok (.aload_n 0, 1) := by decide +kernel
theorem d_MO_word_1 : decode b_MO_word 1 = .ok (.aload_n 0, 1) := by decide +kernel
theorem d_MO_word_2 : decode b_MO_word 2 = .ok (.getfield 23, 3) := by decide +kernel
theorem d_MO_word_5 : decode b_MO_word 5 = .ok (.ifCond .eq 17, 3) := by decide +kernel
theorem d_MO_word_8 : decode b_MO_word 8 = .ok (.iload_n 1, 1) := by decide +kernel
theorem d_MO_word_9 : decode b_MO_word 9 = .ok (.ifCond .lt 13, 3) := by decide +kernel
theorem d_MO_word_12 : decode b_MO_word 12 = .ok (.iload_n 1, 1) := by decide +kernel
theorem d_MO_word_13 : decode b_MO_word 13 = .ok (.aload_n 0, 1) := by decide +kernel
theorem d_MO_word_14 : decode b_MO_word 14 = .ok (.getfield 48, 3) := by decide +kernel
theorem d_MO_word_17 : decode b_MO_word 17 = .ok (.iconst 0, 1) := by decide +kernel
theorem d_MO_word_18 : decode b_MO_word 18 = .ok (.iaload, 1) := by decide +kernel
theorem d_MO_word_19 : decode b_MO_word 19 = .ok (.if_icmp .lt 7, 3) := by decide +kernel
theorem d_MO_word_22 : decode b_MO_word 22 = .ok (.iconst 1, 1) := by decide +kernel
theorem d_MO_word_23 : decode b_MO_word 23 = .ok (.goto 4, 3) := by decide +kernel
theorem d_MO_word_26 : decode b_MO_word 26 = .ok (.iconst 0, 1) := by decide +kernel
theorem d_MO_word_27 : decode b_MO_word 27 = .ok (.putfield 7, 3) := by decide +kernel
theorem d_MO_word_30 : decode b_MO_word 30 = .ok (.aload_n 0, 1) := by decide +kernel
theorem d_MO_word_31 : decode b_MO_word 31 = .ok (.getfield 7, 3) := by decide +kernel
theorem d_MO_word_34 : decode b_MO_word 34 = .ok (.ifCond .eq 7, 3) := by decide +kernel
theorem d_MO_word_37 : decode b_MO_word 37 = .ok (.iconst 0, 1) := by decide +kernel
theorem d_MO_word_38 : decode b_MO_word 38 = .ok (.goto 9, 3) := by decide +kernel
theorem d_MO_word_41 : decode b_MO_word 41 = .ok (.aload_n 0, 1) := by decide +kernel
theorem d_MO_word_42 : decode b_MO_word 42 = .ok (.getfield 57, 3) := by decide +kernel
theorem d_MO_word_45 : decode b_MO_word 45 = .ok (.iload_n 1, 1) := by decide +kernel
theorem d_MO_word_46 : decode b_MO_word 46 = .ok (.iaload, 1) := by decide +kernel
theorem d_MO_word_47 : decode b_MO_word 47 = .ok (.ireturn, 1) := by decide +kernel
theorem fl_MO_7 : ab_fl "PolicyForgeModel" 7 17 0 0 := ⟨rfl, R_MO, T_MO, 44, rfl, uw_MO, by decide, rfl, (ab_in 926 (by decide +kernel) (by decide +kernel))⟩
theorem fl_MO_57 : ab_fl "PolicyForgeModel" 57 17 15 1 := ⟨rfl, R_MO, T_MO, 44, rfl, uw_MO, by decide, rfl, (ab_in 941 (by decide +kernel) (by decide +kernel))⟩
theorem c_MO_word0 (u : ab_S) (x : Int32) (h17 : 0 < N 17) (et : u.1 17 0 4 = 0) : ab_C false l D ca y_MO_word b_MO_word 2 (some .int) 0 N u [ab_O 17 0, ab_I x] (fun u' v => u' = ab_ui u 17 0 0 1 ∧ v = some (ab_I 0)) := by
  refine ab_C.of (by decide) (Nat.le_of_ble_eq_true rfl) ?_
  intro p e s m args below meth c ad X hZ hr0 hlk
  refine ab_aload_n X 0 d_MO_word_0 rfl rfl ?_
  refine ab_aload_n X 0 d_MO_word_1 rfl rfl ?_
  refine ab_gI X fl_MO_23 d_MO_word_2 (by first | assumption | decide) (et) ?_
  refine ab_if_eq X 22 d_MO_word_5 rfl (fun _ => ?_) (fun hb => absurd (rfl) hb)
  refine ab_iconst (v := 1) X d_MO_word_22 (by decide) ?_
  refine ab_goto X 27 d_MO_word_23 rfl ?_
  refine ab_putI X fp_MO_7 d_MO_word_27 (by first | assumption | decide) rfl rfl ?_
  refine ab_aload_n X 0 d_MO_word_30 rfl rfl ?_
  refine ab_gI X fl_MO_7 d_MO_word_31 (by first | assumption | decide) ((show _ = (1 : Int32) by simp [ab_up])) ?_
  refine ab_if_eq X 41 d_MO_word_34 rfl (fun hb => absurd hb ((by decide))) (fun _ => ?_)
  refine ab_iconst (v := 0) X d_MO_word_37 (by decide) ?_
  refine ab_goto X 47 d_MO_word_38 rfl ?_
  exact ab_reti X hr0 hlk d_MO_word_47 ⟨rfl, rfl⟩
abbrev b_MO_size : ByteArray := prog_10_method_61_code
def y_MO_size : MethodName := ⟨"PolicyForgeModel", "size", "(I)I"⟩
theorem d_MO_size_0 : decode b_MO_size 0 = .ok (.aload_n 0, 1) := by decide +kernel
theorem d_MO_size_1 : decode b_MO_size 1 = .ok (.aload_n 0, 1) := by decide +kernel
theorem d_MO_size_2 : decode b_MO_size 2 = .ok (.getfield 23, 3) := by decide +kernel
theorem d_MO_size_5 : decode b_MO_size 5 = .ok (.ifCond .ne 7, 3) := by decide +kernel
theorem d_MO_size_8 : decode b_MO_size 8 = .ok (.iconst 1, 1) := by decide +kernel
theorem d_MO_size_9 : decode b_MO_size 9 = .ok (.goto 18, 3) := by decide +kernel
theorem d_MO_size_12 : decode b_MO_size 12 = .ok (.iload_n 1, 1) := by decide +kernel
theorem d_MO_size_13 : decode b_MO_size 13 = .ok (.ifCond .lt 9, 3) := by decide +kernel
theorem d_MO_size_16 : decode b_MO_size 16 = .ok (.iload_n 1, 1) := by decide +kernel
theorem d_MO_size_17 : decode b_MO_size 17 = .ok (.bipush 7, 2) := by decide +kernel
theorem d_MO_size_19 : decode b_MO_size 19 = .ok (.if_icmp .le 7, 3) := by decide +kernel
theorem d_MO_size_22 : decode b_MO_size 22 = .ok (.iconst 2, 1) := by decide +kernel
theorem d_MO_size_23 : decode b_MO_size 23 = .ok (.goto 4, 3) := by decide +kernel
theorem d_MO_size_26 : decode b_MO_size 26 = .ok (.iconst 0, 1) := by decide +kernel
theorem d_MO_size_27 : decode b_MO_size 27 = .ok (.putfield 7, 3) := by decide +kernel
theorem d_MO_size_30 : decode b_MO_size 30 = .ok (.aload_n 0, 1) := by decide +kernel
theorem d_MO_size_31 : decode b_MO_size 31 = .ok (.getfield 7, 3) := by decide +kernel
theorem d_MO_size_34 : decode b_MO_size 34 = .ok (.ifCond .eq 5, 3) := by decide +kernel
theorem d_MO_size_37 : decode b_MO_size 37 = .ok (.iconst 0, 1) := by decide +kernel
theorem d_MO_size_38 : decode b_MO_size 38 = .ok (.ireturn, 1) := by decide +kernel
theorem d_MO_size_39 : decode b_MO_size 39 = .ok (.iload_n 1, 1) := by decide +kernel
theorem d_MO_size_40 : decode b_MO_size 40 = .ok (.ifCond .ne 10, 3) := by decide +kernel
theorem d_MO_size_43 : decode b_MO_size 43 = .ok (.aload_n 0, 1) := by decide +kernel
theorem d_MO_size_44 : decode b_MO_size 44 = .ok (.getfield 30, 3) := by decide +kernel
theorem d_MO_size_47 : decode b_MO_size 47 = .ok (.goto 40, 3) := by decide +kernel
theorem d_MO_size_50 : decode b_MO_size 50 = .ok (.iload_n 1, 1) := by decide +kernel
theorem d_MO_size_51 : decode b_MO_size 51 = .ok (.iconst 4, 1) := by decide +kernel
theorem d_MO_size_52 : decode b_MO_size 52 = .ok (.if_icmp .ge 14, 3) := by decide +kernel
theorem d_MO_size_55 : decode b_MO_size 55 = .ok (.aload_n 0, 1) := by decide +kernel
theorem d_MO_size_56 : decode b_MO_size 56 = .ok (.getfield 48, 3) := by decide +kernel
theorem d_MO_size_59 : decode b_MO_size 59 = .ok (.iload_n 1, 1) := by decide +kernel
theorem d_MO_size_60 : decode b_MO_size 60 = .ok (.iconst 1, 1) := by decide +kernel
theorem d_MO_size_61 : decode b_MO_size 61 = .ok (.isub, 1) := by decide +kernel
theorem d_MO_size_62 : decode b_MO_size 62 = .ok (.iaload, 1) := by decide +kernel
theorem d_MO_size_63 : decode b_MO_size 63 = .ok (.goto 24, 3) := by decide +kernel
theorem d_MO_size_66 : decode b_MO_size 66 = .ok (.iload_n 1, 1) := by decide +kernel
theorem d_MO_size_67 : decode b_MO_size 67 = .ok (.bipush 7, 2) := by decide +kernel
theorem d_MO_size_69 : decode b_MO_size 69 = .ok (.if_icmp .ge 14, 3) := by decide +kernel
theorem d_MO_size_72 : decode b_MO_size 72 = .ok (.aload_n 0, 1) := by decide +kernel
theorem d_MO_size_73 : decode b_MO_size 73 = .ok (.getfield 51, 3) := by decide +kernel
theorem d_MO_size_76 : decode b_MO_size 76 = .ok (.iload_n 1, 1) := by decide +kernel
theorem d_MO_size_77 : decode b_MO_size 77 = .ok (.iconst 4, 1) := by decide +kernel
theorem d_MO_size_78 : decode b_MO_size 78 = .ok (.isub, 1) := by decide +kernel
theorem d_MO_size_79 : decode b_MO_size 79 = .ok (.iaload, 1) := by decide +kernel
theorem d_MO_size_80 : decode b_MO_size 80 = .ok (.goto 7, 3) := by decide +kernel
theorem d_MO_size_83 : decode b_MO_size 83 = .ok (.aload_n 0, 1) := by decide +kernel
theorem d_MO_size_84 : decode b_MO_size 84 = .ok (.getfield 27, 3) := by decide +kernel
theorem d_MO_size_87 : decode b_MO_size 87 = .ok (.ireturn, 1) := by decide +kernel
theorem fl_MO_30 : ab_fl "PolicyForgeModel" 30 17 6 0 := ⟨rfl, R_MO, T_MO, 44, rfl, uw_MO, by decide, rfl, (ab_in 932 (by decide +kernel) (by decide +kernel))⟩
theorem fl_MO_51 : ab_fl "PolicyForgeModel" 51 17 13 1 := ⟨rfl, R_MO, T_MO, 44, rfl, uw_MO, by decide, rfl, (ab_in 939 (by decide +kernel) (by decide +kernel))⟩
theorem c_MO_size0 (u : ab_S) (x : Int32) (h17 : 0 < N 17) (et : u.1 17 0 4 = 0) : ab_C false l D ca y_MO_size b_MO_size 2 (some .int) 0 N u [ab_O 17 0, ab_I x] (fun u' v => u' = ab_ui u 17 0 0 1 ∧ v = some (ab_I 0)) := by
  refine ab_C.of (by decide) (Nat.le_of_ble_eq_true rfl) ?_
  intro p e s m args below meth c ad X hZ hr0 hlk
  refine ab_aload_n X 0 d_MO_size_0 rfl rfl ?_
  refine ab_aload_n X 0 d_MO_size_1 rfl rfl ?_
  refine ab_gI X fl_MO_23 d_MO_size_2 (by first | assumption | decide) (et) ?_
  refine ab_if_ne X 12 d_MO_size_5 rfl (fun hb => absurd (rfl) hb) (fun _ => ?_)
  refine ab_iconst (v := 1) X d_MO_size_8 (by decide) ?_
  refine ab_goto X 27 d_MO_size_9 rfl ?_
  refine ab_putI X fp_MO_7 d_MO_size_27 (by first | assumption | decide) rfl rfl ?_
  refine ab_aload_n X 0 d_MO_size_30 rfl rfl ?_
  refine ab_gI X fl_MO_7 d_MO_size_31 (by first | assumption | decide) ((show _ = (1 : Int32) by simp [ab_up])) ?_
  refine ab_if_eq X 39 d_MO_size_34 rfl (fun hb => absurd hb ((by decide))) (fun _ => ?_)
  refine ab_iconst (v := 0) X d_MO_size_37 (by decide) ?_
  exact ab_reti X hr0 hlk d_MO_size_38 ⟨rfl, rfl⟩
abbrev b_MO_item : ByteArray := prog_10_method_65_code
def y_MO_item : MethodName := ⟨"PolicyForgeModel", "item", "(I)I"⟩
theorem d_MO_item_0 : decode b_MO_item 0 = .ok (.aload_n 0, 1) := by decide +kernel
theorem d_MO_item_1 : decode b_MO_item 1 = .ok (.iload_n 1, 1) := by decide +kernel
theorem d_MO_item_2 : decode b_MO_item 2 = .ok (.ifCond .lt 11, 3) := by decide +kernel
theorem d_MO_item_5 : decode b_MO_item 5 = .ok (.iload_n 1, 1) := by decide +kernel
theorem d_MO_item_6 : decode b_MO_item 6 = .ok (.aload_n 0, 1) := by decide +kernel
theorem d_MO_item_7 : decode b_MO_item 7 = .ok (.getfield 108, 3) := by decide +kernel
theorem d_MO_item_10 : decode b_MO_item 10 = .ok (.if_icmp .lt 7, 3) := by decide +kernel
theorem d_MO_item_13 : decode b_MO_item 13 = .ok (.iconst 1, 1) := by decide +kernel
theorem d_MO_item_14 : decode b_MO_item 14 = .ok (.goto 4, 3) := by decide +kernel
theorem d_MO_item_17 : decode b_MO_item 17 = .ok (.iconst 0, 1) := by decide +kernel
theorem d_MO_item_18 : decode b_MO_item 18 = .ok (.putfield 7, 3) := by decide +kernel
theorem d_MO_item_21 : decode b_MO_item 21 = .ok (.aload_n 0, 1) := by decide +kernel
theorem d_MO_item_22 : decode b_MO_item 22 = .ok (.getfield 7, 3) := by decide +kernel
theorem d_MO_item_25 : decode b_MO_item 25 = .ok (.ifCond .eq 7, 3) := by decide +kernel
theorem d_MO_item_28 : decode b_MO_item 28 = .ok (.iconst 0, 1) := by decide +kernel
theorem d_MO_item_29 : decode b_MO_item 29 = .ok (.goto 9, 3) := by decide +kernel
theorem d_MO_item_32 : decode b_MO_item 32 = .ok (.aload_n 0, 1) := by decide +kernel
theorem d_MO_item_33 : decode b_MO_item 33 = .ok (.getfield 105, 3) := by decide +kernel
theorem d_MO_item_36 : decode b_MO_item 36 = .ok (.iload_n 1, 1) := by decide +kernel
theorem d_MO_item_37 : decode b_MO_item 37 = .ok (.iaload, 1) := by decide +kernel
theorem d_MO_item_38 : decode b_MO_item 38 = .ok (.ireturn, 1) := by decide +kernel
set_option maxRecDepth 100000 in
set_option maxHeartbeats 4000000 in
theorem c_MO_item (u : ab_S) (x : Int32) (n : Nat) (h17 : 0 < N 17) (h18 : 17 < N 18) (ew : u.2.1 17 0 31 = some (18, 17)) (en : u.1 17 0 32 = nI n) (hn : n ≤ 64) : ab_C false l D ca y_MO_item b_MO_item 2 (some .int) 0 N u [ab_O 17 0, ab_I x] (fun u' v => (∃ j, j < n ∧ x = nI j ∧ u' = ab_ui u 17 0 0 0 ∧ v = some (ab_I (u.1 18 17 j))) ∨ ((x < 0 ∨ nI n ≤ x) ∧ u' = ab_ui u 17 0 0 1 ∧ v = some (ab_I 0))) := by
  refine ab_C.of (by decide) (Nat.le_of_ble_eq_true rfl) ?_
  intro p e s m args below meth c ad X hZ hr0 hlk
  by_cases h1 : x < 0
  ·
    refine ab_aload_n X 0 d_MO_item_0 rfl rfl ?_
    refine ab_iload_n X 1 d_MO_item_1 rfl rfl ?_
    refine ab_if_lt X 13 d_MO_item_2 rfl (fun _ => ?_) (fun hb => absurd (h1) hb)
    refine ab_iconst (v := 1) X d_MO_item_13 (by decide) ?_
    refine ab_goto X 18 d_MO_item_14 rfl ?_
    refine ab_putI X fp_MO_7 d_MO_item_18 (by first | assumption | decide) rfl rfl ?_
    refine ab_aload_n X 0 d_MO_item_21 rfl rfl ?_
    refine ab_gI X fl_MO_7 d_MO_item_22 (by first | assumption | decide) ((show _ = (1 : Int32) by simp [ab_up])) ?_
    refine ab_if_eq X 32 d_MO_item_25 rfl (fun hb => absurd hb ((by decide))) (fun _ => ?_)
    refine ab_iconst (v := 0) X d_MO_item_28 (by decide) ?_
    refine ab_goto X 38 d_MO_item_29 rfl ?_
    exact ab_reti X hr0 hlk d_MO_item_38 (Or.inr ⟨Or.inl h1, rfl, rfl⟩)
  · by_cases h2 : x < nI n
    · obtain ⟨j, hj, rfl⟩ : ∃ j, j < n ∧ x = nI j := by
        rcases pk_ix x (n := n) (by omega) with h | h | h
        · exact absurd h h1
        · exact absurd h2 (Int32.not_lt.mpr h)
        · exact h
      refine ab_aload_n X 0 d_MO_item_0 rfl rfl ?_
      refine ab_iload_n X 1 d_MO_item_1 rfl rfl ?_
      refine ab_if_lt X 13 d_MO_item_2 rfl (fun hb => absurd hb (h1)) (fun _ => ?_)
      refine ab_iload_n X 1 d_MO_item_5 rfl rfl ?_
      refine ab_aload_n X 0 d_MO_item_6 rfl rfl ?_
      refine ab_gI X fl_MO_108 d_MO_item_7 (by first | assumption | decide) (en) ?_
      refine ab_icmp_lt X 17 d_MO_item_10 rfl (fun _ => ?_) (fun hb => absurd (h2) hb)
      refine ab_iconst (v := 0) X d_MO_item_17 (by decide) ?_
      refine ab_putI X fp_MO_7 d_MO_item_18 (by first | assumption | decide) rfl rfl ?_
      refine ab_aload_n X 0 d_MO_item_21 rfl rfl ?_
      refine ab_gI X fl_MO_7 d_MO_item_22 (by first | assumption | decide) ((show _ = (0 : Int32) by simp [ab_up])) ?_
      refine ab_if_eq X 32 d_MO_item_25 rfl (fun _ => ?_) (fun hb => absurd (rfl) hb)
      refine ab_aload_n X 0 d_MO_item_32 rfl rfl ?_
      refine ab_gR X fl_MO_105 d_MO_item_33 (by first | assumption | decide) (ew) ?_
      refine ab_iload_n X 1 d_MO_item_36 rfl rfl ?_
      refine ab_iald X (j) ⟨rfl, rfl⟩ d_MO_item_37 (by first | assumption | decide) (rfl) (show j < 64 by omega) (ab_ln_lt _ _) ?_
      exact ab_reti X hr0 hlk d_MO_item_38 (Or.inl ⟨j, hj, rfl, rfl, by simp [ab_up]⟩)
    ·
      refine ab_aload_n X 0 d_MO_item_0 rfl rfl ?_
      refine ab_iload_n X 1 d_MO_item_1 rfl rfl ?_
      refine ab_if_lt X 13 d_MO_item_2 rfl (fun hb => absurd hb (h1)) (fun _ => ?_)
      refine ab_iload_n X 1 d_MO_item_5 rfl rfl ?_
      refine ab_aload_n X 0 d_MO_item_6 rfl rfl ?_
      refine ab_gI X fl_MO_108 d_MO_item_7 (by first | assumption | decide) (en) ?_
      refine ab_icmp_lt X 17 d_MO_item_10 rfl (fun hb => absurd hb (h2)) (fun _ => ?_)
      refine ab_iconst (v := 1) X d_MO_item_13 (by decide) ?_
      refine ab_goto X 18 d_MO_item_14 rfl ?_
      refine ab_putI X fp_MO_7 d_MO_item_18 (by first | assumption | decide) rfl rfl ?_
      refine ab_aload_n X 0 d_MO_item_21 rfl rfl ?_
      refine ab_gI X fl_MO_7 d_MO_item_22 (by first | assumption | decide) ((show _ = (1 : Int32) by simp [ab_up])) ?_
      refine ab_if_eq X 32 d_MO_item_25 rfl (fun hb => absurd hb ((by decide))) (fun _ => ?_)
      refine ab_iconst (v := 0) X d_MO_item_28 (by decide) ?_
      refine ab_goto X 38 d_MO_item_29 rfl ?_
      exact ab_reti X hr0 hlk d_MO_item_38 (Or.inr ⟨Or.inr (Int32.not_lt.mp h2), rfl, rfl⟩)
abbrev b_MO_put : ByteArray := prog_10_method_63_code
def y_MO_put : MethodName := ⟨"PolicyForgeModel", "put", "(I)I"⟩
theorem d_MO_put_0 : decode b_MO_put 0 = .ok (.iload_n 1, 1) := by decide +kernel
theorem d_MO_put_1 : decode b_MO_put 1 = .ok (.ifCond .eq 32, 3) := by decide +kernel
theorem d_MO_put_4 : decode b_MO_put 4 = .ok (.iload_n 1, 1) := by decide +kernel
theorem d_MO_put_5 : decode b_MO_put 5 = .ok (.iconst 1, 1) := by decide +kernel
theorem d_MO_put_6 : decode b_MO_put 6 = .ok (.if_icmp .eq 27, 3) := by decide +kernel
theorem d_MO_put_9 : decode b_MO_put 9 = .ok (.iload_n 1, 1) := by decide +kernel
theorem d_MO_put_10 : decode b_MO_put 10 = .ok (.bipush 10, 2) := by decide +kernel
theorem d_MO_put_12 : decode b_MO_put 12 = .ok (.if_icmp .lt 9, 3) := by decide +kernel
theorem d_MO_put_15 : decode b_MO_put 15 = .ok (.iload_n 1, 1) := by decide +kernel
theorem d_MO_put_16 : decode b_MO_put 16 = .ok (.bipush 17, 2) := by decide +kernel
theorem d_MO_put_18 : decode b_MO_put 18 = .ok (.if_icmp .le 15, 3) := by decide +kernel
theorem d_MO_put_21 : decode b_MO_put 21 = .ok (.iload_n 1, 1) := by decide +kernel
theorem d_MO_put_22 : decode b_MO_put 22 = .ok (.bipush 20, 2) := by decide +kernel
theorem d_MO_put_24 : decode b_MO_put 24 = .ok (.if_icmp .lt 13, 3) := by decide +kernel
theorem d_MO_put_27 : decode b_MO_put 27 = .ok (.iload_n 1, 1) := by decide +kernel
theorem d_MO_put_28 : decode b_MO_put 28 = .ok (.bipush 29, 2) := by decide +kernel
theorem d_MO_put_30 : decode b_MO_put 30 = .ok (.if_icmp .gt 7, 3) := by decide +kernel
theorem d_MO_put_33 : decode b_MO_put 33 = .ok (.iconst 1, 1) := by decide +kernel
theorem d_MO_put_34 : decode b_MO_put 34 = .ok (.goto 4, 3) := by decide +kernel
theorem d_MO_put_37 : decode b_MO_put 37 = .ok (.iconst 0, 1) := by decide +kernel
theorem d_MO_put_38 : decode b_MO_put 38 = .ok (.istore_n 2, 1) := by decide +kernel
theorem d_MO_put_39 : decode b_MO_put 39 = .ok (.aload_n 0, 1) := by decide +kernel
theorem d_MO_put_40 : decode b_MO_put 40 = .ok (.iload_n 2, 1) := by decide +kernel
theorem d_MO_put_41 : decode b_MO_put 41 = .ok (.ifCond .ne 7, 3) := by decide +kernel
theorem d_MO_put_44 : decode b_MO_put 44 = .ok (.iconst 1, 1) := by decide +kernel
theorem d_MO_put_45 : decode b_MO_put 45 = .ok (.goto 17, 3) := by decide +kernel
theorem d_MO_put_48 : decode b_MO_put 48 = .ok (.aload_n 0, 1) := by decide +kernel
theorem d_MO_put_49 : decode b_MO_put 49 = .ok (.getfield 108, 3) := by decide +kernel
theorem d_MO_put_52 : decode b_MO_put 52 = .ok (.bipush 24, 2) := by decide +kernel
theorem d_MO_put_54 : decode b_MO_put 54 = .ok (.if_icmp .lt 7, 3) := by decide +kernel
theorem d_MO_put_57 : decode b_MO_put 57 = .ok (.iconst 2, 1) := by decide +kernel
theorem d_MO_put_58 : decode b_MO_put 58 = .ok (.goto 4, 3) := by decide +kernel
theorem d_MO_put_61 : decode b_MO_put 61 = .ok (.iconst 0, 1) := by decide +kernel
theorem d_MO_put_62 : decode b_MO_put 62 = .ok (.putfield 7, 3) := by decide +kernel
theorem d_MO_put_65 : decode b_MO_put 65 = .ok (.aload_n 0, 1) := by decide +kernel
theorem d_MO_put_66 : decode b_MO_put 66 = .ok (.getfield 7, 3) := by decide +kernel
theorem d_MO_put_69 : decode b_MO_put 69 = .ok (.ifCond .eq 5, 3) := by decide +kernel
theorem d_MO_put_72 : decode b_MO_put 72 = .ok (.iconst 0, 1) := by decide +kernel
theorem d_MO_put_73 : decode b_MO_put 73 = .ok (.ireturn, 1) := by decide +kernel
theorem d_MO_put_74 : decode b_MO_put 74 = .ok (.aload_n 0, 1) := by decide +kernel
theorem d_MO_put_75 : decode b_MO_put 75 = .ok (.getfield 105, 3) := by decide +kernel
theorem d_MO_put_78 : decode b_MO_put 78 = .ok (.aload_n 0, 1) := by decide +kernel
theorem d_MO_put_79 : decode b_MO_put 79 = .ok (.getfield 108, 3) := by decide +kernel
theorem d_MO_put_82 : decode b_MO_put 82 = .ok (.iload_n 1, 1) := by decide +kernel
theorem d_MO_put_83 : decode b_MO_put 83 = .ok (.iastore, 1) := by decide +kernel
theorem d_MO_put_84 : decode b_MO_put 84 = .ok (.aload_n 0, 1) := by decide +kernel
theorem d_MO_put_85 : decode b_MO_put 85 = .ok (.dup, 1) := by decide +kernel
theorem d_MO_put_86 : decode b_MO_put 86 = .ok (.getfield 108, 3) := by decide +kernel
theorem d_MO_put_89 : decode b_MO_put 89 = .ok (.iconst 1, 1) := by decide +kernel
theorem d_MO_put_90 : decode b_MO_put 90 = .ok (.iadd, 1) := by decide +kernel
theorem d_MO_put_91 : decode b_MO_put 91 = .ok (.putfield 108, 3) := by decide +kernel
theorem d_MO_put_94 : decode b_MO_put 94 = .ok (.aload_n 0, 1) := by decide +kernel
theorem d_MO_put_95 : decode b_MO_put 95 = .ok (.getfield 108, 3) := by decide +kernel
theorem d_MO_put_98 : decode b_MO_put 98 = .ok (.ireturn, 1) := by decide +kernel
set_option maxRecDepth 100000 in
set_option maxHeartbeats 4000000 in
theorem c_MO_put (u : ab_S) (x : Int32) (n : Nat) (h17 : 0 < N 17) (hA18 : 17 < N 18) (ew : u.2.1 17 0 31 = some (18, 17)) (en : u.1 17 0 32 = nI n) (hn : n ≤ 64) : ab_C false l D ca y_MO_put b_MO_put 3 (some .int) 0 N u [ab_O 17 0, ab_I x] (fun u' v => (ab_item x ∧ n < 24 ∧ u' = ab_ui (ab_ui (ab_ui u 17 0 0 0) 18 17 n x) 17 0 32 (nI (n + 1)) ∧ v = some (ab_I (nI (n + 1)))) ∨ (¬ ab_item x ∧ u' = ab_ui u 17 0 0 1 ∧ v = some (ab_I 0)) ∨ (ab_item x ∧ 24 ≤ n ∧ u' = ab_ui u 17 0 0 2 ∧ v = some (ab_I 0))) := by
  refine ab_C.of (by decide) (Nat.le_of_ble_eq_true rfl) ?_
  intro p e s m args below meth c ad X hZ hr0 hlk
  have le : ∀ {a b : Int32}, ¬ a ≤ b → b < a := fun h => Int32.not_le.mp h
  have ge : ∀ {a b : Int32}, ¬ a < b → b ≤ a := fun h => Int32.not_lt.mp h
  have s17 : x ≤ 17 ↔ x < 18 := by
    rw [Int32.le_iff_toInt_le, Int32.lt_iff_toInt_lt]
    show _ ↔ _ < (18 : Int)
    show x.toInt ≤ (17 : Int) ↔ _
    omega
  have s29 : x ≤ 29 ↔ x < 30 := by
    rw [Int32.le_iff_toInt_le, Int32.lt_iff_toInt_lt]
    show _ ↔ _ < (30 : Int)
    show x.toInt ≤ (29 : Int) ↔ _
    omega
  have yes : ab_item x → ab_J p l e (ab_rm 0 0 0) s m args below meth c (MQ below (ab_Q D ca ad N s.heap.size (fun u' v => (ab_item x ∧ n < 24 ∧ u' = ab_ui (ab_ui (ab_ui u 17 0 0 0) 18 17 n x) 17 0 32 (nI (n + 1)) ∧ v = some (ab_I (nI (n + 1)))) ∨ (¬ ab_item x ∧ u' = ab_ui u 17 0 0 1 ∧ v = some (ab_I 0)) ∨ (ab_item x ∧ 24 ≤ n ∧ u' = ab_ui u 17 0 0 2 ∧ v = some (ab_I 0)))) args s 0 0 (ab_A ad N s.heap.size)) D ca (ab_A ad N s.heap.size) s.heap 3 0 0 ad N u 33 [(0, ab_O 17 0), (1, ab_I x)] [] := by
    intro hi
    by_cases h24 : n < 24
    ·
      refine ab_iconst (v := 1) X d_MO_put_33 (by decide) ?_
      refine ab_goto X 38 d_MO_put_34 rfl ?_
      refine ab_istore_n2 X 0 1 d_MO_put_38 rfl (by decide) rfl rfl rfl rfl ?_
      refine ab_aload_n X 1 d_MO_put_39 rfl rfl ?_
      refine ab_iload_n X 0 d_MO_put_40 rfl rfl ?_
      refine ab_if_ne X 48 d_MO_put_41 rfl (fun _ => ?_) (fun hb => absurd hb ((by decide)))
      refine ab_aload_n X 1 d_MO_put_48 rfl rfl ?_
      refine ab_gI X fl_MO_108 d_MO_put_49 (by first | assumption | decide) (en) ?_
      refine ab_bipush (v := 24) X d_MO_put_52 (by decide) ?_
      refine ab_icmp_lt X 61 d_MO_put_54 rfl (fun _ => ?_) (fun hb => absurd ((show nI n < 24 from nI_lt (b := 24) h24 (by decide))) hb)
      refine ab_iconst (v := 0) X d_MO_put_61 (by decide) ?_
      refine ab_putI X fp_MO_7 d_MO_put_62 (by first | assumption | decide) rfl rfl ?_
      refine ab_aload_n X 1 d_MO_put_65 rfl rfl ?_
      refine ab_gI X fl_MO_7 d_MO_put_66 (by first | assumption | decide) ((show _ = (0 : Int32) by simp [ab_up])) ?_
      refine ab_if_eq X 74 d_MO_put_69 rfl (fun _ => ?_) (fun hb => absurd (rfl) hb)
      refine ab_aload_n X 1 d_MO_put_74 rfl rfl ?_
      refine ab_gR X fl_MO_105 d_MO_put_75 (by first | assumption | decide) (ew) ?_
      refine ab_aload_n X 1 d_MO_put_78 rfl rfl ?_
      refine ab_gI X fl_MO_108 d_MO_put_79 (by first | assumption | decide) ((show _ = nI n by simpa [ab_up] using en)) ?_
      refine ab_iload_n X 2 d_MO_put_82 rfl rfl ?_
      refine ab_iast X (n) ⟨rfl, rfl⟩ d_MO_put_83 (by first | assumption | decide) (rfl) (show n < 64 by omega) (ab_ln_lt _ _) ?_
      refine ab_aload_n X 1 d_MO_put_84 rfl rfl ?_
      refine ab_dup X d_MO_put_85 rfl ?_
      refine ab_gI X fl_MO_108 d_MO_put_86 (by first | assumption | decide) ((show _ = nI n by simpa [ab_up] using en)) ?_
      refine ab_iconst (v := 1) X d_MO_put_89 (by decide) ?_
      refine ab_iadd X d_MO_put_90 ?_
      refine ab_top (nI_1 _) ?_
      refine ab_putI X fp_MO_108 d_MO_put_91 (by first | assumption | decide) rfl rfl ?_
      refine ab_aload_n X 1 d_MO_put_94 rfl rfl ?_
      refine ab_gI X fl_MO_108 d_MO_put_95 (by first | assumption | decide) ((show _ = nI (n + 1) by simp [ab_up])) ?_
      exact ab_reti X hr0 hlk d_MO_put_98 (Or.inl ⟨hi, h24, rfl, rfl⟩)
    ·
      refine ab_iconst (v := 1) X d_MO_put_33 (by decide) ?_
      refine ab_goto X 38 d_MO_put_34 rfl ?_
      refine ab_istore_n2 X 0 1 d_MO_put_38 rfl (by decide) rfl rfl rfl rfl ?_
      refine ab_aload_n X 1 d_MO_put_39 rfl rfl ?_
      refine ab_iload_n X 0 d_MO_put_40 rfl rfl ?_
      refine ab_if_ne X 48 d_MO_put_41 rfl (fun _ => ?_) (fun hb => absurd hb ((by decide)))
      refine ab_aload_n X 1 d_MO_put_48 rfl rfl ?_
      refine ab_gI X fl_MO_108 d_MO_put_49 (by first | assumption | decide) (en) ?_
      refine ab_bipush (v := 24) X d_MO_put_52 (by decide) ?_
      refine ab_icmp_lt X 61 d_MO_put_54 rfl (fun hb => absurd hb ((show ¬ nI n < 24 from nI_nlt (b := 24) (by omega) (by omega)))) (fun _ => ?_)
      refine ab_iconst (v := 2) X d_MO_put_57 (by decide) ?_
      refine ab_goto X 62 d_MO_put_58 rfl ?_
      refine ab_putI X fp_MO_7 d_MO_put_62 (by first | assumption | decide) rfl rfl ?_
      refine ab_aload_n X 1 d_MO_put_65 rfl rfl ?_
      refine ab_gI X fl_MO_7 d_MO_put_66 (by first | assumption | decide) ((show _ = (2 : Int32) by simp [ab_up])) ?_
      refine ab_if_eq X 74 d_MO_put_69 rfl (fun hb => absurd hb ((by decide))) (fun _ => ?_)
      refine ab_iconst (v := 0) X d_MO_put_72 (by decide) ?_
      exact ab_reti X hr0 hlk d_MO_put_73 (Or.inr (Or.inr ⟨hi, by omega, rfl, rfl⟩))
  have no : ¬ ab_item x → ab_J p l e (ab_rm 0 0 0) s m args below meth c (MQ below (ab_Q D ca ad N s.heap.size (fun u' v => (ab_item x ∧ n < 24 ∧ u' = ab_ui (ab_ui (ab_ui u 17 0 0 0) 18 17 n x) 17 0 32 (nI (n + 1)) ∧ v = some (ab_I (nI (n + 1)))) ∨ (¬ ab_item x ∧ u' = ab_ui u 17 0 0 1 ∧ v = some (ab_I 0)) ∨ (ab_item x ∧ 24 ≤ n ∧ u' = ab_ui u 17 0 0 2 ∧ v = some (ab_I 0)))) args s 0 0 (ab_A ad N s.heap.size)) D ca (ab_A ad N s.heap.size) s.heap 3 0 0 ad N u 37 [(0, ab_O 17 0), (1, ab_I x)] [] := by
    intro hi
    refine ab_iconst (v := 0) X d_MO_put_37 (by decide) ?_
    refine ab_istore_n2 X 0 1 d_MO_put_38 rfl (by decide) rfl rfl rfl rfl ?_
    refine ab_aload_n X 1 d_MO_put_39 rfl rfl ?_
    refine ab_iload_n X 0 d_MO_put_40 rfl rfl ?_
    refine ab_if_ne X 48 d_MO_put_41 rfl (fun hb => absurd (rfl) hb) (fun _ => ?_)
    refine ab_iconst (v := 1) X d_MO_put_44 (by decide) ?_
    refine ab_goto X 62 d_MO_put_45 rfl ?_
    refine ab_putI X fp_MO_7 d_MO_put_62 (by first | assumption | decide) rfl rfl ?_
    refine ab_aload_n X 1 d_MO_put_65 rfl rfl ?_
    refine ab_gI X fl_MO_7 d_MO_put_66 (by first | assumption | decide) ((show _ = (1 : Int32) by simp [ab_up])) ?_
    refine ab_if_eq X 74 d_MO_put_69 rfl (fun hb => absurd hb ((by decide))) (fun _ => ?_)
    refine ab_iconst (v := 0) X d_MO_put_72 (by decide) ?_
    exact ab_reti X hr0 hlk d_MO_put_73 (Or.inr (Or.inl ⟨hi, rfl, rfl⟩))
  have from21 : ¬ x = 0 → ¬ x = 1 → ¬ (10 ≤ x ∧ x < 18) → ab_J p l e (ab_rm 0 0 0) s m args below meth c (MQ below (ab_Q D ca ad N s.heap.size (fun u' v => (ab_item x ∧ n < 24 ∧ u' = ab_ui (ab_ui (ab_ui u 17 0 0 0) 18 17 n x) 17 0 32 (nI (n + 1)) ∧ v = some (ab_I (nI (n + 1)))) ∨ (¬ ab_item x ∧ u' = ab_ui u 17 0 0 1 ∧ v = some (ab_I 0)) ∨ (ab_item x ∧ 24 ≤ n ∧ u' = ab_ui u 17 0 0 2 ∧ v = some (ab_I 0)))) args s 0 0 (ab_A ad N s.heap.size)) D ca (ab_A ad N s.heap.size) s.heap 3 0 0 ad N u 21 [(0, ab_O 17 0), (1, ab_I x)] [] := by
    intro a0 a1 a2
    refine ab_iload_n X 1 d_MO_put_21 rfl rfl ?_
    refine ab_bipush (v := 20) X d_MO_put_22 (by decide) ?_
    refine ab_icmp_lt X 37 d_MO_put_24 rfl (fun h24 => ?_) (fun h24 => ?_)
    · exact no (fun h => by
        rcases h with h | h | h | h
        · exact a0 h
        · exact a1 h
        · exact a2 h
        · exact absurd h24 (Int32.not_lt.mpr h.1))
    ·
      refine ab_iload_n X 1 d_MO_put_27 rfl rfl ?_
      refine ab_bipush (v := 29) X d_MO_put_28 (by decide) ?_
      refine ab_icmp_gt X 37 d_MO_put_30 rfl (fun h30 => ?_) (fun h30 => ?_)
      · exact no (fun h => by
          rcases h with h | h | h | h
          · exact a0 h
          · exact a1 h
          · exact a2 h
          · exact absurd h30 (Int32.not_lt.mpr (s29.mpr h.2)))
      · exact yes (Or.inr (Or.inr (Or.inr ⟨ge h24, s29.mp (ge h30)⟩)))
  refine ab_iload_n X 1 d_MO_put_0 rfl rfl ?_
  refine ab_if_eq X 33 d_MO_put_1 rfl (fun h1 => ?_) (fun h1 => ?_)
  · exact yes (Or.inl h1)
  ·
    refine ab_iload_n X 1 d_MO_put_4 rfl rfl ?_
    refine ab_iconst (v := 1) X d_MO_put_5 (by decide) ?_
    refine ab_icmp_eq X 33 d_MO_put_6 rfl (fun h6 => ?_) (fun h6 => ?_)
    · exact yes (Or.inr (Or.inl h6))
    ·
      refine ab_iload_n X 1 d_MO_put_9 rfl rfl ?_
      refine ab_bipush (v := 10) X d_MO_put_10 (by decide) ?_
      refine ab_icmp_lt X 21 d_MO_put_12 rfl (fun h12 => ?_) (fun h12 => ?_)
      · exact from21 h1 h6 (fun h => absurd h12 (Int32.not_lt.mpr h.1))
      ·
        refine ab_iload_n X 1 d_MO_put_15 rfl rfl ?_
        refine ab_bipush (v := 17) X d_MO_put_16 (by decide) ?_
        refine ab_icmp_le X 33 d_MO_put_18 rfl (fun h18 => ?_) (fun h18 => ?_)
        · exact yes (Or.inr (Or.inr (Or.inl ⟨ge h12, s17.mp h18⟩)))
        · exact from21 h1 h6 (fun h => absurd (s17.mpr h.2) h18)
end AbMS
end
section
/-! Names: the seven strings, what the JDK says of them. -/
section AbStr
variable {p : Program} {l : Launch} {e : Env} {R : Room} {s : State} {m : MethodId} {args : Array Value} {below : List Frame} {meth : Method} {c : Code} {Q : State → Prop}
variable {cc : ByteArray} {own : String} {nL : Nat} {D : va_G} {ca : Nat → ClassId} {A : Nat → Prop} {H0 : Heap} {cells slots : Nat} {ad : ab_Ad} {N : Nat → Nat} {u : ab_S} {pc : Nat} {lv : List (Nat × ab_V)} {st : List ab_V}
theorem ab_retn (X : ab_X p s m args c cc own nL D ca (ab_A ad N s.heap.size) s.heap) {ty : FieldType} (hr : meth.sig.returnType = some ty) (hlk : meth.locks = false) {v : Int32} (hv : narrow ty (.int v) = .int v) (hd : decode cc pc = .ok (.ireturn, 1)) {Post : ab_S → Option ab_V → Prop} (hP : Post u (some (ab_I v))) : ab_J p l e R s m args below meth c (MQ below (ab_Q D ca ad N s.heap.size Post) args s cells slots (ab_A ad N s.heap.size)) D ca (ab_A ad N s.heap.size) s.heap nL cells slots ad N u pc lv [ab_I v] :=
  fun H locs ls hW hS hl => W.zret X.1 X.2.1 hr hv (fun t ht hWt => ⟨⟨u, some (ab_I v), rfl, hP, by rw [ht]; exact hW.weaken (fun _ _ _ => trivial), va_K.moved hWt.alike X.2.2.2.2.2.1⟩, hS.F ht⟩) hS.2.2 hd hlk
theorem ab_sval (X : ab_X p s m args c cc own nL D ca A s.heap) (hz : ab_Zs ad A s s.heap) {idx i : Nat} (hi : i < 7) (hlk : Cond.fieldLink own idx "java/lang/String" "value" "[B" ∈ ab_T) (hd : decode cc pc = .ok (.getfield idx, 3)) (kk : ab_J p l e R s m args below meth c Q D ca A s.heap nL cells slots ad N u (pc + 3) lv (ab_O 24 i :: st)) : ab_J p l e R s m args below meth c Q D ca A s.heap nL cells slots ad N u pc lv (ab_O 22 i :: st) := fun H locs ls hW hS hl =>
  vk_getf X.1 X.2.1 (hz.2.2.2.2.2.2.1.1 i hi).2.2.1 hS X.2.2.2.1 (X.2.2.2.2.1 _ hlk) (fun _ h => h) hd (kk H locs ls hW hS hl)
theorem ab_scod (X : ab_X p s m args c cc own nL D ca A s.heap) (hz : ab_Zs ad A s s.heap) {idx i : Nat} (hi : i < 7) (hlk : Cond.fieldLink own idx "java/lang/String" "coder" "B" ∈ ab_T) (hd : decode cc pc = .ok (.getfield idx, 3)) (kk : ab_J p l e R s m args below meth c Q D ca A s.heap nL cells slots ad N u (pc + 3) lv (ab_I 0 :: st)) : ab_J p l e R s m args below meth c Q D ca A s.heap nL cells slots ad N u pc lv (ab_O 22 i :: st) := fun H locs ls hW hS hl =>
  vk_getf X.1 X.2.1 (hz.2.2.2.2.2.2.1.1 i hi).2.1 hS X.2.2.2.1 (X.2.2.2.2.1 _ hlk) (fun _ h => h) hd (kk H locs ls hW hS hl)
theorem ab_stln (X : ab_X p s m args c cc own nL D ca A s.heap) (hz : ab_Zs ad A s s.heap) {i : Nat} (hi : i < 7) (hd : decode cc pc = .ok (.arraylength, 1)) (kk : ab_J p l e R s m args below meth c Q D ca A s.heap nL cells slots ad N u (pc + 1) lv (ab_I (nI (ab_sl.getD i 0)) :: st)) : ab_J p l e R s m args below meth c Q D ca A s.heap nL cells slots ad N u pc lv (ab_O 24 i :: st) := fun H locs ls hW hS hl =>
  va_tlen (ty := .byte) X.1 X.2.1 (hz.2.2.2.2.2.2.1.1 i hi).2.2.2 hS rfl hd (kk H locs ls hW hS hl)
theorem ab_scom (X : ab_X p s m args c cc own nL D ca A s.heap) (hz : ab_Zs ad A s s.heap) {idx : Nat} (hlk : Cond.fieldLink own idx "java/lang/String" "COMPACT_STRINGS" "Z" ∈ ab_T) (hd : decode cc pc = .ok (.getstatic idx, 3)) (kk : ab_J p l e R s m args below meth c Q D ca A s.heap nL cells slots ad N u (pc + 3) lv (ab_I 1 :: st)) : ab_J p l e R s m args below meth c Q D ca A s.heap nL cells slots ad N u pc lv st := fun H locs ls hW hS hl =>
  va_gets X.1 X.2.1 hz.2.2.2.2.2.2.2.1 hS X.2.2.2.1 (X.2.2.2.2.1 _ hlk) (fun _ h => h) hd (kk H locs ls hW hS hl)
theorem ab_sldc (X : ab_X p s m args c cc "PolicyForge$Reader" nL D ca A s.heap) (hz : ab_Zs ad A s s.heap) {idx : Nat} (i : Nat) (hi : i < 7) (hx : 93 + 2 * i = idx) (hd : decode cc pc = .ok (.ldc idx, 2)) (kk : ab_J p l e R s m args below meth c Q D ca A s.heap nL cells slots ad N u (pc + 2) lv (ab_O 22 i :: st)) : ab_J p l e R s m args below meth c Q D ca A s.heap nL cells slots ad N u pc lv st := fun H locs ls hW hS hl => by
  subst hx
  exact va_ldcS X.1 X.2.1 X.2.2.2.1 (hz.2.2.2.2.2.2.2.2.2 i hi) hd (kk H locs ls hW hS hl)
theorem ab_srcv (hz : ab_Zs ad A s s.heap) {i : Nat} (hi : i < 7) (H : Heap) (locs : List Loc) (hS : va_S A s.heap H locs) : ∃ cell : Cell, H[ad 22 i]? = some cell ∧ cell.vm.isStatics = false ∧ s.vm.findClass "java/lang/String" = some cell.cls := vk_recv hz.2.2.2.2.2.2.1 hi hS
theorem ab_mmax (X : ab_X p s m args c cc own nL D ca A H0) {idx : Nat} (hws : ∀ w ∈ ([.methodLink own idx Lib.Math.max.name, .static Lib.Math.max.name, .initialized "java/lang/Math", .code Lib.Math.max.name Lib.Math.max.code 2 (some .int)] : List Cond), w ∈ ab_T) (hR : 1 ≤ R.frames ∧ 60 ≤ R.locals) (hc : cells ≤ R.cells ∧ slots ≤ R.slots) (hw : ab_len st ≤ 8) {x y : Int32} (hd : decode cc pc = .ok (.invokestatic idx, 3)) (kk : ab_J p l e R s m args below meth c Q D ca A H0 nL cells slots ad N u (pc + 3) lv (ab_I (if x < y then y else x) :: st)) : ab_J p l e R s m args below meth c Q D ca A H0 nL cells slots ad N u pc lv (ab_I y :: ab_I x :: st) := fun H locs ls hW hS hl =>
  va_mmax X.1 X.2.1 (X.2.2.1.trans hl.1.symm) X.2.2.2.1 (X.2.2.2.2.1 _ (hws _ (by simp))) (X.2.2.2.2.1 _ (hws _ (by simp))) (X.2.2.2.2.1 _ (hws _ (by simp))) (X.2.2.2.2.1 _ (hws _ (by simp))) hR.1 (by have := hR.2; rw [ab_wt]; omega) hc.1 hc.2 hd (kk H locs ls hW hS hl)
def ab_lq (own : String) (idx : Nat) (y : MethodName) (cc' : ByteArray) (nL' : Nat) (ret' : Option FieldType) (n : Nat) : Prop :=
  (∀ w ∈ ([.methodLink own idx y, .instanceMethod y, .selects y.cls y y, .initialized y.cls, .code y cc' nL' ret'] : List Cond), w ∈ ab_T) ∧
  (y.cls ≠ "java/lang/invoke/MethodHandle" ∧ y.cls ≠ "java/lang/invoke/VarHandle" ∧ (parseMethodDescriptor y.desc).map (fun d => d.parameters.length) = some n) ∧ nL' ≤ 41
theorem ab_callVQ {z : Bool} {Post : ab_S → Option ab_V → Prop} (X : ab_X p s m args c cc own nL D ca A H0) {y : MethodName} {cc' : ByteArray} {nL' d' idx c' i n : Nat} {ret' : Option FieldType} {as stk : List ab_V} (hz : z = true → ab_Zs ad A s H0) (hC : ab_C z l D ca y cc' nL' ret' d' N u (ab_O c' i :: as) Post) (hk : ab_lq own idx y cc' nL' ret' n) (hd : decode cc pc = .ok (.invokevirtual idx, 3)) (hst : stk = as.reverse ++ ab_O c' i :: st) (hn : as.length = n) (hrc : ∀ (H : Heap) (locs : List Loc), va_S A H0 H locs → ∃ cell : Cell, H[ad c' i]? = some cell ∧ cell.vm.isStatics = false ∧ s.vm.findClass y.cls = some cell.cls) (hR : d' + 1 ≤ R.frames ∧ 60 * (d' + 1) ≤ R.locals) (hc : cells ≤ R.cells ∧ slots ≤ R.slots) (hw : ab_len st ≤ 8)
    (kk : ∀ (u' : ab_S) (r : Option ab_V), Post u' r → ab_J p l e R s m args below meth c Q D ca A H0 nL cells slots ad N u' (pc + 3) lv (r.toList ++ st)) : ab_J p l e R s m args below meth c Q D ca A H0 nL cells slots ad N u pc lv stk := fun H locs ls hW hS hl => by
  obtain ⟨hws, hy, hnL⟩ := hk
  subst hst; subst hn
  have hp : PreV s H y.cls (ad c' i) (ab_Pc z D ca ad N u H.size (ab_O c' i :: as)) (as.map (ab_cv ad)) := ⟨ab_Pc_blind, hrc H locs hS, fun U hU hWU => ⟨rfl, by rw [hU], by rw [hU]; exact hW.weaken (fun _ _ _ => trivial), va_K.moved hWU.alike X.2.2.2.2.2.1, ab_Nw.moved hWU X.2.2.2.2.2.2.2, fun h => by rw [hU]; exact ab_Zs.go X (hz h) hW hS hWU⟩⟩
  have hG : GoodIn ab_T (wsV own idx y.cls y (Cond.code y cc' nL' ret' :: ab_T)) := fun w h => by
    refine ab_T_good w ?_
    rcases List.mem_append.mp h with h | h
    · exact hws w (List.mem_append_left [Cond.code y cc' nL' ret'] h)
    · rcases List.mem_cons.mp h with rfl | h
      · exact hws _ (by simp)
      · exact h
  have cw : CallW R s args own y.cls idx y cc' nL' ret' (Cond.code y cc' nL' ret' :: ab_T) (ab_rm d' 0 0) 0 0 as.length := cwV as.length X.2.2.2.2.1 hG rfl rfl rfl ⟨rfl, hy⟩ ⟨hR.1, by show 8 + (nL' + 11) + 60 * d' ≤ R.locals; omega⟩
  exact ab_after X hW hS hl (va_runV ⟨X.1, X.2.1, X.2.2.1, X.2.2.2.1, X.2.2.2.2.1⟩ (hC ad H.size) cw hp rfl (by simp) hl.1 (by show (as.reverse ++ ab_O c' i :: st).map (ab_cv ad) = _; rw [List.map_append, List.map_reverse]; rfl) (lv_room (by rw [ab_wt]; exact hw)) hd hc) kk
end AbStr
section AbNm
variable {l : Launch} {D : va_G} {ca : Nat → ClassId} {N : Nat → Nat}
abbrev b_JS_coder : ByteArray := prog_18_method_152_code
def y_JS_coder : MethodName := ⟨"java/lang/String", "coder", "()B"⟩
theorem d_JS_coder_0 : decode b_JS_coder 0 = .ok (.getstatic 38, 3) := by decide +kernel
theorem d_JS_coder_3 : decode b_JS_coder 3 = .ok (.ifCond .eq 10, 3) := by decide +kernel
theorem d_JS_coder_6 : decode b_JS_coder 6 = .ok (.aload_n 0, 1) := by decide +kernel
theorem d_JS_coder_7 : decode b_JS_coder 7 = .ok (.getfield 15, 3) := by decide +kernel
theorem d_JS_coder_10 : decode b_JS_coder 10 = .ok (.goto 4, 3) := by decide +kernel
theorem d_JS_coder_13 : decode b_JS_coder 13 = .ok (.iconst 1, 1) := by decide +kernel
theorem d_JS_coder_14 : decode b_JS_coder 14 = .ok (.ireturn, 1) := by decide +kernel
theorem c_JS_coder (u : ab_S) (i : Nat) (hi : i < 7) : ab_C true l D ca y_JS_coder b_JS_coder 1 (some .byte) 0 N u [ab_O 22 i] (fun u' v => u' = u ∧ v = some (ab_I 0)) := by
  refine ab_C.of (by decide) (Nat.le_of_ble_eq_true rfl) ?_
  intro p e s m args below meth c ad X hZ hr0 hlk
  refine ab_scom X (hZ rfl) (ab_in 452 (by decide +kernel) (by decide +kernel)) d_JS_coder_0 ?_
  refine ab_if_eq X 13 d_JS_coder_3 rfl (fun hb => absurd hb ((by decide))) (fun _ => ?_)
  refine ab_aload_n X 0 d_JS_coder_6 rfl rfl ?_
  refine ab_scod X (hZ rfl) hi (ab_in 1324 (by decide +kernel) (by decide +kernel)) d_JS_coder_7 ?_
  refine ab_goto X 14 d_JS_coder_10 rfl ?_
  exact ab_retn X hr0 hlk (by decide +kernel) d_JS_coder_14 ⟨rfl, rfl⟩
abbrev b_JS_length : ByteArray := prog_18_method_54_code
def y_JS_length : MethodName := ⟨"java/lang/String", "length", "()I"⟩
theorem d_JS_length_0 : decode b_JS_length 0 = .ok (.aload_n 0, 1) := by decide +kernel
theorem d_JS_length_1 : decode b_JS_length 1 = .ok (.getfield 9, 3) := by decide +kernel
theorem d_JS_length_4 : decode b_JS_length 4 = .ok (.arraylength, 1) := by decide +kernel
theorem d_JS_length_5 : decode b_JS_length 5 = .ok (.aload_n 0, 1) := by decide +kernel
theorem d_JS_length_6 : decode b_JS_length 6 = .ok (.invokevirtual 335, 3) := by decide +kernel
theorem d_JS_length_9 : decode b_JS_length 9 = .ok (.ishr, 1) := by decide +kernel
theorem d_JS_length_10 : decode b_JS_length 10 = .ok (.ireturn, 1) := by decide +kernel
theorem lq_JS_335 : ab_lq "java/lang/String" 335 y_JS_coder b_JS_coder 1 (some FieldType.byte) 0 := ⟨List.forall_mem_cons.mpr ⟨(ab_in 448 (by decide +kernel) (by decide +kernel)), List.forall_mem_cons.mpr ⟨(ab_in 449 (by decide +kernel) (by decide +kernel)), List.forall_mem_cons.mpr ⟨(ab_in 450 (by decide +kernel) (by decide +kernel)), List.forall_mem_cons.mpr ⟨(ab_in 101 (by decide +kernel) (by decide +kernel)), List.forall_mem_cons.mpr ⟨(ab_in 451 (by decide +kernel) (by decide +kernel)), fun _ h => absurd h List.not_mem_nil⟩⟩⟩⟩⟩, ⟨by decide +kernel, by decide +kernel, by decide +kernel⟩, by decide⟩
theorem ab_sl_lt {i : Nat} (h : i < 7) : ab_sl.getD i 0 < 2 ^ 31 := by
  have h' : i = 0 ∨ i = 1 ∨ i = 2 ∨ i = 3 ∨ i = 4 ∨ i = 5 ∨ i = 6 := by omega
  rcases h' with rfl | rfl | rfl | rfl | rfl | rfl | rfl <;> decide
theorem ab_sl_pos {i : Nat} (h : i < 7) : 0 < ab_sl.getD i 0 := by
  have h' : i = 0 ∨ i = 1 ∨ i = 2 ∨ i = 3 ∨ i = 4 ∨ i = 5 ∨ i = 6 := by omega
  rcases h' with rfl | rfl | rfl | rfl | rfl | rfl | rfl <;> decide
theorem c_JS_length (u : ab_S) (i : Nat) (hi : i < 7) : ab_C true l D ca y_JS_length b_JS_length 1 (some .int) 1 N u [ab_O 22 i] (fun u' v => u' = u ∧ v = some (ab_I (nI (ab_sl.getD i 0)))) := by
  refine ab_C.of (by decide) (Nat.le_of_ble_eq_true rfl) ?_
  intro p e s m args below meth c ad X hZ hr0 hlk
  refine ab_aload_n X 0 d_JS_length_0 rfl rfl ?_
  refine ab_sval X (hZ rfl) hi (ab_in 1323 (by decide +kernel) (by decide +kernel)) d_JS_length_1 ?_
  refine ab_stln X (hZ rfl) hi d_JS_length_4 ?_
  refine ab_aload_n X 0 d_JS_length_5 rfl rfl ?_
  refine ab_callVQ (as := []) X (fun _ => hZ rfl) (c_JS_coder u i hi) lq_JS_335 d_JS_length_6 rfl rfl (ab_srcv (hZ rfl) hi) ⟨by first | exact Nat.le_of_ble_eq_true rfl | (simp only [ab_rm]; omega), by first | exact Nat.le_of_ble_eq_true rfl | (simp only [ab_rm]; omega)⟩ ⟨by first | exact Nat.le_of_ble_eq_true rfl | (simp only [ab_rm]; omega), by first | exact Nat.le_of_ble_eq_true rfl | (simp only [ab_rm]; omega)⟩ (Nat.le_of_ble_eq_true rfl) (fun u6 r6 h6 => ?_)
  obtain ⟨e6, rfl⟩ := h6
  subst u6
  refine ab_ishr X d_JS_length_9 ?_
  refine ab_top (pk_shrN (ab_sl_lt hi) _ 0 (by decide +kernel)) ?_
  exact ab_reti X hr0 hlk d_JS_length_10 ⟨rfl, by rw [Nat.pow_zero, Nat.div_one]⟩
abbrev b_RD_nameOf : ByteArray := prog_6_method_7_code
def y_RD_nameOf : MethodName := ⟨"PolicyForge$Reader", "nameOf", "(I)Ljava/lang/String;"⟩
theorem d_RD_nameOf_0 : decode b_RD_nameOf 0 = .ok (.iload_n 0, 1) := by decide +kernel
theorem d_RD_nameOf_1 : decode b_RD_nameOf 1 = .ok (.tableswitch 61 1 7 #[43, 46, 49, 52, 61, 55, 58], 43) := by decide +kernel
theorem d_RD_nameOf_44 : decode b_RD_nameOf 44 = .ok (.ldc 93, 2) := by decide +kernel
theorem d_RD_nameOf_46 : decode b_RD_nameOf 46 = .ok (.areturn, 1) := by decide +kernel
theorem d_RD_nameOf_47 : decode b_RD_nameOf 47 = .ok (.ldc 95, 2) := by decide +kernel
theorem d_RD_nameOf_49 : decode b_RD_nameOf 49 = .ok (.areturn, 1) := by decide +kernel
theorem d_RD_nameOf_50 : decode b_RD_nameOf 50 = .ok (.ldc 97, 2) := by decide +kernel
theorem d_RD_nameOf_52 : decode b_RD_nameOf 52 = .ok (.areturn, 1) := by decide +kernel
theorem d_RD_nameOf_53 : decode b_RD_nameOf 53 = .ok (.ldc 99, 2) := by decide +kernel
theorem d_RD_nameOf_55 : decode b_RD_nameOf 55 = .ok (.areturn, 1) := by decide +kernel
theorem d_RD_nameOf_56 : decode b_RD_nameOf 56 = .ok (.ldc 101, 2) := by decide +kernel
theorem d_RD_nameOf_58 : decode b_RD_nameOf 58 = .ok (.areturn, 1) := by decide +kernel
theorem d_RD_nameOf_59 : decode b_RD_nameOf 59 = .ok (.ldc 103, 2) := by decide +kernel
theorem d_RD_nameOf_61 : decode b_RD_nameOf 61 = .ok (.areturn, 1) := by decide +kernel
theorem d_RD_nameOf_62 : decode b_RD_nameOf 62 = .ok (.ldc 105, 2) := by decide +kernel
theorem d_RD_nameOf_64 : decode b_RD_nameOf 64 = .ok (.areturn, 1) := by decide +kernel
theorem c_RD_nameOf (u : ab_S) (j : Nat) (hj : j < 7) : ab_C true l D ca y_RD_nameOf b_RD_nameOf 1 (some (.object "java/lang/String")) 0 N u [ab_I (ab_kinds j)] (fun u' v => u' = u ∧ v = some (ab_O 22 j)) := by
  refine ab_C.of (by decide) (Nat.le_of_ble_eq_true rfl) ?_
  intro p e s m args below meth c ad X hZ hr0 hlk
  have h' : j = 0 ∨ j = 1 ∨ j = 2 ∨ j = 3 ∨ j = 4 ∨ j = 5 ∨ j = 6 := by omega
  rcases h' with rfl | rfl | rfl | rfl | rfl | rfl | rfl
  ·
    refine ab_iload_n X 0 d_RD_nameOf_0 rfl rfl ?_
    refine ab_tableIn X 44 d_RD_nameOf_1 (by decide) (by decide) (off := 43) (by decide) (by decide) ?_
    refine ab_sldc X (hZ rfl) 0 (by decide) rfl d_RD_nameOf_44 ?_
    exact ab_retr X hr0 hlk d_RD_nameOf_46 ⟨rfl, rfl⟩
  ·
    refine ab_iload_n X 0 d_RD_nameOf_0 rfl rfl ?_
    refine ab_tableIn X 47 d_RD_nameOf_1 (by decide) (by decide) (off := 46) (by decide) (by decide) ?_
    refine ab_sldc X (hZ rfl) 1 (by decide) rfl d_RD_nameOf_47 ?_
    exact ab_retr X hr0 hlk d_RD_nameOf_49 ⟨rfl, rfl⟩
  ·
    refine ab_iload_n X 0 d_RD_nameOf_0 rfl rfl ?_
    refine ab_tableIn X 50 d_RD_nameOf_1 (by decide) (by decide) (off := 49) (by decide) (by decide) ?_
    refine ab_sldc X (hZ rfl) 2 (by decide) rfl d_RD_nameOf_50 ?_
    exact ab_retr X hr0 hlk d_RD_nameOf_52 ⟨rfl, rfl⟩
  ·
    refine ab_iload_n X 0 d_RD_nameOf_0 rfl rfl ?_
    refine ab_tableIn X 53 d_RD_nameOf_1 (by decide) (by decide) (off := 52) (by decide) (by decide) ?_
    refine ab_sldc X (hZ rfl) 3 (by decide) rfl d_RD_nameOf_53 ?_
    exact ab_retr X hr0 hlk d_RD_nameOf_55 ⟨rfl, rfl⟩
  ·
    refine ab_iload_n X 0 d_RD_nameOf_0 rfl rfl ?_
    refine ab_tableIn X 56 d_RD_nameOf_1 (by decide) (by decide) (off := 55) (by decide) (by decide) ?_
    refine ab_sldc X (hZ rfl) 4 (by decide) rfl d_RD_nameOf_56 ?_
    exact ab_retr X hr0 hlk d_RD_nameOf_58 ⟨rfl, rfl⟩
  ·
    refine ab_iload_n X 0 d_RD_nameOf_0 rfl rfl ?_
    refine ab_tableIn X 59 d_RD_nameOf_1 (by decide) (by decide) (off := 58) (by decide) (by decide) ?_
    refine ab_sldc X (hZ rfl) 5 (by decide) rfl d_RD_nameOf_59 ?_
    exact ab_retr X hr0 hlk d_RD_nameOf_61 ⟨rfl, rfl⟩
  ·
    refine ab_iload_n X 0 d_RD_nameOf_0 rfl rfl ?_
    refine ab_tableOut X 62 d_RD_nameOf_1 (by decide) (by decide) ?_
    refine ab_sldc X (hZ rfl) 6 (by decide) rfl d_RD_nameOf_62 ?_
    exact ab_retr X hr0 hlk d_RD_nameOf_64 ⟨rfl, rfl⟩
theorem mm_RD_87 : ∀ w ∈ ([.methodLink "PolicyForge$Reader" 87 Lib.Math.max.name, .static Lib.Math.max.name, .initialized "java/lang/Math", .code Lib.Math.max.name Lib.Math.max.code 2 (some .int)] : List Cond), w ∈ ab_T := List.forall_mem_cons.mpr ⟨(ab_in 492 (by decide +kernel) (by decide +kernel)), List.forall_mem_cons.mpr ⟨(ab_in 493 (by decide +kernel) (by decide +kernel)), List.forall_mem_cons.mpr ⟨(ab_in 105 (by decide +kernel) (by decide +kernel)), List.forall_mem_cons.mpr ⟨(ab_in 494 (by decide +kernel) (by decide +kernel)), fun _ h => absurd h List.not_mem_nil⟩⟩⟩⟩
abbrev b_RD_refuse : ByteArray := prog_6_method_11_code
def y_RD_refuse : MethodName := ⟨"PolicyForge$Reader", "refuse", "(I)Z"⟩
theorem d_RD_refuse_0 : decode b_RD_refuse 0 = .ok (.aload_n 0, 1) := by decide +kernel
theorem d_RD_refuse_1 : decode b_RD_refuse 1 = .ok (.iload_n 1, 1) := by decide +kernel
theorem d_RD_refuse_2 : decode b_RD_refuse 2 = .ok (.putfield 33, 3) := by decide +kernel
theorem d_RD_refuse_5 : decode b_RD_refuse 5 = .ok (.iconst 0, 1) := by decide +kernel
theorem d_RD_refuse_6 : decode b_RD_refuse 6 = .ok (.ireturn, 1) := by decide +kernel
theorem c_RD_refuse (u : ab_S) (x : Int32) (h1 : 0 < N 1) : ab_C false l D ca y_RD_refuse b_RD_refuse 2 (some .boolean) 0 N u [ab_O 1 0, ab_I x] (fun u' v => u' = ab_ui u 1 0 5 x ∧ v = some (ab_I 0)) := by
  refine ab_C.of (by decide) (Nat.le_of_ble_eq_true rfl) ?_
  intro p e s m args below meth c ad X hZ hr0 hlk
  refine ab_aload_n X 0 d_RD_refuse_0 rfl rfl ?_
  refine ab_iload_n X 1 d_RD_refuse_1 rfl rfl ?_
  refine ab_putI X fp_RD_33 d_RD_refuse_2 (by first | assumption | decide) rfl rfl ?_
  refine ab_iconst (v := 0) X d_RD_refuse_5 (by decide) ?_
  exact ab_retz X hr0 hlk (Or.inl rfl) d_RD_refuse_6 ⟨rfl, rfl⟩
end AbNm
end
section
/-! What stands at the law's entry. -/
theorem en_arr {s : State} {args : Array Value} {ty : FieldType} (hp : ty = .int ∨ ty = .boolean ∨ ty = .long) (h : (Cond.arrayClass ty).before args s = true) : ∃ cA : ClassId, ArrOfT s cA ty ∧ va_RA s cA ty := by
  obtain ⟨cA, kA, comp, h1, h2, h3⟩ := Cond.arrayClass_spec h
  refine ⟨cA, fun n z => ⟨fun k h => (by cases h), kA, h2, comp, h3⟩, ?_⟩
  rcases hp with rfl | rfl | rfl <;> exact h1
theorem en_arrO {s : State} {args : Array Value} {C : String} (h : (Cond.arrayOver (.object C)).before args s = true) : ∃ cA : ClassId, ArrOfT s cA (.object C) ∧ va_RA s cA (.object C) := by
  obtain ⟨comp, cA, kA, h1, -, h2, h3, h4⟩ := Cond.arrayOver_spec h
  exact ⟨cA, fun n z => ⟨fun k h => (by cases h), kA, h2, comp, h3⟩, kA, comp, h2, h3, h1, h4⟩
theorem en_K {s : State} {args : Array Value} (hts : ∀ w ∈ lw_tbl, w.before args s = true) : ∃ (D : va_G) (ca : Nat → ClassId), va_K D vwCl (ab_tys ca) s := by
  have ht : ∀ w ∈ ab_T, w.before args s = true := fun w h => hts w (List.mem_filter.mp h).1
  obtain ⟨c0, i0, k0⟩ := u_known (C := R_PF) (T := T_PF) (N := 8) (n := 8) ht uw_PF (hts _ (List.mem_of_getElem? (i := 115) (by decide +kernel)))
  obtain ⟨c1, i1, k1⟩ := u_known (C := R_RD) (T := T_RD) (N := 8) (n := 8) ht uw_RD (hts _ (List.mem_of_getElem? (i := 123) (by decide +kernel)))
  obtain ⟨c2, i2, k2⟩ := u_known (C := R_PT) (T := T_PT) (N := 8) (n := 8) ht uw_PT (hts _ (List.mem_of_getElem? (i := 130) (by decide +kernel)))
  obtain ⟨c3, i3, k3⟩ := u_known (C := R_FM) (T := T_FM) (N := 10) (n := 10) ht uw_FM (hts _ (List.mem_of_getElem? (i := 137) (by decide +kernel)))
  obtain ⟨c4, i4, k4⟩ := u_known (C := R_RW) (T := T_RW) (N := 4) (n := 4) ht uw_RW (hts _ (List.mem_of_getElem? (i := 145) (by decide +kernel)))
  obtain ⟨c5, i5, k5⟩ := u_known (C := R_SC) (T := T_SC) (N := 4) (n := 4) ht uw_SC (hts _ (List.mem_of_getElem? (i := 278) (by decide +kernel)))
  obtain ⟨c6, i6, k6⟩ := u_known (C := R_FA) (T := T_FA) (N := 4) (n := 4) ht uw_FA (hts _ (List.mem_of_getElem? (i := 304) (by decide +kernel)))
  obtain ⟨c7, i7, k7⟩ := u_known (C := R_MA) (T := T_MA) (N := 7) (n := 7) ht uw_MA (hts _ (List.mem_of_getElem? (i := 323) (by decide +kernel)))
  obtain ⟨c8, i8, k8⟩ := u_known (C := R_MO) (T := T_MO) (N := 44) (n := 44) ht uw_MO (hts _ (List.mem_of_getElem? (i := 921) (by decide +kernel)))
  obtain ⟨a0, m0⟩ := en_arr (ty := .int) (by simp) (hts _ (List.mem_of_getElem? (i := 171) (by decide +kernel)))
  obtain ⟨a1, m1⟩ := en_arr (ty := .boolean) (by simp) (hts _ (List.mem_of_getElem? (i := 1059) (by decide +kernel)))
  obtain ⟨a2, m2⟩ := en_arr (ty := .long) (by simp) (hts _ (List.mem_of_getElem? (i := 1321) (by decide +kernel)))
  obtain ⟨a3, m3⟩ := en_arrO (C := R_FM) (hts _ (List.mem_of_getElem? (i := 143) (by decide +kernel)))
  obtain ⟨a4, m4⟩ := en_arrO (C := R_PT) (hts _ (List.mem_of_getElem? (i := 129) (by decide +kernel)))
  refine ⟨(fun k => ([c0, c1, c2, c3, c4, c5, c6, c7, c8] : List ClassId).getD k c0, fun k => ([i0, i1, i2, i3, i4, i5, i6, i7, i8] : List (Nat → Nat)).getD k i0), fun k => ([a0, a1, a2, a3, a4] : List ClassId).getD k a0, fun c q hq => ?_, fun k q hq => ?_⟩
  · have hl : c < 9 := (List.getElem?_eq_some_iff.mp hq).1
    have h' : c = 0 ∨ c = 1 ∨ c = 2 ∨ c = 3 ∨ c = 4 ∨ c = 5 ∨ c = 6 ∨ c = 7 ∨ c = 8 := by omega
    rcases h' with rfl | rfl | rfl | rfl | rfl | rfl | rfl | rfl | rfl
    · obtain rfl := Option.some.inj (show some (R_PF, T_PF, 8) = some q from hq); exact k0
    · obtain rfl := Option.some.inj (show some (R_RD, T_RD, 8) = some q from hq); exact k1
    · obtain rfl := Option.some.inj (show some (R_PT, T_PT, 8) = some q from hq); exact k2
    · obtain rfl := Option.some.inj (show some (R_FM, T_FM, 10) = some q from hq); exact k3
    · obtain rfl := Option.some.inj (show some (R_RW, T_RW, 4) = some q from hq); exact k4
    · obtain rfl := Option.some.inj (show some (R_SC, T_SC, 4) = some q from hq); exact k5
    · obtain rfl := Option.some.inj (show some (R_FA, T_FA, 4) = some q from hq); exact k6
    · obtain rfl := Option.some.inj (show some (R_MA, T_MA, 7) = some q from hq); exact k7
    · obtain rfl := Option.some.inj (show some (R_MO, T_MO, 44) = some q from hq); exact k8
  · have hl : k < 5 := (List.getElem?_eq_some_iff.mp hq).1
    have h' : k = 0 ∨ k = 1 ∨ k = 2 ∨ k = 3 ∨ k = 4 := by omega
    rcases h' with rfl | rfl | rfl | rfl | rfl
    · obtain rfl := Option.some.inj (show some (a0, .int) = some q from hq); exact m0
    · obtain rfl := Option.some.inj (show some (a1, .boolean) = some q from hq); exact m1
    · obtain rfl := Option.some.inj (show some (a2, .long) = some q from hq); exact m2
    · obtain rfl := Option.some.inj (show some (a3, .object R_FM) = some q from hq); exact m3
    · obtain rfl := Option.some.inj (show some (a4, .object R_PT) = some q from hq); exact m4
theorem en_LS {s : State} {args : Array Value} {A : Nat → Prop} {C n d : String} (h : (Cond.laysStatic C n d).before args s = true) (hA : ∀ a : Nat, a < s.heap.size → ¬ A a) : ab_LS C n d A s s.heap := by
  obtain ⟨c, k, i, f, a, cell, hc, hi, hst, ha, hcell, hs, hcls, hlt, hty⟩ := Cond.laysStatic_spec h
  exact ⟨c, k, i, f, a, cell, hc, hi, hst, ha, hcell, hs, hcls, hlt, hty, hA a (Array.getElem?_eq_some_iff.mp hcell).1⟩
theorem en_Nw {s : State} {args : Array Value} (hts : ∀ w ∈ lw_tbl, w.before args s = true) : ab_Nw s := fun w hw => by
  have h1 := hts w (List.mem_filter.mp hw).1
  have h2 := (List.mem_filter.mp hw).2
  cases w with
  | methodLinkNest a i y host => exact va_Nw.of rfl h1
  | fieldLinkNest a i b n d hh => exact va_Nw.of rfl h1
  | castable a b => exact va_Nw.of rfl h1
  | declares x => exact va_Nw.of rfl h1
  | arrayOver t =>
    cases t with
    | object C => exact va_AO.of h1
    | _ => cases h2
  | _ => cases h2
def en_t (i : Nat) : Term := .string "PolicyForge$Reader" (93 + 2 * i)
theorem en_7 {i : Nat} (h : i < 7) : i = 0 ∨ i = 1 ∨ i = 2 ∨ i = 3 ∨ i = 4 ∨ i = 5 ∨ i = 6 := by omega
theorem en_S {s : State} {args : Array Value} {A : Nat → Prop} (hg : (Jvm.Cond.and given_1 narrow_1).before args s = true) (hA : ∀ a : Nat, a < s.heap.size → ¬ A a) : ∃ adK adV : Nat → Nat, vk_S 7 ab_sl ab_sb adK adV A s s.heap ∧ ∀ i : Nat, i < 7 → (en_t i).eval args s none [] s = some (.ref (adK i)) := by
  have hs := flat_of_before _ hg
  refine vk_Sof (tm := en_t) (fun i hi => ab_sl_lt hi) (fun i hi => ?_) (fun i hi => ?_) (fun i hi => ?_) (fun i hi => ?_) (fun i hi j hj => ?_) (fun i j hi hj hij => ?_) hA
  · rcases en_7 hi with rfl | rfl | rfl | rfl | rfl | rfl | rfl <;> exact hs _ (by decide +kernel)
  · rcases en_7 hi with rfl | rfl | rfl | rfl | rfl | rfl | rfl <;> exact hs _ (by decide +kernel)
  · rcases en_7 hi with rfl | rfl | rfl | rfl | rfl | rfl | rfl <;> exact hs _ (by decide +kernel)
  · rcases en_7 hi with rfl | rfl | rfl | rfl | rfl | rfl | rfl <;> exact hs _ (by decide +kernel)
  · have hj6 : j = 0 ∨ j = 1 ∨ j = 2 ∨ j = 3 ∨ j = 4 ∨ j = 5 := by
      have : ab_sl.getD i 0 ≤ 6 := by rcases en_7 hi with rfl | rfl | rfl | rfl | rfl | rfl | rfl <;> decide
      omega
    rcases en_7 hi with rfl | rfl | rfl | rfl | rfl | rfl | rfl <;> rcases hj6 with rfl | rfl | rfl | rfl | rfl | rfl <;> first | exact absurd hj (by decide) | exact hs _ (by decide +kernel)
  · rcases Nat.lt_or_gt_of_ne hij with h | h
    · refine Or.inl ?_
      rcases en_7 hi with rfl | rfl | rfl | rfl | rfl | rfl | rfl <;> rcases en_7 hj with rfl | rfl | rfl | rfl | rfl | rfl | rfl <;> first | exact absurd h (by decide) | exact hs _ (by decide +kernel)
    · refine Or.inr ?_
      rcases en_7 hi with rfl | rfl | rfl | rfl | rfl | rfl | rfl <;> rcases en_7 hj with rfl | rfl | rfl | rfl | rfl | rfl | rfl <;> first | exact absurd h (by decide) | exact hs _ (by decide +kernel)
set_option maxHeartbeats 1000000 in
theorem en_Z {s : State} {args : Array Value} {A : Nat → Prop} (b : Nat) (hts : ∀ w ∈ lw_tbl, w.before args s = true) (hg : (Jvm.Cond.and given_1 narrow_1).before args s = true) (hA : ∀ a : Nat, a < s.heap.size → ¬ A a) : ∃ ad : ab_Ad, ad 23 0 = b ∧ ab_Zs ad A s s.heap := by
  have hs := flat_of_before _ hg
  obtain ⟨adK, adV, hK, he⟩ := en_S hg hA
  obtain ⟨t, ht, hT⟩ := va_Tof (tm := .static "PolicyForge" "KINDS" "[I") (ty := .int) (N := 7) (f := fun j => .int (ab_kinds j)) (A := A) (by decide) (hs _ (by decide +kernel)) (va_eqt (z := 7) (hs _ (by decide +kernel))) (fun j hj => by
    rcases en_7 hj with rfl | rfl | rfl | rfl | rfl | rfl | rfl <;> exact va_eqt (hs _ (by decide +kernel))) hA
  refine ⟨fun c i => if c = 21 then t else if c = 22 then adK i else if c = 24 then adV i else b, rfl, ?_⟩
  refine ⟨va_Zqof (hts _ (List.mem_of_getElem? (i := 561) (by decide +kernel))) (hts _ (List.mem_of_getElem? (i := 106) (by decide +kernel))) (hs _ (by decide +kernel)) hA, va_Zqof (hts _ (List.mem_of_getElem? (i := 563) (by decide +kernel))) (hts _ (List.mem_of_getElem? (i := 106) (by decide +kernel))) (hs _ (by decide +kernel)) hA, va_Zof (hts _ (List.mem_of_getElem? (i := 429) (by decide +kernel))) (hts _ (List.mem_of_getElem? (i := 92) (by decide +kernel))) ht hA, hT, en_LS (hts _ (List.mem_of_getElem? (i := 561) (by decide +kernel))) hA, en_LS (hts _ (List.mem_of_getElem? (i := 563) (by decide +kernel))) hA, hK, va_Zof (hts _ (List.mem_of_getElem? (i := 453) (by decide +kernel))) (hts _ (List.mem_of_getElem? (i := 101) (by decide +kernel))) (va_eqt (hs _ (by decide +kernel))) hA, va_Zqof (hts _ (List.mem_of_getElem? (i := 469) (by decide +kernel))) (hts _ (List.mem_of_getElem? (i := 103) (by decide +kernel))) (hs _ (by decide +kernel)) hA, fun i hi => ?_⟩
  refine vk_R.of (A := args) ?_ (he i hi)
  rcases en_7 hi with rfl | rfl | rfl | rfl | rfl | rfl | rfl
  · exact (hts _ (List.mem_of_getElem? (i := 433) (by decide +kernel)))
  · exact (hts _ (List.mem_of_getElem? (i := 434) (by decide +kernel)))
  · exact (hts _ (List.mem_of_getElem? (i := 435) (by decide +kernel)))
  · exact (hts _ (List.mem_of_getElem? (i := 436) (by decide +kernel)))
  · exact (hts _ (List.mem_of_getElem? (i := 437) (by decide +kernel)))
  · exact (hts _ (List.mem_of_getElem? (i := 438) (by decide +kernel)))
  · exact (hts _ (List.mem_of_getElem? (i := 439) (by decide +kernel)))
theorem ab_Zs.ex {N : Nat → Nat} {ad ad' : ab_Ad} {A : Nat → Prop} {U : State} {H : Heap} (hx : ab_ex N ad ad') (h : ab_Zs ad A U H) : ab_Zs ad' A U H := by
  have e1 : ad' 21 0 = ad 21 0 := hx 21 0 (Or.inr (by decide))
  have e2 : ad' 22 = ad 22 := funext fun i => hx 22 i (Or.inr (by decide))
  have e3 : ad' 24 = ad 24 := funext fun i => hx 24 i (Or.inr (by decide))
  unfold ab_Zs ab_Ss at h ⊢
  rw [e1, e2, e3]
  exact h
end
section
/-! Rules for walks along every path: a switch with all its ways, a reference out of an array with its name. -/
def ab_tok (pc : Nat) (td : Nat) (lo hi : Int) (offs : Array Int) (ks : List (Int32 × Nat)) : Bool :=
  (ks.all fun q => decide (lo ≤ q.1.toInt) && decide (q.1.toInt ≤ hi) && (offs[(q.1.toInt - lo).toNat]? == some ((q.2 : Int) - (pc : Int)))) &&
  ((List.range (hi - lo + 1).toNat).all fun i => match offs[i]? with
    | none => false
    | some o => decide ((pc : Int) + o = (td : Int)) || ks.any fun q => decide (q.1.toInt = lo + (i : Int)))
section AbMore
variable {p : Program} {l : Launch} {e : Env} {R : Room} {s : State} {m : MethodId} {args : Array Value} {below : List Frame} {meth : Method} {c : Code} {Q : State → Prop}
variable {cc : ByteArray} {own : String} {nL : Nat} {D : va_G} {ca : Nat → ClassId} {A : Nat → Prop} {H0 : Heap} {cells slots : Nat} {ad : ab_Ad} {N : Nat → Nat} {u : ab_S} {pc : Nat} {lv : List (Nat × ab_V)} {st : List ab_V}
theorem ab_tsw (X : ab_X p s m args c cc own nL D ca A H0) {dflt lo hi : Int} {offs : Array Int} {len : Nat} {x : Int32} (ks : List (Int32 × Nat)) (td : Nat) (hd : decode cc pc = .ok (.tableswitch dflt lo hi offs, len)) (hk : ab_tok pc td lo hi offs ks = true) (ht : (pc : Int) + dflt = (td : Int)) (kk : ∀ q ∈ ks, x = q.1 → ab_J p l e R s m args below meth c Q D ca A H0 nL cells slots ad N u q.2 lv st) (kd : (∀ q ∈ ks, ¬ x = q.1) → ab_J p l e R s m args below meth c Q D ca A H0 nL cells slots ad N u td lv st) : ab_J p l e R s m args below meth c Q D ca A H0 nL cells slots ad N u pc lv (ab_I x :: st) := by
  unfold ab_tok at hk
  rw [Bool.and_eq_true, List.all_eq_true, List.all_eq_true] at hk
  obtain ⟨k1, k2⟩ := hk
  by_cases hq : ∃ q ∈ ks, x = q.1
  · obtain ⟨q, hm, hx⟩ := hq
    have h1 := k1 q hm
    rw [Bool.and_eq_true, Bool.and_eq_true, decide_eq_true_iff, decide_eq_true_iff, beq_iff_eq] at h1
    obtain ⟨⟨a1, a2⟩, a3⟩ := h1
    rw [← hx] at a1 a2 a3
    exact ab_tableIn X q.2 hd (by omega) (by omega) a3 (by omega) (kk q hm hx)
  · have hn : ∀ q ∈ ks, ¬ x = q.1 := fun q hm hx => hq ⟨q, hm, hx⟩
    by_cases hr : x.toInt < lo ∨ hi < x.toInt
    · exact ab_tableOut X td hd hr ht (kd hn)
    · have hi' : (x.toInt - lo).toNat ∈ List.range (hi - lo + 1).toNat := List.mem_range.mpr (by omega)
      have h2 := k2 _ hi'
      cases ho : offs[(x.toInt - lo).toNat]? with
      | none => rw [ho] at h2; cases h2
      | some o =>
        rw [ho] at h2
        have h3 : (decide ((pc : Int) + o = (td : Int)) || ks.any fun q => decide (q.1.toInt = lo + (((x.toInt - lo).toNat : Nat) : Int))) = true := h2
        rw [Bool.or_eq_true, decide_eq_true_iff, List.any_eq_true] at h3
        rcases h3 with h3 | ⟨q, hm, h4⟩
        · exact ab_tableIn X td hd (by omega) (by omega) ho h3 (kd hn)
        · rw [decide_eq_true_iff] at h4
          exact absurd (Int32.toInt_inj.mp (by omega)) (hn q hm)
theorem ab_aalv (X : ab_X p s m args c cc own nL D ca A H0) {c' i : Nat} {j : Int32} (n : Nat) (ha : ab_tag c' = 3 ∧ ∃ C, ∀ ca : Nat → ClassId, (ab_tys ca)[ab_ci c']? = some (ca (ab_ci c'), .object C)) (hd : decode cc pc = .ok (.aaload, 1)) (hi : i < N c') (hj : j = nI n) (hn : n < ab_ln c' i) (hL : ab_ln c' i < 2 ^ 31) {r : Option (Nat × Nat)} (hv : u.2.1 c' i n = r) (kk : ab_J p l e R s m args below meth c Q D ca A H0 nL cells slots ad N u (pc + 1) lv (ab_R r :: st)) : ab_J p l e R s m args below meth c Q D ca A H0 nL cells slots ad N u pc lv (ab_I j :: ab_O c' i :: st) := ab_aald X n ha hd hi hj hn hL (by rw [hv]; exact kk)
end AbMore
end
section
/-! The class's cells as they stand between calls: enough for every call to come to its end. -/
def ab_nQ : Nat → Nat := ab_nl [1, 1, 20, 61, 124, 1, 1, 1, 124, 61, 20, 1, 1, 1, 1, 1, 1, 1, 21, 1, 1]
def ci_R (f : Nat → Nat → Nat → Option (Nat × Nat)) : Prop :=
  (f 0 0 0 = some (1, 0) ∧ f 0 0 1 = some (3, 60) ∧ f 0 0 2 = some (4, 122) ∧ f 0 0 3 = some (5, 0) ∧ f 0 0 4 = some (6, 0) ∧ f 0 0 5 = some (4, 123) ∧ f 0 0 6 = some (7, 0)) ∧
  (f 1 0 0 = some (11, 0) ∧ f 1 0 1 = some (12, 0) ∧ f 1 0 2 = some (2, 0) ∧ f 5 0 0 = some (13, 0) ∧ f 5 0 1 = some (14, 0) ∧ f 7 0 0 = some (15, 0) ∧ f 7 0 1 = some (16, 0)) ∧
  (∀ i, i < 19 → f 12 0 i = some (2, i + 1)) ∧ (∀ p, p < 20 → f 2 p 0 = some (10, p) ∧ f 2 p 1 = some (3, 3 * p) ∧ f 2 p 2 = some (3, 3 * p + 1) ∧ f 2 p 3 = some (3, 3 * p + 2)) ∧
  (∀ g, g < 61 → f 3 g 0 = some (9, g) ∧ f 3 g 2 = some (4, 2 * g + 1) ∧ f 3 g 3 = some (4, 2 * g)) ∧ (∀ r, r < 124 → f 4 r 0 = some (8, r))
def ci_dyn (c k : Nat) : Prop := c = 9 ∨ c = 10 ∨ c = 14 ∨ (c = 0 ∧ k = 7)
theorem ci_R.up {f : Nat → Nat → Nat → Option (Nat × Nat)} (h : ci_R f) {c i k : Nat} {v : Option (Nat × Nat)} (hc : ci_dyn c k) : ci_R (ab_up f c i k v) := by
  have e : ∀ c' i' k', ¬ ci_dyn c' k' → ab_up f c i k v c' i' k' = f c' i' k' := fun c' i' k' hn => ab_up_n _ _ (fun z => hn (by rw [z.1, z.2.2]; exact hc))
  have d : ∀ {c' k'}, (c' = 0 ∧ k' ≠ 7) ∨ (c' ≠ 0 ∧ c' ≠ 9 ∧ c' ≠ 10 ∧ c' ≠ 14) → ¬ ci_dyn c' k' := fun hd hz => by
    unfold ci_dyn at hz
    omega
  obtain ⟨⟨a1, a2, a3, a4, a5, a6, a7⟩, ⟨b1, b2, b3, b4, b5, b6, b7⟩, h3, h4, h5, h6⟩ := h
  refine ⟨⟨?_, ?_, ?_, ?_, ?_, ?_, ?_⟩, ⟨?_, ?_, ?_, ?_, ?_, ?_, ?_⟩, fun i hi => ?_, fun p hp => ⟨?_, ?_, ?_, ?_⟩, fun g hg => ⟨?_, ?_, ?_⟩, fun r hr => ?_⟩
  all_goals rw [e _ _ _ (d (by omega))]
  all_goals first | assumption | exact h3 _ hi | exact (h4 _ hp).1 | exact (h4 _ hp).2.1 | exact (h4 _ hp).2.2.1 | exact (h4 _ hp).2.2.2 | exact (h5 _ hg).1 | exact (h5 _ hg).2.1 | exact (h5 _ hg).2.2 | exact h6 _ hr
def ci_row (u : ab_S) : Prop := ∀ r, r < 124 → ∃ n, n ≤ ab_ln 8 r ∧ u.1 4 r 1 = nI n
def ci_form (u : ab_S) : Prop := ∀ f, f < 61 → ∃ n, n ≤ 4 ∧ u.1 3 f 7 = nI n ∧ (∀ j, j < n → ∃ g, g < 61 ∧ u.2.1 9 f j = some (3, g)) ∧ (u.1 3 f 4 = 5 ∨ u.1 3 f 4 = 7 ∨ u.1 3 f 4 = 8 → 2 ≤ n) ∧ (u.1 3 f 4 = 6 → 1 ≤ n)
def ci_part (u : ab_S) : Prop := ∀ p, p < 20 → ∃ n, n ≤ 4 ∧ u.1 2 p 6 = nI n ∧ ∀ j, j < n → ∃ q, q < 20 ∧ u.2.1 10 p j = some (2, q)
def ci_scr (u : ab_S) : Prop := (∃ n, n ≤ 128 ∧ u.1 5 0 2 = nI n) ∧ ∃ n, n ≤ 38 ∧ u.1 5 0 3 = nI n ∧ ∀ j, j < n → ∃ g, g < 61 ∧ u.2.1 14 0 j = some (3, g)
def ci_rd (u : ab_S) : Prop := (∃ n, n ≤ 100 ∧ u.1 1 0 3 = nI n) ∧ (∃ n, n ≤ 100 ∧ u.1 1 0 4 = nI n) ∧ ∃ n, n ≤ 19 ∧ u.1 1 0 7 = nI n
def ci_pol (u : ab_S) : Prop := u.2.1 0 0 7 = none ∨ ∃ q, q < 20 ∧ u.2.1 0 0 7 = some (2, q)
def ci_ma (u : ab_S) : Prop := (∃ n, n ≤ 168 ∧ u.1 7 0 2 = nI n) ∧ (∃ n, n ≤ 128 ∧ u.1 7 0 3 = nI n) ∧ ∃ n, n ≤ 128 ∧ u.1 7 0 4 = nI n
def CI (u : ab_S) : Prop := ci_R u.2.1 ∧ ci_row u ∧ ci_form u ∧ ci_part u ∧ ci_scr u ∧ ci_rd u ∧ ci_pol u ∧ ci_ma u
/-- what no call of the class touches: the reference's cells; and the length of the text -/
def cS (u0 u : ab_S) : Prop := u.2.2 = u0.2.2 ∧ (∀ c i k, 17 ≤ c → u.1 c i k = u0.1 c i k ∧ u.2.1 c i k = u0.2.1 c i k) ∧ u.1 1 0 3 = u0.1 1 0 3
def cP (u0 u : ab_S) : Prop := CI u ∧ cS u0 u
theorem cP.rf {u : ab_S} (h : CI u) : cP u u := ⟨h, rfl, fun _ _ _ _ => ⟨rfl, rfl⟩, rfl⟩
theorem cP.trans {a b c : ab_S} (h : cP a b) (g : cP b c) : cP a c := ⟨g.1, g.2.1.trans h.2.1, fun x i k hx => ⟨(g.2.2.1 x i k hx).1.trans (h.2.2.1 x i k hx).1, (g.2.2.1 x i k hx).2.trans (h.2.2.1 x i k hx).2⟩, g.2.2.2.trans h.2.2.2⟩
def ci_free (c k : Nat) : Bool := decide (c < 17) && !((c == 4 && k == 1) || (c == 3 && (k == 7 || k == 4)) || (c == 2 && k == 6) || (c == 5 && (k == 2 || k == 3)) || (c == 1 && (k == 3 || k == 4 || k == 7)) || (c == 7 && (k == 2 || k == 3 || k == 4)))
theorem ci_free_out {c k : Nat} (h : 17 ≤ c) : ci_free c k = false := by unfold ci_free; rw [decide_eq_false (by omega)]; rfl
/-- a write to a place of no weight -/
theorem cP.ui {u0 u : ab_S} (h : cP u0 u) {c i k : Nat} {v : Int32} (hf : ci_free c k = true) : cP u0 (ab_ui u c i k v) := by
  have e : ∀ c' i' k', ci_free c' k' = false → ab_up u.1 c i k v c' i' k' = u.1 c' i' k' := fun c' i' k' hn => ab_up_n _ _ (fun z => by rw [z.1, z.2.2, hf] at hn; cases hn)
  obtain ⟨⟨r0, r1, r2, r3, r4, r5, r6, r7⟩, s1, s2, s3⟩ := h
  refine ⟨⟨r0, fun r hr => ?_, fun f hf' => ?_, fun p hp => ?_, ⟨?_, ?_⟩, ⟨?_, ?_, ?_⟩, r6, ⟨?_, ?_, ?_⟩⟩, s1, fun c' i' k' hc => ⟨(e _ _ _ (ci_free_out hc)).trans (s2 _ _ _ hc).1, (s2 _ _ _ hc).2⟩, (e 1 0 3 rfl).trans s3⟩
  · show ∃ n, n ≤ ab_ln 8 r ∧ ab_up u.1 c i k v 4 r 1 = nI n
    rw [e 4 r 1 rfl]; exact r1 r hr
  · show ∃ n, n ≤ 4 ∧ ab_up u.1 c i k v 3 f 7 = nI n ∧ (∀ j, j < n → ∃ g, g < 61 ∧ u.2.1 9 f j = some (3, g)) ∧ (ab_up u.1 c i k v 3 f 4 = 5 ∨ ab_up u.1 c i k v 3 f 4 = 7 ∨ ab_up u.1 c i k v 3 f 4 = 8 → 2 ≤ n) ∧ (ab_up u.1 c i k v 3 f 4 = 6 → 1 ≤ n)
    rw [e 3 f 7 rfl, e 3 f 4 rfl]; exact r2 f hf'
  · show ∃ n, n ≤ 4 ∧ ab_up u.1 c i k v 2 p 6 = nI n ∧ ∀ j, j < n → ∃ q, q < 20 ∧ u.2.1 10 p j = some (2, q)
    rw [e 2 p 6 rfl]; exact r3 p hp
  · show ∃ n, n ≤ 128 ∧ ab_up u.1 c i k v 5 0 2 = nI n
    rw [e 5 0 2 rfl]; exact r4.1
  · show ∃ n, n ≤ 38 ∧ ab_up u.1 c i k v 5 0 3 = nI n ∧ ∀ j, j < n → ∃ g, g < 61 ∧ u.2.1 14 0 j = some (3, g)
    rw [e 5 0 3 rfl]; exact r4.2
  · show ∃ n, n ≤ 100 ∧ ab_up u.1 c i k v 1 0 3 = nI n
    rw [e 1 0 3 rfl]; exact r5.1
  · show ∃ n, n ≤ 100 ∧ ab_up u.1 c i k v 1 0 4 = nI n
    rw [e 1 0 4 rfl]; exact r5.2.1
  · show ∃ n, n ≤ 19 ∧ ab_up u.1 c i k v 1 0 7 = nI n
    rw [e 1 0 7 rfl]; exact r5.2.2
  · show ∃ n, n ≤ 168 ∧ ab_up u.1 c i k v 7 0 2 = nI n
    rw [e 7 0 2 rfl]; exact r7.1
  · show ∃ n, n ≤ 128 ∧ ab_up u.1 c i k v 7 0 3 = nI n
    rw [e 7 0 3 rfl]; exact r7.2.1
  · show ∃ n, n ≤ 128 ∧ ab_up u.1 c i k v 7 0 4 = nI n
    rw [e 7 0 4 rfl]; exact r7.2.2
/-- a write to a place with a bound: what it must keep -/
theorem cP.uw {u0 u : ab_S} (h : cP u0 u) {c i k : Nat} {v : Int32} (hc : c < 17) (h1 : ¬ (c = 1 ∧ k = 3)) (g1 : c = 4 → ci_row (ab_ui u c i k v)) (g2 : c = 3 → ci_form (ab_ui u c i k v)) (g3 : c = 2 → ci_part (ab_ui u c i k v)) (g4 : c = 5 → ci_scr (ab_ui u c i k v)) (g5 : c = 1 → ci_rd (ab_ui u c i k v)) (g7 : c = 7 → ci_ma (ab_ui u c i k v)) : cP u0 (ab_ui u c i k v) := by
  have e : ∀ c' i' k', c' ≠ c → ab_up u.1 c i k v c' i' k' = u.1 c' i' k' := fun c' i' k' hn => ab_up_n _ _ (fun z => hn z.1)
  obtain ⟨⟨r0, r1, r2, r3, r4, r5, r6, r7⟩, s1, s2, s3⟩ := h
  refine ⟨⟨r0, ?_, ?_, ?_, ?_, ?_, r6, ?_⟩, s1, fun c' i' k' hc' => ⟨(e _ _ _ (by omega)).trans (s2 _ _ _ hc').1, (s2 _ _ _ hc').2⟩, ?_⟩
  · by_cases q : c = 4
    · exact g1 q
    · intro r hr
      show ∃ n, n ≤ ab_ln 8 r ∧ ab_up u.1 c i k v 4 r 1 = nI n
      rw [e 4 r 1 (Ne.symm q)]; exact r1 r hr
  · by_cases q : c = 3
    · exact g2 q
    · intro f hf'
      show ∃ n, n ≤ 4 ∧ ab_up u.1 c i k v 3 f 7 = nI n ∧ (∀ j, j < n → ∃ g, g < 61 ∧ u.2.1 9 f j = some (3, g)) ∧ (ab_up u.1 c i k v 3 f 4 = 5 ∨ ab_up u.1 c i k v 3 f 4 = 7 ∨ ab_up u.1 c i k v 3 f 4 = 8 → 2 ≤ n) ∧ (ab_up u.1 c i k v 3 f 4 = 6 → 1 ≤ n)
      rw [e 3 f 7 (Ne.symm q), e 3 f 4 (Ne.symm q)]; exact r2 f hf'
  · by_cases q : c = 2
    · exact g3 q
    · intro p hp
      show ∃ n, n ≤ 4 ∧ ab_up u.1 c i k v 2 p 6 = nI n ∧ ∀ j, j < n → ∃ q, q < 20 ∧ u.2.1 10 p j = some (2, q)
      rw [e 2 p 6 (Ne.symm q)]; exact r3 p hp
  · by_cases q : c = 5
    · exact g4 q
    · refine ⟨?_, ?_⟩
      · show ∃ n, n ≤ 128 ∧ ab_up u.1 c i k v 5 0 2 = nI n
        rw [e 5 0 2 (Ne.symm q)]; exact r4.1
      · show ∃ n, n ≤ 38 ∧ ab_up u.1 c i k v 5 0 3 = nI n ∧ ∀ j, j < n → ∃ g, g < 61 ∧ u.2.1 14 0 j = some (3, g)
        rw [e 5 0 3 (Ne.symm q)]; exact r4.2
  · by_cases q : c = 1
    · exact g5 q
    · refine ⟨?_, ?_, ?_⟩
      · show ∃ n, n ≤ 100 ∧ ab_up u.1 c i k v 1 0 3 = nI n
        rw [e 1 0 3 (Ne.symm q)]; exact r5.1
      · show ∃ n, n ≤ 100 ∧ ab_up u.1 c i k v 1 0 4 = nI n
        rw [e 1 0 4 (Ne.symm q)]; exact r5.2.1
      · show ∃ n, n ≤ 19 ∧ ab_up u.1 c i k v 1 0 7 = nI n
        rw [e 1 0 7 (Ne.symm q)]; exact r5.2.2
  · by_cases q : c = 7
    · exact g7 q
    · refine ⟨?_, ?_, ?_⟩
      · show ∃ n, n ≤ 168 ∧ ab_up u.1 c i k v 7 0 2 = nI n
        rw [e 7 0 2 (Ne.symm q)]; exact r7.1
      · show ∃ n, n ≤ 128 ∧ ab_up u.1 c i k v 7 0 3 = nI n
        rw [e 7 0 3 (Ne.symm q)]; exact r7.2.1
      · show ∃ n, n ≤ 128 ∧ ab_up u.1 c i k v 7 0 4 = nI n
        rw [e 7 0 4 (Ne.symm q)]; exact r7.2.2
  · show ab_up u.1 c i k v 1 0 3 = u0.1 1 0 3
    rw [ab_up_n _ _ (fun z => h1 ⟨z.1.symm, z.2.2.symm⟩)]; exact s3
theorem cP.row {u0 u : ab_S} (h : cP u0 u) {r n : Nat} (hn : n ≤ ab_ln 8 r) : cP u0 (ab_ui u 4 r 1 (nI n)) :=
  h.uw (by decide) (by decide) (fun _ r' hr' => by
    by_cases q : r' = r
    · subst q; exact ⟨n, hn, ab_up_s _ _ _ _ _⟩
    · obtain ⟨m, h1, h2⟩ := h.1.2.1 r' hr'
      exact ⟨m, h1, (ab_up_n _ _ (fun z => q z.2.1)).trans h2⟩) (fun q => by omega) (fun q => by omega) (fun q => by omega) (fun q => by omega) (fun q => by omega)
theorem cP.row0 {u0 u : ab_S} (h : cP u0 u) {r : Nat} : cP u0 (ab_ui u 4 r 1 0) := h.row (n := 0) (Nat.zero_le _)
theorem CI.rw {u : ab_S} (h : CI u) {r : Nat} (hr : r < 124) : u.2.1 4 r 0 = some (8, r) := h.1.2.2.2.2.2 r hr
theorem ab_ln8b (r : Nat) : ab_ln 8 r ≤ 40 := by
  unfold ab_ln
  rw [if_pos rfl]
  split <;> decide
theorem ab_C_mono {z : Bool} {l : Launch} {D : va_G} {ca : Nat → ClassId} {y : MethodName} {cc : ByteArray} {nL : Nat} {ret : Option FieldType} {d : Nat} {N : Nat → Nat} {u : ab_S} {av : List ab_V} {P P' : ab_S → Option ab_V → Prop} (h : ab_C z l D ca y cc nL ret d N u av P) (k : ∀ u' v, P u' v → P' u' v) : ab_C z l D ca y cc nL ret d N u av P' := fun ad sz p e ha hc hk s m args below hf happ hP ht => by
  obtain ⟨k', o, h1, h2, h3, hq, hr⟩ := h ad sz p e ha hc hk s m args below hf happ hP ht
  obtain ⟨⟨u', r, a1, a2, a3⟩, a4⟩ := hq
  exact ⟨k', o, h1, h2, h3, ⟨⟨u', r, a1, k u' r a2, a3⟩, a4⟩, hr⟩
end
section
/-! Rows: every call comes to its end. -/
section SaRow
variable {l : Launch} {D : va_G} {ca : Nat → ClassId}
theorem s_RW_start (u : ab_S) (r : Nat) (h : CI u) (hr : r < 124) : ab_C false l D ca y_RW_start b_RW_start 1 none 0 ab_nQ u [ab_O 4 r] (fun u' v => (cP u u' ∧ u'.1 4 r 1 = 0) ∧ v = none) := by
  have hr4 : r < ab_nQ 4 := hr
  refine ab_C_mono (c_RW_start u r hr4) ?_
  rintro u' v ⟨rfl, rfl⟩
  exact ⟨⟨(((cP.rf h).row0 (r := r)).ui rfl).ui rfl, by simp [ab_up]⟩, rfl⟩
theorem s_RW_add (u : ab_S) (r : Nat) (x : Int32) (h : CI u) (hr : r < 124) : ab_C false l D ca y_RW_add b_RW_add 2 none 1 ab_nQ u [ab_O 4 r, ab_I x] (fun u' v => cP u u' ∧ v = none) := by
  refine ab_C.of (by decide) (Nat.le_of_ble_eq_true rfl) ?_
  intro p e s m args below meth c ad X hZ hr0 hlk
  obtain ⟨n, hn, en⟩ := h.2.1 r hr
  have hl := ab_ln_lt 8 r
  have hr4 : r < ab_nQ 4 := hr
  have hr8 : r < ab_nQ 8 := hr
  have hP : cP u u := cP.rf h
  by_cases hc : n < ab_ln 8 r
  ·
    refine ab_aload_n X 0 d_RW_add_0 rfl rfl ?_
    refine ab_gI X fl_RW_9 d_RW_add_1 (by first | assumption | decide) (en) ?_
    refine ab_aload_n X 0 d_RW_add_4 rfl rfl ?_
    refine ab_gR X fl_RW_22 d_RW_add_5 (by first | assumption | decide) (h.rw hr) ?_
    refine ab_alen X ⟨by decide, _, fun _ => rfl⟩ d_RW_add_8 (by first | assumption | decide) (rfl) ?_
    refine ab_icmp_ge X 45 d_RW_add_9 rfl (fun hb => absurd hb (nI_ge hc hl)) (fun _ => ?_)
    refine ab_aload_n X 0 d_RW_add_12 rfl rfl ?_
    refine ab_gR X fl_RW_22 d_RW_add_13 (by first | assumption | decide) (h.rw hr) ?_
    refine ab_aload_n X 0 d_RW_add_16 rfl rfl ?_
    refine ab_gI X fl_RW_9 d_RW_add_17 (by first | assumption | decide) (en) ?_
    refine ab_iload_n X 1 d_RW_add_20 rfl rfl ?_
    refine ab_iast X (n) ⟨rfl, rfl⟩ d_RW_add_21 (by first | assumption | decide) (rfl) (hc) (ab_ln_lt _ _) ?_
    refine ab_aload_n X 0 d_RW_add_22 rfl rfl ?_
    refine ab_dup X d_RW_add_23 rfl ?_
    refine ab_gI X fl_RW_9 d_RW_add_24 (by first | assumption | decide) ((show _ = nI n by simpa [ab_up] using en)) ?_
    refine ab_iconst (v := 1) X d_RW_add_27 (by decide) ?_
    refine ab_iadd X d_RW_add_28 ?_
    refine ab_putI X fp_RW_9 d_RW_add_29 (by first | assumption | decide) rfl rfl ?_
    rw [show nI n + 1 = nI (n + 1) from (nI_succ n).symm]
    refine ab_aload_n X 0 d_RW_add_32 rfl rfl ?_
    refine ab_dup X d_RW_add_33 rfl ?_
    refine ab_gI X fl_RW_15 d_RW_add_34 (by first | assumption | decide) (rfl) ?_
    refine ab_iload_n X 1 d_RW_add_37 rfl rfl ?_
    refine ab_callS (as := [ab_I x]) X (fun h => by cases h) (c_RW_weightOf (N := ab_nQ) _ x) ls_RW_26 d_RW_add_38 rfl rfl ⟨by first | exact Nat.le_of_ble_eq_true rfl | (simp only [ab_rm]; omega), by first | exact Nat.le_of_ble_eq_true rfl | (simp only [ab_rm]; omega)⟩ ⟨by first | exact Nat.le_of_ble_eq_true rfl | (simp only [ab_rm]; omega), by first | exact Nat.le_of_ble_eq_true rfl | (simp only [ab_rm]; omega)⟩ (Nat.le_of_ble_eq_true rfl) (fun u38 r38 h38 => ?_)
    obtain ⟨e38, rfl⟩ := h38
    subst u38
    refine ab_iadd X d_RW_add_41 ?_
    refine ab_putI X fp_RW_15 d_RW_add_42 (by first | assumption | decide) rfl rfl ?_
    exact ab_retv X hr0 hlk d_RW_add_45 ⟨((hP.ui rfl).row (by omega)).ui rfl, rfl⟩
  ·
    refine ab_aload_n X 0 d_RW_add_0 rfl rfl ?_
    refine ab_gI X fl_RW_9 d_RW_add_1 (by first | assumption | decide) (en) ?_
    refine ab_aload_n X 0 d_RW_add_4 rfl rfl ?_
    refine ab_gR X fl_RW_22 d_RW_add_5 (by first | assumption | decide) (h.rw hr) ?_
    refine ab_alen X ⟨by decide, _, fun _ => rfl⟩ d_RW_add_8 (by first | assumption | decide) (rfl) ?_
    refine ab_icmp_ge X 45 d_RW_add_9 rfl (fun _ => ?_) (fun hb => absurd (nI_le (by omega) (by have := ab_ln8b r; omega)) hb)
    exact ab_retv X hr0 hlk d_RW_add_45 ⟨hP, rfl⟩
abbrev b_RW_join : ByteArray := prog_7_method_4_code
def y_RW_join : MethodName := ⟨"PolicyForge$Row", "join", "(LPolicyForge$Row;)V"⟩
theorem d_RW_join_0 : decode b_RW_join 0 = .ok (.aload_n 0, 1) := by decide +kernel
theorem d_RW_join_1 : decode b_RW_join 1 = .ok (.aload_n 0, 1) := by decide +kernel
theorem d_RW_join_2 : decode b_RW_join 2 = .ok (.getfield 18, 3) := by decide +kernel
theorem d_RW_join_5 : decode b_RW_join 5 = .ok (.ifCond .eq 14, 3) := by decide +kernel
theorem d_RW_join_8 : decode b_RW_join 8 = .ok (.aload_n 1, 1) := by decide +kernel
theorem d_RW_join_9 : decode b_RW_join 9 = .ok (.getfield 18, 3) := by decide +kernel
theorem d_RW_join_12 : decode b_RW_join 12 = .ok (.ifCond .eq 7, 3) := by decide +kernel
theorem d_RW_join_15 : decode b_RW_join 15 = .ok (.iconst 1, 1) := by decide +kernel
theorem d_RW_join_16 : decode b_RW_join 16 = .ok (.goto 4, 3) := by decide +kernel
theorem d_RW_join_19 : decode b_RW_join 19 = .ok (.iconst 0, 1) := by decide +kernel
theorem d_RW_join_20 : decode b_RW_join 20 = .ok (.putfield 18, 3) := by decide +kernel
theorem d_RW_join_23 : decode b_RW_join 23 = .ok (.aload_n 0, 1) := by decide +kernel
theorem d_RW_join_24 : decode b_RW_join 24 = .ok (.dup, 1) := by decide +kernel
theorem d_RW_join_25 : decode b_RW_join 25 = .ok (.getfield 15, 3) := by decide +kernel
theorem d_RW_join_28 : decode b_RW_join 28 = .ok (.aload_n 1, 1) := by decide +kernel
theorem d_RW_join_29 : decode b_RW_join 29 = .ok (.getfield 15, 3) := by decide +kernel
theorem d_RW_join_32 : decode b_RW_join 32 = .ok (.iadd, 1) := by decide +kernel
theorem d_RW_join_33 : decode b_RW_join 33 = .ok (.putfield 15, 3) := by decide +kernel
theorem d_RW_join_36 : decode b_RW_join 36 = .ok (.iconst 0, 1) := by decide +kernel
theorem d_RW_join_37 : decode b_RW_join 37 = .ok (.istore_n 2, 1) := by decide +kernel
theorem d_RW_join_38 : decode b_RW_join 38 = .ok (.iload_n 2, 1) := by decide +kernel
theorem d_RW_join_39 : decode b_RW_join 39 = .ok (.aload_n 1, 1) := by decide +kernel
theorem d_RW_join_40 : decode b_RW_join 40 = .ok (.getfield 9, 3) := by decide +kernel
theorem d_RW_join_43 : decode b_RW_join 43 = .ok (.if_icmp .ge 46, 3) := by decide +kernel
theorem d_RW_join_46 : decode b_RW_join 46 = .ok (.aload_n 0, 1) := by decide +kernel
theorem d_RW_join_47 : decode b_RW_join 47 = .ok (.getfield 9, 3) := by decide +kernel
theorem d_RW_join_50 : decode b_RW_join 50 = .ok (.aload_n 0, 1) := by decide +kernel
theorem d_RW_join_51 : decode b_RW_join 51 = .ok (.getfield 22, 3) := by decide +kernel
theorem d_RW_join_54 : decode b_RW_join 54 = .ok (.arraylength, 1) := by decide +kernel
theorem d_RW_join_55 : decode b_RW_join 55 = .ok (.if_icmp .ge 34, 3) := by decide +kernel
theorem d_RW_join_58 : decode b_RW_join 58 = .ok (.aload_n 0, 1) := by decide +kernel
theorem d_RW_join_59 : decode b_RW_join 59 = .ok (.getfield 22, 3) := by decide +kernel
theorem d_RW_join_62 : decode b_RW_join 62 = .ok (.aload_n 0, 1) := by decide +kernel
theorem d_RW_join_63 : decode b_RW_join 63 = .ok (.getfield 9, 3) := by decide +kernel
theorem d_RW_join_66 : decode b_RW_join 66 = .ok (.aload_n 1, 1) := by decide +kernel
theorem d_RW_join_67 : decode b_RW_join 67 = .ok (.getfield 22, 3) := by decide +kernel
theorem d_RW_join_70 : decode b_RW_join 70 = .ok (.iload_n 2, 1) := by decide +kernel
theorem d_RW_join_71 : decode b_RW_join 71 = .ok (.iaload, 1) := by decide +kernel
theorem d_RW_join_72 : decode b_RW_join 72 = .ok (.iastore, 1) := by decide +kernel
theorem d_RW_join_73 : decode b_RW_join 73 = .ok (.aload_n 0, 1) := by decide +kernel
theorem d_RW_join_74 : decode b_RW_join 74 = .ok (.dup, 1) := by decide +kernel
theorem d_RW_join_75 : decode b_RW_join 75 = .ok (.getfield 9, 3) := by decide +kernel
theorem d_RW_join_78 : decode b_RW_join 78 = .ok (.iconst 1, 1) := by decide +kernel
theorem d_RW_join_79 : decode b_RW_join 79 = .ok (.iadd, 1) := by decide +kernel
theorem d_RW_join_80 : decode b_RW_join 80 = .ok (.putfield 9, 3) := by decide +kernel
theorem d_RW_join_83 : decode b_RW_join 83 = .ok (.iinc 2 1, 3) := by decide +kernel
theorem d_RW_join_86 : decode b_RW_join 86 = .ok (.goto (-48), 3) := by decide +kernel
theorem d_RW_join_89 : decode b_RW_join 89 = .ok (.return_, 1) := by decide +kernel
theorem fl_RW_18 : ab_fl "PolicyForge$Row" 18 4 3 0 := ⟨rfl, R_RW, T_RW, 4, rfl, uw_RW, by decide, rfl, (ab_in 159 (by decide +kernel) (by decide +kernel))⟩
set_option maxRecDepth 100000 in
set_option maxHeartbeats 1000000 in
theorem s_RW_join (u : ab_S) (r o : Nat) (h : CI u) (hr : r < 124) (ho : o < 124) : ab_C false l D ca y_RW_join b_RW_join 3 none 1 ab_nQ u [ab_O 4 r, ab_O 4 o] (fun u' v => cP u u' ∧ v = none) := by
  refine ab_C.of (by decide) (Nat.le_of_ble_eq_true rfl) ?_
  intro p e s m args below meth c ad X hZ hr0 hlk
  have hr4 : r < ab_nQ 4 := hr
  have hr8 : r < ab_nQ 8 := hr
  have ho4 : o < ab_nQ 4 := ho
  have ho8 : o < ab_nQ 8 := ho
  have loop : ∀ (k j : Nat) (u1 : ab_S), k + j = 41 → cP u u1 → ab_J p l e (ab_rm 1 0 0) s m args below meth c (MQ below (ab_Q D ca ad ab_nQ s.heap.size (fun u' v => cP u u' ∧ v = none)) args s 0 0 (ab_A ad ab_nQ s.heap.size)) D ca (ab_A ad ab_nQ s.heap.size) s.heap 3 0 0 ad ab_nQ u1 38 [(2, ab_I (nI j)), (0, ab_O 4 r), (1, ab_O 4 o)] [] := by
    intro k
    induction k with
    | zero =>
      intro j u1 hj hP
      obtain ⟨co, hco, eo⟩ := hP.1.2.1 o ho
      have := ab_ln8b o
      refine ab_iload_n X 0 d_RW_join_38 rfl rfl ?_
      refine ab_aload_n X 2 d_RW_join_39 rfl rfl ?_
      refine ab_gI X fl_RW_9 d_RW_join_40 (by first | assumption | decide) (eo) ?_
      refine ab_icmp_ge X 89 d_RW_join_43 rfl (fun _ => ?_) (fun hb => absurd ((nI_le (by omega) (by omega))) hb)
      exact ab_retv X hr0 hlk d_RW_join_89 ⟨hP, rfl⟩
    | succ k ih =>
      intro j u1 hj hP
      obtain ⟨co, hco, eo⟩ := hP.1.2.1 o ho
      obtain ⟨cr, hcr, er⟩ := hP.1.2.1 r hr
      have l1 := ab_ln8b o
      have l2 := ab_ln8b r
      by_cases h1 : co ≤ j
      ·
        refine ab_iload_n X 0 d_RW_join_38 rfl rfl ?_
        refine ab_aload_n X 2 d_RW_join_39 rfl rfl ?_
        refine ab_gI X fl_RW_9 d_RW_join_40 (by first | assumption | decide) (eo) ?_
        refine ab_icmp_ge X 89 d_RW_join_43 rfl (fun _ => ?_) (fun hb => absurd ((nI_le h1 (by omega))) hb)
        exact ab_retv X hr0 hlk d_RW_join_89 ⟨hP, rfl⟩
      · by_cases h2 : ab_ln 8 r ≤ cr
        ·
          refine ab_iload_n X 0 d_RW_join_38 rfl rfl ?_
          refine ab_aload_n X 2 d_RW_join_39 rfl rfl ?_
          refine ab_gI X fl_RW_9 d_RW_join_40 (by first | assumption | decide) (eo) ?_
          refine ab_icmp_ge X 89 d_RW_join_43 rfl (fun hb => absurd hb ((nI_ge (by omega) (by omega)))) (fun _ => ?_)
          refine ab_aload_n X 1 d_RW_join_46 rfl rfl ?_
          refine ab_gI X fl_RW_9 d_RW_join_47 (by first | assumption | decide) (er) ?_
          refine ab_aload_n X 1 d_RW_join_50 rfl rfl ?_
          refine ab_gR X fl_RW_22 d_RW_join_51 (by first | assumption | decide) (hP.1.rw hr) ?_
          refine ab_alen X ⟨by decide, _, fun _ => rfl⟩ d_RW_join_54 (by first | assumption | decide) (rfl) ?_
          refine ab_icmp_ge X 89 d_RW_join_55 rfl (fun _ => ?_) (fun hb => absurd ((nI_le h2 (by omega))) hb)
          exact ab_retv X hr0 hlk d_RW_join_89 ⟨hP, rfl⟩
        ·
          refine ab_iload_n X 0 d_RW_join_38 rfl rfl ?_
          refine ab_aload_n X 2 d_RW_join_39 rfl rfl ?_
          refine ab_gI X fl_RW_9 d_RW_join_40 (by first | assumption | decide) (eo) ?_
          refine ab_icmp_ge X 89 d_RW_join_43 rfl (fun hb => absurd hb ((nI_ge (by omega) (by omega)))) (fun _ => ?_)
          refine ab_aload_n X 1 d_RW_join_46 rfl rfl ?_
          refine ab_gI X fl_RW_9 d_RW_join_47 (by first | assumption | decide) (er) ?_
          refine ab_aload_n X 1 d_RW_join_50 rfl rfl ?_
          refine ab_gR X fl_RW_22 d_RW_join_51 (by first | assumption | decide) (hP.1.rw hr) ?_
          refine ab_alen X ⟨by decide, _, fun _ => rfl⟩ d_RW_join_54 (by first | assumption | decide) (rfl) ?_
          refine ab_icmp_ge X 89 d_RW_join_55 rfl (fun hb => absurd hb ((nI_ge (by omega) (by omega)))) (fun _ => ?_)
          refine ab_aload_n X 1 d_RW_join_58 rfl rfl ?_
          refine ab_gR X fl_RW_22 d_RW_join_59 (by first | assumption | decide) (hP.1.rw hr) ?_
          refine ab_aload_n X 1 d_RW_join_62 rfl rfl ?_
          refine ab_gI X fl_RW_9 d_RW_join_63 (by first | assumption | decide) (er) ?_
          refine ab_aload_n X 2 d_RW_join_66 rfl rfl ?_
          refine ab_gR X fl_RW_22 d_RW_join_67 (by first | assumption | decide) (hP.1.rw ho) ?_
          refine ab_iload_n X 0 d_RW_join_70 rfl rfl ?_
          refine ab_iald X (j) ⟨rfl, rfl⟩ d_RW_join_71 (by first | assumption | decide) (rfl) (by omega) (ab_ln_lt _ _) ?_
          refine ab_iast X (cr) ⟨rfl, rfl⟩ d_RW_join_72 (by first | assumption | decide) (rfl) (by omega) (ab_ln_lt _ _) ?_
          refine ab_aload_n X 1 d_RW_join_73 rfl rfl ?_
          refine ab_dup X d_RW_join_74 rfl ?_
          refine ab_gI X fl_RW_9 d_RW_join_75 (by first | assumption | decide) ((show _ = nI cr by simpa [ab_up] using er)) ?_
          refine ab_iconst (v := 1) X d_RW_join_78 (by decide) ?_
          refine ab_iadd X d_RW_join_79 ?_
          refine ab_top (nI_1 _) ?_
          refine ab_putI X fp_RW_9 d_RW_join_80 (by first | assumption | decide) rfl rfl ?_
          refine ab_iinc2 X 0 1 2 d_RW_join_83 rfl (by decide) rfl rfl rfl rfl ?_
          refine ab_goto X 38 d_RW_join_86 rfl ?_
          rw [show nI j + Int32.ofInt 1 = nI (j + 1) from nI_1 j]
          exact ih (j + 1) _ (by omega) ((hP.ui rfl).row (by omega))
  have hP : cP u u := cP.rf h
  refine ab_aload_n X 0 d_RW_join_0 rfl rfl ?_
  refine ab_aload_n X 0 d_RW_join_1 rfl rfl ?_
  refine ab_gI X fl_RW_18 d_RW_join_2 (by first | assumption | decide) (rfl) ?_
  refine ab_if_eq X 19 d_RW_join_5 rfl (fun h5 => ?_) (fun h5 => ?_)
  ·
    refine ab_iconst (v := 0) X d_RW_join_19 (by decide) ?_
    refine ab_putI X fp_RW_18 d_RW_join_20 (by first | assumption | decide) rfl rfl ?_
    refine ab_aload_n X 0 d_RW_join_23 rfl rfl ?_
    refine ab_dup X d_RW_join_24 rfl ?_
    refine ab_gI X fl_RW_15 d_RW_join_25 (by first | assumption | decide) (rfl) ?_
    refine ab_aload_n X 1 d_RW_join_28 rfl rfl ?_
    refine ab_gI X fl_RW_15 d_RW_join_29 (by first | assumption | decide) (rfl) ?_
    refine ab_iadd X d_RW_join_32 ?_
    refine ab_putI X fp_RW_15 d_RW_join_33 (by first | assumption | decide) rfl rfl ?_
    refine ab_iconst (v := 0) X d_RW_join_36 (by decide) ?_
    refine ab_istore_n2 X 0 1 d_RW_join_37 rfl (by decide) rfl rfl rfl rfl ?_
    exact loop 41 0 _ rfl ((hP.ui rfl).ui rfl)
  ·
    refine ab_aload_n X 1 d_RW_join_8 rfl rfl ?_
    refine ab_gI X fl_RW_18 d_RW_join_9 (by first | assumption | decide) (rfl) ?_
    refine ab_if_eq X 19 d_RW_join_12 rfl (fun h12 => ?_) (fun h12 => ?_)
    ·
      refine ab_iconst (v := 0) X d_RW_join_19 (by decide) ?_
      refine ab_putI X fp_RW_18 d_RW_join_20 (by first | assumption | decide) rfl rfl ?_
      refine ab_aload_n X 0 d_RW_join_23 rfl rfl ?_
      refine ab_dup X d_RW_join_24 rfl ?_
      refine ab_gI X fl_RW_15 d_RW_join_25 (by first | assumption | decide) (rfl) ?_
      refine ab_aload_n X 1 d_RW_join_28 rfl rfl ?_
      refine ab_gI X fl_RW_15 d_RW_join_29 (by first | assumption | decide) (rfl) ?_
      refine ab_iadd X d_RW_join_32 ?_
      refine ab_putI X fp_RW_15 d_RW_join_33 (by first | assumption | decide) rfl rfl ?_
      refine ab_iconst (v := 0) X d_RW_join_36 (by decide) ?_
      refine ab_istore_n2 X 0 1 d_RW_join_37 rfl (by decide) rfl rfl rfl rfl ?_
      exact loop 41 0 _ rfl ((hP.ui rfl).ui rfl)
    ·
      refine ab_iconst (v := 1) X d_RW_join_15 (by decide) ?_
      refine ab_goto X 20 d_RW_join_16 rfl ?_
      refine ab_putI X fp_RW_18 d_RW_join_20 (by first | assumption | decide) rfl rfl ?_
      refine ab_aload_n X 0 d_RW_join_23 rfl rfl ?_
      refine ab_dup X d_RW_join_24 rfl ?_
      refine ab_gI X fl_RW_15 d_RW_join_25 (by first | assumption | decide) (rfl) ?_
      refine ab_aload_n X 1 d_RW_join_28 rfl rfl ?_
      refine ab_gI X fl_RW_15 d_RW_join_29 (by first | assumption | decide) (rfl) ?_
      refine ab_iadd X d_RW_join_32 ?_
      refine ab_putI X fp_RW_15 d_RW_join_33 (by first | assumption | decide) rfl rfl ?_
      refine ab_iconst (v := 0) X d_RW_join_36 (by decide) ?_
      refine ab_istore_n2 X 0 1 d_RW_join_37 rfl (by decide) rfl rfl rfl rfl ?_
      exact loop 41 0 _ rfl ((hP.ui rfl).ui rfl)
theorem d_RW_become_0 : decode b_RW_become 0 = .ok (.aload_n 0, 1) := by decide +kernel
theorem d_RW_become_1 : decode b_RW_become 1 = .ok (.invokevirtual 30, 3) := by decide +kernel
theorem d_RW_become_4 : decode b_RW_become 4 = .ok (.aload_n 0, 1) := by decide +kernel
theorem d_RW_become_5 : decode b_RW_become 5 = .ok (.aload_n 1, 1) := by decide +kernel
theorem d_RW_become_6 : decode b_RW_become 6 = .ok (.invokevirtual 33, 3) := by decide +kernel
theorem d_RW_become_9 : decode b_RW_become 9 = .ok (.return_, 1) := by decide +kernel
theorem lk_RW_30 : ab_lk "PolicyForge$Row" 30 y_RW_start b_RW_start 1 none 0 4 := ⟨⟨rfl, T_RW, 4, rfl⟩, List.forall_mem_cons.mpr ⟨(ab_in 811 (by decide +kernel) (by decide +kernel)), List.forall_mem_cons.mpr ⟨(ab_in 352 (by decide +kernel) (by decide +kernel)), List.forall_mem_cons.mpr ⟨(ab_in 353 (by decide +kernel) (by decide +kernel)), List.forall_mem_cons.mpr ⟨(ab_in 96 (by decide +kernel) (by decide +kernel)), List.forall_mem_cons.mpr ⟨(ab_in 354 (by decide +kernel) (by decide +kernel)), fun _ h => absurd h List.not_mem_nil⟩⟩⟩⟩⟩, ⟨by decide +kernel, by decide +kernel, by decide +kernel⟩, by decide⟩
theorem lk_RW_33 : ab_lk "PolicyForge$Row" 33 y_RW_join b_RW_join 3 none 1 4 := ⟨⟨rfl, T_RW, 4, rfl⟩, List.forall_mem_cons.mpr ⟨(ab_in 812 (by decide +kernel) (by decide +kernel)), List.forall_mem_cons.mpr ⟨(ab_in 674 (by decide +kernel) (by decide +kernel)), List.forall_mem_cons.mpr ⟨(ab_in 675 (by decide +kernel) (by decide +kernel)), List.forall_mem_cons.mpr ⟨(ab_in 96 (by decide +kernel) (by decide +kernel)), List.forall_mem_cons.mpr ⟨(ab_in 676 (by decide +kernel) (by decide +kernel)), fun _ h => absurd h List.not_mem_nil⟩⟩⟩⟩⟩, ⟨by decide +kernel, by decide +kernel, by decide +kernel⟩, by decide⟩
theorem s_RW_become (u : ab_S) (r o : Nat) (h : CI u) (hr : r < 124) (ho : o < 124) : ab_C false l D ca y_RW_become b_RW_become 2 none 2 ab_nQ u [ab_O 4 r, ab_O 4 o] (fun u' v => cP u u' ∧ v = none) := by
  refine ab_C.of (by decide) (Nat.le_of_ble_eq_true rfl) ?_
  intro p e s m args below meth c ad X hZ hr0 hlk
  have hr4 : r < ab_nQ 4 := hr
  refine ab_aload_n X 0 d_RW_become_0 rfl rfl ?_
  refine ab_callV (as := []) X (fun h => by cases h) (s_RW_start u r h hr) lk_RW_30 d_RW_become_1 rfl rfl (by first | assumption | decide) ⟨by first | exact Nat.le_of_ble_eq_true rfl | (simp only [ab_rm]; omega), by first | exact Nat.le_of_ble_eq_true rfl | (simp only [ab_rm]; omega)⟩ ⟨by first | exact Nat.le_of_ble_eq_true rfl | (simp only [ab_rm]; omega), by first | exact Nat.le_of_ble_eq_true rfl | (simp only [ab_rm]; omega)⟩ (Nat.le_of_ble_eq_true rfl) (fun u1 r1 h1 => ?_)
  obtain ⟨⟨q1, -⟩, rfl⟩ := h1
  refine ab_aload_n X 0 d_RW_become_4 rfl rfl ?_
  refine ab_aload_n X 1 d_RW_become_5 rfl rfl ?_
  refine ab_callV (as := [ab_O 4 o]) X (fun h => by cases h) (s_RW_join u1 r o q1.1 hr ho) lk_RW_33 d_RW_become_6 rfl rfl (by first | assumption | decide) ⟨by first | exact Nat.le_of_ble_eq_true rfl | (simp only [ab_rm]; omega), by first | exact Nat.le_of_ble_eq_true rfl | (simp only [ab_rm]; omega)⟩ ⟨by first | exact Nat.le_of_ble_eq_true rfl | (simp only [ab_rm]; omega), by first | exact Nat.le_of_ble_eq_true rfl | (simp only [ab_rm]; omega)⟩ (Nat.le_of_ble_eq_true rfl) (fun u6 r6 h6 => ?_)
  obtain ⟨q2, rfl⟩ := h6
  exact ab_retv X hr0 hlk d_RW_become_9 ⟨q1.trans q2, rfl⟩
abbrev b_RW_isLesser : ByteArray := prog_7_method_7_code
def y_RW_isLesser : MethodName := ⟨"PolicyForge$Row", "isLesser", "(LPolicyForge$Row;)Z"⟩
theorem d_RW_isLesser_0 : decode b_RW_isLesser 0 = .ok (.aload_n 0, 1) := by decide +kernel
theorem d_RW_isLesser_1 : decode b_RW_isLesser 1 = .ok (.getfield 15, 3) := by decide +kernel
theorem d_RW_isLesser_4 : decode b_RW_isLesser 4 = .ok (.aload_n 1, 1) := by decide +kernel
theorem d_RW_isLesser_5 : decode b_RW_isLesser 5 = .ok (.getfield 15, 3) := by decide +kernel
theorem d_RW_isLesser_8 : decode b_RW_isLesser 8 = .ok (.if_icmp .eq 20, 3) := by decide +kernel
theorem d_RW_isLesser_11 : decode b_RW_isLesser 11 = .ok (.aload_n 0, 1) := by decide +kernel
theorem d_RW_isLesser_12 : decode b_RW_isLesser 12 = .ok (.getfield 15, 3) := by decide +kernel
theorem d_RW_isLesser_15 : decode b_RW_isLesser 15 = .ok (.aload_n 1, 1) := by decide +kernel
theorem d_RW_isLesser_16 : decode b_RW_isLesser 16 = .ok (.getfield 15, 3) := by decide +kernel
theorem d_RW_isLesser_19 : decode b_RW_isLesser 19 = .ok (.if_icmp .ge 7, 3) := by decide +kernel
theorem d_RW_isLesser_22 : decode b_RW_isLesser 22 = .ok (.iconst 1, 1) := by decide +kernel
theorem d_RW_isLesser_23 : decode b_RW_isLesser 23 = .ok (.goto 4, 3) := by decide +kernel
theorem d_RW_isLesser_26 : decode b_RW_isLesser 26 = .ok (.iconst 0, 1) := by decide +kernel
theorem d_RW_isLesser_27 : decode b_RW_isLesser 27 = .ok (.ireturn, 1) := by decide +kernel
theorem d_RW_isLesser_28 : decode b_RW_isLesser 28 = .ok (.iconst 0, 1) := by decide +kernel
theorem d_RW_isLesser_29 : decode b_RW_isLesser 29 = .ok (.istore_n 2, 1) := by decide +kernel
theorem d_RW_isLesser_30 : decode b_RW_isLesser 30 = .ok (.iload_n 2, 1) := by decide +kernel
theorem d_RW_isLesser_31 : decode b_RW_isLesser 31 = .ok (.aload_n 0, 1) := by decide +kernel
theorem d_RW_isLesser_32 : decode b_RW_isLesser 32 = .ok (.getfield 9, 3) := by decide +kernel
theorem d_RW_isLesser_35 : decode b_RW_isLesser 35 = .ok (.if_icmp .ge 53, 3) := by decide +kernel
theorem d_RW_isLesser_38 : decode b_RW_isLesser 38 = .ok (.iload_n 2, 1) := by decide +kernel
theorem d_RW_isLesser_39 : decode b_RW_isLesser 39 = .ok (.aload_n 1, 1) := by decide +kernel
theorem d_RW_isLesser_40 : decode b_RW_isLesser 40 = .ok (.getfield 9, 3) := by decide +kernel
theorem d_RW_isLesser_43 : decode b_RW_isLesser 43 = .ok (.if_icmp .ge 45, 3) := by decide +kernel
theorem d_RW_isLesser_46 : decode b_RW_isLesser 46 = .ok (.aload_n 0, 1) := by decide +kernel
theorem d_RW_isLesser_47 : decode b_RW_isLesser 47 = .ok (.getfield 22, 3) := by decide +kernel
theorem d_RW_isLesser_50 : decode b_RW_isLesser 50 = .ok (.iload_n 2, 1) := by decide +kernel
theorem d_RW_isLesser_51 : decode b_RW_isLesser 51 = .ok (.iaload, 1) := by decide +kernel
theorem d_RW_isLesser_52 : decode b_RW_isLesser 52 = .ok (.aload_n 1, 1) := by decide +kernel
theorem d_RW_isLesser_53 : decode b_RW_isLesser 53 = .ok (.getfield 22, 3) := by decide +kernel
theorem d_RW_isLesser_56 : decode b_RW_isLesser 56 = .ok (.iload_n 2, 1) := by decide +kernel
theorem d_RW_isLesser_57 : decode b_RW_isLesser 57 = .ok (.iaload, 1) := by decide +kernel
theorem d_RW_isLesser_58 : decode b_RW_isLesser 58 = .ok (.if_icmp .eq 24, 3) := by decide +kernel
theorem d_RW_isLesser_61 : decode b_RW_isLesser 61 = .ok (.aload_n 0, 1) := by decide +kernel
theorem d_RW_isLesser_62 : decode b_RW_isLesser 62 = .ok (.getfield 22, 3) := by decide +kernel
theorem d_RW_isLesser_65 : decode b_RW_isLesser 65 = .ok (.iload_n 2, 1) := by decide +kernel
theorem d_RW_isLesser_66 : decode b_RW_isLesser 66 = .ok (.iaload, 1) := by decide +kernel
theorem d_RW_isLesser_67 : decode b_RW_isLesser 67 = .ok (.aload_n 1, 1) := by decide +kernel
theorem d_RW_isLesser_68 : decode b_RW_isLesser 68 = .ok (.getfield 22, 3) := by decide +kernel
theorem d_RW_isLesser_71 : decode b_RW_isLesser 71 = .ok (.iload_n 2, 1) := by decide +kernel
theorem d_RW_isLesser_72 : decode b_RW_isLesser 72 = .ok (.iaload, 1) := by decide +kernel
theorem d_RW_isLesser_73 : decode b_RW_isLesser 73 = .ok (.if_icmp .ge 7, 3) := by decide +kernel
theorem d_RW_isLesser_76 : decode b_RW_isLesser 76 = .ok (.iconst 1, 1) := by decide +kernel
theorem d_RW_isLesser_77 : decode b_RW_isLesser 77 = .ok (.goto 4, 3) := by decide +kernel
theorem d_RW_isLesser_80 : decode b_RW_isLesser 80 = .ok (.iconst 0, 1) := by decide +kernel
theorem d_RW_isLesser_81 : decode b_RW_isLesser 81 = .ok (.ireturn, 1) := by decide +kernel
theorem d_RW_isLesser_82 : decode b_RW_isLesser 82 = .ok (.iinc 2 1, 3) := by decide +kernel
theorem d_RW_isLesser_85 : decode b_RW_isLesser 85 = .ok (.goto (-55), 3) := by decide +kernel
theorem d_RW_isLesser_88 : decode b_RW_isLesser 88 = .ok (.aload_n 0, 1) := by decide +kernel
theorem d_RW_isLesser_89 : decode b_RW_isLesser 89 = .ok (.getfield 9, 3) := by decide +kernel
theorem d_RW_isLesser_92 : decode b_RW_isLesser 92 = .ok (.aload_n 1, 1) := by decide +kernel
theorem d_RW_isLesser_93 : decode b_RW_isLesser 93 = .ok (.getfield 9, 3) := by decide +kernel
theorem d_RW_isLesser_96 : decode b_RW_isLesser 96 = .ok (.if_icmp .ge 7, 3) := by decide +kernel
theorem d_RW_isLesser_99 : decode b_RW_isLesser 99 = .ok (.iconst 1, 1) := by decide +kernel
theorem d_RW_isLesser_100 : decode b_RW_isLesser 100 = .ok (.goto 4, 3) := by decide +kernel
theorem d_RW_isLesser_103 : decode b_RW_isLesser 103 = .ok (.iconst 0, 1) := by decide +kernel
theorem d_RW_isLesser_104 : decode b_RW_isLesser 104 = .ok (.ireturn, 1) := by decide +kernel
set_option maxRecDepth 100000 in
set_option maxHeartbeats 1000000 in
theorem s_RW_isLesser (u : ab_S) (r o : Nat) (h : CI u) (hr : r < 124) (ho : o < 124) : ab_C false l D ca y_RW_isLesser b_RW_isLesser 3 (some .boolean) 0 ab_nQ u [ab_O 4 r, ab_O 4 o] (fun u' v => u' = u ∧ ∃ b : Int32, (b = 0 ∨ b = 1) ∧ v = some (ab_I b)) := by
  refine ab_C.of (by decide) (Nat.le_of_ble_eq_true rfl) ?_
  intro p e s m args below meth c ad X hZ hr0 hlk
  have hr4 : r < ab_nQ 4 := hr
  have hr8 : r < ab_nQ 8 := hr
  have ho4 : o < ab_nQ 4 := ho
  have ho8 : o < ab_nQ 8 := ho
  obtain ⟨co, hco, eo⟩ := h.2.1 o ho
  obtain ⟨cr, hcr, er⟩ := h.2.1 r hr
  have l1 := ab_ln8b o
  have l2 := ab_ln8b r
  have loop : ∀ (k j : Nat), k + j = 41 → ab_J p l e (ab_rm 0 0 0) s m args below meth c (MQ below (ab_Q D ca ad ab_nQ s.heap.size (fun u' v => u' = u ∧ ∃ b : Int32, (b = 0 ∨ b = 1) ∧ v = some (ab_I b))) args s 0 0 (ab_A ad ab_nQ s.heap.size)) D ca (ab_A ad ab_nQ s.heap.size) s.heap 3 0 0 ad ab_nQ u 30 [(2, ab_I (nI j)), (0, ab_O 4 r), (1, ab_O 4 o)] [] := by
    intro k
    induction k with
    | zero =>
      intro j hj
      refine ab_iload_n X 0 d_RW_isLesser_30 rfl rfl ?_
      refine ab_aload_n X 1 d_RW_isLesser_31 rfl rfl ?_
      refine ab_gI X fl_RW_9 d_RW_isLesser_32 (by first | assumption | decide) (er) ?_
      refine ab_icmp_ge X 88 d_RW_isLesser_35 rfl (fun _ => ?_) (fun hb => absurd ((nI_le (by omega) (by omega))) hb)
      refine ab_aload_n X 1 d_RW_isLesser_88 rfl rfl ?_
      refine ab_gI X fl_RW_9 d_RW_isLesser_89 (by first | assumption | decide) (rfl) ?_
      refine ab_aload_n X 2 d_RW_isLesser_92 rfl rfl ?_
      refine ab_gI X fl_RW_9 d_RW_isLesser_93 (by first | assumption | decide) (rfl) ?_
      refine ab_icmp_ge X 103 d_RW_isLesser_96 rfl (fun h96 => ?_) (fun h96 => ?_)
      ·
        refine ab_iconst (v := 0) X d_RW_isLesser_103 (by decide) ?_
        exact ab_retz X hr0 hlk (by first | exact Or.inl rfl | exact Or.inr rfl) d_RW_isLesser_104 ⟨rfl, _, by first | exact Or.inl rfl | exact Or.inr rfl, rfl⟩
      ·
        refine ab_iconst (v := 1) X d_RW_isLesser_99 (by decide) ?_
        refine ab_goto X 104 d_RW_isLesser_100 rfl ?_
        exact ab_retz X hr0 hlk (by first | exact Or.inl rfl | exact Or.inr rfl) d_RW_isLesser_104 ⟨rfl, _, by first | exact Or.inl rfl | exact Or.inr rfl, rfl⟩
    | succ k ih =>
      intro j hj
      by_cases h1 : cr ≤ j
      ·
        refine ab_iload_n X 0 d_RW_isLesser_30 rfl rfl ?_
        refine ab_aload_n X 1 d_RW_isLesser_31 rfl rfl ?_
        refine ab_gI X fl_RW_9 d_RW_isLesser_32 (by first | assumption | decide) (er) ?_
        refine ab_icmp_ge X 88 d_RW_isLesser_35 rfl (fun _ => ?_) (fun hb => absurd ((nI_le h1 (by omega))) hb)
        refine ab_aload_n X 1 d_RW_isLesser_88 rfl rfl ?_
        refine ab_gI X fl_RW_9 d_RW_isLesser_89 (by first | assumption | decide) (rfl) ?_
        refine ab_aload_n X 2 d_RW_isLesser_92 rfl rfl ?_
        refine ab_gI X fl_RW_9 d_RW_isLesser_93 (by first | assumption | decide) (rfl) ?_
        refine ab_icmp_ge X 103 d_RW_isLesser_96 rfl (fun h96 => ?_) (fun h96 => ?_)
        ·
          refine ab_iconst (v := 0) X d_RW_isLesser_103 (by decide) ?_
          exact ab_retz X hr0 hlk (by first | exact Or.inl rfl | exact Or.inr rfl) d_RW_isLesser_104 ⟨rfl, _, by first | exact Or.inl rfl | exact Or.inr rfl, rfl⟩
        ·
          refine ab_iconst (v := 1) X d_RW_isLesser_99 (by decide) ?_
          refine ab_goto X 104 d_RW_isLesser_100 rfl ?_
          exact ab_retz X hr0 hlk (by first | exact Or.inl rfl | exact Or.inr rfl) d_RW_isLesser_104 ⟨rfl, _, by first | exact Or.inl rfl | exact Or.inr rfl, rfl⟩
      · by_cases h2 : co ≤ j
        ·
          refine ab_iload_n X 0 d_RW_isLesser_30 rfl rfl ?_
          refine ab_aload_n X 1 d_RW_isLesser_31 rfl rfl ?_
          refine ab_gI X fl_RW_9 d_RW_isLesser_32 (by first | assumption | decide) (er) ?_
          refine ab_icmp_ge X 88 d_RW_isLesser_35 rfl (fun hb => absurd hb ((nI_ge (by omega) (by omega)))) (fun _ => ?_)
          refine ab_iload_n X 0 d_RW_isLesser_38 rfl rfl ?_
          refine ab_aload_n X 2 d_RW_isLesser_39 rfl rfl ?_
          refine ab_gI X fl_RW_9 d_RW_isLesser_40 (by first | assumption | decide) (eo) ?_
          refine ab_icmp_ge X 88 d_RW_isLesser_43 rfl (fun _ => ?_) (fun hb => absurd ((nI_le h2 (by omega))) hb)
          refine ab_aload_n X 1 d_RW_isLesser_88 rfl rfl ?_
          refine ab_gI X fl_RW_9 d_RW_isLesser_89 (by first | assumption | decide) (rfl) ?_
          refine ab_aload_n X 2 d_RW_isLesser_92 rfl rfl ?_
          refine ab_gI X fl_RW_9 d_RW_isLesser_93 (by first | assumption | decide) (rfl) ?_
          refine ab_icmp_ge X 103 d_RW_isLesser_96 rfl (fun h96 => ?_) (fun h96 => ?_)
          ·
            refine ab_iconst (v := 0) X d_RW_isLesser_103 (by decide) ?_
            exact ab_retz X hr0 hlk (by first | exact Or.inl rfl | exact Or.inr rfl) d_RW_isLesser_104 ⟨rfl, _, by first | exact Or.inl rfl | exact Or.inr rfl, rfl⟩
          ·
            refine ab_iconst (v := 1) X d_RW_isLesser_99 (by decide) ?_
            refine ab_goto X 104 d_RW_isLesser_100 rfl ?_
            exact ab_retz X hr0 hlk (by first | exact Or.inl rfl | exact Or.inr rfl) d_RW_isLesser_104 ⟨rfl, _, by first | exact Or.inl rfl | exact Or.inr rfl, rfl⟩
        ·
          refine ab_iload_n X 0 d_RW_isLesser_30 rfl rfl ?_
          refine ab_aload_n X 1 d_RW_isLesser_31 rfl rfl ?_
          refine ab_gI X fl_RW_9 d_RW_isLesser_32 (by first | assumption | decide) (er) ?_
          refine ab_icmp_ge X 88 d_RW_isLesser_35 rfl (fun hb => absurd hb ((nI_ge (by omega) (by omega)))) (fun _ => ?_)
          refine ab_iload_n X 0 d_RW_isLesser_38 rfl rfl ?_
          refine ab_aload_n X 2 d_RW_isLesser_39 rfl rfl ?_
          refine ab_gI X fl_RW_9 d_RW_isLesser_40 (by first | assumption | decide) (eo) ?_
          refine ab_icmp_ge X 88 d_RW_isLesser_43 rfl (fun hb => absurd hb ((nI_ge (by omega) (by omega)))) (fun _ => ?_)
          refine ab_aload_n X 1 d_RW_isLesser_46 rfl rfl ?_
          refine ab_gR X fl_RW_22 d_RW_isLesser_47 (by first | assumption | decide) (h.rw hr) ?_
          refine ab_iload_n X 0 d_RW_isLesser_50 rfl rfl ?_
          refine ab_iald X (j) ⟨rfl, rfl⟩ d_RW_isLesser_51 (by first | assumption | decide) (rfl) (by omega) (ab_ln_lt _ _) ?_
          refine ab_aload_n X 2 d_RW_isLesser_52 rfl rfl ?_
          refine ab_gR X fl_RW_22 d_RW_isLesser_53 (by first | assumption | decide) (h.rw ho) ?_
          refine ab_iload_n X 0 d_RW_isLesser_56 rfl rfl ?_
          refine ab_iald X (j) ⟨rfl, rfl⟩ d_RW_isLesser_57 (by first | assumption | decide) (rfl) (by omega) (ab_ln_lt _ _) ?_
          refine ab_icmp_eq X 82 d_RW_isLesser_58 rfl (fun h58 => ?_) (fun h58 => ?_)
          ·
            refine ab_iinc2 X 0 1 2 d_RW_isLesser_82 rfl (by decide) rfl rfl rfl rfl ?_
            refine ab_goto X 30 d_RW_isLesser_85 rfl ?_
            rw [show nI j + Int32.ofInt 1 = nI (j + 1) from nI_1 j]
            exact ih (j + 1) (by omega)
          ·
            refine ab_aload_n X 1 d_RW_isLesser_61 rfl rfl ?_
            refine ab_gR X fl_RW_22 d_RW_isLesser_62 (by first | assumption | decide) (h.rw hr) ?_
            refine ab_iload_n X 0 d_RW_isLesser_65 rfl rfl ?_
            refine ab_iald X (j) ⟨rfl, rfl⟩ d_RW_isLesser_66 (by first | assumption | decide) (rfl) (by omega) (ab_ln_lt _ _) ?_
            refine ab_aload_n X 2 d_RW_isLesser_67 rfl rfl ?_
            refine ab_gR X fl_RW_22 d_RW_isLesser_68 (by first | assumption | decide) (h.rw ho) ?_
            refine ab_iload_n X 0 d_RW_isLesser_71 rfl rfl ?_
            refine ab_iald X (j) ⟨rfl, rfl⟩ d_RW_isLesser_72 (by first | assumption | decide) (rfl) (by omega) (ab_ln_lt _ _) ?_
            refine ab_icmp_ge X 80 d_RW_isLesser_73 rfl (fun h73 => ?_) (fun h73 => ?_)
            ·
              refine ab_iconst (v := 0) X d_RW_isLesser_80 (by decide) ?_
              exact ab_retz X hr0 hlk (by first | exact Or.inl rfl | exact Or.inr rfl) d_RW_isLesser_81 ⟨rfl, _, by first | exact Or.inl rfl | exact Or.inr rfl, rfl⟩
            ·
              refine ab_iconst (v := 1) X d_RW_isLesser_76 (by decide) ?_
              refine ab_goto X 81 d_RW_isLesser_77 rfl ?_
              exact ab_retz X hr0 hlk (by first | exact Or.inl rfl | exact Or.inr rfl) d_RW_isLesser_81 ⟨rfl, _, by first | exact Or.inl rfl | exact Or.inr rfl, rfl⟩
  refine ab_aload_n X 0 d_RW_isLesser_0 rfl rfl ?_
  refine ab_gI X fl_RW_15 d_RW_isLesser_1 (by first | assumption | decide) (rfl) ?_
  refine ab_aload_n X 1 d_RW_isLesser_4 rfl rfl ?_
  refine ab_gI X fl_RW_15 d_RW_isLesser_5 (by first | assumption | decide) (rfl) ?_
  refine ab_icmp_eq X 28 d_RW_isLesser_8 rfl (fun h8 => ?_) (fun h8 => ?_)
  ·
    refine ab_iconst (v := 0) X d_RW_isLesser_28 (by decide) ?_
    refine ab_istore_n2 X 0 1 d_RW_isLesser_29 rfl (by decide) rfl rfl rfl rfl ?_
    exact loop 41 0 rfl
  ·
    refine ab_aload_n X 0 d_RW_isLesser_11 rfl rfl ?_
    refine ab_gI X fl_RW_15 d_RW_isLesser_12 (by first | assumption | decide) (rfl) ?_
    refine ab_aload_n X 1 d_RW_isLesser_15 rfl rfl ?_
    refine ab_gI X fl_RW_15 d_RW_isLesser_16 (by first | assumption | decide) (rfl) ?_
    refine ab_icmp_ge X 26 d_RW_isLesser_19 rfl (fun h19 => ?_) (fun h19 => ?_)
    ·
      refine ab_iconst (v := 0) X d_RW_isLesser_26 (by decide) ?_
      exact ab_retz X hr0 hlk (by first | exact Or.inl rfl | exact Or.inr rfl) d_RW_isLesser_27 ⟨rfl, _, by first | exact Or.inl rfl | exact Or.inr rfl, rfl⟩
    ·
      refine ab_iconst (v := 1) X d_RW_isLesser_22 (by decide) ?_
      refine ab_goto X 27 d_RW_isLesser_23 rfl ?_
      exact ab_retz X hr0 hlk (by first | exact Or.inl rfl | exact Or.inr rfl) d_RW_isLesser_27 ⟨rfl, _, by first | exact Or.inl rfl | exact Or.inr rfl, rfl⟩
abbrev b_RW_becomeIfLesser : ByteArray := prog_7_method_6_code
def y_RW_becomeIfLesser : MethodName := ⟨"PolicyForge$Row", "becomeIfLesser", "(LPolicyForge$Row;)V"⟩
theorem d_RW_becomeIfLesser_0 : decode b_RW_becomeIfLesser 0 = .ok (.aload_n 1, 1) := by decide +kernel
theorem d_RW_becomeIfLesser_1 : decode b_RW_becomeIfLesser 1 = .ok (.getfield 18, 3) := by decide +kernel
theorem d_RW_becomeIfLesser_4 : decode b_RW_becomeIfLesser 4 = .ok (.ifCond .eq 23, 3) := by decide +kernel
theorem d_RW_becomeIfLesser_7 : decode b_RW_becomeIfLesser 7 = .ok (.aload_n 0, 1) := by decide +kernel
theorem d_RW_becomeIfLesser_8 : decode b_RW_becomeIfLesser 8 = .ok (.getfield 18, 3) := by decide +kernel
theorem d_RW_becomeIfLesser_11 : decode b_RW_becomeIfLesser 11 = .ok (.ifCond .eq 11, 3) := by decide +kernel
theorem d_RW_becomeIfLesser_14 : decode b_RW_becomeIfLesser 14 = .ok (.aload_n 1, 1) := by decide +kernel
theorem d_RW_becomeIfLesser_15 : decode b_RW_becomeIfLesser 15 = .ok (.aload_n 0, 1) := by decide +kernel
theorem d_RW_becomeIfLesser_16 : decode b_RW_becomeIfLesser 16 = .ok (.invokevirtual 37, 3) := by decide +kernel
theorem d_RW_becomeIfLesser_19 : decode b_RW_becomeIfLesser 19 = .ok (.ifCond .eq 8, 3) := by decide +kernel
theorem d_RW_becomeIfLesser_22 : decode b_RW_becomeIfLesser 22 = .ok (.aload_n 0, 1) := by decide +kernel
theorem d_RW_becomeIfLesser_23 : decode b_RW_becomeIfLesser 23 = .ok (.aload_n 1, 1) := by decide +kernel
theorem d_RW_becomeIfLesser_24 : decode b_RW_becomeIfLesser 24 = .ok (.invokevirtual 41, 3) := by decide +kernel
theorem d_RW_becomeIfLesser_27 : decode b_RW_becomeIfLesser 27 = .ok (.return_, 1) := by decide +kernel
theorem lk_RW_37 : ab_lk "PolicyForge$Row" 37 y_RW_isLesser b_RW_isLesser 3 (some FieldType.boolean) 1 4 := ⟨⟨rfl, T_RW, 4, rfl⟩, List.forall_mem_cons.mpr ⟨(ab_in 803 (by decide +kernel) (by decide +kernel)), List.forall_mem_cons.mpr ⟨(ab_in 805 (by decide +kernel) (by decide +kernel)), List.forall_mem_cons.mpr ⟨(ab_in 30 (by decide +kernel) (by decide +kernel)), List.forall_mem_cons.mpr ⟨(ab_in 96 (by decide +kernel) (by decide +kernel)), List.forall_mem_cons.mpr ⟨(ab_in 806 (by decide +kernel) (by decide +kernel)), fun _ h => absurd h List.not_mem_nil⟩⟩⟩⟩⟩, ⟨by decide +kernel, by decide +kernel, by decide +kernel⟩, by decide⟩
theorem lk_RW_41 : ab_lk "PolicyForge$Row" 41 y_RW_become b_RW_become 2 none 1 4 := ⟨⟨rfl, T_RW, 4, rfl⟩, List.forall_mem_cons.mpr ⟨(ab_in 807 (by decide +kernel) (by decide +kernel)), List.forall_mem_cons.mpr ⟨(ab_in 808 (by decide +kernel) (by decide +kernel)), List.forall_mem_cons.mpr ⟨(ab_in 809 (by decide +kernel) (by decide +kernel)), List.forall_mem_cons.mpr ⟨(ab_in 96 (by decide +kernel) (by decide +kernel)), List.forall_mem_cons.mpr ⟨(ab_in 810 (by decide +kernel) (by decide +kernel)), fun _ h => absurd h List.not_mem_nil⟩⟩⟩⟩⟩, ⟨by decide +kernel, by decide +kernel, by decide +kernel⟩, by decide⟩
theorem s_RW_becomeIfLesser (u : ab_S) (r o : Nat) (h : CI u) (hr : r < 124) (ho : o < 124) : ab_C false l D ca y_RW_becomeIfLesser b_RW_becomeIfLesser 2 none 3 ab_nQ u [ab_O 4 r, ab_O 4 o] (fun u' v => cP u u' ∧ v = none) := by
  refine ab_C.of (by decide) (Nat.le_of_ble_eq_true rfl) ?_
  intro p e s m args below meth c ad X hZ hr0 hlk
  have hr4 : r < ab_nQ 4 := hr
  have ho4 : o < ab_nQ 4 := ho
  refine ab_aload_n X 1 d_RW_becomeIfLesser_0 rfl rfl ?_
  refine ab_gI X fl_RW_18 d_RW_becomeIfLesser_1 (by first | assumption | decide) (rfl) ?_
  refine ab_if_eq X 27 d_RW_becomeIfLesser_4 rfl (fun h4 => ?_) (fun h4 => ?_)
  ·
    first | exact ab_retv X hr0 hlk d_RW_becomeIfLesser_27 ⟨cP.rf h, rfl⟩ | exact ab_retv X hr0 hlk d_RW_becomeIfLesser_27 ⟨q2, rfl⟩
  ·
    refine ab_aload_n X 0 d_RW_becomeIfLesser_7 rfl rfl ?_
    refine ab_gI X fl_RW_18 d_RW_becomeIfLesser_8 (by first | assumption | decide) (rfl) ?_
    refine ab_if_eq X 22 d_RW_becomeIfLesser_11 rfl (fun h11 => ?_) (fun h11 => ?_)
    ·
      refine ab_aload_n X 0 d_RW_becomeIfLesser_22 rfl rfl ?_
      refine ab_aload_n X 1 d_RW_becomeIfLesser_23 rfl rfl ?_
      refine ab_callV (as := [ab_O 4 o]) X (fun h => by cases h) (s_RW_become u r o h hr ho) lk_RW_41 d_RW_becomeIfLesser_24 rfl rfl (by first | assumption | decide) ⟨by first | exact Nat.le_of_ble_eq_true rfl | (simp only [ab_rm]; omega), by first | exact Nat.le_of_ble_eq_true rfl | (simp only [ab_rm]; omega)⟩ ⟨by first | exact Nat.le_of_ble_eq_true rfl | (simp only [ab_rm]; omega), by first | exact Nat.le_of_ble_eq_true rfl | (simp only [ab_rm]; omega)⟩ (Nat.le_of_ble_eq_true rfl) (fun u24 r24 h24 => ?_)
      obtain ⟨q2, rfl⟩ := h24
      first | exact ab_retv X hr0 hlk d_RW_becomeIfLesser_27 ⟨cP.rf h, rfl⟩ | exact ab_retv X hr0 hlk d_RW_becomeIfLesser_27 ⟨q2, rfl⟩
    ·
      refine ab_aload_n X 1 d_RW_becomeIfLesser_14 rfl rfl ?_
      refine ab_aload_n X 0 d_RW_becomeIfLesser_15 rfl rfl ?_
      refine ab_callV (as := [ab_O 4 r]) X (fun h => by cases h) (s_RW_isLesser u o r h ho hr) lk_RW_37 d_RW_becomeIfLesser_16 rfl rfl (by first | assumption | decide) ⟨by first | exact Nat.le_of_ble_eq_true rfl | (simp only [ab_rm]; omega), by first | exact Nat.le_of_ble_eq_true rfl | (simp only [ab_rm]; omega)⟩ ⟨by first | exact Nat.le_of_ble_eq_true rfl | (simp only [ab_rm]; omega), by first | exact Nat.le_of_ble_eq_true rfl | (simp only [ab_rm]; omega)⟩ (Nat.le_of_ble_eq_true rfl) (fun u16 r16 h16 => ?_)
      obtain ⟨e16, b, hb, rfl⟩ := h16
      subst u16
      refine ab_if_eq X 27 d_RW_becomeIfLesser_19 rfl (fun h19 => ?_) (fun h19 => ?_)
      ·
        first | exact ab_retv X hr0 hlk d_RW_becomeIfLesser_27 ⟨cP.rf h, rfl⟩ | exact ab_retv X hr0 hlk d_RW_becomeIfLesser_27 ⟨q2, rfl⟩
      ·
        refine ab_aload_n X 0 d_RW_becomeIfLesser_22 rfl rfl ?_
        refine ab_aload_n X 1 d_RW_becomeIfLesser_23 rfl rfl ?_
        refine ab_callV (as := [ab_O 4 o]) X (fun h => by cases h) (s_RW_become u r o h hr ho) lk_RW_41 d_RW_becomeIfLesser_24 rfl rfl (by first | assumption | decide) ⟨by first | exact Nat.le_of_ble_eq_true rfl | (simp only [ab_rm]; omega), by first | exact Nat.le_of_ble_eq_true rfl | (simp only [ab_rm]; omega)⟩ ⟨by first | exact Nat.le_of_ble_eq_true rfl | (simp only [ab_rm]; omega), by first | exact Nat.le_of_ble_eq_true rfl | (simp only [ab_rm]; omega)⟩ (Nat.le_of_ble_eq_true rfl) (fun u24 r24 h24 => ?_)
        obtain ⟨q2, rfl⟩ := h24
        first | exact ab_retv X hr0 hlk d_RW_becomeIfLesser_27 ⟨cP.rf h, rfl⟩ | exact ab_retv X hr0 hlk d_RW_becomeIfLesser_27 ⟨q2, rfl⟩
end SaRow
end
