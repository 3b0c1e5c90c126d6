section
-- ===== PART A: goes FIRST, ahead of the names: the tables' words, and 'selects' of the private methods out of them =====
/-- a private method of a class that the tables say can be made, by its rows of tables_1 -/
def lw_okq (q : MethodName × Nat) : Prop := (q.1.cls ≠ "java/lang/invoke/MethodHandle" ∧ q.1.cls ≠ "java/lang/invoke/VarHandle") ∧ Cond.instantiable q.1.cls q.2 ∈ tables_1 ∧ Cond.privateMethod q.1 ∈ tables_1 ∧ Cond.instanceMethod q.1 ∈ tables_1
theorem lw_p0 : lw_okq (⟨"SproutCoins", "finding", "(I)I"⟩, 8) := ⟨⟨by decide +kernel, by decide +kernel⟩, List.mem_of_getElem? (i := 14) (by decide +kernel), List.mem_of_getElem? (i := 183) (by decide +kernel), List.mem_of_getElem? (i := 184) (by decide +kernel)⟩
theorem lw_p1 : lw_okq (⟨"SproutCoins", "isCoin", "(I)Z"⟩, 8) := ⟨⟨by decide +kernel, by decide +kernel⟩, List.mem_of_getElem? (i := 14) (by decide +kernel), List.mem_of_getElem? (i := 207) (by decide +kernel), List.mem_of_getElem? (i := 208) (by decide +kernel)⟩
theorem lw_p2 : lw_okq (⟨"SproutCoins", "isPastTheEnd", "(I)Z"⟩, 8) := ⟨⟨by decide +kernel, by decide +kernel⟩, List.mem_of_getElem? (i := 14) (by decide +kernel), List.mem_of_getElem? (i := 333) (by decide +kernel), List.mem_of_getElem? (i := 334) (by decide +kernel)⟩
theorem lw_p3 : lw_okq (⟨"SproutCoins$Market", "greatestOf", "(I)I"⟩, 17) := ⟨⟨by decide +kernel, by decide +kernel⟩, List.mem_of_getElem? (i := 22) (by decide +kernel), List.mem_of_getElem? (i := 353) (by decide +kernel), List.mem_of_getElem? (i := 354) (by decide +kernel)⟩
theorem lw_p4 : lw_okq (⟨"SproutCoins$Market", "ageOnce", "()V"⟩, 17) := ⟨⟨by decide +kernel, by decide +kernel⟩, List.mem_of_getElem? (i := 22) (by decide +kernel), List.mem_of_getElem? (i := 369) (by decide +kernel), List.mem_of_getElem? (i := 370) (by decide +kernel)⟩
theorem lw_p5 : lw_okq (⟨"SproutCoins$Market", "rottenSet", "()I"⟩, 17) := ⟨⟨by decide +kernel, by decide +kernel⟩, List.mem_of_getElem? (i := 22) (by decide +kernel), List.mem_of_getElem? (i := 373) (by decide +kernel), List.mem_of_getElem? (i := 374) (by decide +kernel)⟩
theorem lw_p6 : lw_okq (⟨"SproutCoins$Market", "shrinkOne", "(IIZ)V"⟩, 17) := ⟨⟨by decide +kernel, by decide +kernel⟩, List.mem_of_getElem? (i := 22) (by decide +kernel), List.mem_of_getElem? (i := 377) (by decide +kernel), List.mem_of_getElem? (i := 378) (by decide +kernel)⟩
theorem lw_p7 : lw_okq (⟨"SproutCoins$Market", "harvestOne", "(I)V"⟩, 17) := ⟨⟨by decide +kernel, by decide +kernel⟩, List.mem_of_getElem? (i := 22) (by decide +kernel), List.mem_of_getElem? (i := 383) (by decide +kernel), List.mem_of_getElem? (i := 384) (by decide +kernel)⟩
theorem lw_p8 : lw_okq (⟨"SproutCoins$Market", "payDue", "()V"⟩, 17) := ⟨⟨by decide +kernel, by decide +kernel⟩, List.mem_of_getElem? (i := 22) (by decide +kernel), List.mem_of_getElem? (i := 388) (by decide +kernel), List.mem_of_getElem? (i := 389) (by decide +kernel)⟩
theorem lw_p9 : lw_okq (⟨"SproutCoins", "worthWith", "(III)I"⟩, 8) := ⟨⟨by decide +kernel, by decide +kernel⟩, List.mem_of_getElem? (i := 14) (by decide +kernel), List.mem_of_getElem? (i := 442) (by decide +kernel), List.mem_of_getElem? (i := 443) (by decide +kernel)⟩
theorem lw_p10 : lw_okq (⟨"SproutCoins", "rottenWith", "(IIII)I"⟩, 8) := ⟨⟨by decide +kernel, by decide +kernel⟩, List.mem_of_getElem? (i := 14) (by decide +kernel), List.mem_of_getElem? (i := 454) (by decide +kernel), List.mem_of_getElem? (i := 455) (by decide +kernel)⟩
theorem lw_p11 : lw_okq (⟨"SproutCoins", "purseWith", "(III)I"⟩, 8) := ⟨⟨by decide +kernel, by decide +kernel⟩, List.mem_of_getElem? (i := 14) (by decide +kernel), List.mem_of_getElem? (i := 470) (by decide +kernel), List.mem_of_getElem? (i := 471) (by decide +kernel)⟩
theorem lw_p12 : lw_okq (⟨"SproutCoins$Tape", "goAhead", "()V"⟩, 6) := ⟨⟨by decide +kernel, by decide +kernel⟩, List.mem_of_getElem? (i := 100) (by decide +kernel), List.mem_of_getElem? (i := 518) (by decide +kernel), List.mem_of_getElem? (i := 519) (by decide +kernel)⟩
theorem lw_p13 : lw_okq (⟨"SproutCoins$Tape", "byteAt", "(I)I"⟩, 6) := ⟨⟨by decide +kernel, by decide +kernel⟩, List.mem_of_getElem? (i := 100) (by decide +kernel), List.mem_of_getElem? (i := 522) (by decide +kernel), List.mem_of_getElem? (i := 523) (by decide +kernel)⟩
theorem lw_p14 : lw_okq (⟨"SproutCoins$Tape", "endWord", "()V"⟩, 6) := ⟨⟨by decide +kernel, by decide +kernel⟩, List.mem_of_getElem? (i := 100) (by decide +kernel), List.mem_of_getElem? (i := 529) (by decide +kernel), List.mem_of_getElem? (i := 530) (by decide +kernel)⟩
theorem lw_p15 : lw_okq (⟨"SproutCoins$Tape", "endNumber", "()V"⟩, 6) := ⟨⟨by decide +kernel, by decide +kernel⟩, List.mem_of_getElem? (i := 100) (by decide +kernel), List.mem_of_getElem? (i := 536) (by decide +kernel), List.mem_of_getElem? (i := 537) (by decide +kernel)⟩
def lw_privs_1 : List (MethodName × Nat) := [(⟨"SproutCoins", "finding", "(I)I"⟩, 8), (⟨"SproutCoins", "isCoin", "(I)Z"⟩, 8), (⟨"SproutCoins", "isPastTheEnd", "(I)Z"⟩, 8), (⟨"SproutCoins$Market", "greatestOf", "(I)I"⟩, 17), (⟨"SproutCoins$Market", "ageOnce", "()V"⟩, 17), (⟨"SproutCoins$Market", "rottenSet", "()I"⟩, 17), (⟨"SproutCoins$Market", "shrinkOne", "(IIZ)V"⟩, 17), (⟨"SproutCoins$Market", "harvestOne", "(I)V"⟩, 17), (⟨"SproutCoins$Market", "payDue", "()V"⟩, 17), (⟨"SproutCoins", "worthWith", "(III)I"⟩, 8), (⟨"SproutCoins", "rottenWith", "(IIII)I"⟩, 8), (⟨"SproutCoins", "purseWith", "(III)I"⟩, 8), (⟨"SproutCoins$Tape", "goAhead", "()V"⟩, 6), (⟨"SproutCoins$Tape", "byteAt", "(I)I"⟩, 6), (⟨"SproutCoins$Tape", "endWord", "()V"⟩, 6), (⟨"SproutCoins$Tape", "endNumber", "()V"⟩, 6)]
theorem lw_r1 : ∀ q ∈ lw_privs_1, lw_okq q := List.forall_mem_cons.mpr ⟨lw_p0, List.forall_mem_cons.mpr ⟨lw_p1, List.forall_mem_cons.mpr ⟨lw_p2, List.forall_mem_cons.mpr ⟨lw_p3, List.forall_mem_cons.mpr ⟨lw_p4, List.forall_mem_cons.mpr ⟨lw_p5, List.forall_mem_cons.mpr ⟨lw_p6, List.forall_mem_cons.mpr ⟨lw_p7, List.forall_mem_cons.mpr ⟨lw_p8, List.forall_mem_cons.mpr ⟨lw_p9, List.forall_mem_cons.mpr ⟨lw_p10, List.forall_mem_cons.mpr ⟨lw_p11, List.forall_mem_cons.mpr ⟨lw_p12, List.forall_mem_cons.mpr ⟨lw_p13, List.forall_mem_cons.mpr ⟨lw_p14, List.forall_mem_cons.mpr ⟨lw_p15, fun _ h => absurd h List.not_mem_nil⟩⟩⟩⟩⟩⟩⟩⟩⟩⟩⟩⟩⟩⟩⟩⟩
theorem lw_p16 : lw_okq (⟨"SproutCoins$Tape", "tellItem", "(LSproutCoins$Market;)Z"⟩, 6) := ⟨⟨by decide +kernel, by decide +kernel⟩, List.mem_of_getElem? (i := 100) (by decide +kernel), List.mem_of_getElem? (i := 541) (by decide +kernel), List.mem_of_getElem? (i := 542) (by decide +kernel)⟩
theorem lw_p17 : lw_okq (⟨"SproutCoins$Tape", "kindNamed", "()I"⟩, 6) := ⟨⟨by decide +kernel, by decide +kernel⟩, List.mem_of_getElem? (i := 100) (by decide +kernel), List.mem_of_getElem? (i := 545) (by decide +kernel), List.mem_of_getElem? (i := 546) (by decide +kernel)⟩
theorem lw_p18 : lw_okq (⟨"SproutCoins$Tape", "isWord", "(Ljava/lang/String;)Z"⟩, 6) := ⟨⟨by decide +kernel, by decide +kernel⟩, List.mem_of_getElem? (i := 100) (by decide +kernel), List.mem_of_getElem? (i := 558) (by decide +kernel), List.mem_of_getElem? (i := 559) (by decide +kernel)⟩
theorem lw_p19 : lw_okq (⟨"SproutCoins$Tape", "tellCoin", "(LSproutCoins$Market;I)Z"⟩, 6) := ⟨⟨by decide +kernel, by decide +kernel⟩, List.mem_of_getElem? (i := 100) (by decide +kernel), List.mem_of_getElem? (i := 610) (by decide +kernel), List.mem_of_getElem? (i := 611) (by decide +kernel)⟩
theorem lw_p20 : lw_okq (⟨"SproutCoins$Tape", "takeWord", "(Ljava/lang/String;)Z"⟩, 6) := ⟨⟨by decide +kernel, by decide +kernel⟩, List.mem_of_getElem? (i := 100) (by decide +kernel), List.mem_of_getElem? (i := 615) (by decide +kernel), List.mem_of_getElem? (i := 616) (by decide +kernel)⟩
theorem lw_p21 : lw_okq (⟨"SproutCoins$Tape", "takeNumber", "(II)I"⟩, 6) := ⟨⟨by decide +kernel, by decide +kernel⟩, List.mem_of_getElem? (i := 100) (by decide +kernel), List.mem_of_getElem? (i := 619) (by decide +kernel), List.mem_of_getElem? (i := 620) (by decide +kernel)⟩
theorem lw_p22 : lw_okq (⟨"SproutCoins$Tape", "tellSoil", "(LSproutCoins$Market;)Z"⟩, 6) := ⟨⟨by decide +kernel, by decide +kernel⟩, List.mem_of_getElem? (i := 100) (by decide +kernel), List.mem_of_getElem? (i := 628) (by decide +kernel), List.mem_of_getElem? (i := 629) (by decide +kernel)⟩
theorem lw_p23 : lw_okq (⟨"SproutCoins$Tape", "tellPrice", "(LSproutCoins$Market;)Z"⟩, 6) := ⟨⟨by decide +kernel, by decide +kernel⟩, List.mem_of_getElem? (i := 100) (by decide +kernel), List.mem_of_getElem? (i := 633) (by decide +kernel), List.mem_of_getElem? (i := 634) (by decide +kernel)⟩
theorem lw_p24 : lw_okq (⟨"SproutCoins$Tape", "tellLoan", "(LSproutCoins$Market;)Z"⟩, 6) := ⟨⟨by decide +kernel, by decide +kernel⟩, List.mem_of_getElem? (i := 100) (by decide +kernel), List.mem_of_getElem? (i := 638) (by decide +kernel), List.mem_of_getElem? (i := 639) (by decide +kernel)⟩
theorem lw_p25 : lw_okq (⟨"SproutCoins$Sheet", "lowestBits", "(J)J"⟩, 3) := ⟨⟨by decide +kernel, by decide +kernel⟩, List.mem_of_getElem? (i := 127) (by decide +kernel), List.mem_of_getElem? (i := 670) (by decide +kernel), List.mem_of_getElem? (i := 671) (by decide +kernel)⟩
theorem lw_p26 : lw_okq (⟨"SproutCoinsModel", "becomes", "(II)I"⟩, 16) := ⟨⟨by decide +kernel, by decide +kernel⟩, List.mem_of_getElem? (i := 725) (by decide +kernel), List.mem_of_getElem? (i := 792) (by decide +kernel), List.mem_of_getElem? (i := 793) (by decide +kernel)⟩
theorem lw_p27 : lw_okq (⟨"SproutCoinsModel", "finds", "(I)I"⟩, 16) := ⟨⟨by decide +kernel, by decide +kernel⟩, List.mem_of_getElem? (i := 725) (by decide +kernel), List.mem_of_getElem? (i := 797) (by decide +kernel), List.mem_of_getElem? (i := 798) (by decide +kernel)⟩
theorem lw_p28 : lw_okq (⟨"SproutCoinsModel", "comes", "(III)I"⟩, 16) := ⟨⟨by decide +kernel, by decide +kernel⟩, List.mem_of_getElem? (i := 725) (by decide +kernel), List.mem_of_getElem? (i := 813) (by decide +kernel), List.mem_of_getElem? (i := 814) (by decide +kernel)⟩
theorem lw_p29 : lw_okq (⟨"SproutCoinsModel", "puts", "(III)V"⟩, 16) := ⟨⟨by decide +kernel, by decide +kernel⟩, List.mem_of_getElem? (i := 725) (by decide +kernel), List.mem_of_getElem? (i := 817) (by decide +kernel), List.mem_of_getElem? (i := 818) (by decide +kernel)⟩
theorem lw_p30 : lw_okq (⟨"SproutCoinsModel", "isCoin", "(I)Z"⟩, 16) := ⟨⟨by decide +kernel, by decide +kernel⟩, List.mem_of_getElem? (i := 725) (by decide +kernel), List.mem_of_getElem? (i := 825) (by decide +kernel), List.mem_of_getElem? (i := 826) (by decide +kernel)⟩
theorem lw_p31 : lw_okq (⟨"SproutCoinsModel", "worth", "(I)I"⟩, 16) := ⟨⟨by decide +kernel, by decide +kernel⟩, List.mem_of_getElem? (i := 725) (by decide +kernel), List.mem_of_getElem? (i := 830) (by decide +kernel), List.mem_of_getElem? (i := 831) (by decide +kernel)⟩
def lw_privs_2 : List (MethodName × Nat) := [(⟨"SproutCoins$Tape", "tellItem", "(LSproutCoins$Market;)Z"⟩, 6), (⟨"SproutCoins$Tape", "kindNamed", "()I"⟩, 6), (⟨"SproutCoins$Tape", "isWord", "(Ljava/lang/String;)Z"⟩, 6), (⟨"SproutCoins$Tape", "tellCoin", "(LSproutCoins$Market;I)Z"⟩, 6), (⟨"SproutCoins$Tape", "takeWord", "(Ljava/lang/String;)Z"⟩, 6), (⟨"SproutCoins$Tape", "takeNumber", "(II)I"⟩, 6), (⟨"SproutCoins$Tape", "tellSoil", "(LSproutCoins$Market;)Z"⟩, 6), (⟨"SproutCoins$Tape", "tellPrice", "(LSproutCoins$Market;)Z"⟩, 6), (⟨"SproutCoins$Tape", "tellLoan", "(LSproutCoins$Market;)Z"⟩, 6), (⟨"SproutCoins$Sheet", "lowestBits", "(J)J"⟩, 3), (⟨"SproutCoinsModel", "becomes", "(II)I"⟩, 16), (⟨"SproutCoinsModel", "finds", "(I)I"⟩, 16), (⟨"SproutCoinsModel", "comes", "(III)I"⟩, 16), (⟨"SproutCoinsModel", "puts", "(III)V"⟩, 16), (⟨"SproutCoinsModel", "isCoin", "(I)Z"⟩, 16), (⟨"SproutCoinsModel", "worth", "(I)I"⟩, 16)]
theorem lw_r2 : ∀ q ∈ lw_privs_2, lw_okq q := List.forall_mem_cons.mpr ⟨lw_p16, List.forall_mem_cons.mpr ⟨lw_p17, List.forall_mem_cons.mpr ⟨lw_p18, List.forall_mem_cons.mpr ⟨lw_p19, List.forall_mem_cons.mpr ⟨lw_p20, List.forall_mem_cons.mpr ⟨lw_p21, List.forall_mem_cons.mpr ⟨lw_p22, List.forall_mem_cons.mpr ⟨lw_p23, List.forall_mem_cons.mpr ⟨lw_p24, List.forall_mem_cons.mpr ⟨lw_p25, List.forall_mem_cons.mpr ⟨lw_p26, List.forall_mem_cons.mpr ⟨lw_p27, List.forall_mem_cons.mpr ⟨lw_p28, List.forall_mem_cons.mpr ⟨lw_p29, List.forall_mem_cons.mpr ⟨lw_p30, List.forall_mem_cons.mpr ⟨lw_p31, fun _ h => absurd h List.not_mem_nil⟩⟩⟩⟩⟩⟩⟩⟩⟩⟩⟩⟩⟩⟩⟩⟩
theorem lw_p32 : lw_okq (⟨"SproutCoinsModel", "is", "(II)I"⟩, 16) := ⟨⟨by decide +kernel, by decide +kernel⟩, List.mem_of_getElem? (i := 725) (by decide +kernel), List.mem_of_getElem? (i := 834) (by decide +kernel), List.mem_of_getElem? (i := 835) (by decide +kernel)⟩
theorem lw_p33 : lw_okq (⟨"SproutCoinsModel", "season", "()I"⟩, 16) := ⟨⟨by decide +kernel, by decide +kernel⟩, List.mem_of_getElem? (i := 725) (by decide +kernel), List.mem_of_getElem? (i := 838) (by decide +kernel), List.mem_of_getElem? (i := 839) (by decide +kernel)⟩
theorem lw_p34 : lw_okq (⟨"SproutCoinsModel", "shrinks", "(I)I"⟩, 16) := ⟨⟨by decide +kernel, by decide +kernel⟩, List.mem_of_getElem? (i := 725) (by decide +kernel), List.mem_of_getElem? (i := 842) (by decide +kernel), List.mem_of_getElem? (i := 843) (by decide +kernel)⟩
theorem lw_p35 : lw_okq (⟨"SproutCoinsModel", "yields", "(I)I"⟩, 16) := ⟨⟨by decide +kernel, by decide +kernel⟩, List.mem_of_getElem? (i := 725) (by decide +kernel), List.mem_of_getElem? (i := 848) (by decide +kernel), List.mem_of_getElem? (i := 849) (by decide +kernel)⟩
theorem lw_p36 : lw_okq (⟨"SproutCoinsModel", "swaps", "(II)V"⟩, 16) := ⟨⟨by decide +kernel, by decide +kernel⟩, List.mem_of_getElem? (i := 725) (by decide +kernel), List.mem_of_getElem? (i := 876) (by decide +kernel), List.mem_of_getElem? (i := 877) (by decide +kernel)⟩
theorem lw_p37 : lw_okq (⟨"SproutCoinsModel", "isSpring", "()Z"⟩, 16) := ⟨⟨by decide +kernel, by decide +kernel⟩, List.mem_of_getElem? (i := 725) (by decide +kernel), List.mem_of_getElem? (i := 884) (by decide +kernel), List.mem_of_getElem? (i := 885) (by decide +kernel)⟩
theorem lw_p38 : lw_okq (⟨"SproutCoinsModel", "purseOf", "(I)I"⟩, 16) := ⟨⟨by decide +kernel, by decide +kernel⟩, List.mem_of_getElem? (i := 725) (by decide +kernel), List.mem_of_getElem? (i := 893) (by decide +kernel), List.mem_of_getElem? (i := 894) (by decide +kernel)⟩
theorem lw_p39 : lw_okq (⟨"SproutCoinsModel", "findSet", "(II)I"⟩, 16) := ⟨⟨by decide +kernel, by decide +kernel⟩, List.mem_of_getElem? (i := 725) (by decide +kernel), List.mem_of_getElem? (i := 902) (by decide +kernel), List.mem_of_getElem? (i := 903) (by decide +kernel)⟩
theorem lw_p40 : lw_okq (⟨"SproutCoinsModel", "soundOf", "(I)I"⟩, 16) := ⟨⟨by decide +kernel, by decide +kernel⟩, List.mem_of_getElem? (i := 725) (by decide +kernel), List.mem_of_getElem? (i := 906) (by decide +kernel), List.mem_of_getElem? (i := 907) (by decide +kernel)⟩
theorem lw_p41 : lw_okq (⟨"SproutCoinsModel", "pays", "(III)I"⟩, 16) := ⟨⟨by decide +kernel, by decide +kernel⟩, List.mem_of_getElem? (i := 725) (by decide +kernel), List.mem_of_getElem? (i := 921) (by decide +kernel), List.mem_of_getElem? (i := 922) (by decide +kernel)⟩
theorem lw_p42 : lw_okq (⟨"SproutCoinsModel", "isFar", "(I)Z"⟩, 16) := ⟨⟨by decide +kernel, by decide +kernel⟩, List.mem_of_getElem? (i := 725) (by decide +kernel), List.mem_of_getElem? (i := 930) (by decide +kernel), List.mem_of_getElem? (i := 931) (by decide +kernel)⟩
theorem lw_p43 : lw_okq (⟨"SproutCoinsModel", "lends", "(IIII)I"⟩, 16) := ⟨⟨by decide +kernel, by decide +kernel⟩, List.mem_of_getElem? (i := 725) (by decide +kernel), List.mem_of_getElem? (i := 934) (by decide +kernel), List.mem_of_getElem? (i := 935) (by decide +kernel)⟩
theorem lw_p44 : lw_okq (⟨"SproutCoinsModel", "manyThat", "(I)I"⟩, 16) := ⟨⟨by decide +kernel, by decide +kernel⟩, List.mem_of_getElem? (i := 725) (by decide +kernel), List.mem_of_getElem? (i := 950) (by decide +kernel), List.mem_of_getElem? (i := 951) (by decide +kernel)⟩
theorem lw_p45 : lw_okq (⟨"SproutCoinsModel", "goesOnMany", "(I)V"⟩, 16) := ⟨⟨by decide +kernel, by decide +kernel⟩, List.mem_of_getElem? (i := 725) (by decide +kernel), List.mem_of_getElem? (i := 954) (by decide +kernel), List.mem_of_getElem? (i := 955) (by decide +kernel)⟩
theorem lw_p46 : lw_okq (⟨"SproutCoinsModel", "goesOn", "()V"⟩, 16) := ⟨⟨by decide +kernel, by decide +kernel⟩, List.mem_of_getElem? (i := 725) (by decide +kernel), List.mem_of_getElem? (i := 958) (by decide +kernel), List.mem_of_getElem? (i := 959) (by decide +kernel)⟩
theorem lw_p47 : lw_okq (⟨"SproutCoinsModel", "laysBy", "()V"⟩, 16) := ⟨⟨by decide +kernel, by decide +kernel⟩, List.mem_of_getElem? (i := 725) (by decide +kernel), List.mem_of_getElem? (i := 970) (by decide +kernel), List.mem_of_getElem? (i := 971) (by decide +kernel)⟩
def lw_privs_3 : List (MethodName × Nat) := [(⟨"SproutCoinsModel", "is", "(II)I"⟩, 16), (⟨"SproutCoinsModel", "season", "()I"⟩, 16), (⟨"SproutCoinsModel", "shrinks", "(I)I"⟩, 16), (⟨"SproutCoinsModel", "yields", "(I)I"⟩, 16), (⟨"SproutCoinsModel", "swaps", "(II)V"⟩, 16), (⟨"SproutCoinsModel", "isSpring", "()Z"⟩, 16), (⟨"SproutCoinsModel", "purseOf", "(I)I"⟩, 16), (⟨"SproutCoinsModel", "findSet", "(II)I"⟩, 16), (⟨"SproutCoinsModel", "soundOf", "(I)I"⟩, 16), (⟨"SproutCoinsModel", "pays", "(III)I"⟩, 16), (⟨"SproutCoinsModel", "isFar", "(I)Z"⟩, 16), (⟨"SproutCoinsModel", "lends", "(IIII)I"⟩, 16), (⟨"SproutCoinsModel", "manyThat", "(I)I"⟩, 16), (⟨"SproutCoinsModel", "goesOnMany", "(I)V"⟩, 16), (⟨"SproutCoinsModel", "goesOn", "()V"⟩, 16), (⟨"SproutCoinsModel", "laysBy", "()V"⟩, 16)]
theorem lw_r3 : ∀ q ∈ lw_privs_3, lw_okq q := List.forall_mem_cons.mpr ⟨lw_p32, List.forall_mem_cons.mpr ⟨lw_p33, List.forall_mem_cons.mpr ⟨lw_p34, List.forall_mem_cons.mpr ⟨lw_p35, List.forall_mem_cons.mpr ⟨lw_p36, List.forall_mem_cons.mpr ⟨lw_p37, List.forall_mem_cons.mpr ⟨lw_p38, List.forall_mem_cons.mpr ⟨lw_p39, List.forall_mem_cons.mpr ⟨lw_p40, List.forall_mem_cons.mpr ⟨lw_p41, List.forall_mem_cons.mpr ⟨lw_p42, List.forall_mem_cons.mpr ⟨lw_p43, List.forall_mem_cons.mpr ⟨lw_p44, List.forall_mem_cons.mpr ⟨lw_p45, List.forall_mem_cons.mpr ⟨lw_p46, List.forall_mem_cons.mpr ⟨lw_p47, fun _ h => absurd h List.not_mem_nil⟩⟩⟩⟩⟩⟩⟩⟩⟩⟩⟩⟩⟩⟩⟩⟩
theorem lw_p48 : lw_okq (⟨"SproutCoinsModel", "laysBack", "()V"⟩, 16) := ⟨⟨by decide +kernel, by decide +kernel⟩, List.mem_of_getElem? (i := 725) (by decide +kernel), List.mem_of_getElem? (i := 977) (by decide +kernel), List.mem_of_getElem? (i := 978) (by decide +kernel)⟩
theorem lw_p49 : lw_okq (⟨"SproutCoinsModel", "worthOn", "(II)I"⟩, 16) := ⟨⟨by decide +kernel, by decide +kernel⟩, List.mem_of_getElem? (i := 725) (by decide +kernel), List.mem_of_getElem? (i := 1007) (by decide +kernel), List.mem_of_getElem? (i := 1008) (by decide +kernel)⟩
theorem lw_p50 : lw_okq (⟨"SproutCoinsModel", "goodBy", "(III)I"⟩, 16) := ⟨⟨by decide +kernel, by decide +kernel⟩, List.mem_of_getElem? (i := 725) (by decide +kernel), List.mem_of_getElem? (i := 1020) (by decide +kernel), List.mem_of_getElem? (i := 1021) (by decide +kernel)⟩
theorem lw_p51 : lw_okq (⟨"SproutCoinsModel", "purseBy", "(III)I"⟩, 16) := ⟨⟨by decide +kernel, by decide +kernel⟩, List.mem_of_getElem? (i := 725) (by decide +kernel), List.mem_of_getElem? (i := 1032) (by decide +kernel), List.mem_of_getElem? (i := 1033) (by decide +kernel)⟩
theorem lw_p52 : lw_okq (⟨"SproutCoinsModel", "bluesOf", "(I)I"⟩, 16) := ⟨⟨by decide +kernel, by decide +kernel⟩, List.mem_of_getElem? (i := 725) (by decide +kernel), List.mem_of_getElem? (i := 1049) (by decide +kernel), List.mem_of_getElem? (i := 1050) (by decide +kernel)⟩
theorem lw_p53 : lw_okq (⟨"SproutCoinsModel", "nextToken", "()V"⟩, 16) := ⟨⟨by decide +kernel, by decide +kernel⟩, List.mem_of_getElem? (i := 725) (by decide +kernel), List.mem_of_getElem? (i := 1065) (by decide +kernel), List.mem_of_getElem? (i := 1066) (by decide +kernel)⟩
theorem lw_p54 : lw_okq (⟨"SproutCoinsModel", "byteAt", "(I)I"⟩, 16) := ⟨⟨by decide +kernel, by decide +kernel⟩, List.mem_of_getElem? (i := 725) (by decide +kernel), List.mem_of_getElem? (i := 1069) (by decide +kernel), List.mem_of_getElem? (i := 1070) (by decide +kernel)⟩
theorem lw_p55 : lw_okq (⟨"SproutCoinsModel", "goesItem", "()Z"⟩, 16) := ⟨⟨by decide +kernel, by decide +kernel⟩, List.mem_of_getElem? (i := 725) (by decide +kernel), List.mem_of_getElem? (i := 1079) (by decide +kernel), List.mem_of_getElem? (i := 1080) (by decide +kernel)⟩
theorem lw_p56 : lw_okq (⟨"SproutCoinsModel", "kindNamed", "()I"⟩, 16) := ⟨⟨by decide +kernel, by decide +kernel⟩, List.mem_of_getElem? (i := 725) (by decide +kernel), List.mem_of_getElem? (i := 1083) (by decide +kernel), List.mem_of_getElem? (i := 1084) (by decide +kernel)⟩
theorem lw_p57 : lw_okq (⟨"SproutCoinsModel", "isWord4", "(IIII)Z"⟩, 16) := ⟨⟨by decide +kernel, by decide +kernel⟩, List.mem_of_getElem? (i := 725) (by decide +kernel), List.mem_of_getElem? (i := 1087) (by decide +kernel), List.mem_of_getElem? (i := 1088) (by decide +kernel)⟩
theorem lw_p58 : lw_okq (⟨"SproutCoinsModel", "isWord", "(I)Z"⟩, 16) := ⟨⟨by decide +kernel, by decide +kernel⟩, List.mem_of_getElem? (i := 725) (by decide +kernel), List.mem_of_getElem? (i := 1091) (by decide +kernel), List.mem_of_getElem? (i := 1092) (by decide +kernel)⟩
theorem lw_p59 : lw_okq (⟨"SproutCoinsModel", "has3", "(IIII)Z"⟩, 16) := ⟨⟨by decide +kernel, by decide +kernel⟩, List.mem_of_getElem? (i := 725) (by decide +kernel), List.mem_of_getElem? (i := 1095) (by decide +kernel), List.mem_of_getElem? (i := 1096) (by decide +kernel)⟩
theorem lw_p60 : lw_okq (⟨"SproutCoinsModel", "goesCoin", "(I)Z"⟩, 16) := ⟨⟨by decide +kernel, by decide +kernel⟩, List.mem_of_getElem? (i := 725) (by decide +kernel), List.mem_of_getElem? (i := 1099) (by decide +kernel), List.mem_of_getElem? (i := 1100) (by decide +kernel)⟩
theorem lw_p61 : lw_okq (⟨"SproutCoinsModel", "isWord2", "(II)Z"⟩, 16) := ⟨⟨by decide +kernel, by decide +kernel⟩, List.mem_of_getElem? (i := 725) (by decide +kernel), List.mem_of_getElem? (i := 1103) (by decide +kernel), List.mem_of_getElem? (i := 1104) (by decide +kernel)⟩
theorem lw_p62 : lw_okq (⟨"SproutCoinsModel", "goesNumber", "(II)Z"⟩, 16) := ⟨⟨by decide +kernel, by decide +kernel⟩, List.mem_of_getElem? (i := 725) (by decide +kernel), List.mem_of_getElem? (i := 1107) (by decide +kernel), List.mem_of_getElem? (i := 1108) (by decide +kernel)⟩
theorem lw_p63 : lw_okq (⟨"SproutCoinsModel", "isNumber", "(II)Z"⟩, 16) := ⟨⟨by decide +kernel, by decide +kernel⟩, List.mem_of_getElem? (i := 725) (by decide +kernel), List.mem_of_getElem? (i := 1111) (by decide +kernel), List.mem_of_getElem? (i := 1112) (by decide +kernel)⟩
def lw_privs_4 : List (MethodName × Nat) := [(⟨"SproutCoinsModel", "laysBack", "()V"⟩, 16), (⟨"SproutCoinsModel", "worthOn", "(II)I"⟩, 16), (⟨"SproutCoinsModel", "goodBy", "(III)I"⟩, 16), (⟨"SproutCoinsModel", "purseBy", "(III)I"⟩, 16), (⟨"SproutCoinsModel", "bluesOf", "(I)I"⟩, 16), (⟨"SproutCoinsModel", "nextToken", "()V"⟩, 16), (⟨"SproutCoinsModel", "byteAt", "(I)I"⟩, 16), (⟨"SproutCoinsModel", "goesItem", "()Z"⟩, 16), (⟨"SproutCoinsModel", "kindNamed", "()I"⟩, 16), (⟨"SproutCoinsModel", "isWord4", "(IIII)Z"⟩, 16), (⟨"SproutCoinsModel", "isWord", "(I)Z"⟩, 16), (⟨"SproutCoinsModel", "has3", "(IIII)Z"⟩, 16), (⟨"SproutCoinsModel", "goesCoin", "(I)Z"⟩, 16), (⟨"SproutCoinsModel", "isWord2", "(II)Z"⟩, 16), (⟨"SproutCoinsModel", "goesNumber", "(II)Z"⟩, 16), (⟨"SproutCoinsModel", "isNumber", "(II)Z"⟩, 16)]
theorem lw_r4 : ∀ q ∈ lw_privs_4, lw_okq q := List.forall_mem_cons.mpr ⟨lw_p48, List.forall_mem_cons.mpr ⟨lw_p49, List.forall_mem_cons.mpr ⟨lw_p50, List.forall_mem_cons.mpr ⟨lw_p51, List.forall_mem_cons.mpr ⟨lw_p52, List.forall_mem_cons.mpr ⟨lw_p53, List.forall_mem_cons.mpr ⟨lw_p54, List.forall_mem_cons.mpr ⟨lw_p55, List.forall_mem_cons.mpr ⟨lw_p56, List.forall_mem_cons.mpr ⟨lw_p57, List.forall_mem_cons.mpr ⟨lw_p58, List.forall_mem_cons.mpr ⟨lw_p59, List.forall_mem_cons.mpr ⟨lw_p60, List.forall_mem_cons.mpr ⟨lw_p61, List.forall_mem_cons.mpr ⟨lw_p62, List.forall_mem_cons.mpr ⟨lw_p63, fun _ h => absurd h List.not_mem_nil⟩⟩⟩⟩⟩⟩⟩⟩⟩⟩⟩⟩⟩⟩⟩⟩
theorem lw_p64 : lw_okq (⟨"SproutCoinsModel", "goesTwo", "(III)Z"⟩, 16) := ⟨⟨by decide +kernel, by decide +kernel⟩, List.mem_of_getElem? (i := 725) (by decide +kernel), List.mem_of_getElem? (i := 1115) (by decide +kernel), List.mem_of_getElem? (i := 1116) (by decide +kernel)⟩
theorem lw_p65 : lw_okq (⟨"SproutCoinsModel", "goesLoan", "()Z"⟩, 16) := ⟨⟨by decide +kernel, by decide +kernel⟩, List.mem_of_getElem? (i := 725) (by decide +kernel), List.mem_of_getElem? (i := 1119) (by decide +kernel), List.mem_of_getElem? (i := 1120) (by decide +kernel)⟩
theorem lw_p66 : lw_okq (⟨"SproutCoinsModel", "wants", "(I)I"⟩, 16) := ⟨⟨by decide +kernel, by decide +kernel⟩, List.mem_of_getElem? (i := 725) (by decide +kernel), List.mem_of_getElem? (i := 1146) (by decide +kernel), List.mem_of_getElem? (i := 1147) (by decide +kernel)⟩
def lw_privs_5 : List (MethodName × Nat) := [(⟨"SproutCoinsModel", "goesTwo", "(III)Z"⟩, 16), (⟨"SproutCoinsModel", "goesLoan", "()Z"⟩, 16), (⟨"SproutCoinsModel", "wants", "(I)I"⟩, 16)]
theorem lw_r5 : ∀ q ∈ lw_privs_5, lw_okq q := List.forall_mem_cons.mpr ⟨lw_p64, List.forall_mem_cons.mpr ⟨lw_p65, List.forall_mem_cons.mpr ⟨lw_p66, fun _ h => absurd h List.not_mem_nil⟩⟩⟩
def lw_privs : List (MethodName × Nat) := lw_privs_1 ++ (lw_privs_2 ++ (lw_privs_3 ++ (lw_privs_4 ++ (lw_privs_5))))
def lw_tbl : List Cond := k2_sels lw_privs ++ tables_1
theorem lw_privs_ok : ∀ q ∈ lw_privs, lw_okq q := by
  show ∀ q ∈ lw_privs_1 ++ (lw_privs_2 ++ (lw_privs_3 ++ (lw_privs_4 ++ (lw_privs_5)))), lw_okq q
  exact List.forall_mem_append.mpr ⟨lw_r1, List.forall_mem_append.mpr ⟨lw_r2, List.forall_mem_append.mpr ⟨lw_r3, List.forall_mem_append.mpr ⟨lw_r4, lw_r5⟩⟩⟩⟩
end
section
def RX0 : String := "SproutCoins$Market"
def TX0 : u_T := fun k => match k with
  | 0 => ("SproutCoins$Market", "kindOf", "[I", true)
  | 1 => ("SproutCoins$Market", "ownerOf", "[I", true)
  | 2 => ("SproutCoins$Market", "sizeOf", "[I", true)
  | 3 => ("SproutCoins$Market", "stateOf", "[I", true)
  | 4 => ("SproutCoins$Market", "soilOf", "[I", true)
  | 5 => ("SproutCoins$Market", "priceOf", "[I", true)
  | 6 => ("SproutCoins$Market", "debtorOf", "[I", true)
  | 7 => ("SproutCoins$Market", "lenderOf", "[I", true)
  | 8 => ("SproutCoins$Market", "owedOf", "[I", true)
  | 9 => ("SproutCoins$Market", "dueOf", "[I", true)
  | 10 => ("SproutCoins$Market", "paidOf", "[I", true)
  | 11 => ("SproutCoins$Market", "value", "[I", true)
  | 12 => ("SproutCoins$Market", "reach", "[I", true)
  | 13 => ("SproutCoins$Market", "coins", "I", false)
  | 14 => ("SproutCoins$Market", "loans", "I", false)
  | 15 => ("SproutCoins$Market", "month", "I", false)
  | _ => ("SproutCoins$Market", "lacked", "I", false)
def tyX0 : Nat → FieldType := fun k => match k with
  | 0 => .array .int
  | 1 => .array .int
  | 2 => .array .int
  | 3 => .array .int
  | 4 => .array .int
  | 5 => .array .int
  | 6 => .array .int
  | 7 => .array .int
  | 8 => .array .int
  | 9 => .array .int
  | 10 => .array .int
  | 11 => .array .int
  | 12 => .array .int
  | 13 => .int
  | 14 => .int
  | 15 => .int
  | _ => .int
theorem nmX0 : ∀ a, a < 17 → ∀ b, b < 17 → a ≠ b → (TX0 a).2.1 ≠ (TX0 b).2.1 := by decide +kernel
theorem tyX0_ok : ∀ k, k < 17 → parseFieldDescriptor (TX0 k).2.2.1 = some (tyX0 k) := by decide +kernel
abbrev cX0_init : ByteArray := prog_2_method_1_code
def yX0_init : MethodName := ⟨RX0, "<init>", "()V"⟩
abbrev cX0_become : ByteArray := prog_2_method_2_code
def yX0_become : MethodName := ⟨RX0, "become", "(LSproutCoins$Market;)V"⟩
abbrev cX0_isUnder : ByteArray := prog_2_method_3_code
def yX0_isUnder : MethodName := ⟨RX0, "isUnder", "(II)Z"⟩
abbrev cX0_shrinks : ByteArray := prog_2_method_4_code
def yX0_shrinks : MethodName := ⟨RX0, "shrinks", "(II)I"⟩
abbrev cX0_yields : ByteArray := prog_2_method_5_code
def yX0_yields : MethodName := ⟨RX0, "yields", "(II)I"⟩
abbrev cX0_turns : ByteArray := prog_2_method_6_code
def yX0_turns : MethodName := ⟨RX0, "turns", "(I)Z"⟩
abbrev cX0_addCoin : ByteArray := prog_2_method_7_code
def yX0_addCoin : MethodName := ⟨RX0, "addCoin", "(IIII)I"⟩
abbrev cX0_exchange : ByteArray := prog_2_method_8_code
def yX0_exchange : MethodName := ⟨RX0, "exchange", "(II)V"⟩
abbrev cX0_exchangeIn : ByteArray := prog_2_method_9_code
def yX0_exchangeIn : MethodName := ⟨RX0, "exchangeIn", "([III)V"⟩
abbrev cX0_plantSet : ByteArray := prog_2_method_10_code
def yX0_plantSet : MethodName := ⟨RX0, "plantSet", "(I)V"⟩
abbrev cX0_season : ByteArray := prog_2_method_11_code
def yX0_season : MethodName := ⟨RX0, "season", "()I"⟩
abbrev cX0_isPlantingTime : ByteArray := prog_2_method_12_code
def yX0_isPlantingTime : MethodName := ⟨RX0, "isPlantingTime", "()Z"⟩
abbrev cX0_yieldOf : ByteArray := prog_2_method_13_code
def yX0_yieldOf : MethodName := ⟨RX0, "yieldOf", "(I)I"⟩
abbrev cX0_worthOf : ByteArray := prog_2_method_14_code
def yX0_worthOf : MethodName := ⟨RX0, "worthOf", "(I)I"⟩
abbrev cX0_howMany : ByteArray := prog_2_method_15_code
def yX0_howMany : MethodName := ⟨RX0, "howMany", "(I)I"⟩
abbrev cX0_sizeOfAll : ByteArray := prog_2_method_16_code
def yX0_sizeOfAll : MethodName := ⟨RX0, "sizeOfAll", "()I"⟩
abbrev cX0_isSoundOf : ByteArray := prog_2_method_17_code
def yX0_isSoundOf : MethodName := ⟨RX0, "isSoundOf", "(II)Z"⟩
abbrev cX0_soundOf : ByteArray := prog_2_method_18_code
def yX0_soundOf : MethodName := ⟨RX0, "soundOf", "(I)I"⟩
abbrev cX0_worthOfSet : ByteArray := prog_2_method_19_code
def yX0_worthOfSet : MethodName := ⟨RX0, "worthOfSet", "(I)I"⟩
abbrev cX0_purseOf : ByteArray := prog_2_method_20_code
def yX0_purseOf : MethodName := ⟨RX0, "purseOf", "(I)I"⟩
abbrev cX0_worthOfAll : ByteArray := prog_2_method_21_code
def yX0_worthOfAll : MethodName := ⟨RX0, "worthOfAll", "()I"⟩
abbrev cX0_richest : ByteArray := prog_2_method_22_code
def yX0_richest : MethodName := ⟨RX0, "richest", "()I"⟩
abbrev cX0_ownerOfMostBlue : ByteArray := prog_2_method_23_code
def yX0_ownerOfMostBlue : MethodName := ⟨RX0, "ownerOfMostBlue", "()I"⟩
abbrev cX0_boilGreatest : ByteArray := prog_2_method_24_code
def yX0_boilGreatest : MethodName := ⟨RX0, "boilGreatest", "()I"⟩
abbrev cX0_greatestOf : ByteArray := prog_2_method_25_code
def yX0_greatestOf : MethodName := ⟨RX0, "greatestOf", "(I)I"⟩
abbrev cX0_handOver : ByteArray := prog_2_method_26_code
def yX0_handOver : MethodName := ⟨RX0, "handOver", "(III)I"⟩
abbrev cX0_coinsFor : ByteArray := prog_2_method_27_code
def yX0_coinsFor : MethodName := ⟨RX0, "coinsFor", "(II)I"⟩
abbrev cX0_cheapest : ByteArray := prog_2_method_28_code
def yX0_cheapest : MethodName := ⟨RX0, "cheapest", "([I[IIIII)I"⟩
abbrev cX0_addLoan : ByteArray := prog_2_method_29_code
def yX0_addLoan : MethodName := ⟨RX0, "addLoan", "(IIII)I"⟩
abbrev cX0_unpaid : ByteArray := prog_2_method_30_code
def yX0_unpaid : MethodName := ⟨RX0, "unpaid", "()I"⟩
abbrev cX0_payDue : ByteArray := prog_2_method_31_code
def yX0_payDue : MethodName := ⟨RX0, "payDue", "()V"⟩
abbrev cX0_goOn : ByteArray := prog_2_method_32_code
def yX0_goOn : MethodName := ⟨RX0, "goOn", "(I)V"⟩
abbrev cX0_age : ByteArray := prog_2_method_33_code
def yX0_age : MethodName := ⟨RX0, "age", "(I)V"⟩
abbrev cX0_ageOnce : ByteArray := prog_2_method_34_code
def yX0_ageOnce : MethodName := ⟨RX0, "ageOnce", "()V"⟩
abbrev cX0_rottenSet : ByteArray := prog_2_method_35_code
def yX0_rottenSet : MethodName := ⟨RX0, "rottenSet", "()I"⟩
abbrev cX0_shrinkOne : ByteArray := prog_2_method_36_code
def yX0_shrinkOne : MethodName := ⟨RX0, "shrinkOne", "(IIZ)V"⟩
abbrev cX0_harvestOne : ByteArray := prog_2_method_37_code
def yX0_harvestOne : MethodName := ⟨RX0, "harvestOne", "(I)V"⟩
def RX1 : String := "SproutCoins$Sheet"
def TX1 : u_T := fun k => match k with
  | 0 => ("SproutCoins$Sheet", "numbers", "[J", true)
  | 1 => ("SproutCoins$Sheet", "bits", "I", false)
  | _ => ("SproutCoins$Sheet", "length", "I", false)
def tyX1 : Nat → FieldType := fun k => match k with
  | 0 => .array .long
  | 1 => .int
  | _ => .int
theorem nmX1 : ∀ a, a < 3 → ∀ b, b < 3 → a ≠ b → (TX1 a).2.1 ≠ (TX1 b).2.1 := by decide +kernel
theorem tyX1_ok : ∀ k, k < 3 → parseFieldDescriptor (TX1 k).2.2.1 = some (tyX1 k) := by decide +kernel
abbrev cX1_init : ByteArray := prog_3_method_1_code
def yX1_init : MethodName := ⟨RX1, "<init>", "()V"⟩
abbrev cX1_isMissing : ByteArray := prog_3_method_2_code
def yX1_isMissing : MethodName := ⟨RX1, "isMissing", "()Z"⟩
abbrev cX1_begin : ByteArray := prog_3_method_3_code
def yX1_begin : MethodName := ⟨RX1, "begin", "(II)I"⟩
abbrev cX1_put : ByteArray := prog_3_method_4_code
def yX1_put : MethodName := ⟨RX1, "put", "(IJ)V"⟩
abbrev cX1_lowestBits : ByteArray := prog_3_method_5_code
def yX1_lowestBits : MethodName := ⟨RX1, "lowestBits", "(J)J"⟩
abbrev cX1_hasRun : ByteArray := prog_3_method_6_code
def yX1_hasRun : MethodName := ⟨RX1, "hasRun", "(II)Z"⟩
def RX2 : String := "SproutCoins$Tape"
def TX2 : u_T := fun k => match k with
  | 0 => ("SproutCoins$Tape", "bytes", "[I", true)
  | 1 => ("SproutCoins$Tape", "length", "I", false)
  | 2 => ("SproutCoins$Tape", "token", "I", false)
  | 3 => ("SproutCoins$Tape", "start", "I", false)
  | 4 => ("SproutCoins$Tape", "end", "I", false)
  | _ => ("SproutCoins$Tape", "amount", "I", false)
def tyX2 : Nat → FieldType := fun k => match k with
  | 0 => .array .int
  | 1 => .int
  | 2 => .int
  | 3 => .int
  | 4 => .int
  | _ => .int
theorem nmX2 : ∀ a, a < 6 → ∀ b, b < 6 → a ≠ b → (TX2 a).2.1 ≠ (TX2 b).2.1 := by decide +kernel
theorem tyX2_ok : ∀ k, k < 6 → parseFieldDescriptor (TX2 k).2.2.1 = some (tyX2 k) := by decide +kernel
abbrev cX2_init : ByteArray := prog_4_method_1_code
def yX2_init : MethodName := ⟨RX2, "<init>", "()V"⟩
abbrev cX2_append : ByteArray := prog_4_method_2_code
def yX2_append : MethodName := ⟨RX2, "append", "(I)V"⟩
abbrev cX2_tellItems : ByteArray := prog_4_method_3_code
def yX2_tellItems : MethodName := ⟨RX2, "tellItems", "(LSproutCoins$Market;)I"⟩
abbrev cX2_tellItem : ByteArray := prog_4_method_4_code
def yX2_tellItem : MethodName := ⟨RX2, "tellItem", "(LSproutCoins$Market;)Z"⟩
abbrev cX2_tellCoin : ByteArray := prog_4_method_5_code
def yX2_tellCoin : MethodName := ⟨RX2, "tellCoin", "(LSproutCoins$Market;I)Z"⟩
abbrev cX2_tellSoil : ByteArray := prog_4_method_6_code
def yX2_tellSoil : MethodName := ⟨RX2, "tellSoil", "(LSproutCoins$Market;)Z"⟩
abbrev cX2_tellPrice : ByteArray := prog_4_method_7_code
def yX2_tellPrice : MethodName := ⟨RX2, "tellPrice", "(LSproutCoins$Market;)Z"⟩
abbrev cX2_tellLoan : ByteArray := prog_4_method_8_code
def yX2_tellLoan : MethodName := ⟨RX2, "tellLoan", "(LSproutCoins$Market;)Z"⟩
abbrev cX2_kindNamed : ByteArray := prog_4_method_9_code
def yX2_kindNamed : MethodName := ⟨RX2, "kindNamed", "()I"⟩
abbrev cX2_nameOf : ByteArray := prog_4_method_10_code
def yX2_nameOf : MethodName := ⟨RX2, "nameOf", "(I)Ljava/lang/String;"⟩
abbrev cX2_takeWord : ByteArray := prog_4_method_11_code
def yX2_takeWord : MethodName := ⟨RX2, "takeWord", "(Ljava/lang/String;)Z"⟩
abbrev cX2_takeNumber : ByteArray := prog_4_method_12_code
def yX2_takeNumber : MethodName := ⟨RX2, "takeNumber", "(II)I"⟩
abbrev cX2_isWord : ByteArray := prog_4_method_13_code
def yX2_isWord : MethodName := ⟨RX2, "isWord", "(Ljava/lang/String;)Z"⟩
abbrev cX2_goAhead : ByteArray := prog_4_method_14_code
def yX2_goAhead : MethodName := ⟨RX2, "goAhead", "()V"⟩
abbrev cX2_endWord : ByteArray := prog_4_method_15_code
def yX2_endWord : MethodName := ⟨RX2, "endWord", "()V"⟩
abbrev cX2_endNumber : ByteArray := prog_4_method_16_code
def yX2_endNumber : MethodName := ⟨RX2, "endNumber", "()V"⟩
abbrev cX2_isLetter : ByteArray := prog_4_method_17_code
def yX2_isLetter : MethodName := ⟨RX2, "isLetter", "(I)Z"⟩
abbrev cX2_isDigit : ByteArray := prog_4_method_18_code
def yX2_isDigit : MethodName := ⟨RX2, "isDigit", "(I)Z"⟩
abbrev cX2_byteAt : ByteArray := prog_4_method_19_code
def yX2_byteAt : MethodName := ⟨RX2, "byteAt", "(I)I"⟩
def RX3 : String := "SproutCoins"
def TX3 : u_T := fun k => match k with
  | 0 => ("SproutCoins", "here", "LSproutCoins$Market;", true)
  | 1 => ("SproutCoins", "kept", "LSproutCoins$Market;", true)
  | 2 => ("SproutCoins", "trial", "LSproutCoins$Market;", true)
  | 3 => ("SproutCoins", "branch", "LSproutCoins$Market;", true)
  | 4 => ("SproutCoins", "tape", "LSproutCoins$Tape;", true)
  | 5 => ("SproutCoins", "sheets", "[LSproutCoins$Sheet;", true)
  | 6 => ("SproutCoins", "told", "[I", true)
  | _ => ("SproutCoins", "isKept", "Z", false)
def tyX3 : Nat → FieldType := fun k => match k with
  | 0 => .object "SproutCoins$Market"
  | 1 => .object "SproutCoins$Market"
  | 2 => .object "SproutCoins$Market"
  | 3 => .object "SproutCoins$Market"
  | 4 => .object "SproutCoins$Tape"
  | 5 => .array (.object "SproutCoins$Sheet")
  | 6 => .array .int
  | _ => .boolean
theorem nmX3 : ∀ a, a < 8 → ∀ b, b < 8 → a ≠ b → (TX3 a).2.1 ≠ (TX3 b).2.1 := by decide +kernel
theorem tyX3_ok : ∀ k, k < 8 → parseFieldDescriptor (TX3 k).2.2.1 = some (tyX3 k) := by decide +kernel
abbrev cX3_init : ByteArray := prog_1_method_1_code
def yX3_init : MethodName := ⟨RX3, "<init>", "()V"⟩
abbrev cX3_soil : ByteArray := prog_1_method_2_code
def yX3_soil : MethodName := ⟨RX3, "soil", "(II)I"⟩
abbrev cX3_price : ByteArray := prog_1_method_3_code
def yX3_price : MethodName := ⟨RX3, "price", "(II)I"⟩
abbrev cX3_coin : ByteArray := prog_1_method_4_code
def yX3_coin : MethodName := ⟨RX3, "coin", "(III)I"⟩
abbrev cX3_of : ByteArray := prog_1_method_5_code
def yX3_of : MethodName := ⟨RX3, "of", "(II)I"⟩
abbrev cX3_set : ByteArray := prog_1_method_6_code
def yX3_set : MethodName := ⟨RX3, "set", "(III)I"⟩
abbrev cX3_turn : ByteArray := prog_1_method_7_code
def yX3_turn : MethodName := ⟨RX3, "turn", "(II)I"⟩
abbrev cX3_as : ByteArray := prog_1_method_8_code
def yX3_as : MethodName := ⟨RX3, "as", "(II)I"⟩
abbrev cX3_swap : ByteArray := prog_1_method_9_code
def yX3_swap : MethodName := ⟨RX3, "swap", "(II)I"⟩
abbrev cX3_plant : ByteArray := prog_1_method_10_code
def yX3_plant : MethodName := ⟨RX3, "plant", "(I)I"⟩
abbrev cX3_purse : ByteArray := prog_1_method_11_code
def yX3_purse : MethodName := ⟨RX3, "purse", "(I)I"⟩
abbrev cX3_pay : ByteArray := prog_1_method_12_code
def yX3_pay : MethodName := ⟨RX3, "pay", "(III)I"⟩
abbrev cX3_which : ByteArray := prog_1_method_13_code
def yX3_which : MethodName := ⟨RX3, "which", "(II)I"⟩
abbrev cX3_over : ByteArray := prog_1_method_14_code
def yX3_over : MethodName := ⟨RX3, "over", "(II)I"⟩
abbrev cX3_loan : ByteArray := prog_1_method_15_code
def yX3_loan : MethodName := ⟨RX3, "loan", "(IIII)I"⟩
abbrev cX3_loanOf : ByteArray := prog_1_method_16_code
def yX3_loanOf : MethodName := ⟨RX3, "loanOf", "(II)I"⟩
abbrev cX3_tax : ByteArray := prog_1_method_17_code
def yX3_tax : MethodName := ⟨RX3, "tax", "()I"⟩
abbrev cX3_months : ByteArray := prog_1_method_18_code
def yX3_months : MethodName := ⟨RX3, "months", "(I)I"⟩
abbrev cX3_now : ByteArray := prog_1_method_19_code
def yX3_now : MethodName := ⟨RX3, "now", "(I)I"⟩
abbrev cX3_on : ByteArray := prog_1_method_20_code
def yX3_on : MethodName := ⟨RX3, "on", "(II)I"⟩
abbrev cX3_purseOn : ByteArray := prog_1_method_21_code
def yX3_purseOn : MethodName := ⟨RX3, "purseOn", "(II)I"⟩
abbrev cX3_rich : ByteArray := prog_1_method_22_code
def yX3_rich : MethodName := ⟨RX3, "rich", "(I)I"⟩
abbrev cX3_rots : ByteArray := prog_1_method_23_code
def yX3_rots : MethodName := ⟨RX3, "rots", "(I)I"⟩
abbrev cX3_when : ByteArray := prog_1_method_24_code
def yX3_when : MethodName := ⟨RX3, "when", "(I)I"⟩
abbrev cX3_lacks : ByteArray := prog_1_method_25_code
def yX3_lacks : MethodName := ⟨RX3, "lacks", "(I)I"⟩
abbrev cX3_best : ByteArray := prog_1_method_26_code
def yX3_best : MethodName := ⟨RX3, "best", "(II)I"⟩
abbrev cX3_kind : ByteArray := prog_1_method_27_code
def yX3_kind : MethodName := ⟨RX3, "kind", "(II)I"⟩
abbrev cX3_cellar : ByteArray := prog_1_method_28_code
def yX3_cellar : MethodName := ⟨RX3, "cellar", "(I)I"⟩
abbrev cX3_field : ByteArray := prog_1_method_29_code
def yX3_field : MethodName := ⟨RX3, "field", "(II)I"⟩
abbrev cX3_priceFor : ByteArray := prog_1_method_30_code
def yX3_priceFor : MethodName := ⟨RX3, "priceFor", "(II)I"⟩
abbrev cX3_taxMonth : ByteArray := prog_1_method_31_code
def yX3_taxMonth : MethodName := ⟨RX3, "taxMonth", "()I"⟩
abbrev cX3_bank : ByteArray := prog_1_method_32_code
def yX3_bank : MethodName := ⟨RX3, "bank", "()I"⟩
abbrev cX3_feed : ByteArray := prog_1_method_33_code
def yX3_feed : MethodName := ⟨RX3, "feed", "(II)I"⟩
abbrev cX3_wipe : ByteArray := prog_1_method_34_code
def yX3_wipe : MethodName := ⟨RX3, "wipe", "()I"⟩
abbrev cX3_market : ByteArray := prog_1_method_35_code
def yX3_market : MethodName := ⟨RX3, "market", "()I"⟩
abbrev cX3_sheet : ByteArray := prog_1_method_36_code
def yX3_sheet : MethodName := ⟨RX3, "sheet", "(III)I"⟩
abbrev cX3_write : ByteArray := prog_1_method_37_code
def yX3_write : MethodName := ⟨RX3, "write", "(IIJ)J"⟩
abbrev cX3_copy : ByteArray := prog_1_method_38_code
def yX3_copy : MethodName := ⟨RX3, "copy", "(IIIII)I"⟩
abbrev cX3_lays : ByteArray := prog_1_method_39_code
def yX3_lays : MethodName := ⟨RX3, "lays", "(I)I"⟩
abbrev cX3_book : ByteArray := prog_1_method_40_code
def yX3_book : MethodName := ⟨RX3, "book", "(II)I"⟩
abbrev cX3_read : ByteArray := prog_1_method_41_code
def yX3_read : MethodName := ⟨RX3, "read", "(II)I"⟩
abbrev cX3_image : ByteArray := prog_1_method_42_code
def yX3_image : MethodName := ⟨RX3, "image", "()I"⟩
abbrev cX3_undo : ByteArray := prog_1_method_43_code
def yX3_undo : MethodName := ⟨RX3, "undo", "()I"⟩
abbrev cX3_tear : ByteArray := prog_1_method_44_code
def yX3_tear : MethodName := ⟨RX3, "tear", "()I"⟩
abbrev cX3_count : ByteArray := prog_1_method_45_code
def yX3_count : MethodName := ⟨RX3, "count", "(I)I"⟩
abbrev cX3_status : ByteArray := prog_1_method_46_code
def yX3_status : MethodName := ⟨RX3, "status", "(I)I"⟩
abbrev cX3_finding : ByteArray := prog_1_method_47_code
def yX3_finding : MethodName := ⟨RX3, "finding", "(I)I"⟩
abbrev cX3_isWithin : ByteArray := prog_1_method_48_code
def yX3_isWithin : MethodName := ⟨RX3, "isWithin", "(III)Z"⟩
abbrev cX3_isOwner : ByteArray := prog_1_method_49_code
def yX3_isOwner : MethodName := ⟨RX3, "isOwner", "(I)Z"⟩
abbrev cX3_areTwoOwners : ByteArray := prog_1_method_50_code
def yX3_areTwoOwners : MethodName := ⟨RX3, "areTwoOwners", "(II)Z"⟩
abbrev cX3_isOwed : ByteArray := prog_1_method_51_code
def yX3_isOwed : MethodName := ⟨RX3, "isOwed", "(I)Z"⟩
abbrev cX3_isKind : ByteArray := prog_1_method_52_code
def yX3_isKind : MethodName := ⟨RX3, "isKind", "(I)Z"⟩
abbrev cX3_isSheet : ByteArray := prog_1_method_53_code
def yX3_isSheet : MethodName := ⟨RX3, "isSheet", "(I)Z"⟩
abbrev cX3_isCoin : ByteArray := prog_1_method_54_code
def yX3_isCoin : MethodName := ⟨RX3, "isCoin", "(I)Z"⟩
abbrev cX3_isPastTheEnd : ByteArray := prog_1_method_55_code
def yX3_isPastTheEnd : MethodName := ⟨RX3, "isPastTheEnd", "(I)Z"⟩
abbrev cX3_worthWith : ByteArray := prog_1_method_56_code
def yX3_worthWith : MethodName := ⟨RX3, "worthWith", "(III)I"⟩
abbrev cX3_rottenWith : ByteArray := prog_1_method_57_code
def yX3_rottenWith : MethodName := ⟨RX3, "rottenWith", "(IIII)I"⟩
abbrev cX3_purseWith : ByteArray := prog_1_method_58_code
def yX3_purseWith : MethodName := ⟨RX3, "purseWith", "(III)I"⟩
def RX4 : String := "SproutCoinsModel"
def TX4 : u_T := fun k => match k with
  | 0 => ("SproutCoinsModel", "s", "[I", true)
  | 1 => ("SproutCoinsModel", "kept", "[I", true)
  | 2 => ("SproutCoinsModel", "close", "[I", true)
  | 3 => ("SproutCoinsModel", "isKept", "Z", false)
  | 4 => ("SproutCoinsModel", "findings", "[I", true)
  | 5 => ("SproutCoinsModel", "tape", "[I", true)
  | 6 => ("SproutCoinsModel", "taped", "I", false)
  | 7 => ("SproutCoinsModel", "bitsOf", "[I", true)
  | 8 => ("SproutCoinsModel", "sizes", "[I", true)
  | 9 => ("SproutCoinsModel", "numbers", "[J", true)
  | 10 => ("SproutCoinsModel", "sums", "[I", true)
  | 11 => ("SproutCoinsModel", "rotten", "[Z", true)
  | 12 => ("SproutCoinsModel", "token", "I", false)
  | 13 => ("SproutCoinsModel", "from", "I", false)
  | 14 => ("SproutCoinsModel", "to", "I", false)
  | _ => ("SproutCoinsModel", "value", "I", false)
def tyX4 : Nat → FieldType := fun k => match k with
  | 0 => .array .int
  | 1 => .array .int
  | 2 => .array .int
  | 3 => .boolean
  | 4 => .array .int
  | 5 => .array .int
  | 6 => .int
  | 7 => .array .int
  | 8 => .array .int
  | 9 => .array .long
  | 10 => .array .int
  | 11 => .array .boolean
  | 12 => .int
  | 13 => .int
  | 14 => .int
  | _ => .int
theorem nmX4 : ∀ a, a < 16 → ∀ b, b < 16 → a ≠ b → (TX4 a).2.1 ≠ (TX4 b).2.1 := by decide +kernel
theorem tyX4_ok : ∀ k, k < 16 → parseFieldDescriptor (TX4 k).2.2.1 = some (tyX4 k) := by decide +kernel
abbrev cX4_init : ByteArray := prog_6_method_1_code
def yX4_init : MethodName := ⟨RX4, "<init>", "()V"⟩
abbrev cX4_isIn : ByteArray := prog_6_method_2_code
def yX4_isIn : MethodName := ⟨RX4, "isIn", "(JJJ)Z"⟩
abbrev cX4_finds : ByteArray := prog_6_method_3_code
def yX4_finds : MethodName := ⟨RX4, "finds", "(I)I"⟩
abbrev cX4_becomes : ByteArray := prog_6_method_4_code
def yX4_becomes : MethodName := ⟨RX4, "becomes", "(II)I"⟩
abbrev cX4_is : ByteArray := prog_6_method_5_code
def yX4_is : MethodName := ⟨RX4, "is", "(II)I"⟩
abbrev cX4_puts : ByteArray := prog_6_method_6_code
def yX4_puts : MethodName := ⟨RX4, "puts", "(III)V"⟩
abbrev cX4_isCoin : ByteArray := prog_6_method_7_code
def yX4_isCoin : MethodName := ⟨RX4, "isCoin", "(I)Z"⟩
abbrev cX4_isOwner : ByteArray := prog_6_method_8_code
def yX4_isOwner : MethodName := ⟨RX4, "isOwner", "(I)Z"⟩
abbrev cX4_season : ByteArray := prog_6_method_9_code
def yX4_season : MethodName := ⟨RX4, "season", "()I"⟩
abbrev cX4_isFar : ByteArray := prog_6_method_10_code
def yX4_isFar : MethodName := ⟨RX4, "isFar", "(I)Z"⟩
abbrev cX4_copyRow : ByteArray := prog_6_method_11_code
def yX4_copyRow : MethodName := ⟨RX4, "copyRow", "([I[I)V"⟩
abbrev cX4_soil : ByteArray := prog_6_method_12_code
def yX4_soil : MethodName := ⟨RX4, "soil", "(II)I"⟩
abbrev cX4_price : ByteArray := prog_6_method_13_code
def yX4_price : MethodName := ⟨RX4, "price", "(II)I"⟩
abbrev cX4_comes : ByteArray := prog_6_method_14_code
def yX4_comes : MethodName := ⟨RX4, "comes", "(III)I"⟩
abbrev cX4_coin : ByteArray := prog_6_method_15_code
def yX4_coin : MethodName := ⟨RX4, "coin", "(III)I"⟩
abbrev cX4_isBlue : ByteArray := prog_6_method_16_code
def yX4_isBlue : MethodName := ⟨RX4, "isBlue", "(I)Z"⟩
abbrev cX4_shrinks : ByteArray := prog_6_method_17_code
def yX4_shrinks : MethodName := ⟨RX4, "shrinks", "(I)I"⟩
abbrev cX4_yields : ByteArray := prog_6_method_18_code
def yX4_yields : MethodName := ⟨RX4, "yields", "(I)I"⟩
abbrev cX4_worth : ByteArray := prog_6_method_19_code
def yX4_worth : MethodName := ⟨RX4, "worth", "(I)I"⟩
abbrev cX4_of : ByteArray := prog_6_method_20_code
def yX4_of : MethodName := ⟨RX4, "of", "(II)I"⟩
abbrev cX4_set : ByteArray := prog_6_method_21_code
def yX4_set : MethodName := ⟨RX4, "set", "(III)I"⟩
abbrev cX4_turn : ByteArray := prog_6_method_22_code
def yX4_turn : MethodName := ⟨RX4, "turn", "(II)I"⟩
abbrev cX4_isUnder : ByteArray := prog_6_method_23_code
def yX4_isUnder : MethodName := ⟨RX4, "isUnder", "(II)Z"⟩
abbrev cX4_as : ByteArray := prog_6_method_24_code
def yX4_as : MethodName := ⟨RX4, "as", "(II)I"⟩
abbrev cX4_swaps : ByteArray := prog_6_method_25_code
def yX4_swaps : MethodName := ⟨RX4, "swaps", "(II)V"⟩
abbrev cX4_swap : ByteArray := prog_6_method_26_code
def yX4_swap : MethodName := ⟨RX4, "swap", "(II)I"⟩
abbrev cX4_isSpring : ByteArray := prog_6_method_27_code
def yX4_isSpring : MethodName := ⟨RX4, "isSpring", "()Z"⟩
abbrev cX4_plant : ByteArray := prog_6_method_28_code
def yX4_plant : MethodName := ⟨RX4, "plant", "(I)I"⟩
abbrev cX4_purseOf : ByteArray := prog_6_method_29_code
def yX4_purseOf : MethodName := ⟨RX4, "purseOf", "(I)I"⟩
abbrev cX4_purse : ByteArray := prog_6_method_30_code
def yX4_purse : MethodName := ⟨RX4, "purse", "(I)I"⟩
abbrev cX4_soundOf : ByteArray := prog_6_method_31_code
def yX4_soundOf : MethodName := ⟨RX4, "soundOf", "(I)I"⟩
abbrev cX4_lowest : ByteArray := prog_6_method_32_code
def yX4_lowest : MethodName := ⟨RX4, "lowest", "(I)I"⟩
abbrev cX4_which : ByteArray := prog_6_method_33_code
def yX4_which : MethodName := ⟨RX4, "which", "(II)I"⟩
abbrev cX4_findSet : ByteArray := prog_6_method_34_code
def yX4_findSet : MethodName := ⟨RX4, "findSet", "(II)I"⟩
abbrev cX4_over : ByteArray := prog_6_method_35_code
def yX4_over : MethodName := ⟨RX4, "over", "(II)I"⟩
abbrev cX4_pays : ByteArray := prog_6_method_36_code
def yX4_pays : MethodName := ⟨RX4, "pays", "(III)I"⟩
abbrev cX4_pay : ByteArray := prog_6_method_37_code
def yX4_pay : MethodName := ⟨RX4, "pay", "(III)I"⟩
abbrev cX4_lends : ByteArray := prog_6_method_38_code
def yX4_lends : MethodName := ⟨RX4, "lends", "(IIII)I"⟩
abbrev cX4_loan : ByteArray := prog_6_method_39_code
def yX4_loan : MethodName := ⟨RX4, "loan", "(IIII)I"⟩
abbrev cX4_loanOf : ByteArray := prog_6_method_40_code
def yX4_loanOf : MethodName := ⟨RX4, "loanOf", "(II)I"⟩
abbrev cX4_tax : ByteArray := prog_6_method_41_code
def yX4_tax : MethodName := ⟨RX4, "tax", "()I"⟩
abbrev cX4_manyThat : ByteArray := prog_6_method_42_code
def yX4_manyThat : MethodName := ⟨RX4, "manyThat", "(I)I"⟩
abbrev cX4_goesOn : ByteArray := prog_6_method_43_code
def yX4_goesOn : MethodName := ⟨RX4, "goesOn", "()V"⟩
abbrev cX4_goesOnMany : ByteArray := prog_6_method_44_code
def yX4_goesOnMany : MethodName := ⟨RX4, "goesOnMany", "(I)V"⟩
abbrev cX4_months : ByteArray := prog_6_method_45_code
def yX4_months : MethodName := ⟨RX4, "months", "(I)I"⟩
abbrev cX4_now : ByteArray := prog_6_method_46_code
def yX4_now : MethodName := ⟨RX4, "now", "(I)I"⟩
abbrev cX4_laysBy : ByteArray := prog_6_method_47_code
def yX4_laysBy : MethodName := ⟨RX4, "laysBy", "()V"⟩
abbrev cX4_laysBack : ByteArray := prog_6_method_48_code
def yX4_laysBack : MethodName := ⟨RX4, "laysBack", "()V"⟩
abbrev cX4_on : ByteArray := prog_6_method_49_code
def yX4_on : MethodName := ⟨RX4, "on", "(II)I"⟩
abbrev cX4_purseOn : ByteArray := prog_6_method_50_code
def yX4_purseOn : MethodName := ⟨RX4, "purseOn", "(II)I"⟩
abbrev cX4_rich : ByteArray := prog_6_method_51_code
def yX4_rich : MethodName := ⟨RX4, "rich", "(I)I"⟩
abbrev cX4_rots : ByteArray := prog_6_method_52_code
def yX4_rots : MethodName := ⟨RX4, "rots", "(I)I"⟩
abbrev cX4_when : ByteArray := prog_6_method_53_code
def yX4_when : MethodName := ⟨RX4, "when", "(I)I"⟩
abbrev cX4_lacks : ByteArray := prog_6_method_54_code
def yX4_lacks : MethodName := ⟨RX4, "lacks", "(I)I"⟩
abbrev cX4_worthOn : ByteArray := prog_6_method_55_code
def yX4_worthOn : MethodName := ⟨RX4, "worthOn", "(II)I"⟩
abbrev cX4_best : ByteArray := prog_6_method_56_code
def yX4_best : MethodName := ⟨RX4, "best", "(II)I"⟩
abbrev cX4_kind : ByteArray := prog_6_method_57_code
def yX4_kind : MethodName := ⟨RX4, "kind", "(II)I"⟩
abbrev cX4_goodBy : ByteArray := prog_6_method_58_code
def yX4_goodBy : MethodName := ⟨RX4, "goodBy", "(III)I"⟩
abbrev cX4_cellar : ByteArray := prog_6_method_59_code
def yX4_cellar : MethodName := ⟨RX4, "cellar", "(I)I"⟩
abbrev cX4_manyIn : ByteArray := prog_6_method_60_code
def yX4_manyIn : MethodName := ⟨RX4, "manyIn", "(I)I"⟩
abbrev cX4_purseBy : ByteArray := prog_6_method_61_code
def yX4_purseBy : MethodName := ⟨RX4, "purseBy", "(III)I"⟩
abbrev cX4_field : ByteArray := prog_6_method_62_code
def yX4_field : MethodName := ⟨RX4, "field", "(II)I"⟩
abbrev cX4_priceFor : ByteArray := prog_6_method_63_code
def yX4_priceFor : MethodName := ⟨RX4, "priceFor", "(II)I"⟩
abbrev cX4_taxMonth : ByteArray := prog_6_method_64_code
def yX4_taxMonth : MethodName := ⟨RX4, "taxMonth", "()I"⟩
abbrev cX4_bluesOf : ByteArray := prog_6_method_65_code
def yX4_bluesOf : MethodName := ⟨RX4, "bluesOf", "(I)I"⟩
abbrev cX4_bank : ByteArray := prog_6_method_66_code
def yX4_bank : MethodName := ⟨RX4, "bank", "()I"⟩
abbrev cX4_feed : ByteArray := prog_6_method_67_code
def yX4_feed : MethodName := ⟨RX4, "feed", "(II)I"⟩
abbrev cX4_wipe : ByteArray := prog_6_method_68_code
def yX4_wipe : MethodName := ⟨RX4, "wipe", "()I"⟩
abbrev cX4_isLetter : ByteArray := prog_6_method_69_code
def yX4_isLetter : MethodName := ⟨RX4, "isLetter", "(I)Z"⟩
abbrev cX4_isDigit : ByteArray := prog_6_method_70_code
def yX4_isDigit : MethodName := ⟨RX4, "isDigit", "(I)Z"⟩
abbrev cX4_byteAt : ByteArray := prog_6_method_71_code
def yX4_byteAt : MethodName := ⟨RX4, "byteAt", "(I)I"⟩
abbrev cX4_nextToken : ByteArray := prog_6_method_72_code
def yX4_nextToken : MethodName := ⟨RX4, "nextToken", "()V"⟩
abbrev cX4_has3 : ByteArray := prog_6_method_73_code
def yX4_has3 : MethodName := ⟨RX4, "has3", "(IIII)Z"⟩
abbrev cX4_isWord : ByteArray := prog_6_method_74_code
def yX4_isWord : MethodName := ⟨RX4, "isWord", "(I)Z"⟩
abbrev cX4_isWord4 : ByteArray := prog_6_method_75_code
def yX4_isWord4 : MethodName := ⟨RX4, "isWord4", "(IIII)Z"⟩
abbrev cX4_kindNamed : ByteArray := prog_6_method_76_code
def yX4_kindNamed : MethodName := ⟨RX4, "kindNamed", "()I"⟩
abbrev cX4_isWord2 : ByteArray := prog_6_method_77_code
def yX4_isWord2 : MethodName := ⟨RX4, "isWord2", "(II)Z"⟩
abbrev cX4_isNumber : ByteArray := prog_6_method_78_code
def yX4_isNumber : MethodName := ⟨RX4, "isNumber", "(II)Z"⟩
abbrev cX4_goesNumber : ByteArray := prog_6_method_79_code
def yX4_goesNumber : MethodName := ⟨RX4, "goesNumber", "(II)Z"⟩
abbrev cX4_goesCoin : ByteArray := prog_6_method_80_code
def yX4_goesCoin : MethodName := ⟨RX4, "goesCoin", "(I)Z"⟩
abbrev cX4_goesTwo : ByteArray := prog_6_method_81_code
def yX4_goesTwo : MethodName := ⟨RX4, "goesTwo", "(III)Z"⟩
abbrev cX4_goesLoan : ByteArray := prog_6_method_82_code
def yX4_goesLoan : MethodName := ⟨RX4, "goesLoan", "()Z"⟩
abbrev cX4_goesItem : ByteArray := prog_6_method_83_code
def yX4_goesItem : MethodName := ⟨RX4, "goesItem", "()Z"⟩
abbrev cX4_market : ByteArray := prog_6_method_84_code
def yX4_market : MethodName := ⟨RX4, "market", "()I"⟩
abbrev cX4_isSheet : ByteArray := prog_6_method_85_code
def yX4_isSheet : MethodName := ⟨RX4, "isSheet", "(I)Z"⟩
abbrev cX4_narrow : ByteArray := prog_6_method_86_code
def yX4_narrow : MethodName := ⟨RX4, "narrow", "(IJ)J"⟩
abbrev cX4_sheet : ByteArray := prog_6_method_87_code
def yX4_sheet : MethodName := ⟨RX4, "sheet", "(III)I"⟩
abbrev cX4_write : ByteArray := prog_6_method_88_code
def yX4_write : MethodName := ⟨RX4, "write", "(IIJ)J"⟩
abbrev cX4_copy : ByteArray := prog_6_method_89_code
def yX4_copy : MethodName := ⟨RX4, "copy", "(IIIII)I"⟩
abbrev cX4_wants : ByteArray := prog_6_method_90_code
def yX4_wants : MethodName := ⟨RX4, "wants", "(I)I"⟩
abbrev cX4_lays : ByteArray := prog_6_method_91_code
def yX4_lays : MethodName := ⟨RX4, "lays", "(I)I"⟩
abbrev cX4_book : ByteArray := prog_6_method_92_code
def yX4_book : MethodName := ⟨RX4, "book", "(II)I"⟩
abbrev cX4_read : ByteArray := prog_6_method_93_code
def yX4_read : MethodName := ⟨RX4, "read", "(II)I"⟩
abbrev cX4_image : ByteArray := prog_6_method_94_code
def yX4_image : MethodName := ⟨RX4, "image", "()I"⟩
abbrev cX4_undo : ByteArray := prog_6_method_95_code
def yX4_undo : MethodName := ⟨RX4, "undo", "()I"⟩
abbrev cX4_tear : ByteArray := prog_6_method_96_code
def yX4_tear : MethodName := ⟨RX4, "tear", "()I"⟩
abbrev cX4_count : ByteArray := prog_6_method_97_code
def yX4_count : MethodName := ⟨RX4, "count", "(I)I"⟩
abbrev cX4_status : ByteArray := prog_6_method_98_code
def yX4_status : MethodName := ⟨RX4, "status", "(I)I"⟩
def RJ6 : String := "java/lang/Integer"
def TJ6 : u_T := fun k => match k with
  | _ => ("", "", "", false)
def tyJ6 : Nat → FieldType := fun k => match k with
  | _ => .int
theorem nmJ6 : ∀ a, a < 0 → ∀ b, b < 0 → a ≠ b → (TJ6 a).2.1 ≠ (TJ6 b).2.1 := by decide +kernel
theorem tyJ6_ok : ∀ k, k < 0 → parseFieldDescriptor (TJ6 k).2.2.1 = some (tyJ6 k) := by decide +kernel
abbrev cJ6_bitCount_0f7a4 : ByteArray := prog_7_method_49_code
def yJ6_bitCount_0f7a4 : MethodName := ⟨RJ6, "bitCount", "(I)I"⟩
def RJ9 : String := "java/lang/Math"
def TJ9 : u_T := fun k => match k with
  | _ => ("", "", "", false)
def tyJ9 : Nat → FieldType := fun k => match k with
  | _ => .int
theorem nmJ9 : ∀ a, a < 0 → ∀ b, b < 0 → a ≠ b → (TJ9 a).2.1 ≠ (TJ9 b).2.1 := by decide +kernel
theorem tyJ9_ok : ∀ k, k < 0 → parseFieldDescriptor (TJ9 k).2.2.1 = some (tyJ9 k) := by decide +kernel
abbrev cJ9_max_7cf53 : ByteArray := prog_8_method_65_code
def yJ9_max_7cf53 : MethodName := ⟨RJ9, "max", "(II)I"⟩
abbrev cJ9_min_7cf53 : ByteArray := prog_8_method_69_code
def yJ9_min_7cf53 : MethodName := ⟨RJ9, "min", "(II)I"⟩
def RJ0 : String := "java/lang/String"
def TJ0 : u_T := fun k => match k with
  | _ => ("", "", "", false)
def tyJ0 : Nat → FieldType := fun k => match k with
  | _ => .int
theorem nmJ0 : ∀ a, a < 0 → ∀ b, b < 0 → a ≠ b → (TJ0 a).2.1 ≠ (TJ0 b).2.1 := by decide +kernel
theorem tyJ0_ok : ∀ k, k < 0 → parseFieldDescriptor (TJ0 k).2.2.1 = some (tyJ0 k) := by decide +kernel
abbrev cJ0_length_8abf5 : ByteArray := prog_9_method_54_code
def yJ0_length_8abf5 : MethodName := ⟨RJ0, "length", "()I"⟩
abbrev cJ0_charAt_5068e : ByteArray := prog_9_method_56_code
def yJ0_charAt_5068e : MethodName := ⟨RJ0, "charAt", "(I)C"⟩
abbrev cJ0_coder_7d493 : ByteArray := prog_9_method_152_code
def yJ0_coder_7d493 : MethodName := ⟨RJ0, "coder", "()B"⟩
abbrev cJ0_isLatin1_aae02 : ByteArray := prog_9_method_154_code
def yJ0_isLatin1_aae02 : MethodName := ⟨RJ0, "isLatin1", "()Z"⟩
abbrev cJ0_checkIndex_df160 : ByteArray := prog_9_method_155_code
def yJ0_checkIndex_df160 : MethodName := ⟨RJ0, "checkIndex", "(II)V"⟩
def RJ1 : String := "java/lang/StringLatin1"
def TJ1 : u_T := fun k => match k with
  | _ => ("", "", "", false)
def tyJ1 : Nat → FieldType := fun k => match k with
  | _ => .int
theorem nmJ1 : ∀ a, a < 0 → ∀ b, b < 0 → a ≠ b → (TJ1 a).2.1 ≠ (TJ1 b).2.1 := by decide +kernel
theorem tyJ1_ok : ∀ k, k < 0 → parseFieldDescriptor (TJ1 k).2.2.1 = some (tyJ1 k) := by decide +kernel
abbrev cJ1_charAt_3b067 : ByteArray := prog_10_method_2_code
def yJ1_charAt_3b067 : MethodName := ⟨RJ1, "charAt", "([BI)C"⟩
def RJ2 : String := "java/lang/StringUTF16"
def TJ2 : u_T := fun k => match k with
  | _ => ("", "", "", false)
def tyJ2 : Nat → FieldType := fun k => match k with
  | _ => .int
theorem nmJ2 : ∀ a, a < 0 → ∀ b, b < 0 → a ≠ b → (TJ2 a).2.1 ≠ (TJ2 b).2.1 := by decide +kernel
theorem tyJ2_ok : ∀ k, k < 0 → parseFieldDescriptor (TJ2 k).2.2.1 = some (tyJ2 k) := by decide +kernel
abbrev cJ2_getChar_3b067 : ByteArray := prog_11_method_5_code
def yJ2_getChar_3b067 : MethodName := ⟨RJ2, "getChar", "([BI)C"⟩
abbrev cJ2_length_9d52b : ByteArray := prog_11_method_6_code
def yJ2_length_9d52b : MethodName := ⟨RJ2, "length", "([B)I"⟩
abbrev cJ2_charAt_3b067 : ByteArray := prog_11_method_83_code
def yJ2_charAt_3b067 : MethodName := ⟨RJ2, "charAt", "([BI)C"⟩
abbrev cJ2_checkIndex_2214a : ByteArray := prog_11_method_91_code
def yJ2_checkIndex_2214a : MethodName := ⟨RJ2, "checkIndex", "(I[B)V"⟩
def RJ10 : String := "java/lang/System"
def TJ10 : u_T := fun k => match k with
  | _ => ("", "", "", false)
def tyJ10 : Nat → FieldType := fun k => match k with
  | _ => .int
theorem nmJ10 : ∀ a, a < 0 → ∀ b, b < 0 → a ≠ b → (TJ10 a).2.1 ≠ (TJ10 b).2.1 := by decide +kernel
theorem tyJ10_ok : ∀ k, k < 0 → parseFieldDescriptor (TJ10 k).2.2.1 = some (tyJ10 k) := by decide +kernel
def RJ3 : String := "jdk/internal/util/Preconditions"
def TJ3 : u_T := fun k => match k with
  | _ => ("", "", "", false)
def tyJ3 : Nat → FieldType := fun k => match k with
  | _ => .int
theorem nmJ3 : ∀ a, a < 0 → ∀ b, b < 0 → a ≠ b → (TJ3 a).2.1 ≠ (TJ3 b).2.1 := by decide +kernel
theorem tyJ3_ok : ∀ k, k < 0 → parseFieldDescriptor (TJ3 k).2.2.1 = some (tyJ3 k) := by decide +kernel
abbrev cJ3_checkIndex_8e157 : ByteArray := prog_13_method_11_code
def yJ3_checkIndex_8e157 : MethodName := ⟨RJ3, "checkIndex", "(IILjava/util/function/BiFunction;)I"⟩
def RL : String := "SproutCoinsLaw"
abbrev cL_law : ByteArray := code
def yL_law : MethodName := ⟨RL, "law", "([I)Z"⟩
abbrev vwCl : List vw_C := [(RX0, TX0, 17), (RX1, TX1, 3), (RX2, TX2, 6), (RX3, TX3, 8), (RX4, TX4, 16)]
end
section
theorem dX4_init_0 : decode cX4_init 0 = .ok (.aload_n 0, 1) := by decide +kernel
theorem dX4_init_1 : decode cX4_init 1 = .ok (.invokespecial 1, 3) := by decide +kernel
theorem dX4_init_4 : decode cX4_init 4 = .ok (.aload_n 0, 1) := by decide +kernel
theorem dX4_init_5 : decode cX4_init 5 = .ok (.bipush 108, 2) := by decide +kernel
theorem dX4_init_7 : decode cX4_init 7 = .ok (.newarray .int, 2) := by decide +kernel
theorem dX4_init_9 : decode cX4_init 9 = .ok (.putfield 7, 3) := by decide +kernel
theorem dX4_init_12 : decode cX4_init 12 = .ok (.aload_n 0, 1) := by decide +kernel
theorem dX4_init_13 : decode cX4_init 13 = .ok (.bipush 108, 2) := by decide +kernel
theorem dX4_init_15 : decode cX4_init 15 = .ok (.newarray .int, 2) := by decide +kernel
theorem dX4_init_17 : decode cX4_init 17 = .ok (.putfield 13, 3) := by decide +kernel
theorem dX4_init_20 : decode cX4_init 20 = .ok (.aload_n 0, 1) := by decide +kernel
theorem dX4_init_21 : decode cX4_init 21 = .ok (.bipush 108, 2) := by decide +kernel
theorem dX4_init_23 : decode cX4_init 23 = .ok (.newarray .int, 2) := by decide +kernel
theorem dX4_init_25 : decode cX4_init 25 = .ok (.putfield 16, 3) := by decide +kernel
theorem dX4_init_28 : decode cX4_init 28 = .ok (.aload_n 0, 1) := by decide +kernel
theorem dX4_init_29 : decode cX4_init 29 = .ok (.bipush 8, 2) := by decide +kernel
theorem dX4_init_31 : decode cX4_init 31 = .ok (.newarray .int, 2) := by decide +kernel
theorem dX4_init_33 : decode cX4_init 33 = .ok (.putfield 19, 3) := by decide +kernel
theorem dX4_init_36 : decode cX4_init 36 = .ok (.aload_n 0, 1) := by decide +kernel
theorem dX4_init_37 : decode cX4_init 37 = .ok (.bipush 120, 2) := by decide +kernel
theorem dX4_init_39 : decode cX4_init 39 = .ok (.newarray .int, 2) := by decide +kernel
theorem dX4_init_41 : decode cX4_init 41 = .ok (.putfield 22, 3) := by decide +kernel
theorem dX4_init_44 : decode cX4_init 44 = .ok (.aload_n 0, 1) := by decide +kernel
theorem dX4_init_45 : decode cX4_init 45 = .ok (.iconst 4, 1) := by decide +kernel
theorem dX4_init_46 : decode cX4_init 46 = .ok (.newarray .int, 2) := by decide +kernel
theorem dX4_init_48 : decode cX4_init 48 = .ok (.dup, 1) := by decide +kernel
theorem dX4_init_49 : decode cX4_init 49 = .ok (.iconst 0, 1) := by decide +kernel
theorem dX4_init_50 : decode cX4_init 50 = .ok (.iconst (-1), 1) := by decide +kernel
theorem dX4_init_51 : decode cX4_init 51 = .ok (.iastore, 1) := by decide +kernel
theorem dX4_init_52 : decode cX4_init 52 = .ok (.dup, 1) := by decide +kernel
theorem dX4_init_53 : decode cX4_init 53 = .ok (.iconst 1, 1) := by decide +kernel
theorem dX4_init_54 : decode cX4_init 54 = .ok (.iconst (-1), 1) := by decide +kernel
theorem dX4_init_55 : decode cX4_init 55 = .ok (.iastore, 1) := by decide +kernel
theorem dX4_init_56 : decode cX4_init 56 = .ok (.dup, 1) := by decide +kernel
theorem dX4_init_57 : decode cX4_init 57 = .ok (.iconst 2, 1) := by decide +kernel
theorem dX4_init_58 : decode cX4_init 58 = .ok (.iconst (-1), 1) := by decide +kernel
theorem dX4_init_59 : decode cX4_init 59 = .ok (.iastore, 1) := by decide +kernel
theorem dX4_init_60 : decode cX4_init 60 = .ok (.dup, 1) := by decide +kernel
theorem dX4_init_61 : decode cX4_init 61 = .ok (.iconst 3, 1) := by decide +kernel
theorem dX4_init_62 : decode cX4_init 62 = .ok (.iconst (-1), 1) := by decide +kernel
theorem dX4_init_63 : decode cX4_init 63 = .ok (.iastore, 1) := by decide +kernel
theorem dX4_init_64 : decode cX4_init 64 = .ok (.putfield 25, 3) := by decide +kernel
theorem dX4_init_67 : decode cX4_init 67 = .ok (.aload_n 0, 1) := by decide +kernel
theorem dX4_init_68 : decode cX4_init 68 = .ok (.iconst 4, 1) := by decide +kernel
theorem dX4_init_69 : decode cX4_init 69 = .ok (.newarray .int, 2) := by decide +kernel
theorem dX4_init_71 : decode cX4_init 71 = .ok (.putfield 28, 3) := by decide +kernel
theorem dX4_init_74 : decode cX4_init 74 = .ok (.aload_n 0, 1) := by decide +kernel
theorem dX4_init_75 : decode cX4_init 75 = .ok (.sipush 160, 3) := by decide +kernel
theorem dX4_init_78 : decode cX4_init 78 = .ok (.newarray .long, 2) := by decide +kernel
theorem dX4_init_80 : decode cX4_init 80 = .ok (.putfield 31, 3) := by decide +kernel
theorem dX4_init_83 : decode cX4_init 83 = .ok (.aload_n 0, 1) := by decide +kernel
theorem dX4_init_84 : decode cX4_init 84 = .ok (.sipush 4096, 3) := by decide +kernel
theorem dX4_init_87 : decode cX4_init 87 = .ok (.newarray .int, 2) := by decide +kernel
theorem dX4_init_89 : decode cX4_init 89 = .ok (.putfield 35, 3) := by decide +kernel
theorem dX4_init_92 : decode cX4_init 92 = .ok (.aload_n 0, 1) := by decide +kernel
theorem dX4_init_93 : decode cX4_init 93 = .ok (.bipush 14, 2) := by decide +kernel
theorem dX4_init_95 : decode cX4_init 95 = .ok (.newarray .boolean, 2) := by decide +kernel
theorem dX4_init_97 : decode cX4_init 97 = .ok (.putfield 38, 3) := by decide +kernel
theorem dX4_init_100 : decode cX4_init 100 = .ok (.iconst 0, 1) := by decide +kernel
theorem dX4_init_101 : decode cX4_init 101 = .ok (.istore_n 1, 1) := by decide +kernel
theorem dX4_init_102 : decode cX4_init 102 = .ok (.iload_n 1, 1) := by decide +kernel
theorem dX4_init_103 : decode cX4_init 103 = .ok (.iconst 4, 1) := by decide +kernel
theorem dX4_init_104 : decode cX4_init 104 = .ok (.if_icmp .ge 18, 3) := by decide +kernel
theorem dX4_init_107 : decode cX4_init 107 = .ok (.aload_n 0, 1) := by decide +kernel
theorem dX4_init_108 : decode cX4_init 108 = .ok (.getfield 7, 3) := by decide +kernel
theorem dX4_init_111 : decode cX4_init 111 = .ok (.iconst 4, 1) := by decide +kernel
theorem dX4_init_112 : decode cX4_init 112 = .ok (.iload_n 1, 1) := by decide +kernel
theorem dX4_init_113 : decode cX4_init 113 = .ok (.iadd, 1) := by decide +kernel
theorem dX4_init_114 : decode cX4_init 114 = .ok (.iconst 5, 1) := by decide +kernel
theorem dX4_init_115 : decode cX4_init 115 = .ok (.iastore, 1) := by decide +kernel
theorem dX4_init_116 : decode cX4_init 116 = .ok (.iinc 1 1, 3) := by decide +kernel
theorem dX4_init_119 : decode cX4_init 119 = .ok (.goto (-17), 3) := by decide +kernel
theorem dX4_init_122 : decode cX4_init 122 = .ok (.iconst 0, 1) := by decide +kernel
theorem dX4_init_123 : decode cX4_init 123 = .ok (.istore_n 1, 1) := by decide +kernel
theorem dX4_init_124 : decode cX4_init 124 = .ok (.iload_n 1, 1) := by decide +kernel
theorem dX4_init_125 : decode cX4_init 125 = .ok (.bipush 12, 2) := by decide +kernel
theorem dX4_init_127 : decode cX4_init 127 = .ok (.if_icmp .ge 20, 3) := by decide +kernel
theorem dX4_init_130 : decode cX4_init 130 = .ok (.aload_n 0, 1) := by decide +kernel
theorem dX4_init_131 : decode cX4_init 131 = .ok (.getfield 7, 3) := by decide +kernel
theorem dX4_init_134 : decode cX4_init 134 = .ok (.bipush 8, 2) := by decide +kernel
theorem dX4_init_136 : decode cX4_init 136 = .ok (.iload_n 1, 1) := by decide +kernel
theorem dX4_init_137 : decode cX4_init 137 = .ok (.iadd, 1) := by decide +kernel
theorem dX4_init_138 : decode cX4_init 138 = .ok (.bipush 10, 2) := by decide +kernel
theorem dX4_init_140 : decode cX4_init 140 = .ok (.iastore, 1) := by decide +kernel
theorem dX4_init_141 : decode cX4_init 141 = .ok (.iinc 1 1, 3) := by decide +kernel
theorem dX4_init_144 : decode cX4_init 144 = .ok (.goto (-20), 3) := by decide +kernel
theorem dX4_init_147 : decode cX4_init 147 = .ok (.return_, 1) := by decide +kernel
theorem dX4_isIn_0 : decode cX4_isIn 0 = .ok (.lload_n 0, 1) := by decide +kernel
theorem dX4_isIn_1 : decode cX4_isIn 1 = .ok (.lload_n 2, 1) := by decide +kernel
theorem dX4_isIn_2 : decode cX4_isIn 2 = .ok (.lcmp, 1) := by decide +kernel
theorem dX4_isIn_3 : decode cX4_isIn 3 = .ok (.ifCond .lt 14, 3) := by decide +kernel
theorem dX4_isIn_6 : decode cX4_isIn 6 = .ok (.lload_n 0, 1) := by decide +kernel
theorem dX4_isIn_7 : decode cX4_isIn 7 = .ok (.lload 4, 2) := by decide +kernel
theorem dX4_isIn_9 : decode cX4_isIn 9 = .ok (.lcmp, 1) := by decide +kernel
theorem dX4_isIn_10 : decode cX4_isIn 10 = .ok (.ifCond .gt 7, 3) := by decide +kernel
theorem dX4_isIn_13 : decode cX4_isIn 13 = .ok (.iconst 1, 1) := by decide +kernel
theorem dX4_isIn_14 : decode cX4_isIn 14 = .ok (.goto 4, 3) := by decide +kernel
theorem dX4_isIn_17 : decode cX4_isIn 17 = .ok (.iconst 0, 1) := by decide +kernel
theorem dX4_isIn_18 : decode cX4_isIn 18 = .ok (.ireturn, 1) := by decide +kernel
theorem dX4_finds_0 : decode cX4_finds 0 = .ok (.aload_n 0, 1) := by decide +kernel
theorem dX4_finds_1 : decode cX4_finds 1 = .ok (.getfield 19, 3) := by decide +kernel
theorem dX4_finds_4 : decode cX4_finds 4 = .ok (.iconst 0, 1) := by decide +kernel
theorem dX4_finds_5 : decode cX4_finds 5 = .ok (.dup2, 1) := by decide +kernel
theorem dX4_finds_6 : decode cX4_finds 6 = .ok (.iaload, 1) := by decide +kernel
theorem dX4_finds_7 : decode cX4_finds 7 = .ok (.iconst 1, 1) := by decide +kernel
theorem dX4_finds_8 : decode cX4_finds 8 = .ok (.iadd, 1) := by decide +kernel
theorem dX4_finds_9 : decode cX4_finds 9 = .ok (.iastore, 1) := by decide +kernel
theorem dX4_finds_10 : decode cX4_finds 10 = .ok (.aload_n 0, 1) := by decide +kernel
theorem dX4_finds_11 : decode cX4_finds 11 = .ok (.getfield 19, 3) := by decide +kernel
theorem dX4_finds_14 : decode cX4_finds 14 = .ok (.ldc 42, 2) := by decide +kernel
theorem dX4_finds_16 : decode cX4_finds 16 = .ok (.iload_n 1, 1) := by decide +kernel
theorem dX4_finds_17 : decode cX4_finds 17 = .ok (.isub, 1) := by decide +kernel
theorem dX4_finds_18 : decode cX4_finds 18 = .ok (.iconst 1, 1) := by decide +kernel
theorem dX4_finds_19 : decode cX4_finds 19 = .ok (.iadd, 1) := by decide +kernel
theorem dX4_finds_20 : decode cX4_finds 20 = .ok (.dup2, 1) := by decide +kernel
theorem dX4_finds_21 : decode cX4_finds 21 = .ok (.iaload, 1) := by decide +kernel
theorem dX4_finds_22 : decode cX4_finds 22 = .ok (.iconst 1, 1) := by decide +kernel
theorem dX4_finds_23 : decode cX4_finds 23 = .ok (.iadd, 1) := by decide +kernel
theorem dX4_finds_24 : decode cX4_finds 24 = .ok (.iastore, 1) := by decide +kernel
theorem dX4_finds_25 : decode cX4_finds 25 = .ok (.iload_n 1, 1) := by decide +kernel
theorem dX4_finds_26 : decode cX4_finds 26 = .ok (.ireturn, 1) := by decide +kernel
theorem dX4_becomes_0 : decode cX4_becomes 0 = .ok (.aload_n 0, 1) := by decide +kernel
theorem dX4_becomes_1 : decode cX4_becomes 1 = .ok (.getfield 7, 3) := by decide +kernel
theorem dX4_becomes_4 : decode cX4_becomes 4 = .ok (.iload_n 1, 1) := by decide +kernel
theorem dX4_becomes_5 : decode cX4_becomes 5 = .ok (.iaload, 1) := by decide +kernel
theorem dX4_becomes_6 : decode cX4_becomes 6 = .ok (.istore_n 3, 1) := by decide +kernel
theorem dX4_becomes_7 : decode cX4_becomes 7 = .ok (.aload_n 0, 1) := by decide +kernel
theorem dX4_becomes_8 : decode cX4_becomes 8 = .ok (.getfield 7, 3) := by decide +kernel
theorem dX4_becomes_11 : decode cX4_becomes 11 = .ok (.iload_n 1, 1) := by decide +kernel
theorem dX4_becomes_12 : decode cX4_becomes 12 = .ok (.iload_n 2, 1) := by decide +kernel
theorem dX4_becomes_13 : decode cX4_becomes 13 = .ok (.iastore, 1) := by decide +kernel
theorem dX4_becomes_14 : decode cX4_becomes 14 = .ok (.iload_n 3, 1) := by decide +kernel
theorem dX4_becomes_15 : decode cX4_becomes 15 = .ok (.ireturn, 1) := by decide +kernel
theorem dX4_is_0 : decode cX4_is 0 = .ok (.aload_n 0, 1) := by decide +kernel
theorem dX4_is_1 : decode cX4_is 1 = .ok (.getfield 7, 3) := by decide +kernel
theorem dX4_is_4 : decode cX4_is 4 = .ok (.bipush 20, 2) := by decide +kernel
theorem dX4_is_6 : decode cX4_is 6 = .ok (.iconst 4, 1) := by decide +kernel
theorem dX4_is_7 : decode cX4_is 7 = .ok (.iload_n 1, 1) := by decide +kernel
theorem dX4_is_8 : decode cX4_is 8 = .ok (.imul, 1) := by decide +kernel
theorem dX4_is_9 : decode cX4_is 9 = .ok (.iadd, 1) := by decide +kernel
theorem dX4_is_10 : decode cX4_is 10 = .ok (.iload_n 2, 1) := by decide +kernel
theorem dX4_is_11 : decode cX4_is 11 = .ok (.iadd, 1) := by decide +kernel
theorem dX4_is_12 : decode cX4_is 12 = .ok (.iaload, 1) := by decide +kernel
theorem dX4_is_13 : decode cX4_is 13 = .ok (.ireturn, 1) := by decide +kernel
theorem dX4_puts_0 : decode cX4_puts 0 = .ok (.aload_n 0, 1) := by decide +kernel
theorem dX4_puts_1 : decode cX4_puts 1 = .ok (.getfield 7, 3) := by decide +kernel
theorem dX4_puts_4 : decode cX4_puts 4 = .ok (.bipush 20, 2) := by decide +kernel
theorem dX4_puts_6 : decode cX4_puts 6 = .ok (.iconst 4, 1) := by decide +kernel
theorem dX4_puts_7 : decode cX4_puts 7 = .ok (.iload_n 1, 1) := by decide +kernel
theorem dX4_puts_8 : decode cX4_puts 8 = .ok (.imul, 1) := by decide +kernel
theorem dX4_puts_9 : decode cX4_puts 9 = .ok (.iadd, 1) := by decide +kernel
theorem dX4_puts_10 : decode cX4_puts 10 = .ok (.iload_n 2, 1) := by decide +kernel
theorem dX4_puts_11 : decode cX4_puts 11 = .ok (.iadd, 1) := by decide +kernel
theorem dX4_puts_12 : decode cX4_puts 12 = .ok (.iload_n 3, 1) := by decide +kernel
theorem dX4_puts_13 : decode cX4_puts 13 = .ok (.iastore, 1) := by decide +kernel
theorem dX4_puts_14 : decode cX4_puts 14 = .ok (.return_, 1) := by decide +kernel
theorem dX4_isCoin_0 : decode cX4_isCoin 0 = .ok (.iload_n 1, 1) := by decide +kernel
theorem dX4_isCoin_1 : decode cX4_isCoin 1 = .ok (.ifCond .lt 17, 3) := by decide +kernel
theorem dX4_isCoin_4 : decode cX4_isCoin 4 = .ok (.iload_n 1, 1) := by decide +kernel
theorem dX4_isCoin_5 : decode cX4_isCoin 5 = .ok (.aload_n 0, 1) := by decide +kernel
theorem dX4_isCoin_6 : decode cX4_isCoin 6 = .ok (.getfield 7, 3) := by decide +kernel
theorem dX4_isCoin_9 : decode cX4_isCoin 9 = .ok (.iconst 0, 1) := by decide +kernel
theorem dX4_isCoin_10 : decode cX4_isCoin 10 = .ok (.iaload, 1) := by decide +kernel
theorem dX4_isCoin_11 : decode cX4_isCoin 11 = .ok (.if_icmp .ge 7, 3) := by decide +kernel
theorem dX4_isCoin_14 : decode cX4_isCoin 14 = .ok (.iconst 1, 1) := by decide +kernel
theorem dX4_isCoin_15 : decode cX4_isCoin 15 = .ok (.goto 4, 3) := by decide +kernel
theorem dX4_isCoin_18 : decode cX4_isCoin 18 = .ok (.iconst 0, 1) := by decide +kernel
theorem dX4_isCoin_19 : decode cX4_isCoin 19 = .ok (.ireturn, 1) := by decide +kernel
theorem dX4_isOwner_0 : decode cX4_isOwner 0 = .ok (.iload_n 0, 1) := by decide +kernel
theorem dX4_isOwner_1 : decode cX4_isOwner 1 = .ok (.ifCond .lt 12, 3) := by decide +kernel
theorem dX4_isOwner_4 : decode cX4_isOwner 4 = .ok (.iload_n 0, 1) := by decide +kernel
theorem dX4_isOwner_5 : decode cX4_isOwner 5 = .ok (.iconst 4, 1) := by decide +kernel
theorem dX4_isOwner_6 : decode cX4_isOwner 6 = .ok (.if_icmp .ge 7, 3) := by decide +kernel
theorem dX4_isOwner_9 : decode cX4_isOwner 9 = .ok (.iconst 1, 1) := by decide +kernel
theorem dX4_isOwner_10 : decode cX4_isOwner 10 = .ok (.goto 4, 3) := by decide +kernel
theorem dX4_isOwner_13 : decode cX4_isOwner 13 = .ok (.iconst 0, 1) := by decide +kernel
theorem dX4_isOwner_14 : decode cX4_isOwner 14 = .ok (.ireturn, 1) := by decide +kernel
theorem dX4_season_0 : decode cX4_season 0 = .ok (.aload_n 0, 1) := by decide +kernel
theorem dX4_season_1 : decode cX4_season 1 = .ok (.getfield 7, 3) := by decide +kernel
theorem dX4_season_4 : decode cX4_season 4 = .ok (.iconst 2, 1) := by decide +kernel
theorem dX4_season_5 : decode cX4_season 5 = .ok (.iaload, 1) := by decide +kernel
theorem dX4_season_6 : decode cX4_season 6 = .ok (.bipush 12, 2) := by decide +kernel
theorem dX4_season_8 : decode cX4_season 8 = .ok (.irem, 1) := by decide +kernel
theorem dX4_season_9 : decode cX4_season 9 = .ok (.ireturn, 1) := by decide +kernel
theorem dX4_isFar_0 : decode cX4_isFar 0 = .ok (.aload_n 0, 1) := by decide +kernel
theorem dX4_isFar_1 : decode cX4_isFar 1 = .ok (.getfield 7, 3) := by decide +kernel
theorem dX4_isFar_4 : decode cX4_isFar 4 = .ok (.iconst 2, 1) := by decide +kernel
theorem dX4_isFar_5 : decode cX4_isFar 5 = .ok (.iaload, 1) := by decide +kernel
theorem dX4_isFar_6 : decode cX4_isFar 6 = .ok (.iload_n 1, 1) := by decide +kernel
theorem dX4_isFar_7 : decode cX4_isFar 7 = .ok (.iadd, 1) := by decide +kernel
theorem dX4_isFar_8 : decode cX4_isFar 8 = .ok (.sipush 9999, 3) := by decide +kernel
theorem dX4_isFar_11 : decode cX4_isFar 11 = .ok (.if_icmp .le 7, 3) := by decide +kernel
theorem dX4_isFar_14 : decode cX4_isFar 14 = .ok (.iconst 1, 1) := by decide +kernel
theorem dX4_isFar_15 : decode cX4_isFar 15 = .ok (.goto 4, 3) := by decide +kernel
theorem dX4_isFar_18 : decode cX4_isFar 18 = .ok (.iconst 0, 1) := by decide +kernel
theorem dX4_isFar_19 : decode cX4_isFar 19 = .ok (.ireturn, 1) := by decide +kernel
theorem dX4_copyRow_0 : decode cX4_copyRow 0 = .ok (.iconst 0, 1) := by decide +kernel
theorem dX4_copyRow_1 : decode cX4_copyRow 1 = .ok (.istore_n 2, 1) := by decide +kernel
theorem dX4_copyRow_2 : decode cX4_copyRow 2 = .ok (.iload_n 2, 1) := by decide +kernel
theorem dX4_copyRow_3 : decode cX4_copyRow 3 = .ok (.bipush 108, 2) := by decide +kernel
theorem dX4_copyRow_5 : decode cX4_copyRow 5 = .ok (.if_icmp .ge 15, 3) := by decide +kernel
theorem dX4_copyRow_8 : decode cX4_copyRow 8 = .ok (.aload_n 1, 1) := by decide +kernel
theorem dX4_copyRow_9 : decode cX4_copyRow 9 = .ok (.iload_n 2, 1) := by decide +kernel
theorem dX4_copyRow_10 : decode cX4_copyRow 10 = .ok (.aload_n 0, 1) := by decide +kernel
theorem dX4_copyRow_11 : decode cX4_copyRow 11 = .ok (.iload_n 2, 1) := by decide +kernel
theorem dX4_copyRow_12 : decode cX4_copyRow 12 = .ok (.iaload, 1) := by decide +kernel
theorem dX4_copyRow_13 : decode cX4_copyRow 13 = .ok (.iastore, 1) := by decide +kernel
theorem dX4_copyRow_14 : decode cX4_copyRow 14 = .ok (.iinc 2 1, 3) := by decide +kernel
theorem dX4_copyRow_17 : decode cX4_copyRow 17 = .ok (.goto (-15), 3) := by decide +kernel
theorem dX4_copyRow_20 : decode cX4_copyRow 20 = .ok (.return_, 1) := by decide +kernel
theorem dX4_soil_0 : decode cX4_soil 0 = .ok (.iload_n 1, 1) := by decide +kernel
theorem dX4_soil_1 : decode cX4_soil 1 = .ok (.invokestatic 43, 3) := by decide +kernel
theorem dX4_soil_4 : decode cX4_soil 4 = .ok (.ifCond .eq 26, 3) := by decide +kernel
theorem dX4_soil_7 : decode cX4_soil 7 = .ok (.iload_n 2, 1) := by decide +kernel
theorem dX4_soil_8 : decode cX4_soil 8 = .ok (.i2l, 1) := by decide +kernel
theorem dX4_soil_9 : decode cX4_soil 9 = .ok (.lconst 0, 1) := by decide +kernel
theorem dX4_soil_10 : decode cX4_soil 10 = .ok (.ldc2_w 47, 3) := by decide +kernel
theorem dX4_soil_13 : decode cX4_soil 13 = .ok (.invokestatic 49, 3) := by decide +kernel
theorem dX4_soil_16 : decode cX4_soil 16 = .ok (.ifCond .eq 14, 3) := by decide +kernel
theorem dX4_soil_19 : decode cX4_soil 19 = .ok (.aload_n 0, 1) := by decide +kernel
theorem dX4_soil_20 : decode cX4_soil 20 = .ok (.iconst 4, 1) := by decide +kernel
theorem dX4_soil_21 : decode cX4_soil 21 = .ok (.iload_n 1, 1) := by decide +kernel
theorem dX4_soil_22 : decode cX4_soil 22 = .ok (.iadd, 1) := by decide +kernel
theorem dX4_soil_23 : decode cX4_soil 23 = .ok (.iload_n 2, 1) := by decide +kernel
theorem dX4_soil_24 : decode cX4_soil 24 = .ok (.invokevirtual 53, 3) := by decide +kernel
theorem dX4_soil_27 : decode cX4_soil 27 = .ok (.goto 9, 3) := by decide +kernel
theorem dX4_soil_30 : decode cX4_soil 30 = .ok (.aload_n 0, 1) := by decide +kernel
theorem dX4_soil_31 : decode cX4_soil 31 = .ok (.ldc 42, 2) := by decide +kernel
theorem dX4_soil_33 : decode cX4_soil 33 = .ok (.invokevirtual 57, 3) := by decide +kernel
theorem dX4_soil_36 : decode cX4_soil 36 = .ok (.ireturn, 1) := by decide +kernel
theorem dX4_price_0 : decode cX4_price 0 = .ok (.iload_n 1, 1) := by decide +kernel
theorem dX4_price_1 : decode cX4_price 1 = .ok (.i2l, 1) := by decide +kernel
theorem dX4_price_2 : decode cX4_price 2 = .ok (.lconst 0, 1) := by decide +kernel
theorem dX4_price_3 : decode cX4_price 3 = .ok (.ldc2_w 61, 3) := by decide +kernel
theorem dX4_price_6 : decode cX4_price 6 = .ok (.invokestatic 49, 3) := by decide +kernel
theorem dX4_price_9 : decode cX4_price 9 = .ok (.ifCond .eq 27, 3) := by decide +kernel
theorem dX4_price_12 : decode cX4_price 12 = .ok (.iload_n 2, 1) := by decide +kernel
theorem dX4_price_13 : decode cX4_price 13 = .ok (.i2l, 1) := by decide +kernel
theorem dX4_price_14 : decode cX4_price 14 = .ok (.lconst 0, 1) := by decide +kernel
theorem dX4_price_15 : decode cX4_price 15 = .ok (.ldc2_w 63, 3) := by decide +kernel
theorem dX4_price_18 : decode cX4_price 18 = .ok (.invokestatic 49, 3) := by decide +kernel
theorem dX4_price_21 : decode cX4_price 21 = .ok (.ifCond .eq 15, 3) := by decide +kernel
theorem dX4_price_24 : decode cX4_price 24 = .ok (.aload_n 0, 1) := by decide +kernel
theorem dX4_price_25 : decode cX4_price 25 = .ok (.bipush 8, 2) := by decide +kernel
theorem dX4_price_27 : decode cX4_price 27 = .ok (.iload_n 1, 1) := by decide +kernel
theorem dX4_price_28 : decode cX4_price 28 = .ok (.iadd, 1) := by decide +kernel
theorem dX4_price_29 : decode cX4_price 29 = .ok (.iload_n 2, 1) := by decide +kernel
theorem dX4_price_30 : decode cX4_price 30 = .ok (.invokevirtual 53, 3) := by decide +kernel
theorem dX4_price_33 : decode cX4_price 33 = .ok (.goto 9, 3) := by decide +kernel
theorem dX4_price_36 : decode cX4_price 36 = .ok (.aload_n 0, 1) := by decide +kernel
theorem dX4_price_37 : decode cX4_price 37 = .ok (.ldc 42, 2) := by decide +kernel
theorem dX4_price_39 : decode cX4_price 39 = .ok (.invokevirtual 57, 3) := by decide +kernel
theorem dX4_price_42 : decode cX4_price 42 = .ok (.ireturn, 1) := by decide +kernel
theorem dX4_comes_0 : decode cX4_comes 0 = .ok (.aload_n 0, 1) := by decide +kernel
theorem dX4_comes_1 : decode cX4_comes 1 = .ok (.getfield 7, 3) := by decide +kernel
theorem dX4_comes_4 : decode cX4_comes 4 = .ok (.iconst 0, 1) := by decide +kernel
theorem dX4_comes_5 : decode cX4_comes 5 = .ok (.iaload, 1) := by decide +kernel
theorem dX4_comes_6 : decode cX4_comes 6 = .ok (.istore 4, 2) := by decide +kernel
theorem dX4_comes_8 : decode cX4_comes 8 = .ok (.aload_n 0, 1) := by decide +kernel
theorem dX4_comes_9 : decode cX4_comes 9 = .ok (.getfield 7, 3) := by decide +kernel
theorem dX4_comes_12 : decode cX4_comes 12 = .ok (.iconst 0, 1) := by decide +kernel
theorem dX4_comes_13 : decode cX4_comes 13 = .ok (.dup2, 1) := by decide +kernel
theorem dX4_comes_14 : decode cX4_comes 14 = .ok (.iaload, 1) := by decide +kernel
theorem dX4_comes_15 : decode cX4_comes 15 = .ok (.iconst 1, 1) := by decide +kernel
theorem dX4_comes_16 : decode cX4_comes 16 = .ok (.iadd, 1) := by decide +kernel
theorem dX4_comes_17 : decode cX4_comes 17 = .ok (.iastore, 1) := by decide +kernel
theorem dX4_comes_18 : decode cX4_comes 18 = .ok (.aload_n 0, 1) := by decide +kernel
theorem dX4_comes_19 : decode cX4_comes 19 = .ok (.iload 4, 2) := by decide +kernel
theorem dX4_comes_21 : decode cX4_comes 21 = .ok (.iconst 0, 1) := by decide +kernel
theorem dX4_comes_22 : decode cX4_comes 22 = .ok (.iload_n 1, 1) := by decide +kernel
theorem dX4_comes_23 : decode cX4_comes 23 = .ok (.invokevirtual 65, 3) := by decide +kernel
theorem dX4_comes_26 : decode cX4_comes 26 = .ok (.aload_n 0, 1) := by decide +kernel
theorem dX4_comes_27 : decode cX4_comes 27 = .ok (.iload 4, 2) := by decide +kernel
theorem dX4_comes_29 : decode cX4_comes 29 = .ok (.iconst 1, 1) := by decide +kernel
theorem dX4_comes_30 : decode cX4_comes 30 = .ok (.iload_n 2, 1) := by decide +kernel
theorem dX4_comes_31 : decode cX4_comes 31 = .ok (.invokevirtual 65, 3) := by decide +kernel
theorem dX4_comes_34 : decode cX4_comes 34 = .ok (.aload_n 0, 1) := by decide +kernel
theorem dX4_comes_35 : decode cX4_comes 35 = .ok (.iload 4, 2) := by decide +kernel
theorem dX4_comes_37 : decode cX4_comes 37 = .ok (.iconst 2, 1) := by decide +kernel
theorem dX4_comes_38 : decode cX4_comes 38 = .ok (.iload_n 3, 1) := by decide +kernel
theorem dX4_comes_39 : decode cX4_comes 39 = .ok (.invokevirtual 65, 3) := by decide +kernel
theorem dX4_comes_42 : decode cX4_comes 42 = .ok (.aload_n 0, 1) := by decide +kernel
theorem dX4_comes_43 : decode cX4_comes 43 = .ok (.iload 4, 2) := by decide +kernel
theorem dX4_comes_45 : decode cX4_comes 45 = .ok (.iconst 3, 1) := by decide +kernel
theorem dX4_comes_46 : decode cX4_comes 46 = .ok (.iconst 0, 1) := by decide +kernel
theorem dX4_comes_47 : decode cX4_comes 47 = .ok (.invokevirtual 65, 3) := by decide +kernel
theorem dX4_comes_50 : decode cX4_comes 50 = .ok (.iload 4, 2) := by decide +kernel
theorem dX4_comes_52 : decode cX4_comes 52 = .ok (.ireturn, 1) := by decide +kernel
theorem dX4_coin_0 : decode cX4_coin 0 = .ok (.iload_n 1, 1) := by decide +kernel
theorem dX4_coin_1 : decode cX4_coin 1 = .ok (.i2l, 1) := by decide +kernel
theorem dX4_coin_2 : decode cX4_coin 2 = .ok (.lconst 0, 1) := by decide +kernel
theorem dX4_coin_3 : decode cX4_coin 3 = .ok (.ldc2_w 69, 3) := by decide +kernel
theorem dX4_coin_6 : decode cX4_coin 6 = .ok (.invokestatic 49, 3) := by decide +kernel
theorem dX4_coin_9 : decode cX4_coin 9 = .ok (.ifCond .eq 22, 3) := by decide +kernel
theorem dX4_coin_12 : decode cX4_coin 12 = .ok (.iload_n 2, 1) := by decide +kernel
theorem dX4_coin_13 : decode cX4_coin 13 = .ok (.invokestatic 43, 3) := by decide +kernel
theorem dX4_coin_16 : decode cX4_coin 16 = .ok (.ifCond .eq 15, 3) := by decide +kernel
theorem dX4_coin_19 : decode cX4_coin 19 = .ok (.iload_n 3, 1) := by decide +kernel
theorem dX4_coin_20 : decode cX4_coin 20 = .ok (.i2l, 1) := by decide +kernel
theorem dX4_coin_21 : decode cX4_coin 21 = .ok (.lconst 0, 1) := by decide +kernel
theorem dX4_coin_22 : decode cX4_coin 22 = .ok (.ldc2_w 63, 3) := by decide +kernel
theorem dX4_coin_25 : decode cX4_coin 25 = .ok (.invokestatic 49, 3) := by decide +kernel
theorem dX4_coin_28 : decode cX4_coin 28 = .ok (.ifCond .ne 10, 3) := by decide +kernel
theorem dX4_coin_31 : decode cX4_coin 31 = .ok (.aload_n 0, 1) := by decide +kernel
theorem dX4_coin_32 : decode cX4_coin 32 = .ok (.ldc 42, 2) := by decide +kernel
theorem dX4_coin_34 : decode cX4_coin 34 = .ok (.invokevirtual 57, 3) := by decide +kernel
theorem dX4_coin_37 : decode cX4_coin 37 = .ok (.ireturn, 1) := by decide +kernel
theorem dX4_coin_38 : decode cX4_coin 38 = .ok (.aload_n 0, 1) := by decide +kernel
theorem dX4_coin_39 : decode cX4_coin 39 = .ok (.getfield 7, 3) := by decide +kernel
theorem dX4_coin_42 : decode cX4_coin 42 = .ok (.iconst 0, 1) := by decide +kernel
theorem dX4_coin_43 : decode cX4_coin 43 = .ok (.iaload, 1) := by decide +kernel
theorem dX4_coin_44 : decode cX4_coin 44 = .ok (.bipush 12, 2) := by decide +kernel
theorem dX4_coin_46 : decode cX4_coin 46 = .ok (.if_icmp .ne 12, 3) := by decide +kernel
theorem dX4_coin_49 : decode cX4_coin 49 = .ok (.aload_n 0, 1) := by decide +kernel
theorem dX4_coin_50 : decode cX4_coin 50 = .ok (.ldc 71, 2) := by decide +kernel
theorem dX4_coin_52 : decode cX4_coin 52 = .ok (.invokevirtual 57, 3) := by decide +kernel
theorem dX4_coin_55 : decode cX4_coin 55 = .ok (.goto 10, 3) := by decide +kernel
theorem dX4_coin_58 : decode cX4_coin 58 = .ok (.aload_n 0, 1) := by decide +kernel
theorem dX4_coin_59 : decode cX4_coin 59 = .ok (.iload_n 1, 1) := by decide +kernel
theorem dX4_coin_60 : decode cX4_coin 60 = .ok (.iload_n 2, 1) := by decide +kernel
theorem dX4_coin_61 : decode cX4_coin 61 = .ok (.iload_n 3, 1) := by decide +kernel
theorem dX4_coin_62 : decode cX4_coin 62 = .ok (.invokevirtual 72, 3) := by decide +kernel
theorem dX4_coin_65 : decode cX4_coin 65 = .ok (.ireturn, 1) := by decide +kernel
theorem dX4_isBlue_0 : decode cX4_isBlue 0 = .ok (.iload_n 0, 1) := by decide +kernel
theorem dX4_isBlue_1 : decode cX4_isBlue 1 = .ok (.iconst 1, 1) := by decide +kernel
theorem dX4_isBlue_2 : decode cX4_isBlue 2 = .ok (.if_icmp .eq 8, 3) := by decide +kernel
theorem dX4_isBlue_5 : decode cX4_isBlue 5 = .ok (.iload_n 0, 1) := by decide +kernel
theorem dX4_isBlue_6 : decode cX4_isBlue 6 = .ok (.iconst 5, 1) := by decide +kernel
theorem dX4_isBlue_7 : decode cX4_isBlue 7 = .ok (.if_icmp .ne 7, 3) := by decide +kernel
theorem dX4_isBlue_10 : decode cX4_isBlue 10 = .ok (.iconst 1, 1) := by decide +kernel
theorem dX4_isBlue_11 : decode cX4_isBlue 11 = .ok (.goto 4, 3) := by decide +kernel
theorem dX4_isBlue_14 : decode cX4_isBlue 14 = .ok (.iconst 0, 1) := by decide +kernel
theorem dX4_isBlue_15 : decode cX4_isBlue 15 = .ok (.ireturn, 1) := by decide +kernel
theorem dX4_shrinks_0 : decode cX4_shrinks 0 = .ok (.aload_n 0, 1) := by decide +kernel
theorem dX4_shrinks_1 : decode cX4_shrinks 1 = .ok (.invokevirtual 76, 3) := by decide +kernel
theorem dX4_shrinks_4 : decode cX4_shrinks 4 = .ok (.i2l, 1) := by decide +kernel
theorem dX4_shrinks_5 : decode cX4_shrinks 5 = .ok (.ldc2_w 80, 3) := by decide +kernel
theorem dX4_shrinks_8 : decode cX4_shrinks 8 = .ok (.ldc2_w 82, 3) := by decide +kernel
theorem dX4_shrinks_11 : decode cX4_shrinks 11 = .ok (.invokestatic 49, 3) := by decide +kernel
theorem dX4_shrinks_14 : decode cX4_shrinks 14 = .ok (.ifCond .eq 7, 3) := by decide +kernel
theorem dX4_shrinks_17 : decode cX4_shrinks 17 = .ok (.iconst 3, 1) := by decide +kernel
theorem dX4_shrinks_18 : decode cX4_shrinks 18 = .ok (.goto 4, 3) := by decide +kernel
theorem dX4_shrinks_21 : decode cX4_shrinks 21 = .ok (.iconst 1, 1) := by decide +kernel
theorem dX4_shrinks_22 : decode cX4_shrinks 22 = .ok (.istore_n 2, 1) := by decide +kernel
theorem dX4_shrinks_23 : decode cX4_shrinks 23 = .ok (.aload_n 0, 1) := by decide +kernel
theorem dX4_shrinks_24 : decode cX4_shrinks 24 = .ok (.iload_n 1, 1) := by decide +kernel
theorem dX4_shrinks_25 : decode cX4_shrinks 25 = .ok (.iconst 0, 1) := by decide +kernel
theorem dX4_shrinks_26 : decode cX4_shrinks 26 = .ok (.invokevirtual 84, 3) := by decide +kernel
theorem dX4_shrinks_29 : decode cX4_shrinks 29 = .ok (.tableswitch 49 1 5 #[35, 39, 49, 43, 35], 35) := by decide +kernel
theorem dX4_shrinks_64 : decode cX4_shrinks 64 = .ok (.iload_n 2, 1) := by decide +kernel
theorem dX4_shrinks_65 : decode cX4_shrinks 65 = .ok (.iconst 3, 1) := by decide +kernel
theorem dX4_shrinks_66 : decode cX4_shrinks 66 = .ok (.idiv, 1) := by decide +kernel
theorem dX4_shrinks_67 : decode cX4_shrinks 67 = .ok (.ireturn, 1) := by decide +kernel
theorem dX4_shrinks_68 : decode cX4_shrinks 68 = .ok (.iconst 2, 1) := by decide +kernel
theorem dX4_shrinks_69 : decode cX4_shrinks 69 = .ok (.iload_n 2, 1) := by decide +kernel
theorem dX4_shrinks_70 : decode cX4_shrinks 70 = .ok (.imul, 1) := by decide +kernel
theorem dX4_shrinks_71 : decode cX4_shrinks 71 = .ok (.ireturn, 1) := by decide +kernel
theorem dX4_shrinks_72 : decode cX4_shrinks 72 = .ok (.iconst 2, 1) := by decide +kernel
theorem dX4_shrinks_73 : decode cX4_shrinks 73 = .ok (.iload_n 2, 1) := by decide +kernel
theorem dX4_shrinks_74 : decode cX4_shrinks 74 = .ok (.imul, 1) := by decide +kernel
theorem dX4_shrinks_75 : decode cX4_shrinks 75 = .ok (.iconst 1, 1) := by decide +kernel
theorem dX4_shrinks_76 : decode cX4_shrinks 76 = .ok (.iadd, 1) := by decide +kernel
theorem dX4_shrinks_77 : decode cX4_shrinks 77 = .ok (.ireturn, 1) := by decide +kernel
theorem dX4_shrinks_78 : decode cX4_shrinks 78 = .ok (.iload_n 2, 1) := by decide +kernel
theorem dX4_shrinks_79 : decode cX4_shrinks 79 = .ok (.ireturn, 1) := by decide +kernel
theorem dX4_yields_0 : decode cX4_yields 0 = .ok (.aload_n 0, 1) := by decide +kernel
theorem dX4_yields_1 : decode cX4_yields 1 = .ok (.getfield 7, 3) := by decide +kernel
theorem dX4_yields_4 : decode cX4_yields 4 = .ok (.iconst 4, 1) := by decide +kernel
theorem dX4_yields_5 : decode cX4_yields 5 = .ok (.aload_n 0, 1) := by decide +kernel
theorem dX4_yields_6 : decode cX4_yields 6 = .ok (.iload_n 1, 1) := by decide +kernel
theorem dX4_yields_7 : decode cX4_yields 7 = .ok (.iconst 1, 1) := by decide +kernel
theorem dX4_yields_8 : decode cX4_yields 8 = .ok (.invokevirtual 84, 3) := by decide +kernel
theorem dX4_yields_11 : decode cX4_yields 11 = .ok (.iadd, 1) := by decide +kernel
theorem dX4_yields_12 : decode cX4_yields 12 = .ok (.iaload, 1) := by decide +kernel
theorem dX4_yields_13 : decode cX4_yields 13 = .ok (.iconst 5, 1) := by decide +kernel
theorem dX4_yields_14 : decode cX4_yields 14 = .ok (.iadd, 1) := by decide +kernel
theorem dX4_yields_15 : decode cX4_yields 15 = .ok (.istore_n 2, 1) := by decide +kernel
theorem dX4_yields_16 : decode cX4_yields 16 = .ok (.aload_n 0, 1) := by decide +kernel
theorem dX4_yields_17 : decode cX4_yields 17 = .ok (.iload_n 1, 1) := by decide +kernel
theorem dX4_yields_18 : decode cX4_yields 18 = .ok (.iconst 0, 1) := by decide +kernel
theorem dX4_yields_19 : decode cX4_yields 19 = .ok (.invokevirtual 84, 3) := by decide +kernel
theorem dX4_yields_22 : decode cX4_yields 22 = .ok (.tableswitch 44 1 5 #[34, 44, 38, 42, 34], 34) := by decide +kernel
theorem dX4_yields_56 : decode cX4_yields 56 = .ok (.iload_n 2, 1) := by decide +kernel
theorem dX4_yields_57 : decode cX4_yields 57 = .ok (.iconst 4, 1) := by decide +kernel
theorem dX4_yields_58 : decode cX4_yields 58 = .ok (.isub, 1) := by decide +kernel
theorem dX4_yields_59 : decode cX4_yields 59 = .ok (.ireturn, 1) := by decide +kernel
theorem dX4_yields_60 : decode cX4_yields 60 = .ok (.iload_n 2, 1) := by decide +kernel
theorem dX4_yields_61 : decode cX4_yields 61 = .ok (.iconst 3, 1) := by decide +kernel
theorem dX4_yields_62 : decode cX4_yields 62 = .ok (.iadd, 1) := by decide +kernel
theorem dX4_yields_63 : decode cX4_yields 63 = .ok (.ireturn, 1) := by decide +kernel
theorem dX4_yields_64 : decode cX4_yields 64 = .ok (.iconst 0, 1) := by decide +kernel
theorem dX4_yields_65 : decode cX4_yields 65 = .ok (.ireturn, 1) := by decide +kernel
theorem dX4_yields_66 : decode cX4_yields 66 = .ok (.iload_n 2, 1) := by decide +kernel
theorem dX4_yields_67 : decode cX4_yields 67 = .ok (.ireturn, 1) := by decide +kernel
theorem dX4_worth_0 : decode cX4_worth 0 = .ok (.aload_n 0, 1) := by decide +kernel
theorem dX4_worth_1 : decode cX4_worth 1 = .ok (.iload_n 1, 1) := by decide +kernel
theorem dX4_worth_2 : decode cX4_worth 2 = .ok (.iconst 3, 1) := by decide +kernel
theorem dX4_worth_3 : decode cX4_worth 3 = .ok (.invokevirtual 84, 3) := by decide +kernel
theorem dX4_worth_6 : decode cX4_worth 6 = .ok (.ifCond .ne 28, 3) := by decide +kernel
theorem dX4_worth_9 : decode cX4_worth 9 = .ok (.aload_n 0, 1) := by decide +kernel
theorem dX4_worth_10 : decode cX4_worth 10 = .ok (.iload_n 1, 1) := by decide +kernel
theorem dX4_worth_11 : decode cX4_worth 11 = .ok (.iconst 2, 1) := by decide +kernel
theorem dX4_worth_12 : decode cX4_worth 12 = .ok (.invokevirtual 84, 3) := by decide +kernel
theorem dX4_worth_15 : decode cX4_worth 15 = .ok (.aload_n 0, 1) := by decide +kernel
theorem dX4_worth_16 : decode cX4_worth 16 = .ok (.getfield 7, 3) := by decide +kernel
theorem dX4_worth_19 : decode cX4_worth 19 = .ok (.bipush 8, 2) := by decide +kernel
theorem dX4_worth_21 : decode cX4_worth 21 = .ok (.aload_n 0, 1) := by decide +kernel
theorem dX4_worth_22 : decode cX4_worth 22 = .ok (.invokevirtual 76, 3) := by decide +kernel
theorem dX4_worth_25 : decode cX4_worth 25 = .ok (.iadd, 1) := by decide +kernel
theorem dX4_worth_26 : decode cX4_worth 26 = .ok (.iaload, 1) := by decide +kernel
theorem dX4_worth_27 : decode cX4_worth 27 = .ok (.imul, 1) := by decide +kernel
theorem dX4_worth_28 : decode cX4_worth 28 = .ok (.bipush 10, 2) := by decide +kernel
theorem dX4_worth_30 : decode cX4_worth 30 = .ok (.idiv, 1) := by decide +kernel
theorem dX4_worth_31 : decode cX4_worth 31 = .ok (.goto 4, 3) := by decide +kernel
theorem dX4_worth_34 : decode cX4_worth 34 = .ok (.iconst 0, 1) := by decide +kernel
theorem dX4_worth_35 : decode cX4_worth 35 = .ok (.ireturn, 1) := by decide +kernel
theorem dX4_of_0 : decode cX4_of 0 = .ok (.aload_n 0, 1) := by decide +kernel
theorem dX4_of_1 : decode cX4_of 1 = .ok (.iload_n 1, 1) := by decide +kernel
theorem dX4_of_2 : decode cX4_of 2 = .ok (.invokevirtual 87, 3) := by decide +kernel
theorem dX4_of_5 : decode cX4_of 5 = .ok (.ifCond .eq 15, 3) := by decide +kernel
theorem dX4_of_8 : decode cX4_of 8 = .ok (.iload_n 2, 1) := by decide +kernel
theorem dX4_of_9 : decode cX4_of 9 = .ok (.i2l, 1) := by decide +kernel
theorem dX4_of_10 : decode cX4_of 10 = .ok (.lconst 0, 1) := by decide +kernel
theorem dX4_of_11 : decode cX4_of 11 = .ok (.ldc2_w 90, 3) := by decide +kernel
theorem dX4_of_14 : decode cX4_of 14 = .ok (.invokestatic 49, 3) := by decide +kernel
theorem dX4_of_17 : decode cX4_of 17 = .ok (.ifCond .ne 10, 3) := by decide +kernel
theorem dX4_of_20 : decode cX4_of 20 = .ok (.aload_n 0, 1) := by decide +kernel
theorem dX4_of_21 : decode cX4_of 21 = .ok (.ldc 42, 2) := by decide +kernel
theorem dX4_of_23 : decode cX4_of 23 = .ok (.invokevirtual 57, 3) := by decide +kernel
theorem dX4_of_26 : decode cX4_of 26 = .ok (.ireturn, 1) := by decide +kernel
theorem dX4_of_27 : decode cX4_of 27 = .ok (.iload_n 2, 1) := by decide +kernel
theorem dX4_of_28 : decode cX4_of 28 = .ok (.tableswitch 68 4 7 #[32, 38, 44, 50], 32) := by decide +kernel
theorem dX4_of_60 : decode cX4_of 60 = .ok (.aload_n 0, 1) := by decide +kernel
theorem dX4_of_61 : decode cX4_of 61 = .ok (.iload_n 1, 1) := by decide +kernel
theorem dX4_of_62 : decode cX4_of 62 = .ok (.invokevirtual 92, 3) := by decide +kernel
theorem dX4_of_65 : decode cX4_of 65 = .ok (.ireturn, 1) := by decide +kernel
theorem dX4_of_66 : decode cX4_of 66 = .ok (.aload_n 0, 1) := by decide +kernel
theorem dX4_of_67 : decode cX4_of 67 = .ok (.iload_n 1, 1) := by decide +kernel
theorem dX4_of_68 : decode cX4_of 68 = .ok (.invokevirtual 95, 3) := by decide +kernel
theorem dX4_of_71 : decode cX4_of 71 = .ok (.ireturn, 1) := by decide +kernel
theorem dX4_of_72 : decode cX4_of 72 = .ok (.aload_n 0, 1) := by decide +kernel
theorem dX4_of_73 : decode cX4_of 73 = .ok (.iload_n 1, 1) := by decide +kernel
theorem dX4_of_74 : decode cX4_of 74 = .ok (.invokevirtual 98, 3) := by decide +kernel
theorem dX4_of_77 : decode cX4_of 77 = .ok (.ireturn, 1) := by decide +kernel
theorem dX4_of_78 : decode cX4_of 78 = .ok (.aload_n 0, 1) := by decide +kernel
theorem dX4_of_79 : decode cX4_of 79 = .ok (.iload_n 1, 1) := by decide +kernel
theorem dX4_of_80 : decode cX4_of 80 = .ok (.iconst 0, 1) := by decide +kernel
theorem dX4_of_81 : decode cX4_of 81 = .ok (.invokevirtual 84, 3) := by decide +kernel
theorem dX4_of_84 : decode cX4_of 84 = .ok (.invokestatic 101, 3) := by decide +kernel
theorem dX4_of_87 : decode cX4_of 87 = .ok (.ifCond .eq 7, 3) := by decide +kernel
theorem dX4_of_90 : decode cX4_of 90 = .ok (.iconst 0, 1) := by decide +kernel
theorem dX4_of_91 : decode cX4_of 91 = .ok (.goto 4, 3) := by decide +kernel
theorem dX4_of_94 : decode cX4_of 94 = .ok (.iconst 1, 1) := by decide +kernel
theorem dX4_of_95 : decode cX4_of 95 = .ok (.ireturn, 1) := by decide +kernel
theorem dX4_of_96 : decode cX4_of 96 = .ok (.aload_n 0, 1) := by decide +kernel
theorem dX4_of_97 : decode cX4_of 97 = .ok (.iload_n 1, 1) := by decide +kernel
theorem dX4_of_98 : decode cX4_of 98 = .ok (.iload_n 2, 1) := by decide +kernel
theorem dX4_of_99 : decode cX4_of 99 = .ok (.invokevirtual 84, 3) := by decide +kernel
theorem dX4_of_102 : decode cX4_of 102 = .ok (.ireturn, 1) := by decide +kernel
theorem dX4_set_0 : decode cX4_set 0 = .ok (.aload_n 0, 1) := by decide +kernel
theorem dX4_set_1 : decode cX4_set 1 = .ok (.iload_n 1, 1) := by decide +kernel
theorem dX4_set_2 : decode cX4_set 2 = .ok (.invokevirtual 87, 3) := by decide +kernel
theorem dX4_set_5 : decode cX4_set 5 = .ok (.ifCond .eq 49, 3) := by decide +kernel
theorem dX4_set_8 : decode cX4_set 8 = .ok (.iload_n 2, 1) := by decide +kernel
theorem dX4_set_9 : decode cX4_set 9 = .ok (.i2l, 1) := by decide +kernel
theorem dX4_set_10 : decode cX4_set 10 = .ok (.lconst 1, 1) := by decide +kernel
theorem dX4_set_11 : decode cX4_set 11 = .ok (.ldc2_w 104, 3) := by decide +kernel
theorem dX4_set_14 : decode cX4_set 14 = .ok (.invokestatic 49, 3) := by decide +kernel
theorem dX4_set_17 : decode cX4_set 17 = .ok (.ifCond .eq 37, 3) := by decide +kernel
theorem dX4_set_20 : decode cX4_set 20 = .ok (.iload_n 3, 1) := by decide +kernel
theorem dX4_set_21 : decode cX4_set 21 = .ok (.i2l, 1) := by decide +kernel
theorem dX4_set_22 : decode cX4_set 22 = .ok (.lconst 0, 1) := by decide +kernel
theorem dX4_set_23 : decode cX4_set 23 = .ok (.iload_n 2, 1) := by decide +kernel
theorem dX4_set_24 : decode cX4_set 24 = .ok (.iconst 1, 1) := by decide +kernel
theorem dX4_set_25 : decode cX4_set 25 = .ok (.if_icmp .ne 9, 3) := by decide +kernel
theorem dX4_set_28 : decode cX4_set 28 = .ok (.ldc2_w 104, 3) := by decide +kernel
theorem dX4_set_31 : decode cX4_set 31 = .ok (.goto 17, 3) := by decide +kernel
theorem dX4_set_34 : decode cX4_set 34 = .ok (.iload_n 2, 1) := by decide +kernel
theorem dX4_set_35 : decode cX4_set 35 = .ok (.iconst 2, 1) := by decide +kernel
theorem dX4_set_36 : decode cX4_set 36 = .ok (.if_icmp .ne 9, 3) := by decide +kernel
theorem dX4_set_39 : decode cX4_set 39 = .ok (.ldc2_w 63, 3) := by decide +kernel
theorem dX4_set_42 : decode cX4_set 42 = .ok (.goto 6, 3) := by decide +kernel
theorem dX4_set_45 : decode cX4_set 45 = .ok (.ldc2_w 80, 3) := by decide +kernel
theorem dX4_set_48 : decode cX4_set 48 = .ok (.invokestatic 49, 3) := by decide +kernel
theorem dX4_set_51 : decode cX4_set 51 = .ok (.ifCond .ne 10, 3) := by decide +kernel
theorem dX4_set_54 : decode cX4_set 54 = .ok (.aload_n 0, 1) := by decide +kernel
theorem dX4_set_55 : decode cX4_set 55 = .ok (.ldc 42, 2) := by decide +kernel
theorem dX4_set_57 : decode cX4_set 57 = .ok (.invokevirtual 57, 3) := by decide +kernel
theorem dX4_set_60 : decode cX4_set 60 = .ok (.ireturn, 1) := by decide +kernel
theorem dX4_set_61 : decode cX4_set 61 = .ok (.aload_n 0, 1) := by decide +kernel
theorem dX4_set_62 : decode cX4_set 62 = .ok (.bipush 20, 2) := by decide +kernel
theorem dX4_set_64 : decode cX4_set 64 = .ok (.iconst 4, 1) := by decide +kernel
theorem dX4_set_65 : decode cX4_set 65 = .ok (.iload_n 1, 1) := by decide +kernel
theorem dX4_set_66 : decode cX4_set 66 = .ok (.imul, 1) := by decide +kernel
theorem dX4_set_67 : decode cX4_set 67 = .ok (.iadd, 1) := by decide +kernel
theorem dX4_set_68 : decode cX4_set 68 = .ok (.iload_n 2, 1) := by decide +kernel
theorem dX4_set_69 : decode cX4_set 69 = .ok (.iadd, 1) := by decide +kernel
theorem dX4_set_70 : decode cX4_set 70 = .ok (.iload_n 3, 1) := by decide +kernel
theorem dX4_set_71 : decode cX4_set 71 = .ok (.invokevirtual 53, 3) := by decide +kernel
theorem dX4_set_74 : decode cX4_set 74 = .ok (.ireturn, 1) := by decide +kernel
theorem dX4_turn_0 : decode cX4_turn 0 = .ok (.aload_n 0, 1) := by decide +kernel
theorem dX4_turn_1 : decode cX4_turn 1 = .ok (.iload_n 1, 1) := by decide +kernel
theorem dX4_turn_2 : decode cX4_turn 2 = .ok (.invokevirtual 87, 3) := by decide +kernel
theorem dX4_turn_5 : decode cX4_turn 5 = .ok (.ifCond .eq 29, 3) := by decide +kernel
theorem dX4_turn_8 : decode cX4_turn 8 = .ok (.iload_n 2, 1) := by decide +kernel
theorem dX4_turn_9 : decode cX4_turn 9 = .ok (.i2l, 1) := by decide +kernel
theorem dX4_turn_10 : decode cX4_turn 10 = .ok (.lconst 0, 1) := by decide +kernel
theorem dX4_turn_11 : decode cX4_turn 11 = .ok (.ldc2_w 69, 3) := by decide +kernel
theorem dX4_turn_14 : decode cX4_turn 14 = .ok (.invokestatic 49, 3) := by decide +kernel
theorem dX4_turn_17 : decode cX4_turn 17 = .ok (.ifCond .eq 17, 3) := by decide +kernel
theorem dX4_turn_20 : decode cX4_turn 20 = .ok (.aload_n 0, 1) := by decide +kernel
theorem dX4_turn_21 : decode cX4_turn 21 = .ok (.bipush 20, 2) := by decide +kernel
theorem dX4_turn_23 : decode cX4_turn 23 = .ok (.iconst 4, 1) := by decide +kernel
theorem dX4_turn_24 : decode cX4_turn 24 = .ok (.iload_n 1, 1) := by decide +kernel
theorem dX4_turn_25 : decode cX4_turn 25 = .ok (.imul, 1) := by decide +kernel
theorem dX4_turn_26 : decode cX4_turn 26 = .ok (.iadd, 1) := by decide +kernel
theorem dX4_turn_27 : decode cX4_turn 27 = .ok (.iload_n 2, 1) := by decide +kernel
theorem dX4_turn_28 : decode cX4_turn 28 = .ok (.invokevirtual 53, 3) := by decide +kernel
theorem dX4_turn_31 : decode cX4_turn 31 = .ok (.goto 9, 3) := by decide +kernel
theorem dX4_turn_34 : decode cX4_turn 34 = .ok (.aload_n 0, 1) := by decide +kernel
theorem dX4_turn_35 : decode cX4_turn 35 = .ok (.ldc 42, 2) := by decide +kernel
theorem dX4_turn_37 : decode cX4_turn 37 = .ok (.invokevirtual 57, 3) := by decide +kernel
theorem dX4_turn_40 : decode cX4_turn 40 = .ok (.ireturn, 1) := by decide +kernel
theorem dX4_isUnder_0 : decode cX4_isUnder 0 = .ok (.iload_n 0, 1) := by decide +kernel
theorem dX4_isUnder_1 : decode cX4_isUnder 1 = .ok (.iload_n 1, 1) := by decide +kernel
theorem dX4_isUnder_2 : decode cX4_isUnder 2 = .ok (.if_icmp .eq 27, 3) := by decide +kernel
theorem dX4_isUnder_5 : decode cX4_isUnder 5 = .ok (.iload_n 1, 1) := by decide +kernel
theorem dX4_isUnder_6 : decode cX4_isUnder 6 = .ok (.ifCond .eq 23, 3) := by decide +kernel
theorem dX4_isUnder_9 : decode cX4_isUnder 9 = .ok (.iload_n 1, 1) := by decide +kernel
theorem dX4_isUnder_10 : decode cX4_isUnder 10 = .ok (.iconst 1, 1) := by decide +kernel
theorem dX4_isUnder_11 : decode cX4_isUnder 11 = .ok (.if_icmp .ne 8, 3) := by decide +kernel
theorem dX4_isUnder_14 : decode cX4_isUnder 14 = .ok (.iload_n 0, 1) := by decide +kernel
theorem dX4_isUnder_15 : decode cX4_isUnder 15 = .ok (.iconst 5, 1) := by decide +kernel
theorem dX4_isUnder_16 : decode cX4_isUnder 16 = .ok (.if_icmp .eq 13, 3) := by decide +kernel
theorem dX4_isUnder_19 : decode cX4_isUnder 19 = .ok (.iload_n 1, 1) := by decide +kernel
theorem dX4_isUnder_20 : decode cX4_isUnder 20 = .ok (.iconst 2, 1) := by decide +kernel
theorem dX4_isUnder_21 : decode cX4_isUnder 21 = .ok (.if_icmp .ne 12, 3) := by decide +kernel
theorem dX4_isUnder_24 : decode cX4_isUnder 24 = .ok (.iload_n 0, 1) := by decide +kernel
theorem dX4_isUnder_25 : decode cX4_isUnder 25 = .ok (.iconst 4, 1) := by decide +kernel
theorem dX4_isUnder_26 : decode cX4_isUnder 26 = .ok (.if_icmp .ne 7, 3) := by decide +kernel
theorem dX4_isUnder_29 : decode cX4_isUnder 29 = .ok (.iconst 1, 1) := by decide +kernel
theorem dX4_isUnder_30 : decode cX4_isUnder 30 = .ok (.goto 4, 3) := by decide +kernel
theorem dX4_isUnder_33 : decode cX4_isUnder 33 = .ok (.iconst 0, 1) := by decide +kernel
theorem dX4_isUnder_34 : decode cX4_isUnder 34 = .ok (.ireturn, 1) := by decide +kernel
theorem dX4_as_0 : decode cX4_as 0 = .ok (.aload_n 0, 1) := by decide +kernel
theorem dX4_as_1 : decode cX4_as 1 = .ok (.iload_n 1, 1) := by decide +kernel
theorem dX4_as_2 : decode cX4_as 2 = .ok (.invokevirtual 87, 3) := by decide +kernel
theorem dX4_as_5 : decode cX4_as 5 = .ok (.ifCond .eq 15, 3) := by decide +kernel
theorem dX4_as_8 : decode cX4_as 8 = .ok (.iload_n 2, 1) := by decide +kernel
theorem dX4_as_9 : decode cX4_as 9 = .ok (.i2l, 1) := by decide +kernel
theorem dX4_as_10 : decode cX4_as 10 = .ok (.lconst 0, 1) := by decide +kernel
theorem dX4_as_11 : decode cX4_as 11 = .ok (.ldc2_w 69, 3) := by decide +kernel
theorem dX4_as_14 : decode cX4_as 14 = .ok (.invokestatic 49, 3) := by decide +kernel
theorem dX4_as_17 : decode cX4_as 17 = .ok (.ifCond .ne 10, 3) := by decide +kernel
theorem dX4_as_20 : decode cX4_as 20 = .ok (.aload_n 0, 1) := by decide +kernel
theorem dX4_as_21 : decode cX4_as 21 = .ok (.ldc 42, 2) := by decide +kernel
theorem dX4_as_23 : decode cX4_as 23 = .ok (.invokevirtual 57, 3) := by decide +kernel
theorem dX4_as_26 : decode cX4_as 26 = .ok (.ireturn, 1) := by decide +kernel
theorem dX4_as_27 : decode cX4_as 27 = .ok (.aload_n 0, 1) := by decide +kernel
theorem dX4_as_28 : decode cX4_as 28 = .ok (.iload_n 1, 1) := by decide +kernel
theorem dX4_as_29 : decode cX4_as 29 = .ok (.iconst 0, 1) := by decide +kernel
theorem dX4_as_30 : decode cX4_as 30 = .ok (.invokevirtual 84, 3) := by decide +kernel
theorem dX4_as_33 : decode cX4_as 33 = .ok (.iload_n 2, 1) := by decide +kernel
theorem dX4_as_34 : decode cX4_as 34 = .ok (.invokestatic 106, 3) := by decide +kernel
theorem dX4_as_37 : decode cX4_as 37 = .ok (.ifCond .eq 12, 3) := by decide +kernel
theorem dX4_as_40 : decode cX4_as 40 = .ok (.aload_n 0, 1) := by decide +kernel
theorem dX4_as_41 : decode cX4_as 41 = .ok (.iload_n 1, 1) := by decide +kernel
theorem dX4_as_42 : decode cX4_as 42 = .ok (.iconst 2, 1) := by decide +kernel
theorem dX4_as_43 : decode cX4_as 43 = .ok (.invokevirtual 84, 3) := by decide +kernel
theorem dX4_as_46 : decode cX4_as 46 = .ok (.goto 9, 3) := by decide +kernel
theorem dX4_as_49 : decode cX4_as 49 = .ok (.aload_n 0, 1) := by decide +kernel
theorem dX4_as_50 : decode cX4_as 50 = .ok (.ldc 110, 2) := by decide +kernel
theorem dX4_as_52 : decode cX4_as 52 = .ok (.invokevirtual 57, 3) := by decide +kernel
theorem dX4_as_55 : decode cX4_as 55 = .ok (.ireturn, 1) := by decide +kernel
theorem dX4_swaps_0 : decode cX4_swaps 0 = .ok (.iconst 0, 1) := by decide +kernel
theorem dX4_swaps_1 : decode cX4_swaps 1 = .ok (.istore_n 3, 1) := by decide +kernel
theorem dX4_swaps_2 : decode cX4_swaps 2 = .ok (.iload_n 3, 1) := by decide +kernel
theorem dX4_swaps_3 : decode cX4_swaps 3 = .ok (.iconst 4, 1) := by decide +kernel
theorem dX4_swaps_4 : decode cX4_swaps 4 = .ok (.if_icmp .ge 37, 3) := by decide +kernel
theorem dX4_swaps_7 : decode cX4_swaps 7 = .ok (.aload_n 0, 1) := by decide +kernel
theorem dX4_swaps_8 : decode cX4_swaps 8 = .ok (.iload_n 1, 1) := by decide +kernel
theorem dX4_swaps_9 : decode cX4_swaps 9 = .ok (.iload_n 3, 1) := by decide +kernel
theorem dX4_swaps_10 : decode cX4_swaps 10 = .ok (.invokevirtual 84, 3) := by decide +kernel
theorem dX4_swaps_13 : decode cX4_swaps 13 = .ok (.istore 4, 2) := by decide +kernel
theorem dX4_swaps_15 : decode cX4_swaps 15 = .ok (.aload_n 0, 1) := by decide +kernel
theorem dX4_swaps_16 : decode cX4_swaps 16 = .ok (.iload_n 1, 1) := by decide +kernel
theorem dX4_swaps_17 : decode cX4_swaps 17 = .ok (.iload_n 3, 1) := by decide +kernel
theorem dX4_swaps_18 : decode cX4_swaps 18 = .ok (.aload_n 0, 1) := by decide +kernel
theorem dX4_swaps_19 : decode cX4_swaps 19 = .ok (.iload_n 2, 1) := by decide +kernel
theorem dX4_swaps_20 : decode cX4_swaps 20 = .ok (.iload_n 3, 1) := by decide +kernel
theorem dX4_swaps_21 : decode cX4_swaps 21 = .ok (.invokevirtual 84, 3) := by decide +kernel
theorem dX4_swaps_24 : decode cX4_swaps 24 = .ok (.invokevirtual 65, 3) := by decide +kernel
theorem dX4_swaps_27 : decode cX4_swaps 27 = .ok (.aload_n 0, 1) := by decide +kernel
theorem dX4_swaps_28 : decode cX4_swaps 28 = .ok (.iload_n 2, 1) := by decide +kernel
theorem dX4_swaps_29 : decode cX4_swaps 29 = .ok (.iload_n 3, 1) := by decide +kernel
theorem dX4_swaps_30 : decode cX4_swaps 30 = .ok (.iload 4, 2) := by decide +kernel
theorem dX4_swaps_32 : decode cX4_swaps 32 = .ok (.invokevirtual 65, 3) := by decide +kernel
theorem dX4_swaps_35 : decode cX4_swaps 35 = .ok (.iinc 3 1, 3) := by decide +kernel
theorem dX4_swaps_38 : decode cX4_swaps 38 = .ok (.goto (-36), 3) := by decide +kernel
theorem dX4_swaps_41 : decode cX4_swaps 41 = .ok (.return_, 1) := by decide +kernel
theorem dX4_swap_0 : decode cX4_swap 0 = .ok (.aload_n 0, 1) := by decide +kernel
theorem dX4_swap_1 : decode cX4_swap 1 = .ok (.iload_n 1, 1) := by decide +kernel
theorem dX4_swap_2 : decode cX4_swap 2 = .ok (.invokevirtual 87, 3) := by decide +kernel
theorem dX4_swap_5 : decode cX4_swap 5 = .ok (.ifCond .eq 11, 3) := by decide +kernel
theorem dX4_swap_8 : decode cX4_swap 8 = .ok (.aload_n 0, 1) := by decide +kernel
theorem dX4_swap_9 : decode cX4_swap 9 = .ok (.iload_n 2, 1) := by decide +kernel
theorem dX4_swap_10 : decode cX4_swap 10 = .ok (.invokevirtual 87, 3) := by decide +kernel
theorem dX4_swap_13 : decode cX4_swap 13 = .ok (.ifCond .ne 10, 3) := by decide +kernel
theorem dX4_swap_16 : decode cX4_swap 16 = .ok (.aload_n 0, 1) := by decide +kernel
theorem dX4_swap_17 : decode cX4_swap 17 = .ok (.ldc 42, 2) := by decide +kernel
theorem dX4_swap_19 : decode cX4_swap 19 = .ok (.invokevirtual 57, 3) := by decide +kernel
theorem dX4_swap_22 : decode cX4_swap 22 = .ok (.ireturn, 1) := by decide +kernel
theorem dX4_swap_23 : decode cX4_swap 23 = .ok (.aload_n 0, 1) := by decide +kernel
theorem dX4_swap_24 : decode cX4_swap 24 = .ok (.iload_n 1, 1) := by decide +kernel
theorem dX4_swap_25 : decode cX4_swap 25 = .ok (.iload_n 2, 1) := by decide +kernel
theorem dX4_swap_26 : decode cX4_swap 26 = .ok (.invokevirtual 111, 3) := by decide +kernel
theorem dX4_swap_29 : decode cX4_swap 29 = .ok (.iconst 1, 1) := by decide +kernel
theorem dX4_swap_30 : decode cX4_swap 30 = .ok (.ireturn, 1) := by decide +kernel
theorem dX4_isSpring_0 : decode cX4_isSpring 0 = .ok (.aload_n 0, 1) := by decide +kernel
theorem dX4_isSpring_1 : decode cX4_isSpring 1 = .ok (.invokevirtual 76, 3) := by decide +kernel
theorem dX4_isSpring_4 : decode cX4_isSpring 4 = .ok (.i2l, 1) := by decide +kernel
theorem dX4_isSpring_5 : decode cX4_isSpring 5 = .ok (.ldc2_w 80, 3) := by decide +kernel
theorem dX4_isSpring_8 : decode cX4_isSpring 8 = .ok (.ldc2_w 69, 3) := by decide +kernel
theorem dX4_isSpring_11 : decode cX4_isSpring 11 = .ok (.invokestatic 49, 3) := by decide +kernel
theorem dX4_isSpring_14 : decode cX4_isSpring 14 = .ok (.ireturn, 1) := by decide +kernel
theorem dX4_plant_0 : decode cX4_plant 0 = .ok (.aload_n 0, 1) := by decide +kernel
theorem dX4_plant_1 : decode cX4_plant 1 = .ok (.iload_n 1, 1) := by decide +kernel
theorem dX4_plant_2 : decode cX4_plant 2 = .ok (.invokevirtual 87, 3) := by decide +kernel
theorem dX4_plant_5 : decode cX4_plant 5 = .ok (.ifCond .ne 10, 3) := by decide +kernel
theorem dX4_plant_8 : decode cX4_plant 8 = .ok (.aload_n 0, 1) := by decide +kernel
theorem dX4_plant_9 : decode cX4_plant 9 = .ok (.ldc 42, 2) := by decide +kernel
theorem dX4_plant_11 : decode cX4_plant 11 = .ok (.invokevirtual 57, 3) := by decide +kernel
theorem dX4_plant_14 : decode cX4_plant 14 = .ok (.ireturn, 1) := by decide +kernel
theorem dX4_plant_15 : decode cX4_plant 15 = .ok (.aload_n 0, 1) := by decide +kernel
theorem dX4_plant_16 : decode cX4_plant 16 = .ok (.iload_n 1, 1) := by decide +kernel
theorem dX4_plant_17 : decode cX4_plant 17 = .ok (.iconst 3, 1) := by decide +kernel
theorem dX4_plant_18 : decode cX4_plant 18 = .ok (.invokevirtual 84, 3) := by decide +kernel
theorem dX4_plant_21 : decode cX4_plant 21 = .ok (.ifCond .ne 10, 3) := by decide +kernel
theorem dX4_plant_24 : decode cX4_plant 24 = .ok (.aload_n 0, 1) := by decide +kernel
theorem dX4_plant_25 : decode cX4_plant 25 = .ok (.invokevirtual 115, 3) := by decide +kernel
theorem dX4_plant_28 : decode cX4_plant 28 = .ok (.ifCond .ne 10, 3) := by decide +kernel
theorem dX4_plant_31 : decode cX4_plant 31 = .ok (.aload_n 0, 1) := by decide +kernel
theorem dX4_plant_32 : decode cX4_plant 32 = .ok (.ldc 119, 2) := by decide +kernel
theorem dX4_plant_34 : decode cX4_plant 34 = .ok (.invokevirtual 57, 3) := by decide +kernel
theorem dX4_plant_37 : decode cX4_plant 37 = .ok (.ireturn, 1) := by decide +kernel
theorem dX4_plant_38 : decode cX4_plant 38 = .ok (.aload_n 0, 1) := by decide +kernel
theorem dX4_plant_39 : decode cX4_plant 39 = .ok (.iload_n 1, 1) := by decide +kernel
theorem dX4_plant_40 : decode cX4_plant 40 = .ok (.iconst 3, 1) := by decide +kernel
theorem dX4_plant_41 : decode cX4_plant 41 = .ok (.iconst 2, 1) := by decide +kernel
theorem dX4_plant_42 : decode cX4_plant 42 = .ok (.invokevirtual 65, 3) := by decide +kernel
theorem dX4_plant_45 : decode cX4_plant 45 = .ok (.aload_n 0, 1) := by decide +kernel
theorem dX4_plant_46 : decode cX4_plant 46 = .ok (.iload_n 1, 1) := by decide +kernel
theorem dX4_plant_47 : decode cX4_plant 47 = .ok (.iconst 2, 1) := by decide +kernel
theorem dX4_plant_48 : decode cX4_plant 48 = .ok (.invokevirtual 84, 3) := by decide +kernel
theorem dX4_plant_51 : decode cX4_plant 51 = .ok (.ireturn, 1) := by decide +kernel
theorem dX4_purseOf_0 : decode cX4_purseOf 0 = .ok (.iconst 0, 1) := by decide +kernel
theorem dX4_purseOf_1 : decode cX4_purseOf 1 = .ok (.istore_n 2, 1) := by decide +kernel
theorem dX4_purseOf_2 : decode cX4_purseOf 2 = .ok (.iconst 0, 1) := by decide +kernel
theorem dX4_purseOf_3 : decode cX4_purseOf 3 = .ok (.istore_n 3, 1) := by decide +kernel
theorem dX4_purseOf_4 : decode cX4_purseOf 4 = .ok (.iload_n 3, 1) := by decide +kernel
theorem dX4_purseOf_5 : decode cX4_purseOf 5 = .ok (.aload_n 0, 1) := by decide +kernel
theorem dX4_purseOf_6 : decode cX4_purseOf 6 = .ok (.getfield 7, 3) := by decide +kernel
theorem dX4_purseOf_9 : decode cX4_purseOf 9 = .ok (.iconst 0, 1) := by decide +kernel
theorem dX4_purseOf_10 : decode cX4_purseOf 10 = .ok (.iaload, 1) := by decide +kernel
theorem dX4_purseOf_11 : decode cX4_purseOf 11 = .ok (.if_icmp .ge 31, 3) := by decide +kernel
theorem dX4_purseOf_14 : decode cX4_purseOf 14 = .ok (.iload_n 2, 1) := by decide +kernel
theorem dX4_purseOf_15 : decode cX4_purseOf 15 = .ok (.aload_n 0, 1) := by decide +kernel
theorem dX4_purseOf_16 : decode cX4_purseOf 16 = .ok (.iload_n 3, 1) := by decide +kernel
theorem dX4_purseOf_17 : decode cX4_purseOf 17 = .ok (.iconst 1, 1) := by decide +kernel
theorem dX4_purseOf_18 : decode cX4_purseOf 18 = .ok (.invokevirtual 84, 3) := by decide +kernel
theorem dX4_purseOf_21 : decode cX4_purseOf 21 = .ok (.iload_n 1, 1) := by decide +kernel
theorem dX4_purseOf_22 : decode cX4_purseOf 22 = .ok (.if_icmp .ne 11, 3) := by decide +kernel
theorem dX4_purseOf_25 : decode cX4_purseOf 25 = .ok (.aload_n 0, 1) := by decide +kernel
theorem dX4_purseOf_26 : decode cX4_purseOf 26 = .ok (.iload_n 3, 1) := by decide +kernel
theorem dX4_purseOf_27 : decode cX4_purseOf 27 = .ok (.invokevirtual 92, 3) := by decide +kernel
theorem dX4_purseOf_30 : decode cX4_purseOf 30 = .ok (.goto 4, 3) := by decide +kernel
theorem dX4_purseOf_33 : decode cX4_purseOf 33 = .ok (.iconst 0, 1) := by decide +kernel
theorem dX4_purseOf_34 : decode cX4_purseOf 34 = .ok (.iadd, 1) := by decide +kernel
theorem dX4_purseOf_35 : decode cX4_purseOf 35 = .ok (.istore_n 2, 1) := by decide +kernel
theorem dX4_purseOf_36 : decode cX4_purseOf 36 = .ok (.iinc 3 1, 3) := by decide +kernel
theorem dX4_purseOf_39 : decode cX4_purseOf 39 = .ok (.goto (-35), 3) := by decide +kernel
theorem dX4_purseOf_42 : decode cX4_purseOf 42 = .ok (.iload_n 2, 1) := by decide +kernel
theorem dX4_purseOf_43 : decode cX4_purseOf 43 = .ok (.ireturn, 1) := by decide +kernel
theorem dX4_purse_0 : decode cX4_purse 0 = .ok (.iload_n 1, 1) := by decide +kernel
theorem dX4_purse_1 : decode cX4_purse 1 = .ok (.invokestatic 43, 3) := by decide +kernel
theorem dX4_purse_4 : decode cX4_purse 4 = .ok (.ifCond .eq 11, 3) := by decide +kernel
theorem dX4_purse_7 : decode cX4_purse 7 = .ok (.aload_n 0, 1) := by decide +kernel
theorem dX4_purse_8 : decode cX4_purse 8 = .ok (.iload_n 1, 1) := by decide +kernel
theorem dX4_purse_9 : decode cX4_purse 9 = .ok (.invokevirtual 120, 3) := by decide +kernel
theorem dX4_purse_12 : decode cX4_purse 12 = .ok (.goto 9, 3) := by decide +kernel
theorem dX4_purse_15 : decode cX4_purse 15 = .ok (.aload_n 0, 1) := by decide +kernel
theorem dX4_purse_16 : decode cX4_purse 16 = .ok (.ldc 42, 2) := by decide +kernel
theorem dX4_purse_18 : decode cX4_purse 18 = .ok (.invokevirtual 57, 3) := by decide +kernel
theorem dX4_purse_21 : decode cX4_purse 21 = .ok (.ireturn, 1) := by decide +kernel
theorem dX4_soundOf_0 : decode cX4_soundOf 0 = .ok (.iconst 0, 1) := by decide +kernel
theorem dX4_soundOf_1 : decode cX4_soundOf 1 = .ok (.istore_n 2, 1) := by decide +kernel
theorem dX4_soundOf_2 : decode cX4_soundOf 2 = .ok (.iconst 0, 1) := by decide +kernel
theorem dX4_soundOf_3 : decode cX4_soundOf 3 = .ok (.istore_n 3, 1) := by decide +kernel
theorem dX4_soundOf_4 : decode cX4_soundOf 4 = .ok (.iload_n 3, 1) := by decide +kernel
theorem dX4_soundOf_5 : decode cX4_soundOf 5 = .ok (.aload_n 0, 1) := by decide +kernel
theorem dX4_soundOf_6 : decode cX4_soundOf 6 = .ok (.getfield 7, 3) := by decide +kernel
theorem dX4_soundOf_9 : decode cX4_soundOf 9 = .ok (.iconst 0, 1) := by decide +kernel
theorem dX4_soundOf_10 : decode cX4_soundOf 10 = .ok (.iaload, 1) := by decide +kernel
theorem dX4_soundOf_11 : decode cX4_soundOf 11 = .ok (.if_icmp .ge 38, 3) := by decide +kernel
theorem dX4_soundOf_14 : decode cX4_soundOf 14 = .ok (.iload_n 2, 1) := by decide +kernel
theorem dX4_soundOf_15 : decode cX4_soundOf 15 = .ok (.aload_n 0, 1) := by decide +kernel
theorem dX4_soundOf_16 : decode cX4_soundOf 16 = .ok (.iload_n 3, 1) := by decide +kernel
theorem dX4_soundOf_17 : decode cX4_soundOf 17 = .ok (.iconst 1, 1) := by decide +kernel
theorem dX4_soundOf_18 : decode cX4_soundOf 18 = .ok (.invokevirtual 84, 3) := by decide +kernel
theorem dX4_soundOf_21 : decode cX4_soundOf 21 = .ok (.iload_n 1, 1) := by decide +kernel
theorem dX4_soundOf_22 : decode cX4_soundOf 22 = .ok (.if_icmp .ne 18, 3) := by decide +kernel
theorem dX4_soundOf_25 : decode cX4_soundOf 25 = .ok (.aload_n 0, 1) := by decide +kernel
theorem dX4_soundOf_26 : decode cX4_soundOf 26 = .ok (.iload_n 3, 1) := by decide +kernel
theorem dX4_soundOf_27 : decode cX4_soundOf 27 = .ok (.iconst 3, 1) := by decide +kernel
theorem dX4_soundOf_28 : decode cX4_soundOf 28 = .ok (.invokevirtual 84, 3) := by decide +kernel
theorem dX4_soundOf_31 : decode cX4_soundOf 31 = .ok (.ifCond .ne 9, 3) := by decide +kernel
theorem dX4_soundOf_34 : decode cX4_soundOf 34 = .ok (.iconst 1, 1) := by decide +kernel
theorem dX4_soundOf_35 : decode cX4_soundOf 35 = .ok (.iload_n 3, 1) := by decide +kernel
theorem dX4_soundOf_36 : decode cX4_soundOf 36 = .ok (.ishl, 1) := by decide +kernel
theorem dX4_soundOf_37 : decode cX4_soundOf 37 = .ok (.goto 4, 3) := by decide +kernel
theorem dX4_soundOf_40 : decode cX4_soundOf 40 = .ok (.iconst 0, 1) := by decide +kernel
theorem dX4_soundOf_41 : decode cX4_soundOf 41 = .ok (.ior, 1) := by decide +kernel
theorem dX4_soundOf_42 : decode cX4_soundOf 42 = .ok (.istore_n 2, 1) := by decide +kernel
theorem dX4_soundOf_43 : decode cX4_soundOf 43 = .ok (.iinc 3 1, 3) := by decide +kernel
theorem dX4_soundOf_46 : decode cX4_soundOf 46 = .ok (.goto (-42), 3) := by decide +kernel
theorem dX4_soundOf_49 : decode cX4_soundOf 49 = .ok (.iload_n 2, 1) := by decide +kernel
theorem dX4_soundOf_50 : decode cX4_soundOf 50 = .ok (.ireturn, 1) := by decide +kernel
theorem dX4_lowest_0 : decode cX4_lowest 0 = .ok (.iconst 0, 1) := by decide +kernel
theorem dX4_lowest_1 : decode cX4_lowest 1 = .ok (.istore_n 1, 1) := by decide +kernel
theorem dX4_lowest_2 : decode cX4_lowest 2 = .ok (.iload_n 0, 1) := by decide +kernel
theorem dX4_lowest_3 : decode cX4_lowest 3 = .ok (.iload_n 1, 1) := by decide +kernel
theorem dX4_lowest_4 : decode cX4_lowest 4 = .ok (.ishr, 1) := by decide +kernel
theorem dX4_lowest_5 : decode cX4_lowest 5 = .ok (.iconst 1, 1) := by decide +kernel
theorem dX4_lowest_6 : decode cX4_lowest 6 = .ok (.iand, 1) := by decide +kernel
theorem dX4_lowest_7 : decode cX4_lowest 7 = .ok (.ifCond .ne 9, 3) := by decide +kernel
theorem dX4_lowest_10 : decode cX4_lowest 10 = .ok (.iinc 1 1, 3) := by decide +kernel
theorem dX4_lowest_13 : decode cX4_lowest 13 = .ok (.goto (-11), 3) := by decide +kernel
theorem dX4_lowest_16 : decode cX4_lowest 16 = .ok (.iload_n 1, 1) := by decide +kernel
theorem dX4_lowest_17 : decode cX4_lowest 17 = .ok (.ireturn, 1) := by decide +kernel
theorem dX4_which_0 : decode cX4_which 0 = .ok (.iload_n 1, 1) := by decide +kernel
theorem dX4_which_1 : decode cX4_which 1 = .ok (.invokestatic 43, 3) := by decide +kernel
theorem dX4_which_4 : decode cX4_which 4 = .ok (.ifCond .eq 24, 3) := by decide +kernel
theorem dX4_which_7 : decode cX4_which 7 = .ok (.iload_n 2, 1) := by decide +kernel
theorem dX4_which_8 : decode cX4_which 8 = .ok (.i2l, 1) := by decide +kernel
theorem dX4_which_9 : decode cX4_which 9 = .ok (.lconst 1, 1) := by decide +kernel
theorem dX4_which_10 : decode cX4_which 10 = .ok (.ldc2_w 123, 3) := by decide +kernel
theorem dX4_which_13 : decode cX4_which 13 = .ok (.invokestatic 49, 3) := by decide +kernel
theorem dX4_which_16 : decode cX4_which 16 = .ok (.ifCond .eq 12, 3) := by decide +kernel
theorem dX4_which_19 : decode cX4_which 19 = .ok (.aload_n 0, 1) := by decide +kernel
theorem dX4_which_20 : decode cX4_which 20 = .ok (.iload_n 1, 1) := by decide +kernel
theorem dX4_which_21 : decode cX4_which 21 = .ok (.iload_n 2, 1) := by decide +kernel
theorem dX4_which_22 : decode cX4_which 22 = .ok (.invokevirtual 125, 3) := by decide +kernel
theorem dX4_which_25 : decode cX4_which 25 = .ok (.goto 9, 3) := by decide +kernel
theorem dX4_which_28 : decode cX4_which 28 = .ok (.aload_n 0, 1) := by decide +kernel
theorem dX4_which_29 : decode cX4_which 29 = .ok (.ldc 42, 2) := by decide +kernel
theorem dX4_which_31 : decode cX4_which 31 = .ok (.invokevirtual 57, 3) := by decide +kernel
theorem dX4_which_34 : decode cX4_which 34 = .ok (.ireturn, 1) := by decide +kernel
theorem dX4_findSet_0 : decode cX4_findSet 0 = .ok (.aload_n 0, 1) := by decide +kernel
theorem dX4_findSet_1 : decode cX4_findSet 1 = .ok (.iload_n 1, 1) := by decide +kernel
theorem dX4_findSet_2 : decode cX4_findSet 2 = .ok (.invokevirtual 128, 3) := by decide +kernel
theorem dX4_findSet_5 : decode cX4_findSet 5 = .ok (.istore_n 3, 1) := by decide +kernel
theorem dX4_findSet_6 : decode cX4_findSet 6 = .ok (.iconst (-1), 1) := by decide +kernel
theorem dX4_findSet_7 : decode cX4_findSet 7 = .ok (.istore 4, 2) := by decide +kernel
theorem dX4_findSet_9 : decode cX4_findSet 9 = .ok (.aload_n 0, 1) := by decide +kernel
theorem dX4_findSet_10 : decode cX4_findSet 10 = .ok (.getfield 35, 3) := by decide +kernel
theorem dX4_findSet_13 : decode cX4_findSet 13 = .ok (.iconst 0, 1) := by decide +kernel
theorem dX4_findSet_14 : decode cX4_findSet 14 = .ok (.iconst 0, 1) := by decide +kernel
theorem dX4_findSet_15 : decode cX4_findSet 15 = .ok (.iastore, 1) := by decide +kernel
theorem dX4_findSet_16 : decode cX4_findSet 16 = .ok (.iconst 1, 1) := by decide +kernel
theorem dX4_findSet_17 : decode cX4_findSet 17 = .ok (.istore 5, 2) := by decide +kernel
theorem dX4_findSet_19 : decode cX4_findSet 19 = .ok (.iload 5, 2) := by decide +kernel
theorem dX4_findSet_21 : decode cX4_findSet 21 = .ok (.iload_n 3, 1) := by decide +kernel
theorem dX4_findSet_22 : decode cX4_findSet 22 = .ok (.if_icmp .gt 89, 3) := by decide +kernel
theorem dX4_findSet_25 : decode cX4_findSet 25 = .ok (.iload 5, 2) := by decide +kernel
theorem dX4_findSet_27 : decode cX4_findSet 27 = .ok (.iload_n 3, 1) := by decide +kernel
theorem dX4_findSet_28 : decode cX4_findSet 28 = .ok (.iconst (-1), 1) := by decide +kernel
theorem dX4_findSet_29 : decode cX4_findSet 29 = .ok (.ixor, 1) := by decide +kernel
theorem dX4_findSet_30 : decode cX4_findSet 30 = .ok (.iand, 1) := by decide +kernel
theorem dX4_findSet_31 : decode cX4_findSet 31 = .ok (.ifCond .ne 74, 3) := by decide +kernel
theorem dX4_findSet_34 : decode cX4_findSet 34 = .ok (.aload_n 0, 1) := by decide +kernel
theorem dX4_findSet_35 : decode cX4_findSet 35 = .ok (.getfield 35, 3) := by decide +kernel
theorem dX4_findSet_38 : decode cX4_findSet 38 = .ok (.iload 5, 2) := by decide +kernel
theorem dX4_findSet_40 : decode cX4_findSet 40 = .ok (.aload_n 0, 1) := by decide +kernel
theorem dX4_findSet_41 : decode cX4_findSet 41 = .ok (.getfield 35, 3) := by decide +kernel
theorem dX4_findSet_44 : decode cX4_findSet 44 = .ok (.iload 5, 2) := by decide +kernel
theorem dX4_findSet_46 : decode cX4_findSet 46 = .ok (.iload 5, 2) := by decide +kernel
theorem dX4_findSet_48 : decode cX4_findSet 48 = .ok (.iconst 1, 1) := by decide +kernel
theorem dX4_findSet_49 : decode cX4_findSet 49 = .ok (.isub, 1) := by decide +kernel
theorem dX4_findSet_50 : decode cX4_findSet 50 = .ok (.iand, 1) := by decide +kernel
theorem dX4_findSet_51 : decode cX4_findSet 51 = .ok (.iaload, 1) := by decide +kernel
theorem dX4_findSet_52 : decode cX4_findSet 52 = .ok (.aload_n 0, 1) := by decide +kernel
theorem dX4_findSet_53 : decode cX4_findSet 53 = .ok (.iload 5, 2) := by decide +kernel
theorem dX4_findSet_55 : decode cX4_findSet 55 = .ok (.invokestatic 131, 3) := by decide +kernel
theorem dX4_findSet_58 : decode cX4_findSet 58 = .ok (.invokevirtual 92, 3) := by decide +kernel
theorem dX4_findSet_61 : decode cX4_findSet 61 = .ok (.iadd, 1) := by decide +kernel
theorem dX4_findSet_62 : decode cX4_findSet 62 = .ok (.iastore, 1) := by decide +kernel
theorem dX4_findSet_63 : decode cX4_findSet 63 = .ok (.aload_n 0, 1) := by decide +kernel
theorem dX4_findSet_64 : decode cX4_findSet 64 = .ok (.getfield 35, 3) := by decide +kernel
theorem dX4_findSet_67 : decode cX4_findSet 67 = .ok (.iload 5, 2) := by decide +kernel
theorem dX4_findSet_69 : decode cX4_findSet 69 = .ok (.iaload, 1) := by decide +kernel
theorem dX4_findSet_70 : decode cX4_findSet 70 = .ok (.iload_n 2, 1) := by decide +kernel
theorem dX4_findSet_71 : decode cX4_findSet 71 = .ok (.if_icmp .lt 30, 3) := by decide +kernel
theorem dX4_findSet_74 : decode cX4_findSet 74 = .ok (.iload 4, 2) := by decide +kernel
theorem dX4_findSet_76 : decode cX4_findSet 76 = .ok (.ifCond .lt 20, 3) := by decide +kernel
theorem dX4_findSet_79 : decode cX4_findSet 79 = .ok (.aload_n 0, 1) := by decide +kernel
theorem dX4_findSet_80 : decode cX4_findSet 80 = .ok (.getfield 35, 3) := by decide +kernel
theorem dX4_findSet_83 : decode cX4_findSet 83 = .ok (.iload 5, 2) := by decide +kernel
theorem dX4_findSet_85 : decode cX4_findSet 85 = .ok (.iaload, 1) := by decide +kernel
theorem dX4_findSet_86 : decode cX4_findSet 86 = .ok (.aload_n 0, 1) := by decide +kernel
theorem dX4_findSet_87 : decode cX4_findSet 87 = .ok (.getfield 35, 3) := by decide +kernel
theorem dX4_findSet_90 : decode cX4_findSet 90 = .ok (.iload 4, 2) := by decide +kernel
theorem dX4_findSet_92 : decode cX4_findSet 92 = .ok (.iaload, 1) := by decide +kernel
theorem dX4_findSet_93 : decode cX4_findSet 93 = .ok (.if_icmp .ge 8, 3) := by decide +kernel
theorem dX4_findSet_96 : decode cX4_findSet 96 = .ok (.iload 5, 2) := by decide +kernel
theorem dX4_findSet_98 : decode cX4_findSet 98 = .ok (.goto 5, 3) := by decide +kernel
theorem dX4_findSet_101 : decode cX4_findSet 101 = .ok (.iload 4, 2) := by decide +kernel
theorem dX4_findSet_103 : decode cX4_findSet 103 = .ok (.istore 4, 2) := by decide +kernel
theorem dX4_findSet_105 : decode cX4_findSet 105 = .ok (.iinc 5 1, 3) := by decide +kernel
theorem dX4_findSet_108 : decode cX4_findSet 108 = .ok (.goto (-89), 3) := by decide +kernel
theorem dX4_findSet_111 : decode cX4_findSet 111 = .ok (.iload 4, 2) := by decide +kernel
theorem dX4_findSet_113 : decode cX4_findSet 113 = .ok (.ifCond .ge 7, 3) := by decide +kernel
theorem dX4_findSet_116 : decode cX4_findSet 116 = .ok (.iload_n 3, 1) := by decide +kernel
theorem dX4_findSet_117 : decode cX4_findSet 117 = .ok (.goto 5, 3) := by decide +kernel
theorem dX4_findSet_120 : decode cX4_findSet 120 = .ok (.iload 4, 2) := by decide +kernel
theorem dX4_findSet_122 : decode cX4_findSet 122 = .ok (.ireturn, 1) := by decide +kernel
theorem dX4_over_0 : decode cX4_over 0 = .ok (.iload_n 1, 1) := by decide +kernel
theorem dX4_over_1 : decode cX4_over 1 = .ok (.invokestatic 43, 3) := by decide +kernel
theorem dX4_over_4 : decode cX4_over 4 = .ok (.ifCond .eq 31, 3) := by decide +kernel
theorem dX4_over_7 : decode cX4_over 7 = .ok (.iload_n 2, 1) := by decide +kernel
theorem dX4_over_8 : decode cX4_over 8 = .ok (.i2l, 1) := by decide +kernel
theorem dX4_over_9 : decode cX4_over 9 = .ok (.lconst 1, 1) := by decide +kernel
theorem dX4_over_10 : decode cX4_over 10 = .ok (.ldc2_w 123, 3) := by decide +kernel
theorem dX4_over_13 : decode cX4_over 13 = .ok (.invokestatic 49, 3) := by decide +kernel
theorem dX4_over_16 : decode cX4_over 16 = .ok (.ifCond .eq 19, 3) := by decide +kernel
theorem dX4_over_19 : decode cX4_over 19 = .ok (.aload_n 0, 1) := by decide +kernel
theorem dX4_over_20 : decode cX4_over 20 = .ok (.getfield 35, 3) := by decide +kernel
theorem dX4_over_23 : decode cX4_over 23 = .ok (.aload_n 0, 1) := by decide +kernel
theorem dX4_over_24 : decode cX4_over 24 = .ok (.iload_n 1, 1) := by decide +kernel
theorem dX4_over_25 : decode cX4_over 25 = .ok (.iload_n 2, 1) := by decide +kernel
theorem dX4_over_26 : decode cX4_over 26 = .ok (.invokevirtual 125, 3) := by decide +kernel
theorem dX4_over_29 : decode cX4_over 29 = .ok (.iaload, 1) := by decide +kernel
theorem dX4_over_30 : decode cX4_over 30 = .ok (.iload_n 2, 1) := by decide +kernel
theorem dX4_over_31 : decode cX4_over 31 = .ok (.isub, 1) := by decide +kernel
theorem dX4_over_32 : decode cX4_over 32 = .ok (.goto 9, 3) := by decide +kernel
theorem dX4_over_35 : decode cX4_over 35 = .ok (.aload_n 0, 1) := by decide +kernel
theorem dX4_over_36 : decode cX4_over 36 = .ok (.ldc 42, 2) := by decide +kernel
theorem dX4_over_38 : decode cX4_over 38 = .ok (.invokevirtual 57, 3) := by decide +kernel
theorem dX4_over_41 : decode cX4_over 41 = .ok (.ireturn, 1) := by decide +kernel
theorem dX4_pays_0 : decode cX4_pays 0 = .ok (.aload_n 0, 1) := by decide +kernel
theorem dX4_pays_1 : decode cX4_pays 1 = .ok (.iload_n 1, 1) := by decide +kernel
theorem dX4_pays_2 : decode cX4_pays 2 = .ok (.iload_n 3, 1) := by decide +kernel
theorem dX4_pays_3 : decode cX4_pays 3 = .ok (.invokevirtual 125, 3) := by decide +kernel
theorem dX4_pays_6 : decode cX4_pays 6 = .ok (.istore 4, 2) := by decide +kernel
theorem dX4_pays_8 : decode cX4_pays 8 = .ok (.aload_n 0, 1) := by decide +kernel
theorem dX4_pays_9 : decode cX4_pays 9 = .ok (.getfield 7, 3) := by decide +kernel
theorem dX4_pays_12 : decode cX4_pays 12 = .ok (.iconst 3, 1) := by decide +kernel
theorem dX4_pays_13 : decode cX4_pays 13 = .ok (.dup2, 1) := by decide +kernel
theorem dX4_pays_14 : decode cX4_pays 14 = .ok (.iaload, 1) := by decide +kernel
theorem dX4_pays_15 : decode cX4_pays 15 = .ok (.aload_n 0, 1) := by decide +kernel
theorem dX4_pays_16 : decode cX4_pays 16 = .ok (.getfield 35, 3) := by decide +kernel
theorem dX4_pays_19 : decode cX4_pays 19 = .ok (.iload 4, 2) := by decide +kernel
theorem dX4_pays_21 : decode cX4_pays 21 = .ok (.iaload, 1) := by decide +kernel
theorem dX4_pays_22 : decode cX4_pays 22 = .ok (.iload_n 3, 1) := by decide +kernel
theorem dX4_pays_23 : decode cX4_pays 23 = .ok (.if_icmp .ge 15, 3) := by decide +kernel
theorem dX4_pays_26 : decode cX4_pays 26 = .ok (.iload_n 3, 1) := by decide +kernel
theorem dX4_pays_27 : decode cX4_pays 27 = .ok (.aload_n 0, 1) := by decide +kernel
theorem dX4_pays_28 : decode cX4_pays 28 = .ok (.getfield 35, 3) := by decide +kernel
theorem dX4_pays_31 : decode cX4_pays 31 = .ok (.iload 4, 2) := by decide +kernel
theorem dX4_pays_33 : decode cX4_pays 33 = .ok (.iaload, 1) := by decide +kernel
theorem dX4_pays_34 : decode cX4_pays 34 = .ok (.isub, 1) := by decide +kernel
theorem dX4_pays_35 : decode cX4_pays 35 = .ok (.goto 4, 3) := by decide +kernel
theorem dX4_pays_38 : decode cX4_pays 38 = .ok (.iconst 0, 1) := by decide +kernel
theorem dX4_pays_39 : decode cX4_pays 39 = .ok (.iadd, 1) := by decide +kernel
theorem dX4_pays_40 : decode cX4_pays 40 = .ok (.iastore, 1) := by decide +kernel
theorem dX4_pays_41 : decode cX4_pays 41 = .ok (.iconst 0, 1) := by decide +kernel
theorem dX4_pays_42 : decode cX4_pays 42 = .ok (.istore 5, 2) := by decide +kernel
theorem dX4_pays_44 : decode cX4_pays 44 = .ok (.iload 5, 2) := by decide +kernel
theorem dX4_pays_46 : decode cX4_pays 46 = .ok (.aload_n 0, 1) := by decide +kernel
theorem dX4_pays_47 : decode cX4_pays 47 = .ok (.getfield 7, 3) := by decide +kernel
theorem dX4_pays_50 : decode cX4_pays 50 = .ok (.iconst 0, 1) := by decide +kernel
theorem dX4_pays_51 : decode cX4_pays 51 = .ok (.iaload, 1) := by decide +kernel
theorem dX4_pays_52 : decode cX4_pays 52 = .ok (.if_icmp .ge 28, 3) := by decide +kernel
theorem dX4_pays_55 : decode cX4_pays 55 = .ok (.iload 4, 2) := by decide +kernel
theorem dX4_pays_57 : decode cX4_pays 57 = .ok (.iload 5, 2) := by decide +kernel
theorem dX4_pays_59 : decode cX4_pays 59 = .ok (.ishr, 1) := by decide +kernel
theorem dX4_pays_60 : decode cX4_pays 60 = .ok (.iconst 1, 1) := by decide +kernel
theorem dX4_pays_61 : decode cX4_pays 61 = .ok (.iand, 1) := by decide +kernel
theorem dX4_pays_62 : decode cX4_pays 62 = .ok (.iconst 1, 1) := by decide +kernel
theorem dX4_pays_63 : decode cX4_pays 63 = .ok (.if_icmp .ne 11, 3) := by decide +kernel
theorem dX4_pays_66 : decode cX4_pays 66 = .ok (.aload_n 0, 1) := by decide +kernel
theorem dX4_pays_67 : decode cX4_pays 67 = .ok (.iload 5, 2) := by decide +kernel
theorem dX4_pays_69 : decode cX4_pays 69 = .ok (.iconst 1, 1) := by decide +kernel
theorem dX4_pays_70 : decode cX4_pays 70 = .ok (.iload_n 2, 1) := by decide +kernel
theorem dX4_pays_71 : decode cX4_pays 71 = .ok (.invokevirtual 65, 3) := by decide +kernel
theorem dX4_pays_74 : decode cX4_pays 74 = .ok (.iinc 5 1, 3) := by decide +kernel
theorem dX4_pays_77 : decode cX4_pays 77 = .ok (.goto (-33), 3) := by decide +kernel
theorem dX4_pays_80 : decode cX4_pays 80 = .ok (.iload 4, 2) := by decide +kernel
theorem dX4_pays_82 : decode cX4_pays 82 = .ok (.ireturn, 1) := by decide +kernel
theorem dX4_pay_0 : decode cX4_pay 0 = .ok (.iload_n 1, 1) := by decide +kernel
theorem dX4_pay_1 : decode cX4_pay 1 = .ok (.invokestatic 43, 3) := by decide +kernel
theorem dX4_pay_4 : decode cX4_pay 4 = .ok (.ifCond .eq 37, 3) := by decide +kernel
theorem dX4_pay_7 : decode cX4_pay 7 = .ok (.iload_n 2, 1) := by decide +kernel
theorem dX4_pay_8 : decode cX4_pay 8 = .ok (.invokestatic 43, 3) := by decide +kernel
theorem dX4_pay_11 : decode cX4_pay 11 = .ok (.ifCond .eq 30, 3) := by decide +kernel
theorem dX4_pay_14 : decode cX4_pay 14 = .ok (.iload_n 1, 1) := by decide +kernel
theorem dX4_pay_15 : decode cX4_pay 15 = .ok (.iload_n 2, 1) := by decide +kernel
theorem dX4_pay_16 : decode cX4_pay 16 = .ok (.if_icmp .eq 25, 3) := by decide +kernel
theorem dX4_pay_19 : decode cX4_pay 19 = .ok (.iload_n 3, 1) := by decide +kernel
theorem dX4_pay_20 : decode cX4_pay 20 = .ok (.i2l, 1) := by decide +kernel
theorem dX4_pay_21 : decode cX4_pay 21 = .ok (.lconst 1, 1) := by decide +kernel
theorem dX4_pay_22 : decode cX4_pay 22 = .ok (.ldc2_w 123, 3) := by decide +kernel
theorem dX4_pay_25 : decode cX4_pay 25 = .ok (.invokestatic 49, 3) := by decide +kernel
theorem dX4_pay_28 : decode cX4_pay 28 = .ok (.ifCond .eq 13, 3) := by decide +kernel
theorem dX4_pay_31 : decode cX4_pay 31 = .ok (.aload_n 0, 1) := by decide +kernel
theorem dX4_pay_32 : decode cX4_pay 32 = .ok (.iload_n 1, 1) := by decide +kernel
theorem dX4_pay_33 : decode cX4_pay 33 = .ok (.iload_n 2, 1) := by decide +kernel
theorem dX4_pay_34 : decode cX4_pay 34 = .ok (.iload_n 3, 1) := by decide +kernel
theorem dX4_pay_35 : decode cX4_pay 35 = .ok (.invokevirtual 134, 3) := by decide +kernel
theorem dX4_pay_38 : decode cX4_pay 38 = .ok (.goto 9, 3) := by decide +kernel
theorem dX4_pay_41 : decode cX4_pay 41 = .ok (.aload_n 0, 1) := by decide +kernel
theorem dX4_pay_42 : decode cX4_pay 42 = .ok (.ldc 42, 2) := by decide +kernel
theorem dX4_pay_44 : decode cX4_pay 44 = .ok (.invokevirtual 57, 3) := by decide +kernel
theorem dX4_pay_47 : decode cX4_pay 47 = .ok (.ireturn, 1) := by decide +kernel
theorem dX4_lends_0 : decode cX4_lends 0 = .ok (.bipush 68, 2) := by decide +kernel
theorem dX4_lends_2 : decode cX4_lends 2 = .ok (.iconst 5, 1) := by decide +kernel
theorem dX4_lends_3 : decode cX4_lends 3 = .ok (.aload_n 0, 1) := by decide +kernel
theorem dX4_lends_4 : decode cX4_lends 4 = .ok (.getfield 7, 3) := by decide +kernel
theorem dX4_lends_7 : decode cX4_lends 7 = .ok (.iconst 1, 1) := by decide +kernel
theorem dX4_lends_8 : decode cX4_lends 8 = .ok (.iaload, 1) := by decide +kernel
theorem dX4_lends_9 : decode cX4_lends 9 = .ok (.imul, 1) := by decide +kernel
theorem dX4_lends_10 : decode cX4_lends 10 = .ok (.iadd, 1) := by decide +kernel
theorem dX4_lends_11 : decode cX4_lends 11 = .ok (.istore 5, 2) := by decide +kernel
theorem dX4_lends_13 : decode cX4_lends 13 = .ok (.aload_n 0, 1) := by decide +kernel
theorem dX4_lends_14 : decode cX4_lends 14 = .ok (.getfield 7, 3) := by decide +kernel
theorem dX4_lends_17 : decode cX4_lends 17 = .ok (.iload 5, 2) := by decide +kernel
theorem dX4_lends_19 : decode cX4_lends 19 = .ok (.iload_n 1, 1) := by decide +kernel
theorem dX4_lends_20 : decode cX4_lends 20 = .ok (.iastore, 1) := by decide +kernel
theorem dX4_lends_21 : decode cX4_lends 21 = .ok (.aload_n 0, 1) := by decide +kernel
theorem dX4_lends_22 : decode cX4_lends 22 = .ok (.getfield 7, 3) := by decide +kernel
theorem dX4_lends_25 : decode cX4_lends 25 = .ok (.iload 5, 2) := by decide +kernel
theorem dX4_lends_27 : decode cX4_lends 27 = .ok (.iconst 1, 1) := by decide +kernel
theorem dX4_lends_28 : decode cX4_lends 28 = .ok (.iadd, 1) := by decide +kernel
theorem dX4_lends_29 : decode cX4_lends 29 = .ok (.iload_n 2, 1) := by decide +kernel
theorem dX4_lends_30 : decode cX4_lends 30 = .ok (.iastore, 1) := by decide +kernel
theorem dX4_lends_31 : decode cX4_lends 31 = .ok (.aload_n 0, 1) := by decide +kernel
theorem dX4_lends_32 : decode cX4_lends 32 = .ok (.getfield 7, 3) := by decide +kernel
theorem dX4_lends_35 : decode cX4_lends 35 = .ok (.iload 5, 2) := by decide +kernel
theorem dX4_lends_37 : decode cX4_lends 37 = .ok (.iconst 2, 1) := by decide +kernel
theorem dX4_lends_38 : decode cX4_lends 38 = .ok (.iadd, 1) := by decide +kernel
theorem dX4_lends_39 : decode cX4_lends 39 = .ok (.iload_n 3, 1) := by decide +kernel
theorem dX4_lends_40 : decode cX4_lends 40 = .ok (.iastore, 1) := by decide +kernel
theorem dX4_lends_41 : decode cX4_lends 41 = .ok (.aload_n 0, 1) := by decide +kernel
theorem dX4_lends_42 : decode cX4_lends 42 = .ok (.getfield 7, 3) := by decide +kernel
theorem dX4_lends_45 : decode cX4_lends 45 = .ok (.iload 5, 2) := by decide +kernel
theorem dX4_lends_47 : decode cX4_lends 47 = .ok (.iconst 3, 1) := by decide +kernel
theorem dX4_lends_48 : decode cX4_lends 48 = .ok (.iadd, 1) := by decide +kernel
theorem dX4_lends_49 : decode cX4_lends 49 = .ok (.aload_n 0, 1) := by decide +kernel
theorem dX4_lends_50 : decode cX4_lends 50 = .ok (.getfield 7, 3) := by decide +kernel
theorem dX4_lends_53 : decode cX4_lends 53 = .ok (.iconst 2, 1) := by decide +kernel
theorem dX4_lends_54 : decode cX4_lends 54 = .ok (.iaload, 1) := by decide +kernel
theorem dX4_lends_55 : decode cX4_lends 55 = .ok (.iload 4, 2) := by decide +kernel
theorem dX4_lends_57 : decode cX4_lends 57 = .ok (.iadd, 1) := by decide +kernel
theorem dX4_lends_58 : decode cX4_lends 58 = .ok (.iastore, 1) := by decide +kernel
theorem dX4_lends_59 : decode cX4_lends 59 = .ok (.aload_n 0, 1) := by decide +kernel
theorem dX4_lends_60 : decode cX4_lends 60 = .ok (.getfield 7, 3) := by decide +kernel
theorem dX4_lends_63 : decode cX4_lends 63 = .ok (.iload 5, 2) := by decide +kernel
theorem dX4_lends_65 : decode cX4_lends 65 = .ok (.iconst 4, 1) := by decide +kernel
theorem dX4_lends_66 : decode cX4_lends 66 = .ok (.iadd, 1) := by decide +kernel
theorem dX4_lends_67 : decode cX4_lends 67 = .ok (.iconst 0, 1) := by decide +kernel
theorem dX4_lends_68 : decode cX4_lends 68 = .ok (.iastore, 1) := by decide +kernel
theorem dX4_lends_69 : decode cX4_lends 69 = .ok (.aload_n 0, 1) := by decide +kernel
theorem dX4_lends_70 : decode cX4_lends 70 = .ok (.getfield 7, 3) := by decide +kernel
theorem dX4_lends_73 : decode cX4_lends 73 = .ok (.iconst 1, 1) := by decide +kernel
theorem dX4_lends_74 : decode cX4_lends 74 = .ok (.dup2, 1) := by decide +kernel
theorem dX4_lends_75 : decode cX4_lends 75 = .ok (.iaload, 1) := by decide +kernel
theorem dX4_lends_76 : decode cX4_lends 76 = .ok (.iconst 1, 1) := by decide +kernel
theorem dX4_lends_77 : decode cX4_lends 77 = .ok (.iadd, 1) := by decide +kernel
theorem dX4_lends_78 : decode cX4_lends 78 = .ok (.iastore, 1) := by decide +kernel
theorem dX4_lends_79 : decode cX4_lends 79 = .ok (.aload_n 0, 1) := by decide +kernel
theorem dX4_lends_80 : decode cX4_lends 80 = .ok (.getfield 7, 3) := by decide +kernel
theorem dX4_lends_83 : decode cX4_lends 83 = .ok (.iconst 1, 1) := by decide +kernel
theorem dX4_lends_84 : decode cX4_lends 84 = .ok (.iaload, 1) := by decide +kernel
theorem dX4_lends_85 : decode cX4_lends 85 = .ok (.iconst 1, 1) := by decide +kernel
theorem dX4_lends_86 : decode cX4_lends 86 = .ok (.isub, 1) := by decide +kernel
theorem dX4_lends_87 : decode cX4_lends 87 = .ok (.ireturn, 1) := by decide +kernel
theorem dX4_loan_0 : decode cX4_loan 0 = .ok (.iload_n 1, 1) := by decide +kernel
theorem dX4_loan_1 : decode cX4_loan 1 = .ok (.invokestatic 43, 3) := by decide +kernel
theorem dX4_loan_4 : decode cX4_loan 4 = .ok (.ifCond .eq 40, 3) := by decide +kernel
theorem dX4_loan_7 : decode cX4_loan 7 = .ok (.iload_n 2, 1) := by decide +kernel
theorem dX4_loan_8 : decode cX4_loan 8 = .ok (.invokestatic 43, 3) := by decide +kernel
theorem dX4_loan_11 : decode cX4_loan 11 = .ok (.ifCond .eq 33, 3) := by decide +kernel
theorem dX4_loan_14 : decode cX4_loan 14 = .ok (.iload_n 1, 1) := by decide +kernel
theorem dX4_loan_15 : decode cX4_loan 15 = .ok (.iload_n 2, 1) := by decide +kernel
theorem dX4_loan_16 : decode cX4_loan 16 = .ok (.if_icmp .eq 28, 3) := by decide +kernel
theorem dX4_loan_19 : decode cX4_loan 19 = .ok (.iload_n 3, 1) := by decide +kernel
theorem dX4_loan_20 : decode cX4_loan 20 = .ok (.i2l, 1) := by decide +kernel
theorem dX4_loan_21 : decode cX4_loan 21 = .ok (.lconst 1, 1) := by decide +kernel
theorem dX4_loan_22 : decode cX4_loan 22 = .ok (.ldc2_w 123, 3) := by decide +kernel
theorem dX4_loan_25 : decode cX4_loan 25 = .ok (.invokestatic 49, 3) := by decide +kernel
theorem dX4_loan_28 : decode cX4_loan 28 = .ok (.ifCond .eq 16, 3) := by decide +kernel
theorem dX4_loan_31 : decode cX4_loan 31 = .ok (.iload 4, 2) := by decide +kernel
theorem dX4_loan_33 : decode cX4_loan 33 = .ok (.i2l, 1) := by decide +kernel
theorem dX4_loan_34 : decode cX4_loan 34 = .ok (.lconst 1, 1) := by decide +kernel
theorem dX4_loan_35 : decode cX4_loan 35 = .ok (.ldc2_w 137, 3) := by decide +kernel
theorem dX4_loan_38 : decode cX4_loan 38 = .ok (.invokestatic 49, 3) := by decide +kernel
theorem dX4_loan_41 : decode cX4_loan 41 = .ok (.ifCond .ne 10, 3) := by decide +kernel
theorem dX4_loan_44 : decode cX4_loan 44 = .ok (.aload_n 0, 1) := by decide +kernel
theorem dX4_loan_45 : decode cX4_loan 45 = .ok (.ldc 42, 2) := by decide +kernel
theorem dX4_loan_47 : decode cX4_loan 47 = .ok (.invokevirtual 57, 3) := by decide +kernel
theorem dX4_loan_50 : decode cX4_loan 50 = .ok (.ireturn, 1) := by decide +kernel
theorem dX4_loan_51 : decode cX4_loan 51 = .ok (.aload_n 0, 1) := by decide +kernel
theorem dX4_loan_52 : decode cX4_loan 52 = .ok (.iload 4, 2) := by decide +kernel
theorem dX4_loan_54 : decode cX4_loan 54 = .ok (.invokevirtual 139, 3) := by decide +kernel
theorem dX4_loan_57 : decode cX4_loan 57 = .ok (.ifCond .eq 10, 3) := by decide +kernel
theorem dX4_loan_60 : decode cX4_loan 60 = .ok (.aload_n 0, 1) := by decide +kernel
theorem dX4_loan_61 : decode cX4_loan 61 = .ok (.ldc 119, 2) := by decide +kernel
theorem dX4_loan_63 : decode cX4_loan 63 = .ok (.invokevirtual 57, 3) := by decide +kernel
theorem dX4_loan_66 : decode cX4_loan 66 = .ok (.ireturn, 1) := by decide +kernel
theorem dX4_loan_67 : decode cX4_loan 67 = .ok (.aload_n 0, 1) := by decide +kernel
theorem dX4_loan_68 : decode cX4_loan 68 = .ok (.getfield 7, 3) := by decide +kernel
theorem dX4_loan_71 : decode cX4_loan 71 = .ok (.iconst 1, 1) := by decide +kernel
theorem dX4_loan_72 : decode cX4_loan 72 = .ok (.iaload, 1) := by decide +kernel
theorem dX4_loan_73 : decode cX4_loan 73 = .ok (.bipush 8, 2) := by decide +kernel
theorem dX4_loan_75 : decode cX4_loan 75 = .ok (.if_icmp .ne 12, 3) := by decide +kernel
theorem dX4_loan_78 : decode cX4_loan 78 = .ok (.aload_n 0, 1) := by decide +kernel
theorem dX4_loan_79 : decode cX4_loan 79 = .ok (.ldc 71, 2) := by decide +kernel
theorem dX4_loan_81 : decode cX4_loan 81 = .ok (.invokevirtual 57, 3) := by decide +kernel
theorem dX4_loan_84 : decode cX4_loan 84 = .ok (.goto 12, 3) := by decide +kernel
theorem dX4_loan_87 : decode cX4_loan 87 = .ok (.aload_n 0, 1) := by decide +kernel
theorem dX4_loan_88 : decode cX4_loan 88 = .ok (.iload_n 1, 1) := by decide +kernel
theorem dX4_loan_89 : decode cX4_loan 89 = .ok (.iload_n 2, 1) := by decide +kernel
theorem dX4_loan_90 : decode cX4_loan 90 = .ok (.iload_n 3, 1) := by decide +kernel
theorem dX4_loan_91 : decode cX4_loan 91 = .ok (.iload 4, 2) := by decide +kernel
theorem dX4_loan_93 : decode cX4_loan 93 = .ok (.invokevirtual 142, 3) := by decide +kernel
theorem dX4_loan_96 : decode cX4_loan 96 = .ok (.ireturn, 1) := by decide +kernel
theorem dX4_loanOf_0 : decode cX4_loanOf 0 = .ok (.iload_n 1, 1) := by decide +kernel
theorem dX4_loanOf_1 : decode cX4_loanOf 1 = .ok (.i2l, 1) := by decide +kernel
theorem dX4_loanOf_2 : decode cX4_loanOf 2 = .ok (.lconst 0, 1) := by decide +kernel
theorem dX4_loanOf_3 : decode cX4_loanOf 3 = .ok (.aload_n 0, 1) := by decide +kernel
theorem dX4_loanOf_4 : decode cX4_loanOf 4 = .ok (.getfield 7, 3) := by decide +kernel
theorem dX4_loanOf_7 : decode cX4_loanOf 7 = .ok (.iconst 1, 1) := by decide +kernel
theorem dX4_loanOf_8 : decode cX4_loanOf 8 = .ok (.iaload, 1) := by decide +kernel
theorem dX4_loanOf_9 : decode cX4_loanOf 9 = .ok (.iconst 1, 1) := by decide +kernel
theorem dX4_loanOf_10 : decode cX4_loanOf 10 = .ok (.isub, 1) := by decide +kernel
theorem dX4_loanOf_11 : decode cX4_loanOf 11 = .ok (.i2l, 1) := by decide +kernel
theorem dX4_loanOf_12 : decode cX4_loanOf 12 = .ok (.invokestatic 49, 3) := by decide +kernel
theorem dX4_loanOf_15 : decode cX4_loanOf 15 = .ok (.ifCond .eq 31, 3) := by decide +kernel
theorem dX4_loanOf_18 : decode cX4_loanOf 18 = .ok (.iload_n 2, 1) := by decide +kernel
theorem dX4_loanOf_19 : decode cX4_loanOf 19 = .ok (.i2l, 1) := by decide +kernel
theorem dX4_loanOf_20 : decode cX4_loanOf 20 = .ok (.lconst 0, 1) := by decide +kernel
theorem dX4_loanOf_21 : decode cX4_loanOf 21 = .ok (.ldc2_w 82, 3) := by decide +kernel
theorem dX4_loanOf_24 : decode cX4_loanOf 24 = .ok (.invokestatic 49, 3) := by decide +kernel
theorem dX4_loanOf_27 : decode cX4_loanOf 27 = .ok (.ifCond .eq 19, 3) := by decide +kernel
theorem dX4_loanOf_30 : decode cX4_loanOf 30 = .ok (.aload_n 0, 1) := by decide +kernel
theorem dX4_loanOf_31 : decode cX4_loanOf 31 = .ok (.getfield 7, 3) := by decide +kernel
theorem dX4_loanOf_34 : decode cX4_loanOf 34 = .ok (.bipush 68, 2) := by decide +kernel
theorem dX4_loanOf_36 : decode cX4_loanOf 36 = .ok (.iconst 5, 1) := by decide +kernel
theorem dX4_loanOf_37 : decode cX4_loanOf 37 = .ok (.iload_n 1, 1) := by decide +kernel
theorem dX4_loanOf_38 : decode cX4_loanOf 38 = .ok (.imul, 1) := by decide +kernel
theorem dX4_loanOf_39 : decode cX4_loanOf 39 = .ok (.iadd, 1) := by decide +kernel
theorem dX4_loanOf_40 : decode cX4_loanOf 40 = .ok (.iload_n 2, 1) := by decide +kernel
theorem dX4_loanOf_41 : decode cX4_loanOf 41 = .ok (.iadd, 1) := by decide +kernel
theorem dX4_loanOf_42 : decode cX4_loanOf 42 = .ok (.iaload, 1) := by decide +kernel
theorem dX4_loanOf_43 : decode cX4_loanOf 43 = .ok (.goto 9, 3) := by decide +kernel
theorem dX4_loanOf_46 : decode cX4_loanOf 46 = .ok (.aload_n 0, 1) := by decide +kernel
theorem dX4_loanOf_47 : decode cX4_loanOf 47 = .ok (.ldc 42, 2) := by decide +kernel
theorem dX4_loanOf_49 : decode cX4_loanOf 49 = .ok (.invokevirtual 57, 3) := by decide +kernel
theorem dX4_loanOf_52 : decode cX4_loanOf 52 = .ok (.ireturn, 1) := by decide +kernel
theorem dX4_tax_0 : decode cX4_tax 0 = .ok (.iconst 0, 1) := by decide +kernel
theorem dX4_tax_1 : decode cX4_tax 1 = .ok (.istore_n 1, 1) := by decide +kernel
theorem dX4_tax_2 : decode cX4_tax 2 = .ok (.iconst 0, 1) := by decide +kernel
theorem dX4_tax_3 : decode cX4_tax 3 = .ok (.istore_n 2, 1) := by decide +kernel
theorem dX4_tax_4 : decode cX4_tax 4 = .ok (.iload_n 2, 1) := by decide +kernel
theorem dX4_tax_5 : decode cX4_tax 5 = .ok (.iconst 4, 1) := by decide +kernel
theorem dX4_tax_6 : decode cX4_tax 6 = .ok (.if_icmp .ge 103, 3) := by decide +kernel
theorem dX4_tax_9 : decode cX4_tax 9 = .ok (.iconst (-1), 1) := by decide +kernel
theorem dX4_tax_10 : decode cX4_tax 10 = .ok (.istore_n 3, 1) := by decide +kernel
theorem dX4_tax_11 : decode cX4_tax 11 = .ok (.iconst 0, 1) := by decide +kernel
theorem dX4_tax_12 : decode cX4_tax 12 = .ok (.istore 4, 2) := by decide +kernel
theorem dX4_tax_14 : decode cX4_tax 14 = .ok (.iload 4, 2) := by decide +kernel
theorem dX4_tax_16 : decode cX4_tax 16 = .ok (.aload_n 0, 1) := by decide +kernel
theorem dX4_tax_17 : decode cX4_tax 17 = .ok (.getfield 7, 3) := by decide +kernel
theorem dX4_tax_20 : decode cX4_tax 20 = .ok (.iconst 0, 1) := by decide +kernel
theorem dX4_tax_21 : decode cX4_tax 21 = .ok (.iaload, 1) := by decide +kernel
theorem dX4_tax_22 : decode cX4_tax 22 = .ok (.if_icmp .ge 67, 3) := by decide +kernel
theorem dX4_tax_25 : decode cX4_tax 25 = .ok (.aload_n 0, 1) := by decide +kernel
theorem dX4_tax_26 : decode cX4_tax 26 = .ok (.iload 4, 2) := by decide +kernel
theorem dX4_tax_28 : decode cX4_tax 28 = .ok (.iconst 1, 1) := by decide +kernel
theorem dX4_tax_29 : decode cX4_tax 29 = .ok (.invokevirtual 84, 3) := by decide +kernel
theorem dX4_tax_32 : decode cX4_tax 32 = .ok (.iload_n 2, 1) := by decide +kernel
theorem dX4_tax_33 : decode cX4_tax 33 = .ok (.if_icmp .ne 17, 3) := by decide +kernel
theorem dX4_tax_36 : decode cX4_tax 36 = .ok (.aload_n 0, 1) := by decide +kernel
theorem dX4_tax_37 : decode cX4_tax 37 = .ok (.iload 4, 2) := by decide +kernel
theorem dX4_tax_39 : decode cX4_tax 39 = .ok (.iconst 3, 1) := by decide +kernel
theorem dX4_tax_40 : decode cX4_tax 40 = .ok (.invokevirtual 84, 3) := by decide +kernel
theorem dX4_tax_43 : decode cX4_tax 43 = .ok (.ifCond .ne 7, 3) := by decide +kernel
theorem dX4_tax_46 : decode cX4_tax 46 = .ok (.iconst 1, 1) := by decide +kernel
theorem dX4_tax_47 : decode cX4_tax 47 = .ok (.goto 4, 3) := by decide +kernel
theorem dX4_tax_50 : decode cX4_tax 50 = .ok (.iconst 0, 1) := by decide +kernel
theorem dX4_tax_51 : decode cX4_tax 51 = .ok (.istore 5, 2) := by decide +kernel
theorem dX4_tax_53 : decode cX4_tax 53 = .ok (.iload 5, 2) := by decide +kernel
theorem dX4_tax_55 : decode cX4_tax 55 = .ok (.ifCond .eq 26, 3) := by decide +kernel
theorem dX4_tax_58 : decode cX4_tax 58 = .ok (.iload_n 3, 1) := by decide +kernel
theorem dX4_tax_59 : decode cX4_tax 59 = .ok (.ifCond .lt 17, 3) := by decide +kernel
theorem dX4_tax_62 : decode cX4_tax 62 = .ok (.aload_n 0, 1) := by decide +kernel
theorem dX4_tax_63 : decode cX4_tax 63 = .ok (.iload 4, 2) := by decide +kernel
theorem dX4_tax_65 : decode cX4_tax 65 = .ok (.invokevirtual 92, 3) := by decide +kernel
theorem dX4_tax_68 : decode cX4_tax 68 = .ok (.aload_n 0, 1) := by decide +kernel
theorem dX4_tax_69 : decode cX4_tax 69 = .ok (.iload_n 3, 1) := by decide +kernel
theorem dX4_tax_70 : decode cX4_tax 70 = .ok (.invokevirtual 92, 3) := by decide +kernel
theorem dX4_tax_73 : decode cX4_tax 73 = .ok (.if_icmp .le 8, 3) := by decide +kernel
theorem dX4_tax_76 : decode cX4_tax 76 = .ok (.iload 4, 2) := by decide +kernel
theorem dX4_tax_78 : decode cX4_tax 78 = .ok (.goto 4, 3) := by decide +kernel
theorem dX4_tax_81 : decode cX4_tax 81 = .ok (.iload_n 3, 1) := by decide +kernel
theorem dX4_tax_82 : decode cX4_tax 82 = .ok (.istore_n 3, 1) := by decide +kernel
theorem dX4_tax_83 : decode cX4_tax 83 = .ok (.iinc 4 1, 3) := by decide +kernel
theorem dX4_tax_86 : decode cX4_tax 86 = .ok (.goto (-72), 3) := by decide +kernel
theorem dX4_tax_89 : decode cX4_tax 89 = .ok (.iload_n 3, 1) := by decide +kernel
theorem dX4_tax_90 : decode cX4_tax 90 = .ok (.ifCond .lt 13, 3) := by decide +kernel
theorem dX4_tax_93 : decode cX4_tax 93 = .ok (.aload_n 0, 1) := by decide +kernel
theorem dX4_tax_94 : decode cX4_tax 94 = .ok (.iload_n 3, 1) := by decide +kernel
theorem dX4_tax_95 : decode cX4_tax 95 = .ok (.iconst 0, 1) := by decide +kernel
theorem dX4_tax_96 : decode cX4_tax 96 = .ok (.iconst 4, 1) := by decide +kernel
theorem dX4_tax_97 : decode cX4_tax 97 = .ok (.invokevirtual 65, 3) := by decide +kernel
theorem dX4_tax_100 : decode cX4_tax 100 = .ok (.iinc 1 1, 3) := by decide +kernel
theorem dX4_tax_103 : decode cX4_tax 103 = .ok (.iinc 2 1, 3) := by decide +kernel
theorem dX4_tax_106 : decode cX4_tax 106 = .ok (.goto (-102), 3) := by decide +kernel
theorem dX4_tax_109 : decode cX4_tax 109 = .ok (.iload_n 1, 1) := by decide +kernel
theorem dX4_tax_110 : decode cX4_tax 110 = .ok (.ireturn, 1) := by decide +kernel
theorem dX4_manyThat_0 : decode cX4_manyThat 0 = .ok (.iconst 0, 1) := by decide +kernel
theorem dX4_manyThat_1 : decode cX4_manyThat 1 = .ok (.istore_n 2, 1) := by decide +kernel
theorem dX4_manyThat_2 : decode cX4_manyThat 2 = .ok (.iconst 0, 1) := by decide +kernel
theorem dX4_manyThat_3 : decode cX4_manyThat 3 = .ok (.istore_n 3, 1) := by decide +kernel
theorem dX4_manyThat_4 : decode cX4_manyThat 4 = .ok (.iload_n 3, 1) := by decide +kernel
theorem dX4_manyThat_5 : decode cX4_manyThat 5 = .ok (.aload_n 0, 1) := by decide +kernel
theorem dX4_manyThat_6 : decode cX4_manyThat 6 = .ok (.getfield 7, 3) := by decide +kernel
theorem dX4_manyThat_9 : decode cX4_manyThat 9 = .ok (.iconst 0, 1) := by decide +kernel
theorem dX4_manyThat_10 : decode cX4_manyThat 10 = .ok (.iaload, 1) := by decide +kernel
theorem dX4_manyThat_11 : decode cX4_manyThat 11 = .ok (.if_icmp .ge 27, 3) := by decide +kernel
theorem dX4_manyThat_14 : decode cX4_manyThat 14 = .ok (.iload_n 2, 1) := by decide +kernel
theorem dX4_manyThat_15 : decode cX4_manyThat 15 = .ok (.aload_n 0, 1) := by decide +kernel
theorem dX4_manyThat_16 : decode cX4_manyThat 16 = .ok (.iload_n 3, 1) := by decide +kernel
theorem dX4_manyThat_17 : decode cX4_manyThat 17 = .ok (.iconst 3, 1) := by decide +kernel
theorem dX4_manyThat_18 : decode cX4_manyThat 18 = .ok (.invokevirtual 84, 3) := by decide +kernel
theorem dX4_manyThat_21 : decode cX4_manyThat 21 = .ok (.iload_n 1, 1) := by decide +kernel
theorem dX4_manyThat_22 : decode cX4_manyThat 22 = .ok (.if_icmp .ne 7, 3) := by decide +kernel
theorem dX4_manyThat_25 : decode cX4_manyThat 25 = .ok (.iconst 1, 1) := by decide +kernel
theorem dX4_manyThat_26 : decode cX4_manyThat 26 = .ok (.goto 4, 3) := by decide +kernel
theorem dX4_manyThat_29 : decode cX4_manyThat 29 = .ok (.iconst 0, 1) := by decide +kernel
theorem dX4_manyThat_30 : decode cX4_manyThat 30 = .ok (.iadd, 1) := by decide +kernel
theorem dX4_manyThat_31 : decode cX4_manyThat 31 = .ok (.istore_n 2, 1) := by decide +kernel
theorem dX4_manyThat_32 : decode cX4_manyThat 32 = .ok (.iinc 3 1, 3) := by decide +kernel
theorem dX4_manyThat_35 : decode cX4_manyThat 35 = .ok (.goto (-31), 3) := by decide +kernel
theorem dX4_manyThat_38 : decode cX4_manyThat 38 = .ok (.iload_n 2, 1) := by decide +kernel
theorem dX4_manyThat_39 : decode cX4_manyThat 39 = .ok (.ireturn, 1) := by decide +kernel
theorem dX4_goesOn_0 : decode cX4_goesOn 0 = .ok (.iconst 0, 1) := by decide +kernel
theorem dX4_goesOn_1 : decode cX4_goesOn 1 = .ok (.istore_n 1, 1) := by decide +kernel
theorem dX4_goesOn_2 : decode cX4_goesOn 2 = .ok (.iload_n 1, 1) := by decide +kernel
theorem dX4_goesOn_3 : decode cX4_goesOn 3 = .ok (.bipush 14, 2) := by decide +kernel
theorem dX4_goesOn_5 : decode cX4_goesOn 5 = .ok (.if_icmp .ge 42, 3) := by decide +kernel
theorem dX4_goesOn_8 : decode cX4_goesOn 8 = .ok (.aload_n 0, 1) := by decide +kernel
theorem dX4_goesOn_9 : decode cX4_goesOn 9 = .ok (.getfield 38, 3) := by decide +kernel
theorem dX4_goesOn_12 : decode cX4_goesOn 12 = .ok (.iload_n 1, 1) := by decide +kernel
theorem dX4_goesOn_13 : decode cX4_goesOn 13 = .ok (.aload_n 0, 1) := by decide +kernel
theorem dX4_goesOn_14 : decode cX4_goesOn 14 = .ok (.iload_n 1, 1) := by decide +kernel
theorem dX4_goesOn_15 : decode cX4_goesOn 15 = .ok (.iconst 1, 1) := by decide +kernel
theorem dX4_goesOn_16 : decode cX4_goesOn 16 = .ok (.isub, 1) := by decide +kernel
theorem dX4_goesOn_17 : decode cX4_goesOn 17 = .ok (.invokevirtual 87, 3) := by decide +kernel
theorem dX4_goesOn_20 : decode cX4_goesOn 20 = .ok (.ifCond .eq 19, 3) := by decide +kernel
theorem dX4_goesOn_23 : decode cX4_goesOn 23 = .ok (.aload_n 0, 1) := by decide +kernel
theorem dX4_goesOn_24 : decode cX4_goesOn 24 = .ok (.iload_n 1, 1) := by decide +kernel
theorem dX4_goesOn_25 : decode cX4_goesOn 25 = .ok (.iconst 1, 1) := by decide +kernel
theorem dX4_goesOn_26 : decode cX4_goesOn 26 = .ok (.isub, 1) := by decide +kernel
theorem dX4_goesOn_27 : decode cX4_goesOn 27 = .ok (.iconst 3, 1) := by decide +kernel
theorem dX4_goesOn_28 : decode cX4_goesOn 28 = .ok (.invokevirtual 84, 3) := by decide +kernel
theorem dX4_goesOn_31 : decode cX4_goesOn 31 = .ok (.iconst 1, 1) := by decide +kernel
theorem dX4_goesOn_32 : decode cX4_goesOn 32 = .ok (.if_icmp .ne 7, 3) := by decide +kernel
theorem dX4_goesOn_35 : decode cX4_goesOn 35 = .ok (.iconst 1, 1) := by decide +kernel
theorem dX4_goesOn_36 : decode cX4_goesOn 36 = .ok (.goto 4, 3) := by decide +kernel
theorem dX4_goesOn_39 : decode cX4_goesOn 39 = .ok (.iconst 0, 1) := by decide +kernel
theorem dX4_goesOn_40 : decode cX4_goesOn 40 = .ok (.bastore, 1) := by decide +kernel
theorem dX4_goesOn_41 : decode cX4_goesOn 41 = .ok (.iinc 1 1, 3) := by decide +kernel
theorem dX4_goesOn_44 : decode cX4_goesOn 44 = .ok (.goto (-42), 3) := by decide +kernel
theorem dX4_goesOn_47 : decode cX4_goesOn 47 = .ok (.iconst 0, 1) := by decide +kernel
theorem dX4_goesOn_48 : decode cX4_goesOn 48 = .ok (.istore_n 1, 1) := by decide +kernel
theorem dX4_goesOn_49 : decode cX4_goesOn 49 = .ok (.iload_n 1, 1) := by decide +kernel
theorem dX4_goesOn_50 : decode cX4_goesOn 50 = .ok (.aload_n 0, 1) := by decide +kernel
theorem dX4_goesOn_51 : decode cX4_goesOn 51 = .ok (.getfield 7, 3) := by decide +kernel
theorem dX4_goesOn_54 : decode cX4_goesOn 54 = .ok (.iconst 0, 1) := by decide +kernel
theorem dX4_goesOn_55 : decode cX4_goesOn 55 = .ok (.iaload, 1) := by decide +kernel
theorem dX4_goesOn_56 : decode cX4_goesOn 56 = .ok (.if_icmp .ge 171, 3) := by decide +kernel
theorem dX4_goesOn_59 : decode cX4_goesOn 59 = .ok (.aload_n 0, 1) := by decide +kernel
theorem dX4_goesOn_60 : decode cX4_goesOn 60 = .ok (.iload_n 1, 1) := by decide +kernel
theorem dX4_goesOn_61 : decode cX4_goesOn 61 = .ok (.iconst 3, 1) := by decide +kernel
theorem dX4_goesOn_62 : decode cX4_goesOn 62 = .ok (.invokevirtual 84, 3) := by decide +kernel
theorem dX4_goesOn_65 : decode cX4_goesOn 65 = .ok (.ifCond .ne 91, 3) := by decide +kernel
theorem dX4_goesOn_68 : decode cX4_goesOn 68 = .ok (.aload_n 0, 1) := by decide +kernel
theorem dX4_goesOn_69 : decode cX4_goesOn 69 = .ok (.iload_n 1, 1) := by decide +kernel
theorem dX4_goesOn_70 : decode cX4_goesOn 70 = .ok (.iconst 2, 1) := by decide +kernel
theorem dX4_goesOn_71 : decode cX4_goesOn 71 = .ok (.invokevirtual 84, 3) := by decide +kernel
theorem dX4_goesOn_74 : decode cX4_goesOn 74 = .ok (.aload_n 0, 1) := by decide +kernel
theorem dX4_goesOn_75 : decode cX4_goesOn 75 = .ok (.iload_n 1, 1) := by decide +kernel
theorem dX4_goesOn_76 : decode cX4_goesOn 76 = .ok (.invokevirtual 95, 3) := by decide +kernel
theorem dX4_goesOn_79 : decode cX4_goesOn 79 = .ok (.isub, 1) := by decide +kernel
theorem dX4_goesOn_80 : decode cX4_goesOn 80 = .ok (.istore_n 2, 1) := by decide +kernel
theorem dX4_goesOn_81 : decode cX4_goesOn 81 = .ok (.aload_n 0, 1) := by decide +kernel
theorem dX4_goesOn_82 : decode cX4_goesOn 82 = .ok (.iload_n 1, 1) := by decide +kernel
theorem dX4_goesOn_83 : decode cX4_goesOn 83 = .ok (.iconst 2, 1) := by decide +kernel
theorem dX4_goesOn_84 : decode cX4_goesOn 84 = .ok (.iload_n 2, 1) := by decide +kernel
theorem dX4_goesOn_85 : decode cX4_goesOn 85 = .ok (.ifCond .ge 7, 3) := by decide +kernel
theorem dX4_goesOn_88 : decode cX4_goesOn 88 = .ok (.iconst 0, 1) := by decide +kernel
theorem dX4_goesOn_89 : decode cX4_goesOn 89 = .ok (.goto 4, 3) := by decide +kernel
theorem dX4_goesOn_92 : decode cX4_goesOn 92 = .ok (.iload_n 2, 1) := by decide +kernel
theorem dX4_goesOn_93 : decode cX4_goesOn 93 = .ok (.invokevirtual 65, 3) := by decide +kernel
theorem dX4_goesOn_96 : decode cX4_goesOn 96 = .ok (.aload_n 0, 1) := by decide +kernel
theorem dX4_goesOn_97 : decode cX4_goesOn 97 = .ok (.iload_n 1, 1) := by decide +kernel
theorem dX4_goesOn_98 : decode cX4_goesOn 98 = .ok (.iconst 0, 1) := by decide +kernel
theorem dX4_goesOn_99 : decode cX4_goesOn 99 = .ok (.invokevirtual 84, 3) := by decide +kernel
theorem dX4_goesOn_102 : decode cX4_goesOn 102 = .ok (.invokestatic 101, 3) := by decide +kernel
theorem dX4_goesOn_105 : decode cX4_goesOn 105 = .ok (.ifCond .ne 27, 3) := by decide +kernel
theorem dX4_goesOn_108 : decode cX4_goesOn 108 = .ok (.aload_n 0, 1) := by decide +kernel
theorem dX4_goesOn_109 : decode cX4_goesOn 109 = .ok (.getfield 38, 3) := by decide +kernel
theorem dX4_goesOn_112 : decode cX4_goesOn 112 = .ok (.iload_n 1, 1) := by decide +kernel
theorem dX4_goesOn_113 : decode cX4_goesOn 113 = .ok (.baload, 1) := by decide +kernel
theorem dX4_goesOn_114 : decode cX4_goesOn 114 = .ok (.ifCond .ne 14, 3) := by decide +kernel
theorem dX4_goesOn_117 : decode cX4_goesOn 117 = .ok (.aload_n 0, 1) := by decide +kernel
theorem dX4_goesOn_118 : decode cX4_goesOn 118 = .ok (.getfield 38, 3) := by decide +kernel
theorem dX4_goesOn_121 : decode cX4_goesOn 121 = .ok (.iload_n 1, 1) := by decide +kernel
theorem dX4_goesOn_122 : decode cX4_goesOn 122 = .ok (.iconst 2, 1) := by decide +kernel
theorem dX4_goesOn_123 : decode cX4_goesOn 123 = .ok (.iadd, 1) := by decide +kernel
theorem dX4_goesOn_124 : decode cX4_goesOn 124 = .ok (.baload, 1) := by decide +kernel
theorem dX4_goesOn_125 : decode cX4_goesOn 125 = .ok (.ifCond .eq 7, 3) := by decide +kernel
theorem dX4_goesOn_128 : decode cX4_goesOn 128 = .ok (.iconst 1, 1) := by decide +kernel
theorem dX4_goesOn_129 : decode cX4_goesOn 129 = .ok (.goto 4, 3) := by decide +kernel
theorem dX4_goesOn_132 : decode cX4_goesOn 132 = .ok (.iconst 0, 1) := by decide +kernel
theorem dX4_goesOn_133 : decode cX4_goesOn 133 = .ok (.istore_n 3, 1) := by decide +kernel
theorem dX4_goesOn_134 : decode cX4_goesOn 134 = .ok (.aload_n 0, 1) := by decide +kernel
theorem dX4_goesOn_135 : decode cX4_goesOn 135 = .ok (.iload_n 1, 1) := by decide +kernel
theorem dX4_goesOn_136 : decode cX4_goesOn 136 = .ok (.iconst 3, 1) := by decide +kernel
theorem dX4_goesOn_137 : decode cX4_goesOn 137 = .ok (.iload_n 2, 1) := by decide +kernel
theorem dX4_goesOn_138 : decode cX4_goesOn 138 = .ok (.ifCond .le 7, 3) := by decide +kernel
theorem dX4_goesOn_141 : decode cX4_goesOn 141 = .ok (.iload_n 3, 1) := by decide +kernel
theorem dX4_goesOn_142 : decode cX4_goesOn 142 = .ok (.ifCond .eq 7, 3) := by decide +kernel
theorem dX4_goesOn_145 : decode cX4_goesOn 145 = .ok (.iconst 1, 1) := by decide +kernel
theorem dX4_goesOn_146 : decode cX4_goesOn 146 = .ok (.goto 4, 3) := by decide +kernel
theorem dX4_goesOn_149 : decode cX4_goesOn 149 = .ok (.iconst 0, 1) := by decide +kernel
theorem dX4_goesOn_150 : decode cX4_goesOn 150 = .ok (.invokevirtual 65, 3) := by decide +kernel
theorem dX4_goesOn_153 : decode cX4_goesOn 153 = .ok (.goto 68, 3) := by decide +kernel
theorem dX4_goesOn_156 : decode cX4_goesOn 156 = .ok (.aload_n 0, 1) := by decide +kernel
theorem dX4_goesOn_157 : decode cX4_goesOn 157 = .ok (.iload_n 1, 1) := by decide +kernel
theorem dX4_goesOn_158 : decode cX4_goesOn 158 = .ok (.iconst 3, 1) := by decide +kernel
theorem dX4_goesOn_159 : decode cX4_goesOn 159 = .ok (.invokevirtual 84, 3) := by decide +kernel
theorem dX4_goesOn_162 : decode cX4_goesOn 162 = .ok (.iconst 2, 1) := by decide +kernel
theorem dX4_goesOn_163 : decode cX4_goesOn 163 = .ok (.if_icmp .ne 58, 3) := by decide +kernel
theorem dX4_goesOn_166 : decode cX4_goesOn 166 = .ok (.aload_n 0, 1) := by decide +kernel
theorem dX4_goesOn_167 : decode cX4_goesOn 167 = .ok (.invokevirtual 76, 3) := by decide +kernel
theorem dX4_goesOn_170 : decode cX4_goesOn 170 = .ok (.bipush 8, 2) := by decide +kernel
theorem dX4_goesOn_172 : decode cX4_goesOn 172 = .ok (.if_icmp .ne 49, 3) := by decide +kernel
theorem dX4_goesOn_175 : decode cX4_goesOn 175 = .ok (.aload_n 0, 1) := by decide +kernel
theorem dX4_goesOn_176 : decode cX4_goesOn 176 = .ok (.iload_n 1, 1) := by decide +kernel
theorem dX4_goesOn_177 : decode cX4_goesOn 177 = .ok (.iconst 2, 1) := by decide +kernel
theorem dX4_goesOn_178 : decode cX4_goesOn 178 = .ok (.invokevirtual 84, 3) := by decide +kernel
theorem dX4_goesOn_181 : decode cX4_goesOn 181 = .ok (.aload_n 0, 1) := by decide +kernel
theorem dX4_goesOn_182 : decode cX4_goesOn 182 = .ok (.iload_n 1, 1) := by decide +kernel
theorem dX4_goesOn_183 : decode cX4_goesOn 183 = .ok (.invokevirtual 98, 3) := by decide +kernel
theorem dX4_goesOn_186 : decode cX4_goesOn 186 = .ok (.imul, 1) := by decide +kernel
theorem dX4_goesOn_187 : decode cX4_goesOn 187 = .ok (.istore_n 2, 1) := by decide +kernel
theorem dX4_goesOn_188 : decode cX4_goesOn 188 = .ok (.aload_n 0, 1) := by decide +kernel
theorem dX4_goesOn_189 : decode cX4_goesOn 189 = .ok (.iload_n 1, 1) := by decide +kernel
theorem dX4_goesOn_190 : decode cX4_goesOn 190 = .ok (.iconst 2, 1) := by decide +kernel
theorem dX4_goesOn_191 : decode cX4_goesOn 191 = .ok (.iload_n 2, 1) := by decide +kernel
theorem dX4_goesOn_192 : decode cX4_goesOn 192 = .ok (.bipush 99, 2) := by decide +kernel
theorem dX4_goesOn_194 : decode cX4_goesOn 194 = .ok (.if_icmp .le 8, 3) := by decide +kernel
theorem dX4_goesOn_197 : decode cX4_goesOn 197 = .ok (.bipush 99, 2) := by decide +kernel
theorem dX4_goesOn_199 : decode cX4_goesOn 199 = .ok (.goto 4, 3) := by decide +kernel
theorem dX4_goesOn_202 : decode cX4_goesOn 202 = .ok (.iload_n 2, 1) := by decide +kernel
theorem dX4_goesOn_203 : decode cX4_goesOn 203 = .ok (.invokevirtual 65, 3) := by decide +kernel
theorem dX4_goesOn_206 : decode cX4_goesOn 206 = .ok (.aload_n 0, 1) := by decide +kernel
theorem dX4_goesOn_207 : decode cX4_goesOn 207 = .ok (.iload_n 1, 1) := by decide +kernel
theorem dX4_goesOn_208 : decode cX4_goesOn 208 = .ok (.iconst 3, 1) := by decide +kernel
theorem dX4_goesOn_209 : decode cX4_goesOn 209 = .ok (.iload_n 2, 1) := by decide +kernel
theorem dX4_goesOn_210 : decode cX4_goesOn 210 = .ok (.ifCond .ne 7, 3) := by decide +kernel
theorem dX4_goesOn_213 : decode cX4_goesOn 213 = .ok (.iconst 1, 1) := by decide +kernel
theorem dX4_goesOn_214 : decode cX4_goesOn 214 = .ok (.goto 4, 3) := by decide +kernel
theorem dX4_goesOn_217 : decode cX4_goesOn 217 = .ok (.iconst 0, 1) := by decide +kernel
theorem dX4_goesOn_218 : decode cX4_goesOn 218 = .ok (.invokevirtual 65, 3) := by decide +kernel
theorem dX4_goesOn_221 : decode cX4_goesOn 221 = .ok (.iinc 1 1, 3) := by decide +kernel
theorem dX4_goesOn_224 : decode cX4_goesOn 224 = .ok (.goto (-175), 3) := by decide +kernel
theorem dX4_goesOn_227 : decode cX4_goesOn 227 = .ok (.aload_n 0, 1) := by decide +kernel
theorem dX4_goesOn_228 : decode cX4_goesOn 228 = .ok (.getfield 7, 3) := by decide +kernel
theorem dX4_goesOn_231 : decode cX4_goesOn 231 = .ok (.iconst 2, 1) := by decide +kernel
theorem dX4_goesOn_232 : decode cX4_goesOn 232 = .ok (.dup2, 1) := by decide +kernel
theorem dX4_goesOn_233 : decode cX4_goesOn 233 = .ok (.iaload, 1) := by decide +kernel
theorem dX4_goesOn_234 : decode cX4_goesOn 234 = .ok (.iconst 1, 1) := by decide +kernel
theorem dX4_goesOn_235 : decode cX4_goesOn 235 = .ok (.iadd, 1) := by decide +kernel
theorem dX4_goesOn_236 : decode cX4_goesOn 236 = .ok (.iastore, 1) := by decide +kernel
theorem dX4_goesOn_237 : decode cX4_goesOn 237 = .ok (.bipush 68, 2) := by decide +kernel
theorem dX4_goesOn_239 : decode cX4_goesOn 239 = .ok (.istore_n 1, 1) := by decide +kernel
theorem dX4_goesOn_240 : decode cX4_goesOn 240 = .ok (.iload_n 1, 1) := by decide +kernel
theorem dX4_goesOn_241 : decode cX4_goesOn 241 = .ok (.bipush 68, 2) := by decide +kernel
theorem dX4_goesOn_243 : decode cX4_goesOn 243 = .ok (.iconst 5, 1) := by decide +kernel
theorem dX4_goesOn_244 : decode cX4_goesOn 244 = .ok (.aload_n 0, 1) := by decide +kernel
theorem dX4_goesOn_245 : decode cX4_goesOn 245 = .ok (.getfield 7, 3) := by decide +kernel
theorem dX4_goesOn_248 : decode cX4_goesOn 248 = .ok (.iconst 1, 1) := by decide +kernel
theorem dX4_goesOn_249 : decode cX4_goesOn 249 = .ok (.iaload, 1) := by decide +kernel
theorem dX4_goesOn_250 : decode cX4_goesOn 250 = .ok (.imul, 1) := by decide +kernel
theorem dX4_goesOn_251 : decode cX4_goesOn 251 = .ok (.iadd, 1) := by decide +kernel
theorem dX4_goesOn_252 : decode cX4_goesOn 252 = .ok (.if_icmp .ge 73, 3) := by decide +kernel
theorem dX4_goesOn_255 : decode cX4_goesOn 255 = .ok (.aload_n 0, 1) := by decide +kernel
theorem dX4_goesOn_256 : decode cX4_goesOn 256 = .ok (.getfield 7, 3) := by decide +kernel
theorem dX4_goesOn_259 : decode cX4_goesOn 259 = .ok (.iload_n 1, 1) := by decide +kernel
theorem dX4_goesOn_260 : decode cX4_goesOn 260 = .ok (.iconst 3, 1) := by decide +kernel
theorem dX4_goesOn_261 : decode cX4_goesOn 261 = .ok (.iadd, 1) := by decide +kernel
theorem dX4_goesOn_262 : decode cX4_goesOn 262 = .ok (.iaload, 1) := by decide +kernel
theorem dX4_goesOn_263 : decode cX4_goesOn 263 = .ok (.aload_n 0, 1) := by decide +kernel
theorem dX4_goesOn_264 : decode cX4_goesOn 264 = .ok (.getfield 7, 3) := by decide +kernel
theorem dX4_goesOn_267 : decode cX4_goesOn 267 = .ok (.iconst 2, 1) := by decide +kernel
theorem dX4_goesOn_268 : decode cX4_goesOn 268 = .ok (.iaload, 1) := by decide +kernel
theorem dX4_goesOn_269 : decode cX4_goesOn 269 = .ok (.if_icmp .ne 50, 3) := by decide +kernel
theorem dX4_goesOn_272 : decode cX4_goesOn 272 = .ok (.aload_n 0, 1) := by decide +kernel
theorem dX4_goesOn_273 : decode cX4_goesOn 273 = .ok (.getfield 7, 3) := by decide +kernel
theorem dX4_goesOn_276 : decode cX4_goesOn 276 = .ok (.iload_n 1, 1) := by decide +kernel
theorem dX4_goesOn_277 : decode cX4_goesOn 277 = .ok (.iconst 4, 1) := by decide +kernel
theorem dX4_goesOn_278 : decode cX4_goesOn 278 = .ok (.iadd, 1) := by decide +kernel
theorem dX4_goesOn_279 : decode cX4_goesOn 279 = .ok (.iaload, 1) := by decide +kernel
theorem dX4_goesOn_280 : decode cX4_goesOn 280 = .ok (.ifCond .ne 39, 3) := by decide +kernel
theorem dX4_goesOn_283 : decode cX4_goesOn 283 = .ok (.aload_n 0, 1) := by decide +kernel
theorem dX4_goesOn_284 : decode cX4_goesOn 284 = .ok (.getfield 7, 3) := by decide +kernel
theorem dX4_goesOn_287 : decode cX4_goesOn 287 = .ok (.iload_n 1, 1) := by decide +kernel
theorem dX4_goesOn_288 : decode cX4_goesOn 288 = .ok (.iconst 4, 1) := by decide +kernel
theorem dX4_goesOn_289 : decode cX4_goesOn 289 = .ok (.iadd, 1) := by decide +kernel
theorem dX4_goesOn_290 : decode cX4_goesOn 290 = .ok (.iconst 1, 1) := by decide +kernel
theorem dX4_goesOn_291 : decode cX4_goesOn 291 = .ok (.iastore, 1) := by decide +kernel
theorem dX4_goesOn_292 : decode cX4_goesOn 292 = .ok (.aload_n 0, 1) := by decide +kernel
theorem dX4_goesOn_293 : decode cX4_goesOn 293 = .ok (.aload_n 0, 1) := by decide +kernel
theorem dX4_goesOn_294 : decode cX4_goesOn 294 = .ok (.getfield 7, 3) := by decide +kernel
theorem dX4_goesOn_297 : decode cX4_goesOn 297 = .ok (.iload_n 1, 1) := by decide +kernel
theorem dX4_goesOn_298 : decode cX4_goesOn 298 = .ok (.iaload, 1) := by decide +kernel
theorem dX4_goesOn_299 : decode cX4_goesOn 299 = .ok (.aload_n 0, 1) := by decide +kernel
theorem dX4_goesOn_300 : decode cX4_goesOn 300 = .ok (.getfield 7, 3) := by decide +kernel
theorem dX4_goesOn_303 : decode cX4_goesOn 303 = .ok (.iload_n 1, 1) := by decide +kernel
theorem dX4_goesOn_304 : decode cX4_goesOn 304 = .ok (.iconst 1, 1) := by decide +kernel
theorem dX4_goesOn_305 : decode cX4_goesOn 305 = .ok (.iadd, 1) := by decide +kernel
theorem dX4_goesOn_306 : decode cX4_goesOn 306 = .ok (.iaload, 1) := by decide +kernel
theorem dX4_goesOn_307 : decode cX4_goesOn 307 = .ok (.aload_n 0, 1) := by decide +kernel
theorem dX4_goesOn_308 : decode cX4_goesOn 308 = .ok (.getfield 7, 3) := by decide +kernel
theorem dX4_goesOn_311 : decode cX4_goesOn 311 = .ok (.iload_n 1, 1) := by decide +kernel
theorem dX4_goesOn_312 : decode cX4_goesOn 312 = .ok (.iconst 2, 1) := by decide +kernel
theorem dX4_goesOn_313 : decode cX4_goesOn 313 = .ok (.iadd, 1) := by decide +kernel
theorem dX4_goesOn_314 : decode cX4_goesOn 314 = .ok (.iaload, 1) := by decide +kernel
theorem dX4_goesOn_315 : decode cX4_goesOn 315 = .ok (.invokevirtual 134, 3) := by decide +kernel
theorem dX4_goesOn_318 : decode cX4_goesOn 318 = .ok (.istore_n 2, 1) := by decide +kernel
theorem dX4_goesOn_319 : decode cX4_goesOn 319 = .ok (.iinc 1 5, 3) := by decide +kernel
theorem dX4_goesOn_322 : decode cX4_goesOn 322 = .ok (.goto (-82), 3) := by decide +kernel
theorem dX4_goesOn_325 : decode cX4_goesOn 325 = .ok (.return_, 1) := by decide +kernel
theorem dX4_goesOnMany_0 : decode cX4_goesOnMany 0 = .ok (.iconst 0, 1) := by decide +kernel
theorem dX4_goesOnMany_1 : decode cX4_goesOnMany 1 = .ok (.istore_n 2, 1) := by decide +kernel
theorem dX4_goesOnMany_2 : decode cX4_goesOnMany 2 = .ok (.iload_n 2, 1) := by decide +kernel
theorem dX4_goesOnMany_3 : decode cX4_goesOnMany 3 = .ok (.iload_n 1, 1) := by decide +kernel
theorem dX4_goesOnMany_4 : decode cX4_goesOnMany 4 = .ok (.if_icmp .ge 13, 3) := by decide +kernel
theorem dX4_goesOnMany_7 : decode cX4_goesOnMany 7 = .ok (.aload_n 0, 1) := by decide +kernel
theorem dX4_goesOnMany_8 : decode cX4_goesOnMany 8 = .ok (.invokevirtual 146, 3) := by decide +kernel
theorem dX4_goesOnMany_11 : decode cX4_goesOnMany 11 = .ok (.iinc 2 1, 3) := by decide +kernel
theorem dX4_goesOnMany_14 : decode cX4_goesOnMany 14 = .ok (.goto (-12), 3) := by decide +kernel
theorem dX4_goesOnMany_17 : decode cX4_goesOnMany 17 = .ok (.return_, 1) := by decide +kernel
theorem dX4_months_0 : decode cX4_months 0 = .ok (.iload_n 1, 1) := by decide +kernel
theorem dX4_months_1 : decode cX4_months 1 = .ok (.i2l, 1) := by decide +kernel
theorem dX4_months_2 : decode cX4_months 2 = .ok (.lconst 1, 1) := by decide +kernel
theorem dX4_months_3 : decode cX4_months 3 = .ok (.ldc2_w 137, 3) := by decide +kernel
theorem dX4_months_6 : decode cX4_months 6 = .ok (.invokestatic 49, 3) := by decide +kernel
theorem dX4_months_9 : decode cX4_months 9 = .ok (.ifCond .ne 10, 3) := by decide +kernel
theorem dX4_months_12 : decode cX4_months 12 = .ok (.aload_n 0, 1) := by decide +kernel
theorem dX4_months_13 : decode cX4_months 13 = .ok (.ldc 42, 2) := by decide +kernel
theorem dX4_months_15 : decode cX4_months 15 = .ok (.invokevirtual 57, 3) := by decide +kernel
theorem dX4_months_18 : decode cX4_months 18 = .ok (.ireturn, 1) := by decide +kernel
theorem dX4_months_19 : decode cX4_months 19 = .ok (.aload_n 0, 1) := by decide +kernel
theorem dX4_months_20 : decode cX4_months 20 = .ok (.iload_n 1, 1) := by decide +kernel
theorem dX4_months_21 : decode cX4_months 21 = .ok (.invokevirtual 139, 3) := by decide +kernel
theorem dX4_months_24 : decode cX4_months 24 = .ok (.ifCond .eq 10, 3) := by decide +kernel
theorem dX4_months_27 : decode cX4_months 27 = .ok (.aload_n 0, 1) := by decide +kernel
theorem dX4_months_28 : decode cX4_months 28 = .ok (.ldc 119, 2) := by decide +kernel
theorem dX4_months_30 : decode cX4_months 30 = .ok (.invokevirtual 57, 3) := by decide +kernel
theorem dX4_months_33 : decode cX4_months 33 = .ok (.ireturn, 1) := by decide +kernel
theorem dX4_months_34 : decode cX4_months 34 = .ok (.aload_n 0, 1) := by decide +kernel
theorem dX4_months_35 : decode cX4_months 35 = .ok (.iconst 1, 1) := by decide +kernel
theorem dX4_months_36 : decode cX4_months 36 = .ok (.invokevirtual 149, 3) := by decide +kernel
theorem dX4_months_39 : decode cX4_months 39 = .ok (.istore_n 2, 1) := by decide +kernel
theorem dX4_months_40 : decode cX4_months 40 = .ok (.aload_n 0, 1) := by decide +kernel
theorem dX4_months_41 : decode cX4_months 41 = .ok (.iload_n 1, 1) := by decide +kernel
theorem dX4_months_42 : decode cX4_months 42 = .ok (.invokevirtual 152, 3) := by decide +kernel
theorem dX4_months_45 : decode cX4_months 45 = .ok (.aload_n 0, 1) := by decide +kernel
theorem dX4_months_46 : decode cX4_months 46 = .ok (.iconst 1, 1) := by decide +kernel
theorem dX4_months_47 : decode cX4_months 47 = .ok (.invokevirtual 149, 3) := by decide +kernel
theorem dX4_months_50 : decode cX4_months 50 = .ok (.iload_n 2, 1) := by decide +kernel
theorem dX4_months_51 : decode cX4_months 51 = .ok (.isub, 1) := by decide +kernel
theorem dX4_months_52 : decode cX4_months 52 = .ok (.ireturn, 1) := by decide +kernel
theorem dX4_now_0 : decode cX4_now 0 = .ok (.iload_n 1, 1) := by decide +kernel
theorem dX4_now_1 : decode cX4_now 1 = .ok (.tableswitch 76 0 5 #[39, 46, 51, 58, 64, 70], 39) := by decide +kernel
theorem dX4_now_40 : decode cX4_now 40 = .ok (.aload_n 0, 1) := by decide +kernel
theorem dX4_now_41 : decode cX4_now 41 = .ok (.getfield 7, 3) := by decide +kernel
theorem dX4_now_44 : decode cX4_now 44 = .ok (.iconst 2, 1) := by decide +kernel
theorem dX4_now_45 : decode cX4_now 45 = .ok (.iaload, 1) := by decide +kernel
theorem dX4_now_46 : decode cX4_now 46 = .ok (.ireturn, 1) := by decide +kernel
theorem dX4_now_47 : decode cX4_now 47 = .ok (.aload_n 0, 1) := by decide +kernel
theorem dX4_now_48 : decode cX4_now 48 = .ok (.invokevirtual 76, 3) := by decide +kernel
theorem dX4_now_51 : decode cX4_now 51 = .ok (.ireturn, 1) := by decide +kernel
theorem dX4_now_52 : decode cX4_now 52 = .ok (.aload_n 0, 1) := by decide +kernel
theorem dX4_now_53 : decode cX4_now 53 = .ok (.getfield 7, 3) := by decide +kernel
theorem dX4_now_56 : decode cX4_now 56 = .ok (.iconst 3, 1) := by decide +kernel
theorem dX4_now_57 : decode cX4_now 57 = .ok (.iaload, 1) := by decide +kernel
theorem dX4_now_58 : decode cX4_now 58 = .ok (.ireturn, 1) := by decide +kernel
theorem dX4_now_59 : decode cX4_now 59 = .ok (.aload_n 0, 1) := by decide +kernel
theorem dX4_now_60 : decode cX4_now 60 = .ok (.iconst 0, 1) := by decide +kernel
theorem dX4_now_61 : decode cX4_now 61 = .ok (.invokevirtual 149, 3) := by decide +kernel
theorem dX4_now_64 : decode cX4_now 64 = .ok (.ireturn, 1) := by decide +kernel
theorem dX4_now_65 : decode cX4_now 65 = .ok (.aload_n 0, 1) := by decide +kernel
theorem dX4_now_66 : decode cX4_now 66 = .ok (.iconst 1, 1) := by decide +kernel
theorem dX4_now_67 : decode cX4_now 67 = .ok (.invokevirtual 149, 3) := by decide +kernel
theorem dX4_now_70 : decode cX4_now 70 = .ok (.ireturn, 1) := by decide +kernel
theorem dX4_now_71 : decode cX4_now 71 = .ok (.aload_n 0, 1) := by decide +kernel
theorem dX4_now_72 : decode cX4_now 72 = .ok (.iconst 2, 1) := by decide +kernel
theorem dX4_now_73 : decode cX4_now 73 = .ok (.invokevirtual 149, 3) := by decide +kernel
theorem dX4_now_76 : decode cX4_now 76 = .ok (.ireturn, 1) := by decide +kernel
theorem dX4_now_77 : decode cX4_now 77 = .ok (.aload_n 0, 1) := by decide +kernel
theorem dX4_now_78 : decode cX4_now 78 = .ok (.ldc 42, 2) := by decide +kernel
theorem dX4_now_80 : decode cX4_now 80 = .ok (.invokevirtual 57, 3) := by decide +kernel
theorem dX4_now_83 : decode cX4_now 83 = .ok (.ireturn, 1) := by decide +kernel
theorem dX4_laysBy_0 : decode cX4_laysBy 0 = .ok (.aload_n 0, 1) := by decide +kernel
theorem dX4_laysBy_1 : decode cX4_laysBy 1 = .ok (.getfield 7, 3) := by decide +kernel
theorem dX4_laysBy_4 : decode cX4_laysBy 4 = .ok (.aload_n 0, 1) := by decide +kernel
theorem dX4_laysBy_5 : decode cX4_laysBy 5 = .ok (.getfield 16, 3) := by decide +kernel
theorem dX4_laysBy_8 : decode cX4_laysBy 8 = .ok (.invokestatic 156, 3) := by decide +kernel
theorem dX4_laysBy_11 : decode cX4_laysBy 11 = .ok (.return_, 1) := by decide +kernel
theorem dX4_laysBack_0 : decode cX4_laysBack 0 = .ok (.aload_n 0, 1) := by decide +kernel
theorem dX4_laysBack_1 : decode cX4_laysBack 1 = .ok (.getfield 16, 3) := by decide +kernel
theorem dX4_laysBack_4 : decode cX4_laysBack 4 = .ok (.aload_n 0, 1) := by decide +kernel
theorem dX4_laysBack_5 : decode cX4_laysBack 5 = .ok (.getfield 7, 3) := by decide +kernel
theorem dX4_laysBack_8 : decode cX4_laysBack 8 = .ok (.invokestatic 156, 3) := by decide +kernel
theorem dX4_laysBack_11 : decode cX4_laysBack 11 = .ok (.return_, 1) := by decide +kernel
theorem dX4_on_0 : decode cX4_on 0 = .ok (.aload_n 0, 1) := by decide +kernel
theorem dX4_on_1 : decode cX4_on 1 = .ok (.iload_n 1, 1) := by decide +kernel
theorem dX4_on_2 : decode cX4_on 2 = .ok (.invokevirtual 87, 3) := by decide +kernel
theorem dX4_on_5 : decode cX4_on 5 = .ok (.ifCond .eq 15, 3) := by decide +kernel
theorem dX4_on_8 : decode cX4_on 8 = .ok (.iload_n 2, 1) := by decide +kernel
theorem dX4_on_9 : decode cX4_on 9 = .ok (.i2l, 1) := by decide +kernel
theorem dX4_on_10 : decode cX4_on 10 = .ok (.lconst 0, 1) := by decide +kernel
theorem dX4_on_11 : decode cX4_on 11 = .ok (.ldc2_w 137, 3) := by decide +kernel
theorem dX4_on_14 : decode cX4_on 14 = .ok (.invokestatic 49, 3) := by decide +kernel
theorem dX4_on_17 : decode cX4_on 17 = .ok (.ifCond .ne 10, 3) := by decide +kernel
theorem dX4_on_20 : decode cX4_on 20 = .ok (.aload_n 0, 1) := by decide +kernel
theorem dX4_on_21 : decode cX4_on 21 = .ok (.ldc 42, 2) := by decide +kernel
theorem dX4_on_23 : decode cX4_on 23 = .ok (.invokevirtual 57, 3) := by decide +kernel
theorem dX4_on_26 : decode cX4_on 26 = .ok (.ireturn, 1) := by decide +kernel
theorem dX4_on_27 : decode cX4_on 27 = .ok (.aload_n 0, 1) := by decide +kernel
theorem dX4_on_28 : decode cX4_on 28 = .ok (.iload_n 2, 1) := by decide +kernel
theorem dX4_on_29 : decode cX4_on 29 = .ok (.invokevirtual 139, 3) := by decide +kernel
theorem dX4_on_32 : decode cX4_on 32 = .ok (.ifCond .eq 10, 3) := by decide +kernel
theorem dX4_on_35 : decode cX4_on 35 = .ok (.aload_n 0, 1) := by decide +kernel
theorem dX4_on_36 : decode cX4_on 36 = .ok (.ldc 119, 2) := by decide +kernel
theorem dX4_on_38 : decode cX4_on 38 = .ok (.invokevirtual 57, 3) := by decide +kernel
theorem dX4_on_41 : decode cX4_on 41 = .ok (.ireturn, 1) := by decide +kernel
theorem dX4_on_42 : decode cX4_on 42 = .ok (.aload_n 0, 1) := by decide +kernel
theorem dX4_on_43 : decode cX4_on 43 = .ok (.invokevirtual 160, 3) := by decide +kernel
theorem dX4_on_46 : decode cX4_on 46 = .ok (.aload_n 0, 1) := by decide +kernel
theorem dX4_on_47 : decode cX4_on 47 = .ok (.iload_n 2, 1) := by decide +kernel
theorem dX4_on_48 : decode cX4_on 48 = .ok (.invokevirtual 152, 3) := by decide +kernel
theorem dX4_on_51 : decode cX4_on 51 = .ok (.aload_n 0, 1) := by decide +kernel
theorem dX4_on_52 : decode cX4_on 52 = .ok (.iload_n 1, 1) := by decide +kernel
theorem dX4_on_53 : decode cX4_on 53 = .ok (.iconst 2, 1) := by decide +kernel
theorem dX4_on_54 : decode cX4_on 54 = .ok (.invokevirtual 84, 3) := by decide +kernel
theorem dX4_on_57 : decode cX4_on 57 = .ok (.istore_n 3, 1) := by decide +kernel
theorem dX4_on_58 : decode cX4_on 58 = .ok (.aload_n 0, 1) := by decide +kernel
theorem dX4_on_59 : decode cX4_on 59 = .ok (.invokevirtual 163, 3) := by decide +kernel
theorem dX4_on_62 : decode cX4_on 62 = .ok (.iload_n 3, 1) := by decide +kernel
theorem dX4_on_63 : decode cX4_on 63 = .ok (.ireturn, 1) := by decide +kernel
theorem dX4_purseOn_0 : decode cX4_purseOn 0 = .ok (.iload_n 1, 1) := by decide +kernel
theorem dX4_purseOn_1 : decode cX4_purseOn 1 = .ok (.invokestatic 43, 3) := by decide +kernel
theorem dX4_purseOn_4 : decode cX4_purseOn 4 = .ok (.ifCond .eq 15, 3) := by decide +kernel
theorem dX4_purseOn_7 : decode cX4_purseOn 7 = .ok (.iload_n 2, 1) := by decide +kernel
theorem dX4_purseOn_8 : decode cX4_purseOn 8 = .ok (.i2l, 1) := by decide +kernel
theorem dX4_purseOn_9 : decode cX4_purseOn 9 = .ok (.lconst 0, 1) := by decide +kernel
theorem dX4_purseOn_10 : decode cX4_purseOn 10 = .ok (.ldc2_w 137, 3) := by decide +kernel
theorem dX4_purseOn_13 : decode cX4_purseOn 13 = .ok (.invokestatic 49, 3) := by decide +kernel
theorem dX4_purseOn_16 : decode cX4_purseOn 16 = .ok (.ifCond .ne 10, 3) := by decide +kernel
theorem dX4_purseOn_19 : decode cX4_purseOn 19 = .ok (.aload_n 0, 1) := by decide +kernel
theorem dX4_purseOn_20 : decode cX4_purseOn 20 = .ok (.ldc 42, 2) := by decide +kernel
theorem dX4_purseOn_22 : decode cX4_purseOn 22 = .ok (.invokevirtual 57, 3) := by decide +kernel
theorem dX4_purseOn_25 : decode cX4_purseOn 25 = .ok (.ireturn, 1) := by decide +kernel
theorem dX4_purseOn_26 : decode cX4_purseOn 26 = .ok (.aload_n 0, 1) := by decide +kernel
theorem dX4_purseOn_27 : decode cX4_purseOn 27 = .ok (.iload_n 2, 1) := by decide +kernel
theorem dX4_purseOn_28 : decode cX4_purseOn 28 = .ok (.invokevirtual 139, 3) := by decide +kernel
theorem dX4_purseOn_31 : decode cX4_purseOn 31 = .ok (.ifCond .eq 10, 3) := by decide +kernel
theorem dX4_purseOn_34 : decode cX4_purseOn 34 = .ok (.aload_n 0, 1) := by decide +kernel
theorem dX4_purseOn_35 : decode cX4_purseOn 35 = .ok (.ldc 119, 2) := by decide +kernel
theorem dX4_purseOn_37 : decode cX4_purseOn 37 = .ok (.invokevirtual 57, 3) := by decide +kernel
theorem dX4_purseOn_40 : decode cX4_purseOn 40 = .ok (.ireturn, 1) := by decide +kernel
theorem dX4_purseOn_41 : decode cX4_purseOn 41 = .ok (.aload_n 0, 1) := by decide +kernel
theorem dX4_purseOn_42 : decode cX4_purseOn 42 = .ok (.invokevirtual 160, 3) := by decide +kernel
theorem dX4_purseOn_45 : decode cX4_purseOn 45 = .ok (.aload_n 0, 1) := by decide +kernel
theorem dX4_purseOn_46 : decode cX4_purseOn 46 = .ok (.iload_n 2, 1) := by decide +kernel
theorem dX4_purseOn_47 : decode cX4_purseOn 47 = .ok (.invokevirtual 152, 3) := by decide +kernel
theorem dX4_purseOn_50 : decode cX4_purseOn 50 = .ok (.aload_n 0, 1) := by decide +kernel
theorem dX4_purseOn_51 : decode cX4_purseOn 51 = .ok (.iload_n 1, 1) := by decide +kernel
theorem dX4_purseOn_52 : decode cX4_purseOn 52 = .ok (.invokevirtual 120, 3) := by decide +kernel
theorem dX4_purseOn_55 : decode cX4_purseOn 55 = .ok (.istore_n 3, 1) := by decide +kernel
theorem dX4_purseOn_56 : decode cX4_purseOn 56 = .ok (.aload_n 0, 1) := by decide +kernel
theorem dX4_purseOn_57 : decode cX4_purseOn 57 = .ok (.invokevirtual 163, 3) := by decide +kernel
theorem dX4_purseOn_60 : decode cX4_purseOn 60 = .ok (.iload_n 3, 1) := by decide +kernel
theorem dX4_purseOn_61 : decode cX4_purseOn 61 = .ok (.ireturn, 1) := by decide +kernel
theorem dX4_rich_0 : decode cX4_rich 0 = .ok (.iload_n 1, 1) := by decide +kernel
theorem dX4_rich_1 : decode cX4_rich 1 = .ok (.i2l, 1) := by decide +kernel
theorem dX4_rich_2 : decode cX4_rich 2 = .ok (.lconst 0, 1) := by decide +kernel
theorem dX4_rich_3 : decode cX4_rich 3 = .ok (.ldc2_w 137, 3) := by decide +kernel
theorem dX4_rich_6 : decode cX4_rich 6 = .ok (.invokestatic 49, 3) := by decide +kernel
theorem dX4_rich_9 : decode cX4_rich 9 = .ok (.ifCond .ne 10, 3) := by decide +kernel
theorem dX4_rich_12 : decode cX4_rich 12 = .ok (.aload_n 0, 1) := by decide +kernel
theorem dX4_rich_13 : decode cX4_rich 13 = .ok (.ldc 42, 2) := by decide +kernel
theorem dX4_rich_15 : decode cX4_rich 15 = .ok (.invokevirtual 57, 3) := by decide +kernel
theorem dX4_rich_18 : decode cX4_rich 18 = .ok (.ireturn, 1) := by decide +kernel
theorem dX4_rich_19 : decode cX4_rich 19 = .ok (.aload_n 0, 1) := by decide +kernel
theorem dX4_rich_20 : decode cX4_rich 20 = .ok (.iload_n 1, 1) := by decide +kernel
theorem dX4_rich_21 : decode cX4_rich 21 = .ok (.invokevirtual 139, 3) := by decide +kernel
theorem dX4_rich_24 : decode cX4_rich 24 = .ok (.ifCond .eq 10, 3) := by decide +kernel
theorem dX4_rich_27 : decode cX4_rich 27 = .ok (.aload_n 0, 1) := by decide +kernel
theorem dX4_rich_28 : decode cX4_rich 28 = .ok (.ldc 119, 2) := by decide +kernel
theorem dX4_rich_30 : decode cX4_rich 30 = .ok (.invokevirtual 57, 3) := by decide +kernel
theorem dX4_rich_33 : decode cX4_rich 33 = .ok (.ireturn, 1) := by decide +kernel
theorem dX4_rich_34 : decode cX4_rich 34 = .ok (.aload_n 0, 1) := by decide +kernel
theorem dX4_rich_35 : decode cX4_rich 35 = .ok (.invokevirtual 160, 3) := by decide +kernel
theorem dX4_rich_38 : decode cX4_rich 38 = .ok (.aload_n 0, 1) := by decide +kernel
theorem dX4_rich_39 : decode cX4_rich 39 = .ok (.iload_n 1, 1) := by decide +kernel
theorem dX4_rich_40 : decode cX4_rich 40 = .ok (.invokevirtual 152, 3) := by decide +kernel
theorem dX4_rich_43 : decode cX4_rich 43 = .ok (.iconst 0, 1) := by decide +kernel
theorem dX4_rich_44 : decode cX4_rich 44 = .ok (.istore_n 2, 1) := by decide +kernel
theorem dX4_rich_45 : decode cX4_rich 45 = .ok (.iconst 1, 1) := by decide +kernel
theorem dX4_rich_46 : decode cX4_rich 46 = .ok (.istore_n 3, 1) := by decide +kernel
theorem dX4_rich_47 : decode cX4_rich 47 = .ok (.iload_n 3, 1) := by decide +kernel
theorem dX4_rich_48 : decode cX4_rich 48 = .ok (.iconst 4, 1) := by decide +kernel
theorem dX4_rich_49 : decode cX4_rich 49 = .ok (.if_icmp .ge 28, 3) := by decide +kernel
theorem dX4_rich_52 : decode cX4_rich 52 = .ok (.aload_n 0, 1) := by decide +kernel
theorem dX4_rich_53 : decode cX4_rich 53 = .ok (.iload_n 3, 1) := by decide +kernel
theorem dX4_rich_54 : decode cX4_rich 54 = .ok (.invokevirtual 120, 3) := by decide +kernel
theorem dX4_rich_57 : decode cX4_rich 57 = .ok (.aload_n 0, 1) := by decide +kernel
theorem dX4_rich_58 : decode cX4_rich 58 = .ok (.iload_n 2, 1) := by decide +kernel
theorem dX4_rich_59 : decode cX4_rich 59 = .ok (.invokevirtual 120, 3) := by decide +kernel
theorem dX4_rich_62 : decode cX4_rich 62 = .ok (.if_icmp .le 7, 3) := by decide +kernel
theorem dX4_rich_65 : decode cX4_rich 65 = .ok (.iload_n 3, 1) := by decide +kernel
theorem dX4_rich_66 : decode cX4_rich 66 = .ok (.goto 4, 3) := by decide +kernel
theorem dX4_rich_69 : decode cX4_rich 69 = .ok (.iload_n 2, 1) := by decide +kernel
theorem dX4_rich_70 : decode cX4_rich 70 = .ok (.istore_n 2, 1) := by decide +kernel
theorem dX4_rich_71 : decode cX4_rich 71 = .ok (.iinc 3 1, 3) := by decide +kernel
theorem dX4_rich_74 : decode cX4_rich 74 = .ok (.goto (-27), 3) := by decide +kernel
theorem dX4_rich_77 : decode cX4_rich 77 = .ok (.aload_n 0, 1) := by decide +kernel
theorem dX4_rich_78 : decode cX4_rich 78 = .ok (.invokevirtual 163, 3) := by decide +kernel
theorem dX4_rich_81 : decode cX4_rich 81 = .ok (.iload_n 2, 1) := by decide +kernel
theorem dX4_rich_82 : decode cX4_rich 82 = .ok (.ireturn, 1) := by decide +kernel
theorem dX4_rots_0 : decode cX4_rots 0 = .ok (.aload_n 0, 1) := by decide +kernel
theorem dX4_rots_1 : decode cX4_rots 1 = .ok (.iload_n 1, 1) := by decide +kernel
theorem dX4_rots_2 : decode cX4_rots 2 = .ok (.invokevirtual 87, 3) := by decide +kernel
theorem dX4_rots_5 : decode cX4_rots 5 = .ok (.ifCond .ne 10, 3) := by decide +kernel
theorem dX4_rots_8 : decode cX4_rots 8 = .ok (.aload_n 0, 1) := by decide +kernel
theorem dX4_rots_9 : decode cX4_rots 9 = .ok (.ldc 42, 2) := by decide +kernel
theorem dX4_rots_11 : decode cX4_rots 11 = .ok (.invokevirtual 57, 3) := by decide +kernel
theorem dX4_rots_14 : decode cX4_rots 14 = .ok (.ireturn, 1) := by decide +kernel
theorem dX4_rots_15 : decode cX4_rots 15 = .ok (.aload_n 0, 1) := by decide +kernel
theorem dX4_rots_16 : decode cX4_rots 16 = .ok (.bipush 120, 2) := by decide +kernel
theorem dX4_rots_18 : decode cX4_rots 18 = .ok (.invokevirtual 139, 3) := by decide +kernel
theorem dX4_rots_21 : decode cX4_rots 21 = .ok (.ifCond .eq 10, 3) := by decide +kernel
theorem dX4_rots_24 : decode cX4_rots 24 = .ok (.aload_n 0, 1) := by decide +kernel
theorem dX4_rots_25 : decode cX4_rots 25 = .ok (.ldc 119, 2) := by decide +kernel
theorem dX4_rots_27 : decode cX4_rots 27 = .ok (.invokevirtual 57, 3) := by decide +kernel
theorem dX4_rots_30 : decode cX4_rots 30 = .ok (.ireturn, 1) := by decide +kernel
theorem dX4_rots_31 : decode cX4_rots 31 = .ok (.aload_n 0, 1) := by decide +kernel
theorem dX4_rots_32 : decode cX4_rots 32 = .ok (.invokevirtual 160, 3) := by decide +kernel
theorem dX4_rots_35 : decode cX4_rots 35 = .ok (.iconst (-1), 1) := by decide +kernel
theorem dX4_rots_36 : decode cX4_rots 36 = .ok (.istore_n 2, 1) := by decide +kernel
theorem dX4_rots_37 : decode cX4_rots 37 = .ok (.iconst 0, 1) := by decide +kernel
theorem dX4_rots_38 : decode cX4_rots 38 = .ok (.istore_n 3, 1) := by decide +kernel
theorem dX4_rots_39 : decode cX4_rots 39 = .ok (.iload_n 3, 1) := by decide +kernel
theorem dX4_rots_40 : decode cX4_rots 40 = .ok (.bipush 120, 2) := by decide +kernel
theorem dX4_rots_42 : decode cX4_rots 42 = .ok (.if_icmp .gt 33, 3) := by decide +kernel
theorem dX4_rots_45 : decode cX4_rots 45 = .ok (.iload_n 2, 1) := by decide +kernel
theorem dX4_rots_46 : decode cX4_rots 46 = .ok (.ifCond .ge 29, 3) := by decide +kernel
theorem dX4_rots_49 : decode cX4_rots 49 = .ok (.aload_n 0, 1) := by decide +kernel
theorem dX4_rots_50 : decode cX4_rots 50 = .ok (.iload_n 1, 1) := by decide +kernel
theorem dX4_rots_51 : decode cX4_rots 51 = .ok (.iconst 3, 1) := by decide +kernel
theorem dX4_rots_52 : decode cX4_rots 52 = .ok (.invokevirtual 84, 3) := by decide +kernel
theorem dX4_rots_55 : decode cX4_rots 55 = .ok (.iconst 1, 1) := by decide +kernel
theorem dX4_rots_56 : decode cX4_rots 56 = .ok (.if_icmp .ne 7, 3) := by decide +kernel
theorem dX4_rots_59 : decode cX4_rots 59 = .ok (.iload_n 3, 1) := by decide +kernel
theorem dX4_rots_60 : decode cX4_rots 60 = .ok (.goto 4, 3) := by decide +kernel
theorem dX4_rots_63 : decode cX4_rots 63 = .ok (.iconst (-1), 1) := by decide +kernel
theorem dX4_rots_64 : decode cX4_rots 64 = .ok (.istore_n 2, 1) := by decide +kernel
theorem dX4_rots_65 : decode cX4_rots 65 = .ok (.aload_n 0, 1) := by decide +kernel
theorem dX4_rots_66 : decode cX4_rots 66 = .ok (.invokevirtual 146, 3) := by decide +kernel
theorem dX4_rots_69 : decode cX4_rots 69 = .ok (.iinc 3 1, 3) := by decide +kernel
theorem dX4_rots_72 : decode cX4_rots 72 = .ok (.goto (-33), 3) := by decide +kernel
theorem dX4_rots_75 : decode cX4_rots 75 = .ok (.aload_n 0, 1) := by decide +kernel
theorem dX4_rots_76 : decode cX4_rots 76 = .ok (.invokevirtual 163, 3) := by decide +kernel
theorem dX4_rots_79 : decode cX4_rots 79 = .ok (.iload_n 2, 1) := by decide +kernel
theorem dX4_rots_80 : decode cX4_rots 80 = .ok (.ifCond .ge 12, 3) := by decide +kernel
theorem dX4_rots_83 : decode cX4_rots 83 = .ok (.aload_n 0, 1) := by decide +kernel
theorem dX4_rots_84 : decode cX4_rots 84 = .ok (.ldc 166, 2) := by decide +kernel
theorem dX4_rots_86 : decode cX4_rots 86 = .ok (.invokevirtual 57, 3) := by decide +kernel
theorem dX4_rots_89 : decode cX4_rots 89 = .ok (.goto 4, 3) := by decide +kernel
theorem dX4_rots_92 : decode cX4_rots 92 = .ok (.iload_n 2, 1) := by decide +kernel
theorem dX4_rots_93 : decode cX4_rots 93 = .ok (.ireturn, 1) := by decide +kernel
theorem dX4_when_0 : decode cX4_when 0 = .ok (.aload_n 0, 1) := by decide +kernel
theorem dX4_when_1 : decode cX4_when 1 = .ok (.iload_n 1, 1) := by decide +kernel
theorem dX4_when_2 : decode cX4_when 2 = .ok (.invokevirtual 87, 3) := by decide +kernel
theorem dX4_when_5 : decode cX4_when 5 = .ok (.ifCond .ne 10, 3) := by decide +kernel
theorem dX4_when_8 : decode cX4_when 8 = .ok (.aload_n 0, 1) := by decide +kernel
theorem dX4_when_9 : decode cX4_when 9 = .ok (.ldc 42, 2) := by decide +kernel
theorem dX4_when_11 : decode cX4_when 11 = .ok (.invokevirtual 57, 3) := by decide +kernel
theorem dX4_when_14 : decode cX4_when 14 = .ok (.ireturn, 1) := by decide +kernel
theorem dX4_when_15 : decode cX4_when 15 = .ok (.aload_n 0, 1) := by decide +kernel
theorem dX4_when_16 : decode cX4_when 16 = .ok (.bipush 24, 2) := by decide +kernel
theorem dX4_when_18 : decode cX4_when 18 = .ok (.invokevirtual 139, 3) := by decide +kernel
theorem dX4_when_21 : decode cX4_when 21 = .ok (.ifCond .eq 10, 3) := by decide +kernel
theorem dX4_when_24 : decode cX4_when 24 = .ok (.aload_n 0, 1) := by decide +kernel
theorem dX4_when_25 : decode cX4_when 25 = .ok (.ldc 119, 2) := by decide +kernel
theorem dX4_when_27 : decode cX4_when 27 = .ok (.invokevirtual 57, 3) := by decide +kernel
theorem dX4_when_30 : decode cX4_when 30 = .ok (.ireturn, 1) := by decide +kernel
theorem dX4_when_31 : decode cX4_when 31 = .ok (.aload_n 0, 1) := by decide +kernel
theorem dX4_when_32 : decode cX4_when 32 = .ok (.invokevirtual 160, 3) := by decide +kernel
theorem dX4_when_35 : decode cX4_when 35 = .ok (.iconst 0, 1) := by decide +kernel
theorem dX4_when_36 : decode cX4_when 36 = .ok (.istore_n 2, 1) := by decide +kernel
theorem dX4_when_37 : decode cX4_when 37 = .ok (.iconst (-1), 1) := by decide +kernel
theorem dX4_when_38 : decode cX4_when 38 = .ok (.istore_n 3, 1) := by decide +kernel
theorem dX4_when_39 : decode cX4_when 39 = .ok (.iconst 0, 1) := by decide +kernel
theorem dX4_when_40 : decode cX4_when 40 = .ok (.istore 4, 2) := by decide +kernel
theorem dX4_when_42 : decode cX4_when 42 = .ok (.iload 4, 2) := by decide +kernel
theorem dX4_when_44 : decode cX4_when 44 = .ok (.bipush 24, 2) := by decide +kernel
theorem dX4_when_46 : decode cX4_when 46 = .ok (.if_icmp .gt 46, 3) := by decide +kernel
theorem dX4_when_49 : decode cX4_when 49 = .ok (.aload_n 0, 1) := by decide +kernel
theorem dX4_when_50 : decode cX4_when 50 = .ok (.iload_n 1, 1) := by decide +kernel
theorem dX4_when_51 : decode cX4_when 51 = .ok (.invokevirtual 92, 3) := by decide +kernel
theorem dX4_when_54 : decode cX4_when 54 = .ok (.istore 5, 2) := by decide +kernel
theorem dX4_when_56 : decode cX4_when 56 = .ok (.iload 5, 2) := by decide +kernel
theorem dX4_when_58 : decode cX4_when 58 = .ok (.iload_n 3, 1) := by decide +kernel
theorem dX4_when_59 : decode cX4_when 59 = .ok (.if_icmp .le 8, 3) := by decide +kernel
theorem dX4_when_62 : decode cX4_when 62 = .ok (.iload 4, 2) := by decide +kernel
theorem dX4_when_64 : decode cX4_when 64 = .ok (.goto 4, 3) := by decide +kernel
theorem dX4_when_67 : decode cX4_when 67 = .ok (.iload_n 2, 1) := by decide +kernel
theorem dX4_when_68 : decode cX4_when 68 = .ok (.istore_n 2, 1) := by decide +kernel
theorem dX4_when_69 : decode cX4_when 69 = .ok (.iload 5, 2) := by decide +kernel
theorem dX4_when_71 : decode cX4_when 71 = .ok (.iload_n 3, 1) := by decide +kernel
theorem dX4_when_72 : decode cX4_when 72 = .ok (.if_icmp .le 8, 3) := by decide +kernel
theorem dX4_when_75 : decode cX4_when 75 = .ok (.iload 5, 2) := by decide +kernel
theorem dX4_when_77 : decode cX4_when 77 = .ok (.goto 4, 3) := by decide +kernel
theorem dX4_when_80 : decode cX4_when 80 = .ok (.iload_n 3, 1) := by decide +kernel
theorem dX4_when_81 : decode cX4_when 81 = .ok (.istore_n 3, 1) := by decide +kernel
theorem dX4_when_82 : decode cX4_when 82 = .ok (.aload_n 0, 1) := by decide +kernel
theorem dX4_when_83 : decode cX4_when 83 = .ok (.invokevirtual 146, 3) := by decide +kernel
theorem dX4_when_86 : decode cX4_when 86 = .ok (.iinc 4 1, 3) := by decide +kernel
theorem dX4_when_89 : decode cX4_when 89 = .ok (.goto (-47), 3) := by decide +kernel
theorem dX4_when_92 : decode cX4_when 92 = .ok (.aload_n 0, 1) := by decide +kernel
theorem dX4_when_93 : decode cX4_when 93 = .ok (.invokevirtual 163, 3) := by decide +kernel
theorem dX4_when_96 : decode cX4_when 96 = .ok (.iload_n 2, 1) := by decide +kernel
theorem dX4_when_97 : decode cX4_when 97 = .ok (.ireturn, 1) := by decide +kernel
theorem dX4_lacks_0 : decode cX4_lacks 0 = .ok (.iload_n 1, 1) := by decide +kernel
theorem dX4_lacks_1 : decode cX4_lacks 1 = .ok (.i2l, 1) := by decide +kernel
theorem dX4_lacks_2 : decode cX4_lacks 2 = .ok (.lconst 0, 1) := by decide +kernel
theorem dX4_lacks_3 : decode cX4_lacks 3 = .ok (.ldc2_w 137, 3) := by decide +kernel
theorem dX4_lacks_6 : decode cX4_lacks 6 = .ok (.invokestatic 49, 3) := by decide +kernel
theorem dX4_lacks_9 : decode cX4_lacks 9 = .ok (.ifCond .ne 10, 3) := by decide +kernel
theorem dX4_lacks_12 : decode cX4_lacks 12 = .ok (.aload_n 0, 1) := by decide +kernel
theorem dX4_lacks_13 : decode cX4_lacks 13 = .ok (.ldc 42, 2) := by decide +kernel
theorem dX4_lacks_15 : decode cX4_lacks 15 = .ok (.invokevirtual 57, 3) := by decide +kernel
theorem dX4_lacks_18 : decode cX4_lacks 18 = .ok (.ireturn, 1) := by decide +kernel
theorem dX4_lacks_19 : decode cX4_lacks 19 = .ok (.aload_n 0, 1) := by decide +kernel
theorem dX4_lacks_20 : decode cX4_lacks 20 = .ok (.iload_n 1, 1) := by decide +kernel
theorem dX4_lacks_21 : decode cX4_lacks 21 = .ok (.invokevirtual 139, 3) := by decide +kernel
theorem dX4_lacks_24 : decode cX4_lacks 24 = .ok (.ifCond .eq 10, 3) := by decide +kernel
theorem dX4_lacks_27 : decode cX4_lacks 27 = .ok (.aload_n 0, 1) := by decide +kernel
theorem dX4_lacks_28 : decode cX4_lacks 28 = .ok (.ldc 119, 2) := by decide +kernel
theorem dX4_lacks_30 : decode cX4_lacks 30 = .ok (.invokevirtual 57, 3) := by decide +kernel
theorem dX4_lacks_33 : decode cX4_lacks 33 = .ok (.ireturn, 1) := by decide +kernel
theorem dX4_lacks_34 : decode cX4_lacks 34 = .ok (.aload_n 0, 1) := by decide +kernel
theorem dX4_lacks_35 : decode cX4_lacks 35 = .ok (.invokevirtual 160, 3) := by decide +kernel
theorem dX4_lacks_38 : decode cX4_lacks 38 = .ok (.aload_n 0, 1) := by decide +kernel
theorem dX4_lacks_39 : decode cX4_lacks 39 = .ok (.iload_n 1, 1) := by decide +kernel
theorem dX4_lacks_40 : decode cX4_lacks 40 = .ok (.invokevirtual 152, 3) := by decide +kernel
theorem dX4_lacks_43 : decode cX4_lacks 43 = .ok (.aload_n 0, 1) := by decide +kernel
theorem dX4_lacks_44 : decode cX4_lacks 44 = .ok (.getfield 7, 3) := by decide +kernel
theorem dX4_lacks_47 : decode cX4_lacks 47 = .ok (.iconst 3, 1) := by decide +kernel
theorem dX4_lacks_48 : decode cX4_lacks 48 = .ok (.iaload, 1) := by decide +kernel
theorem dX4_lacks_49 : decode cX4_lacks 49 = .ok (.istore_n 2, 1) := by decide +kernel
theorem dX4_lacks_50 : decode cX4_lacks 50 = .ok (.aload_n 0, 1) := by decide +kernel
theorem dX4_lacks_51 : decode cX4_lacks 51 = .ok (.invokevirtual 163, 3) := by decide +kernel
theorem dX4_lacks_54 : decode cX4_lacks 54 = .ok (.iload_n 2, 1) := by decide +kernel
theorem dX4_lacks_55 : decode cX4_lacks 55 = .ok (.aload_n 0, 1) := by decide +kernel
theorem dX4_lacks_56 : decode cX4_lacks 56 = .ok (.getfield 7, 3) := by decide +kernel
theorem dX4_lacks_59 : decode cX4_lacks 59 = .ok (.iconst 3, 1) := by decide +kernel
theorem dX4_lacks_60 : decode cX4_lacks 60 = .ok (.iaload, 1) := by decide +kernel
theorem dX4_lacks_61 : decode cX4_lacks 61 = .ok (.isub, 1) := by decide +kernel
theorem dX4_lacks_62 : decode cX4_lacks 62 = .ok (.ireturn, 1) := by decide +kernel
theorem dX4_worthOn_0 : decode cX4_worthOn 0 = .ok (.aload_n 0, 1) := by decide +kernel
theorem dX4_worthOn_1 : decode cX4_worthOn 1 = .ok (.iload_n 2, 1) := by decide +kernel
theorem dX4_worthOn_2 : decode cX4_worthOn 2 = .ok (.invokevirtual 152, 3) := by decide +kernel
theorem dX4_worthOn_5 : decode cX4_worthOn 5 = .ok (.aload_n 0, 1) := by decide +kernel
theorem dX4_worthOn_6 : decode cX4_worthOn 6 = .ok (.iload_n 1, 1) := by decide +kernel
theorem dX4_worthOn_7 : decode cX4_worthOn 7 = .ok (.invokevirtual 92, 3) := by decide +kernel
theorem dX4_worthOn_10 : decode cX4_worthOn 10 = .ok (.istore_n 3, 1) := by decide +kernel
theorem dX4_worthOn_11 : decode cX4_worthOn 11 = .ok (.aload_n 0, 1) := by decide +kernel
theorem dX4_worthOn_12 : decode cX4_worthOn 12 = .ok (.invokevirtual 163, 3) := by decide +kernel
theorem dX4_worthOn_15 : decode cX4_worthOn 15 = .ok (.iload_n 3, 1) := by decide +kernel
theorem dX4_worthOn_16 : decode cX4_worthOn 16 = .ok (.ireturn, 1) := by decide +kernel
theorem dX4_best_0 : decode cX4_best 0 = .ok (.aload_n 0, 1) := by decide +kernel
theorem dX4_best_1 : decode cX4_best 1 = .ok (.iload_n 1, 1) := by decide +kernel
theorem dX4_best_2 : decode cX4_best 2 = .ok (.invokevirtual 87, 3) := by decide +kernel
theorem dX4_best_5 : decode cX4_best 5 = .ok (.ifCond .eq 15, 3) := by decide +kernel
theorem dX4_best_8 : decode cX4_best 8 = .ok (.iload_n 2, 1) := by decide +kernel
theorem dX4_best_9 : decode cX4_best 9 = .ok (.i2l, 1) := by decide +kernel
theorem dX4_best_10 : decode cX4_best 10 = .ok (.lconst 1, 1) := by decide +kernel
theorem dX4_best_11 : decode cX4_best 11 = .ok (.ldc2_w 167, 3) := by decide +kernel
theorem dX4_best_14 : decode cX4_best 14 = .ok (.invokestatic 49, 3) := by decide +kernel
theorem dX4_best_17 : decode cX4_best 17 = .ok (.ifCond .ne 10, 3) := by decide +kernel
theorem dX4_best_20 : decode cX4_best 20 = .ok (.aload_n 0, 1) := by decide +kernel
theorem dX4_best_21 : decode cX4_best 21 = .ok (.ldc 42, 2) := by decide +kernel
theorem dX4_best_23 : decode cX4_best 23 = .ok (.invokevirtual 57, 3) := by decide +kernel
theorem dX4_best_26 : decode cX4_best 26 = .ok (.ireturn, 1) := by decide +kernel
theorem dX4_best_27 : decode cX4_best 27 = .ok (.aload_n 0, 1) := by decide +kernel
theorem dX4_best_28 : decode cX4_best 28 = .ok (.iload_n 1, 1) := by decide +kernel
theorem dX4_best_29 : decode cX4_best 29 = .ok (.iconst 3, 1) := by decide +kernel
theorem dX4_best_30 : decode cX4_best 30 = .ok (.invokevirtual 84, 3) := by decide +kernel
theorem dX4_best_33 : decode cX4_best 33 = .ok (.ifCond .ne 11, 3) := by decide +kernel
theorem dX4_best_36 : decode cX4_best 36 = .ok (.aload_n 0, 1) := by decide +kernel
theorem dX4_best_37 : decode cX4_best 37 = .ok (.iload_n 2, 1) := by decide +kernel
theorem dX4_best_38 : decode cX4_best 38 = .ok (.invokevirtual 139, 3) := by decide +kernel
theorem dX4_best_41 : decode cX4_best 41 = .ok (.ifCond .eq 10, 3) := by decide +kernel
theorem dX4_best_44 : decode cX4_best 44 = .ok (.aload_n 0, 1) := by decide +kernel
theorem dX4_best_45 : decode cX4_best 45 = .ok (.ldc 119, 2) := by decide +kernel
theorem dX4_best_47 : decode cX4_best 47 = .ok (.invokevirtual 57, 3) := by decide +kernel
theorem dX4_best_50 : decode cX4_best 50 = .ok (.ireturn, 1) := by decide +kernel
theorem dX4_best_51 : decode cX4_best 51 = .ok (.aload_n 0, 1) := by decide +kernel
theorem dX4_best_52 : decode cX4_best 52 = .ok (.invokevirtual 160, 3) := by decide +kernel
theorem dX4_best_55 : decode cX4_best 55 = .ok (.aload_n 0, 1) := by decide +kernel
theorem dX4_best_56 : decode cX4_best 56 = .ok (.iload_n 1, 1) := by decide +kernel
theorem dX4_best_57 : decode cX4_best 57 = .ok (.iload_n 2, 1) := by decide +kernel
theorem dX4_best_58 : decode cX4_best 58 = .ok (.invokevirtual 169, 3) := by decide +kernel
theorem dX4_best_61 : decode cX4_best 61 = .ok (.istore_n 3, 1) := by decide +kernel
theorem dX4_best_62 : decode cX4_best 62 = .ok (.aload_n 0, 1) := by decide +kernel
theorem dX4_best_63 : decode cX4_best 63 = .ok (.iload_n 1, 1) := by decide +kernel
theorem dX4_best_64 : decode cX4_best 64 = .ok (.invokevirtual 92, 3) := by decide +kernel
theorem dX4_best_67 : decode cX4_best 67 = .ok (.istore 4, 2) := by decide +kernel
theorem dX4_best_69 : decode cX4_best 69 = .ok (.iconst (-1), 1) := by decide +kernel
theorem dX4_best_70 : decode cX4_best 70 = .ok (.istore 5, 2) := by decide +kernel
theorem dX4_best_72 : decode cX4_best 72 = .ok (.aload_n 0, 1) := by decide +kernel
theorem dX4_best_73 : decode cX4_best 73 = .ok (.invokevirtual 115, 3) := by decide +kernel
theorem dX4_best_76 : decode cX4_best 76 = .ok (.ifCond .eq 18, 3) := by decide +kernel
theorem dX4_best_79 : decode cX4_best 79 = .ok (.aload_n 0, 1) := by decide +kernel
theorem dX4_best_80 : decode cX4_best 80 = .ok (.iload_n 1, 1) := by decide +kernel
theorem dX4_best_81 : decode cX4_best 81 = .ok (.iconst 3, 1) := by decide +kernel
theorem dX4_best_82 : decode cX4_best 82 = .ok (.iconst 2, 1) := by decide +kernel
theorem dX4_best_83 : decode cX4_best 83 = .ok (.invokevirtual 65, 3) := by decide +kernel
theorem dX4_best_86 : decode cX4_best 86 = .ok (.aload_n 0, 1) := by decide +kernel
theorem dX4_best_87 : decode cX4_best 87 = .ok (.iload_n 1, 1) := by decide +kernel
theorem dX4_best_88 : decode cX4_best 88 = .ok (.iload_n 2, 1) := by decide +kernel
theorem dX4_best_89 : decode cX4_best 89 = .ok (.invokevirtual 169, 3) := by decide +kernel
theorem dX4_best_92 : decode cX4_best 92 = .ok (.istore 5, 2) := by decide +kernel
theorem dX4_best_94 : decode cX4_best 94 = .ok (.iload 4, 2) := by decide +kernel
theorem dX4_best_96 : decode cX4_best 96 = .ok (.iload_n 3, 1) := by decide +kernel
theorem dX4_best_97 : decode cX4_best 97 = .ok (.if_icmp .le 7, 3) := by decide +kernel
theorem dX4_best_100 : decode cX4_best 100 = .ok (.iconst 1, 1) := by decide +kernel
theorem dX4_best_101 : decode cX4_best 101 = .ok (.goto 4, 3) := by decide +kernel
theorem dX4_best_104 : decode cX4_best 104 = .ok (.iconst 0, 1) := by decide +kernel
theorem dX4_best_105 : decode cX4_best 105 = .ok (.istore 6, 2) := by decide +kernel
theorem dX4_best_107 : decode cX4_best 107 = .ok (.iload 5, 2) := by decide +kernel
theorem dX4_best_109 : decode cX4_best 109 = .ok (.iload 6, 2) := by decide +kernel
theorem dX4_best_111 : decode cX4_best 111 = .ok (.iconst 1, 1) := by decide +kernel
theorem dX4_best_112 : decode cX4_best 112 = .ok (.if_icmp .ne 8, 3) := by decide +kernel
theorem dX4_best_115 : decode cX4_best 115 = .ok (.iload 4, 2) := by decide +kernel
theorem dX4_best_117 : decode cX4_best 117 = .ok (.goto 4, 3) := by decide +kernel
theorem dX4_best_120 : decode cX4_best 120 = .ok (.iload_n 3, 1) := by decide +kernel
theorem dX4_best_121 : decode cX4_best 121 = .ok (.if_icmp .le 7, 3) := by decide +kernel
theorem dX4_best_124 : decode cX4_best 124 = .ok (.iconst 2, 1) := by decide +kernel
theorem dX4_best_125 : decode cX4_best 125 = .ok (.goto 5, 3) := by decide +kernel
theorem dX4_best_128 : decode cX4_best 128 = .ok (.iload 6, 2) := by decide +kernel
theorem dX4_best_130 : decode cX4_best 130 = .ok (.ireturn, 1) := by decide +kernel
theorem dX4_kind_0 : decode cX4_kind 0 = .ok (.aload_n 0, 1) := by decide +kernel
theorem dX4_kind_1 : decode cX4_kind 1 = .ok (.iload_n 1, 1) := by decide +kernel
theorem dX4_kind_2 : decode cX4_kind 2 = .ok (.invokevirtual 87, 3) := by decide +kernel
theorem dX4_kind_5 : decode cX4_kind 5 = .ok (.ifCond .eq 15, 3) := by decide +kernel
theorem dX4_kind_8 : decode cX4_kind 8 = .ok (.iload_n 2, 1) := by decide +kernel
theorem dX4_kind_9 : decode cX4_kind 9 = .ok (.i2l, 1) := by decide +kernel
theorem dX4_kind_10 : decode cX4_kind 10 = .ok (.lconst 1, 1) := by decide +kernel
theorem dX4_kind_11 : decode cX4_kind 11 = .ok (.ldc2_w 137, 3) := by decide +kernel
theorem dX4_kind_14 : decode cX4_kind 14 = .ok (.invokestatic 49, 3) := by decide +kernel
theorem dX4_kind_17 : decode cX4_kind 17 = .ok (.ifCond .ne 10, 3) := by decide +kernel
theorem dX4_kind_20 : decode cX4_kind 20 = .ok (.aload_n 0, 1) := by decide +kernel
theorem dX4_kind_21 : decode cX4_kind 21 = .ok (.ldc 42, 2) := by decide +kernel
theorem dX4_kind_23 : decode cX4_kind 23 = .ok (.invokevirtual 57, 3) := by decide +kernel
theorem dX4_kind_26 : decode cX4_kind 26 = .ok (.ireturn, 1) := by decide +kernel
theorem dX4_kind_27 : decode cX4_kind 27 = .ok (.aload_n 0, 1) := by decide +kernel
theorem dX4_kind_28 : decode cX4_kind 28 = .ok (.iload_n 2, 1) := by decide +kernel
theorem dX4_kind_29 : decode cX4_kind 29 = .ok (.invokevirtual 139, 3) := by decide +kernel
theorem dX4_kind_32 : decode cX4_kind 32 = .ok (.ifCond .eq 10, 3) := by decide +kernel
theorem dX4_kind_35 : decode cX4_kind 35 = .ok (.aload_n 0, 1) := by decide +kernel
theorem dX4_kind_36 : decode cX4_kind 36 = .ok (.ldc 119, 2) := by decide +kernel
theorem dX4_kind_38 : decode cX4_kind 38 = .ok (.invokevirtual 57, 3) := by decide +kernel
theorem dX4_kind_41 : decode cX4_kind 41 = .ok (.ireturn, 1) := by decide +kernel
theorem dX4_kind_42 : decode cX4_kind 42 = .ok (.aload_n 0, 1) := by decide +kernel
theorem dX4_kind_43 : decode cX4_kind 43 = .ok (.invokevirtual 160, 3) := by decide +kernel
theorem dX4_kind_46 : decode cX4_kind 46 = .ok (.iconst 0, 1) := by decide +kernel
theorem dX4_kind_47 : decode cX4_kind 47 = .ok (.istore_n 3, 1) := by decide +kernel
theorem dX4_kind_48 : decode cX4_kind 48 = .ok (.iconst (-1), 1) := by decide +kernel
theorem dX4_kind_49 : decode cX4_kind 49 = .ok (.istore 4, 2) := by decide +kernel
theorem dX4_kind_51 : decode cX4_kind 51 = .ok (.iconst 0, 1) := by decide +kernel
theorem dX4_kind_52 : decode cX4_kind 52 = .ok (.istore 5, 2) := by decide +kernel
theorem dX4_kind_54 : decode cX4_kind 54 = .ok (.iload 5, 2) := by decide +kernel
theorem dX4_kind_56 : decode cX4_kind 56 = .ok (.iconst 5, 1) := by decide +kernel
theorem dX4_kind_57 : decode cX4_kind 57 = .ok (.if_icmp .gt 55, 3) := by decide +kernel
theorem dX4_kind_60 : decode cX4_kind 60 = .ok (.aload_n 0, 1) := by decide +kernel
theorem dX4_kind_61 : decode cX4_kind 61 = .ok (.iload_n 1, 1) := by decide +kernel
theorem dX4_kind_62 : decode cX4_kind 62 = .ok (.iconst 0, 1) := by decide +kernel
theorem dX4_kind_63 : decode cX4_kind 63 = .ok (.iload 5, 2) := by decide +kernel
theorem dX4_kind_65 : decode cX4_kind 65 = .ok (.invokevirtual 65, 3) := by decide +kernel
theorem dX4_kind_68 : decode cX4_kind 68 = .ok (.aload_n 0, 1) := by decide +kernel
theorem dX4_kind_69 : decode cX4_kind 69 = .ok (.iload_n 1, 1) := by decide +kernel
theorem dX4_kind_70 : decode cX4_kind 70 = .ok (.iload_n 2, 1) := by decide +kernel
theorem dX4_kind_71 : decode cX4_kind 71 = .ok (.invokevirtual 169, 3) := by decide +kernel
theorem dX4_kind_74 : decode cX4_kind 74 = .ok (.istore 6, 2) := by decide +kernel
theorem dX4_kind_76 : decode cX4_kind 76 = .ok (.iload 6, 2) := by decide +kernel
theorem dX4_kind_78 : decode cX4_kind 78 = .ok (.iload 4, 2) := by decide +kernel
theorem dX4_kind_80 : decode cX4_kind 80 = .ok (.if_icmp .le 8, 3) := by decide +kernel
theorem dX4_kind_83 : decode cX4_kind 83 = .ok (.iload 5, 2) := by decide +kernel
theorem dX4_kind_85 : decode cX4_kind 85 = .ok (.goto 4, 3) := by decide +kernel
theorem dX4_kind_88 : decode cX4_kind 88 = .ok (.iload_n 3, 1) := by decide +kernel
theorem dX4_kind_89 : decode cX4_kind 89 = .ok (.istore_n 3, 1) := by decide +kernel
theorem dX4_kind_90 : decode cX4_kind 90 = .ok (.iload 6, 2) := by decide +kernel
theorem dX4_kind_92 : decode cX4_kind 92 = .ok (.iload 4, 2) := by decide +kernel
theorem dX4_kind_94 : decode cX4_kind 94 = .ok (.if_icmp .le 8, 3) := by decide +kernel
theorem dX4_kind_97 : decode cX4_kind 97 = .ok (.iload 6, 2) := by decide +kernel
theorem dX4_kind_99 : decode cX4_kind 99 = .ok (.goto 5, 3) := by decide +kernel
theorem dX4_kind_102 : decode cX4_kind 102 = .ok (.iload 4, 2) := by decide +kernel
theorem dX4_kind_104 : decode cX4_kind 104 = .ok (.istore 4, 2) := by decide +kernel
theorem dX4_kind_106 : decode cX4_kind 106 = .ok (.iinc 5 1, 3) := by decide +kernel
theorem dX4_kind_109 : decode cX4_kind 109 = .ok (.goto (-55), 3) := by decide +kernel
theorem dX4_kind_112 : decode cX4_kind 112 = .ok (.iload_n 3, 1) := by decide +kernel
theorem dX4_kind_113 : decode cX4_kind 113 = .ok (.ireturn, 1) := by decide +kernel
theorem dX4_goodBy_0 : decode cX4_goodBy 0 = .ok (.aload_n 0, 1) := by decide +kernel
theorem dX4_goodBy_1 : decode cX4_goodBy 1 = .ok (.iload_n 1, 1) := by decide +kernel
theorem dX4_goodBy_2 : decode cX4_goodBy 2 = .ok (.iload_n 2, 1) := by decide +kernel
theorem dX4_goodBy_3 : decode cX4_goodBy 3 = .ok (.invokevirtual 111, 3) := by decide +kernel
theorem dX4_goodBy_6 : decode cX4_goodBy 6 = .ok (.aload_n 0, 1) := by decide +kernel
theorem dX4_goodBy_7 : decode cX4_goodBy 7 = .ok (.iload_n 3, 1) := by decide +kernel
theorem dX4_goodBy_8 : decode cX4_goodBy 8 = .ok (.invokevirtual 152, 3) := by decide +kernel
theorem dX4_goodBy_11 : decode cX4_goodBy 11 = .ok (.aload_n 0, 1) := by decide +kernel
theorem dX4_goodBy_12 : decode cX4_goodBy 12 = .ok (.getfield 7, 3) := by decide +kernel
theorem dX4_goodBy_15 : decode cX4_goodBy 15 = .ok (.iconst 0, 1) := by decide +kernel
theorem dX4_goodBy_16 : decode cX4_goodBy 16 = .ok (.iaload, 1) := by decide +kernel
theorem dX4_goodBy_17 : decode cX4_goodBy 17 = .ok (.aload_n 0, 1) := by decide +kernel
theorem dX4_goodBy_18 : decode cX4_goodBy 18 = .ok (.iconst 1, 1) := by decide +kernel
theorem dX4_goodBy_19 : decode cX4_goodBy 19 = .ok (.invokevirtual 149, 3) := by decide +kernel
theorem dX4_goodBy_22 : decode cX4_goodBy 22 = .ok (.isub, 1) := by decide +kernel
theorem dX4_goodBy_23 : decode cX4_goodBy 23 = .ok (.istore 4, 2) := by decide +kernel
theorem dX4_goodBy_25 : decode cX4_goodBy 25 = .ok (.aload_n 0, 1) := by decide +kernel
theorem dX4_goodBy_26 : decode cX4_goodBy 26 = .ok (.invokevirtual 163, 3) := by decide +kernel
theorem dX4_goodBy_29 : decode cX4_goodBy 29 = .ok (.iload 4, 2) := by decide +kernel
theorem dX4_goodBy_31 : decode cX4_goodBy 31 = .ok (.ireturn, 1) := by decide +kernel
theorem dX4_cellar_0 : decode cX4_cellar 0 = .ok (.iload_n 1, 1) := by decide +kernel
theorem dX4_cellar_1 : decode cX4_cellar 1 = .ok (.i2l, 1) := by decide +kernel
theorem dX4_cellar_2 : decode cX4_cellar 2 = .ok (.lconst 1, 1) := by decide +kernel
theorem dX4_cellar_3 : decode cX4_cellar 3 = .ok (.ldc2_w 172, 3) := by decide +kernel
theorem dX4_cellar_6 : decode cX4_cellar 6 = .ok (.invokestatic 49, 3) := by decide +kernel
theorem dX4_cellar_9 : decode cX4_cellar 9 = .ok (.ifCond .ne 10, 3) := by decide +kernel
theorem dX4_cellar_12 : decode cX4_cellar 12 = .ok (.aload_n 0, 1) := by decide +kernel
theorem dX4_cellar_13 : decode cX4_cellar 13 = .ok (.ldc 42, 2) := by decide +kernel
theorem dX4_cellar_15 : decode cX4_cellar 15 = .ok (.invokevirtual 57, 3) := by decide +kernel
theorem dX4_cellar_18 : decode cX4_cellar 18 = .ok (.ireturn, 1) := by decide +kernel
theorem dX4_cellar_19 : decode cX4_cellar 19 = .ok (.aload_n 0, 1) := by decide +kernel
theorem dX4_cellar_20 : decode cX4_cellar 20 = .ok (.iload_n 1, 1) := by decide +kernel
theorem dX4_cellar_21 : decode cX4_cellar 21 = .ok (.invokevirtual 139, 3) := by decide +kernel
theorem dX4_cellar_24 : decode cX4_cellar 24 = .ok (.ifCond .eq 10, 3) := by decide +kernel
theorem dX4_cellar_27 : decode cX4_cellar 27 = .ok (.aload_n 0, 1) := by decide +kernel
theorem dX4_cellar_28 : decode cX4_cellar 28 = .ok (.ldc 119, 2) := by decide +kernel
theorem dX4_cellar_30 : decode cX4_cellar 30 = .ok (.invokevirtual 57, 3) := by decide +kernel
theorem dX4_cellar_33 : decode cX4_cellar 33 = .ok (.ireturn, 1) := by decide +kernel
theorem dX4_cellar_34 : decode cX4_cellar 34 = .ok (.aload_n 0, 1) := by decide +kernel
theorem dX4_cellar_35 : decode cX4_cellar 35 = .ok (.invokevirtual 160, 3) := by decide +kernel
theorem dX4_cellar_38 : decode cX4_cellar 38 = .ok (.iconst (-1), 1) := by decide +kernel
theorem dX4_cellar_39 : decode cX4_cellar 39 = .ok (.istore_n 2, 1) := by decide +kernel
theorem dX4_cellar_40 : decode cX4_cellar 40 = .ok (.aload_n 0, 1) := by decide +kernel
theorem dX4_cellar_41 : decode cX4_cellar 41 = .ok (.getfield 7, 3) := by decide +kernel
theorem dX4_cellar_44 : decode cX4_cellar 44 = .ok (.iconst 0, 1) := by decide +kernel
theorem dX4_cellar_45 : decode cX4_cellar 45 = .ok (.iaload, 1) := by decide +kernel
theorem dX4_cellar_46 : decode cX4_cellar 46 = .ok (.ifCond .ne 7, 3) := by decide +kernel
theorem dX4_cellar_49 : decode cX4_cellar 49 = .ok (.iconst 0, 1) := by decide +kernel
theorem dX4_cellar_50 : decode cX4_cellar 50 = .ok (.goto 10, 3) := by decide +kernel
theorem dX4_cellar_53 : decode cX4_cellar 53 = .ok (.aload_n 0, 1) := by decide +kernel
theorem dX4_cellar_54 : decode cX4_cellar 54 = .ok (.iconst 0, 1) := by decide +kernel
theorem dX4_cellar_55 : decode cX4_cellar 55 = .ok (.iconst 0, 1) := by decide +kernel
theorem dX4_cellar_56 : decode cX4_cellar 56 = .ok (.iload_n 1, 1) := by decide +kernel
theorem dX4_cellar_57 : decode cX4_cellar 57 = .ok (.invokevirtual 174, 3) := by decide +kernel
theorem dX4_cellar_60 : decode cX4_cellar 60 = .ok (.istore_n 3, 1) := by decide +kernel
theorem dX4_cellar_61 : decode cX4_cellar 61 = .ok (.iconst 0, 1) := by decide +kernel
theorem dX4_cellar_62 : decode cX4_cellar 62 = .ok (.istore 4, 2) := by decide +kernel
theorem dX4_cellar_64 : decode cX4_cellar 64 = .ok (.iload 4, 2) := by decide +kernel
theorem dX4_cellar_66 : decode cX4_cellar 66 = .ok (.aload_n 0, 1) := by decide +kernel
theorem dX4_cellar_67 : decode cX4_cellar 67 = .ok (.getfield 7, 3) := by decide +kernel
theorem dX4_cellar_70 : decode cX4_cellar 70 = .ok (.iconst 0, 1) := by decide +kernel
theorem dX4_cellar_71 : decode cX4_cellar 71 = .ok (.iaload, 1) := by decide +kernel
theorem dX4_cellar_72 : decode cX4_cellar 72 = .ok (.if_icmp .ge 75, 3) := by decide +kernel
theorem dX4_cellar_75 : decode cX4_cellar 75 = .ok (.iload 4, 2) := by decide +kernel
theorem dX4_cellar_77 : decode cX4_cellar 77 = .ok (.iconst 1, 1) := by decide +kernel
theorem dX4_cellar_78 : decode cX4_cellar 78 = .ok (.iadd, 1) := by decide +kernel
theorem dX4_cellar_79 : decode cX4_cellar 79 = .ok (.istore 5, 2) := by decide +kernel
theorem dX4_cellar_81 : decode cX4_cellar 81 = .ok (.iload 5, 2) := by decide +kernel
theorem dX4_cellar_83 : decode cX4_cellar 83 = .ok (.aload_n 0, 1) := by decide +kernel
theorem dX4_cellar_84 : decode cX4_cellar 84 = .ok (.getfield 7, 3) := by decide +kernel
theorem dX4_cellar_87 : decode cX4_cellar 87 = .ok (.iconst 0, 1) := by decide +kernel
theorem dX4_cellar_88 : decode cX4_cellar 88 = .ok (.iaload, 1) := by decide +kernel
theorem dX4_cellar_89 : decode cX4_cellar 89 = .ok (.if_icmp .ge 52, 3) := by decide +kernel
theorem dX4_cellar_92 : decode cX4_cellar 92 = .ok (.aload_n 0, 1) := by decide +kernel
theorem dX4_cellar_93 : decode cX4_cellar 93 = .ok (.iload 4, 2) := by decide +kernel
theorem dX4_cellar_95 : decode cX4_cellar 95 = .ok (.iload 5, 2) := by decide +kernel
theorem dX4_cellar_97 : decode cX4_cellar 97 = .ok (.iload_n 1, 1) := by decide +kernel
theorem dX4_cellar_98 : decode cX4_cellar 98 = .ok (.invokevirtual 174, 3) := by decide +kernel
theorem dX4_cellar_101 : decode cX4_cellar 101 = .ok (.istore 6, 2) := by decide +kernel
theorem dX4_cellar_103 : decode cX4_cellar 103 = .ok (.iload 6, 2) := by decide +kernel
theorem dX4_cellar_105 : decode cX4_cellar 105 = .ok (.iload_n 3, 1) := by decide +kernel
theorem dX4_cellar_106 : decode cX4_cellar 106 = .ok (.if_icmp .le 14, 3) := by decide +kernel
theorem dX4_cellar_109 : decode cX4_cellar 109 = .ok (.bipush 100, 2) := by decide +kernel
theorem dX4_cellar_111 : decode cX4_cellar 111 = .ok (.iload 4, 2) := by decide +kernel
theorem dX4_cellar_113 : decode cX4_cellar 113 = .ok (.imul, 1) := by decide +kernel
theorem dX4_cellar_114 : decode cX4_cellar 114 = .ok (.iload 5, 2) := by decide +kernel
theorem dX4_cellar_116 : decode cX4_cellar 116 = .ok (.iadd, 1) := by decide +kernel
theorem dX4_cellar_117 : decode cX4_cellar 117 = .ok (.goto 4, 3) := by decide +kernel
theorem dX4_cellar_120 : decode cX4_cellar 120 = .ok (.iload_n 2, 1) := by decide +kernel
theorem dX4_cellar_121 : decode cX4_cellar 121 = .ok (.istore_n 2, 1) := by decide +kernel
theorem dX4_cellar_122 : decode cX4_cellar 122 = .ok (.iload 6, 2) := by decide +kernel
theorem dX4_cellar_124 : decode cX4_cellar 124 = .ok (.iload_n 3, 1) := by decide +kernel
theorem dX4_cellar_125 : decode cX4_cellar 125 = .ok (.if_icmp .le 8, 3) := by decide +kernel
theorem dX4_cellar_128 : decode cX4_cellar 128 = .ok (.iload 6, 2) := by decide +kernel
theorem dX4_cellar_130 : decode cX4_cellar 130 = .ok (.goto 4, 3) := by decide +kernel
theorem dX4_cellar_133 : decode cX4_cellar 133 = .ok (.iload_n 3, 1) := by decide +kernel
theorem dX4_cellar_134 : decode cX4_cellar 134 = .ok (.istore_n 3, 1) := by decide +kernel
theorem dX4_cellar_135 : decode cX4_cellar 135 = .ok (.iinc 5 1, 3) := by decide +kernel
theorem dX4_cellar_138 : decode cX4_cellar 138 = .ok (.goto (-57), 3) := by decide +kernel
theorem dX4_cellar_141 : decode cX4_cellar 141 = .ok (.iinc 4 1, 3) := by decide +kernel
theorem dX4_cellar_144 : decode cX4_cellar 144 = .ok (.goto (-80), 3) := by decide +kernel
theorem dX4_cellar_147 : decode cX4_cellar 147 = .ok (.iload_n 2, 1) := by decide +kernel
theorem dX4_cellar_148 : decode cX4_cellar 148 = .ok (.ifCond .ge 12, 3) := by decide +kernel
theorem dX4_cellar_151 : decode cX4_cellar 151 = .ok (.aload_n 0, 1) := by decide +kernel
theorem dX4_cellar_152 : decode cX4_cellar 152 = .ok (.ldc 166, 2) := by decide +kernel
theorem dX4_cellar_154 : decode cX4_cellar 154 = .ok (.invokevirtual 57, 3) := by decide +kernel
theorem dX4_cellar_157 : decode cX4_cellar 157 = .ok (.goto 4, 3) := by decide +kernel
theorem dX4_cellar_160 : decode cX4_cellar 160 = .ok (.iload_n 2, 1) := by decide +kernel
theorem dX4_cellar_161 : decode cX4_cellar 161 = .ok (.ireturn, 1) := by decide +kernel
theorem dX4_manyIn_0 : decode cX4_manyIn 0 = .ok (.iconst 0, 1) := by decide +kernel
theorem dX4_manyIn_1 : decode cX4_manyIn 1 = .ok (.istore_n 1, 1) := by decide +kernel
theorem dX4_manyIn_2 : decode cX4_manyIn 2 = .ok (.iload_n 0, 1) := by decide +kernel
theorem dX4_manyIn_3 : decode cX4_manyIn 3 = .ok (.istore_n 2, 1) := by decide +kernel
theorem dX4_manyIn_4 : decode cX4_manyIn 4 = .ok (.iload_n 2, 1) := by decide +kernel
theorem dX4_manyIn_5 : decode cX4_manyIn 5 = .ok (.ifCond .eq 15, 3) := by decide +kernel
theorem dX4_manyIn_8 : decode cX4_manyIn 8 = .ok (.iinc 1 1, 3) := by decide +kernel
theorem dX4_manyIn_11 : decode cX4_manyIn 11 = .ok (.iload_n 2, 1) := by decide +kernel
theorem dX4_manyIn_12 : decode cX4_manyIn 12 = .ok (.iload_n 2, 1) := by decide +kernel
theorem dX4_manyIn_13 : decode cX4_manyIn 13 = .ok (.iconst 1, 1) := by decide +kernel
theorem dX4_manyIn_14 : decode cX4_manyIn 14 = .ok (.isub, 1) := by decide +kernel
theorem dX4_manyIn_15 : decode cX4_manyIn 15 = .ok (.iand, 1) := by decide +kernel
theorem dX4_manyIn_16 : decode cX4_manyIn 16 = .ok (.istore_n 2, 1) := by decide +kernel
theorem dX4_manyIn_17 : decode cX4_manyIn 17 = .ok (.goto (-13), 3) := by decide +kernel
theorem dX4_manyIn_20 : decode cX4_manyIn 20 = .ok (.iload_n 1, 1) := by decide +kernel
theorem dX4_manyIn_21 : decode cX4_manyIn 21 = .ok (.ireturn, 1) := by decide +kernel
theorem dX4_purseBy_0 : decode cX4_purseBy 0 = .ok (.iconst 0, 1) := by decide +kernel
theorem dX4_purseBy_1 : decode cX4_purseBy 1 = .ok (.istore 4, 2) := by decide +kernel
theorem dX4_purseBy_3 : decode cX4_purseBy 3 = .ok (.iload 4, 2) := by decide +kernel
theorem dX4_purseBy_5 : decode cX4_purseBy 5 = .ok (.aload_n 0, 1) := by decide +kernel
theorem dX4_purseBy_6 : decode cX4_purseBy 6 = .ok (.getfield 7, 3) := by decide +kernel
theorem dX4_purseBy_9 : decode cX4_purseBy 9 = .ok (.iconst 0, 1) := by decide +kernel
theorem dX4_purseBy_10 : decode cX4_purseBy 10 = .ok (.iaload, 1) := by decide +kernel
theorem dX4_purseBy_11 : decode cX4_purseBy 11 = .ok (.if_icmp .ge 27, 3) := by decide +kernel
theorem dX4_purseBy_14 : decode cX4_purseBy 14 = .ok (.iload_n 2, 1) := by decide +kernel
theorem dX4_purseBy_15 : decode cX4_purseBy 15 = .ok (.iload 4, 2) := by decide +kernel
theorem dX4_purseBy_17 : decode cX4_purseBy 17 = .ok (.ishr, 1) := by decide +kernel
theorem dX4_purseBy_18 : decode cX4_purseBy 18 = .ok (.iconst 1, 1) := by decide +kernel
theorem dX4_purseBy_19 : decode cX4_purseBy 19 = .ok (.iand, 1) := by decide +kernel
theorem dX4_purseBy_20 : decode cX4_purseBy 20 = .ok (.iconst 1, 1) := by decide +kernel
theorem dX4_purseBy_21 : decode cX4_purseBy 21 = .ok (.if_icmp .ne 11, 3) := by decide +kernel
theorem dX4_purseBy_24 : decode cX4_purseBy 24 = .ok (.aload_n 0, 1) := by decide +kernel
theorem dX4_purseBy_25 : decode cX4_purseBy 25 = .ok (.iload 4, 2) := by decide +kernel
theorem dX4_purseBy_27 : decode cX4_purseBy 27 = .ok (.iconst 3, 1) := by decide +kernel
theorem dX4_purseBy_28 : decode cX4_purseBy 28 = .ok (.iconst 2, 1) := by decide +kernel
theorem dX4_purseBy_29 : decode cX4_purseBy 29 = .ok (.invokevirtual 65, 3) := by decide +kernel
theorem dX4_purseBy_32 : decode cX4_purseBy 32 = .ok (.iinc 4 1, 3) := by decide +kernel
theorem dX4_purseBy_35 : decode cX4_purseBy 35 = .ok (.goto (-32), 3) := by decide +kernel
theorem dX4_purseBy_38 : decode cX4_purseBy 38 = .ok (.aload_n 0, 1) := by decide +kernel
theorem dX4_purseBy_39 : decode cX4_purseBy 39 = .ok (.iload_n 3, 1) := by decide +kernel
theorem dX4_purseBy_40 : decode cX4_purseBy 40 = .ok (.invokevirtual 152, 3) := by decide +kernel
theorem dX4_purseBy_43 : decode cX4_purseBy 43 = .ok (.aload_n 0, 1) := by decide +kernel
theorem dX4_purseBy_44 : decode cX4_purseBy 44 = .ok (.iload_n 1, 1) := by decide +kernel
theorem dX4_purseBy_45 : decode cX4_purseBy 45 = .ok (.invokevirtual 120, 3) := by decide +kernel
theorem dX4_purseBy_48 : decode cX4_purseBy 48 = .ok (.istore 4, 2) := by decide +kernel
theorem dX4_purseBy_50 : decode cX4_purseBy 50 = .ok (.aload_n 0, 1) := by decide +kernel
theorem dX4_purseBy_51 : decode cX4_purseBy 51 = .ok (.invokevirtual 163, 3) := by decide +kernel
theorem dX4_purseBy_54 : decode cX4_purseBy 54 = .ok (.iload 4, 2) := by decide +kernel
theorem dX4_purseBy_56 : decode cX4_purseBy 56 = .ok (.ireturn, 1) := by decide +kernel
theorem dX4_field_0 : decode cX4_field 0 = .ok (.iload_n 1, 1) := by decide +kernel
theorem dX4_field_1 : decode cX4_field 1 = .ok (.invokestatic 43, 3) := by decide +kernel
theorem dX4_field_4 : decode cX4_field 4 = .ok (.ifCond .eq 15, 3) := by decide +kernel
theorem dX4_field_7 : decode cX4_field 7 = .ok (.iload_n 2, 1) := by decide +kernel
theorem dX4_field_8 : decode cX4_field 8 = .ok (.i2l, 1) := by decide +kernel
theorem dX4_field_9 : decode cX4_field 9 = .ok (.lconst 1, 1) := by decide +kernel
theorem dX4_field_10 : decode cX4_field 10 = .ok (.ldc2_w 167, 3) := by decide +kernel
theorem dX4_field_13 : decode cX4_field 13 = .ok (.invokestatic 49, 3) := by decide +kernel
theorem dX4_field_16 : decode cX4_field 16 = .ok (.ifCond .ne 10, 3) := by decide +kernel
theorem dX4_field_19 : decode cX4_field 19 = .ok (.aload_n 0, 1) := by decide +kernel
theorem dX4_field_20 : decode cX4_field 20 = .ok (.ldc 42, 2) := by decide +kernel
theorem dX4_field_22 : decode cX4_field 22 = .ok (.invokevirtual 57, 3) := by decide +kernel
theorem dX4_field_25 : decode cX4_field 25 = .ok (.ireturn, 1) := by decide +kernel
theorem dX4_field_26 : decode cX4_field 26 = .ok (.aload_n 0, 1) := by decide +kernel
theorem dX4_field_27 : decode cX4_field 27 = .ok (.invokevirtual 115, 3) := by decide +kernel
theorem dX4_field_30 : decode cX4_field 30 = .ok (.ifCond .eq 11, 3) := by decide +kernel
theorem dX4_field_33 : decode cX4_field 33 = .ok (.aload_n 0, 1) := by decide +kernel
theorem dX4_field_34 : decode cX4_field 34 = .ok (.iload_n 2, 1) := by decide +kernel
theorem dX4_field_35 : decode cX4_field 35 = .ok (.invokevirtual 139, 3) := by decide +kernel
theorem dX4_field_38 : decode cX4_field 38 = .ok (.ifCond .eq 10, 3) := by decide +kernel
theorem dX4_field_41 : decode cX4_field 41 = .ok (.aload_n 0, 1) := by decide +kernel
theorem dX4_field_42 : decode cX4_field 42 = .ok (.ldc 119, 2) := by decide +kernel
theorem dX4_field_44 : decode cX4_field 44 = .ok (.invokevirtual 57, 3) := by decide +kernel
theorem dX4_field_47 : decode cX4_field 47 = .ok (.ireturn, 1) := by decide +kernel
theorem dX4_field_48 : decode cX4_field 48 = .ok (.aload_n 0, 1) := by decide +kernel
theorem dX4_field_49 : decode cX4_field 49 = .ok (.iload_n 1, 1) := by decide +kernel
theorem dX4_field_50 : decode cX4_field 50 = .ok (.invokevirtual 128, 3) := by decide +kernel
theorem dX4_field_53 : decode cX4_field 53 = .ok (.istore_n 3, 1) := by decide +kernel
theorem dX4_field_54 : decode cX4_field 54 = .ok (.iload_n 3, 1) := by decide +kernel
theorem dX4_field_55 : decode cX4_field 55 = .ok (.invokestatic 177, 3) := by decide +kernel
theorem dX4_field_58 : decode cX4_field 58 = .ok (.bipush 6, 2) := by decide +kernel
theorem dX4_field_60 : decode cX4_field 60 = .ok (.if_icmp .le 10, 3) := by decide +kernel
theorem dX4_field_63 : decode cX4_field 63 = .ok (.aload_n 0, 1) := by decide +kernel
theorem dX4_field_64 : decode cX4_field 64 = .ok (.ldc 180, 2) := by decide +kernel
theorem dX4_field_66 : decode cX4_field 66 = .ok (.invokevirtual 57, 3) := by decide +kernel
theorem dX4_field_69 : decode cX4_field 69 = .ok (.ireturn, 1) := by decide +kernel
theorem dX4_field_70 : decode cX4_field 70 = .ok (.aload_n 0, 1) := by decide +kernel
theorem dX4_field_71 : decode cX4_field 71 = .ok (.invokevirtual 160, 3) := by decide +kernel
theorem dX4_field_74 : decode cX4_field 74 = .ok (.iconst 0, 1) := by decide +kernel
theorem dX4_field_75 : decode cX4_field 75 = .ok (.istore 4, 2) := by decide +kernel
theorem dX4_field_77 : decode cX4_field 77 = .ok (.iconst (-1), 1) := by decide +kernel
theorem dX4_field_78 : decode cX4_field 78 = .ok (.istore 5, 2) := by decide +kernel
theorem dX4_field_80 : decode cX4_field 80 = .ok (.iconst 0, 1) := by decide +kernel
theorem dX4_field_81 : decode cX4_field 81 = .ok (.istore 6, 2) := by decide +kernel
theorem dX4_field_83 : decode cX4_field 83 = .ok (.iload 6, 2) := by decide +kernel
theorem dX4_field_85 : decode cX4_field 85 = .ok (.iload_n 3, 1) := by decide +kernel
theorem dX4_field_86 : decode cX4_field 86 = .ok (.if_icmp .gt 64, 3) := by decide +kernel
theorem dX4_field_89 : decode cX4_field 89 = .ok (.iload 6, 2) := by decide +kernel
theorem dX4_field_91 : decode cX4_field 91 = .ok (.iload_n 3, 1) := by decide +kernel
theorem dX4_field_92 : decode cX4_field 92 = .ok (.iconst (-1), 1) := by decide +kernel
theorem dX4_field_93 : decode cX4_field 93 = .ok (.ixor, 1) := by decide +kernel
theorem dX4_field_94 : decode cX4_field 94 = .ok (.iand, 1) := by decide +kernel
theorem dX4_field_95 : decode cX4_field 95 = .ok (.ifCond .ne 14, 3) := by decide +kernel
theorem dX4_field_98 : decode cX4_field 98 = .ok (.aload_n 0, 1) := by decide +kernel
theorem dX4_field_99 : decode cX4_field 99 = .ok (.iload_n 1, 1) := by decide +kernel
theorem dX4_field_100 : decode cX4_field 100 = .ok (.iload 6, 2) := by decide +kernel
theorem dX4_field_102 : decode cX4_field 102 = .ok (.iload_n 2, 1) := by decide +kernel
theorem dX4_field_103 : decode cX4_field 103 = .ok (.invokevirtual 181, 3) := by decide +kernel
theorem dX4_field_106 : decode cX4_field 106 = .ok (.goto 4, 3) := by decide +kernel
theorem dX4_field_109 : decode cX4_field 109 = .ok (.iconst (-1), 1) := by decide +kernel
theorem dX4_field_110 : decode cX4_field 110 = .ok (.istore 7, 2) := by decide +kernel
theorem dX4_field_112 : decode cX4_field 112 = .ok (.iload 7, 2) := by decide +kernel
theorem dX4_field_114 : decode cX4_field 114 = .ok (.iload 5, 2) := by decide +kernel
theorem dX4_field_116 : decode cX4_field 116 = .ok (.if_icmp .le 8, 3) := by decide +kernel
theorem dX4_field_119 : decode cX4_field 119 = .ok (.iload 6, 2) := by decide +kernel
theorem dX4_field_121 : decode cX4_field 121 = .ok (.goto 5, 3) := by decide +kernel
theorem dX4_field_124 : decode cX4_field 124 = .ok (.iload 4, 2) := by decide +kernel
theorem dX4_field_126 : decode cX4_field 126 = .ok (.istore 4, 2) := by decide +kernel
theorem dX4_field_128 : decode cX4_field 128 = .ok (.iload 7, 2) := by decide +kernel
theorem dX4_field_130 : decode cX4_field 130 = .ok (.iload 5, 2) := by decide +kernel
theorem dX4_field_132 : decode cX4_field 132 = .ok (.if_icmp .le 8, 3) := by decide +kernel
theorem dX4_field_135 : decode cX4_field 135 = .ok (.iload 7, 2) := by decide +kernel
theorem dX4_field_137 : decode cX4_field 137 = .ok (.goto 5, 3) := by decide +kernel
theorem dX4_field_140 : decode cX4_field 140 = .ok (.iload 5, 2) := by decide +kernel
theorem dX4_field_142 : decode cX4_field 142 = .ok (.istore 5, 2) := by decide +kernel
theorem dX4_field_144 : decode cX4_field 144 = .ok (.iinc 6 1, 3) := by decide +kernel
theorem dX4_field_147 : decode cX4_field 147 = .ok (.goto (-64), 3) := by decide +kernel
theorem dX4_field_150 : decode cX4_field 150 = .ok (.iload 4, 2) := by decide +kernel
theorem dX4_field_152 : decode cX4_field 152 = .ok (.ireturn, 1) := by decide +kernel
theorem dX4_priceFor_0 : decode cX4_priceFor 0 = .ok (.iload_n 1, 1) := by decide +kernel
theorem dX4_priceFor_1 : decode cX4_priceFor 1 = .ok (.invokestatic 43, 3) := by decide +kernel
theorem dX4_priceFor_4 : decode cX4_priceFor 4 = .ok (.ifCond .eq 15, 3) := by decide +kernel
theorem dX4_priceFor_7 : decode cX4_priceFor 7 = .ok (.iload_n 2, 1) := by decide +kernel
theorem dX4_priceFor_8 : decode cX4_priceFor 8 = .ok (.i2l, 1) := by decide +kernel
theorem dX4_priceFor_9 : decode cX4_priceFor 9 = .ok (.lconst 0, 1) := by decide +kernel
theorem dX4_priceFor_10 : decode cX4_priceFor 10 = .ok (.ldc2_w 123, 3) := by decide +kernel
theorem dX4_priceFor_13 : decode cX4_priceFor 13 = .ok (.invokestatic 49, 3) := by decide +kernel
theorem dX4_priceFor_16 : decode cX4_priceFor 16 = .ok (.ifCond .ne 10, 3) := by decide +kernel
theorem dX4_priceFor_19 : decode cX4_priceFor 19 = .ok (.aload_n 0, 1) := by decide +kernel
theorem dX4_priceFor_20 : decode cX4_priceFor 20 = .ok (.ldc 42, 2) := by decide +kernel
theorem dX4_priceFor_22 : decode cX4_priceFor 22 = .ok (.invokevirtual 57, 3) := by decide +kernel
theorem dX4_priceFor_25 : decode cX4_priceFor 25 = .ok (.ireturn, 1) := by decide +kernel
theorem dX4_priceFor_26 : decode cX4_priceFor 26 = .ok (.bipush 8, 2) := by decide +kernel
theorem dX4_priceFor_28 : decode cX4_priceFor 28 = .ok (.aload_n 0, 1) := by decide +kernel
theorem dX4_priceFor_29 : decode cX4_priceFor 29 = .ok (.invokevirtual 76, 3) := by decide +kernel
theorem dX4_priceFor_32 : decode cX4_priceFor 32 = .ok (.iadd, 1) := by decide +kernel
theorem dX4_priceFor_33 : decode cX4_priceFor 33 = .ok (.istore_n 3, 1) := by decide +kernel
theorem dX4_priceFor_34 : decode cX4_priceFor 34 = .ok (.aload_n 0, 1) := by decide +kernel
theorem dX4_priceFor_35 : decode cX4_priceFor 35 = .ok (.getfield 7, 3) := by decide +kernel
theorem dX4_priceFor_38 : decode cX4_priceFor 38 = .ok (.iload_n 3, 1) := by decide +kernel
theorem dX4_priceFor_39 : decode cX4_priceFor 39 = .ok (.iaload, 1) := by decide +kernel
theorem dX4_priceFor_40 : decode cX4_priceFor 40 = .ok (.istore 4, 2) := by decide +kernel
theorem dX4_priceFor_42 : decode cX4_priceFor 42 = .ok (.iconst (-1), 1) := by decide +kernel
theorem dX4_priceFor_43 : decode cX4_priceFor 43 = .ok (.istore 5, 2) := by decide +kernel
theorem dX4_priceFor_45 : decode cX4_priceFor 45 = .ok (.bipush 99, 2) := by decide +kernel
theorem dX4_priceFor_47 : decode cX4_priceFor 47 = .ok (.istore 6, 2) := by decide +kernel
theorem dX4_priceFor_49 : decode cX4_priceFor 49 = .ok (.iload 6, 2) := by decide +kernel
theorem dX4_priceFor_51 : decode cX4_priceFor 51 = .ok (.ifCond .lt 35, 3) := by decide +kernel
theorem dX4_priceFor_54 : decode cX4_priceFor 54 = .ok (.aload_n 0, 1) := by decide +kernel
theorem dX4_priceFor_55 : decode cX4_priceFor 55 = .ok (.getfield 7, 3) := by decide +kernel
theorem dX4_priceFor_58 : decode cX4_priceFor 58 = .ok (.iload_n 3, 1) := by decide +kernel
theorem dX4_priceFor_59 : decode cX4_priceFor 59 = .ok (.iload 6, 2) := by decide +kernel
theorem dX4_priceFor_61 : decode cX4_priceFor 61 = .ok (.iastore, 1) := by decide +kernel
theorem dX4_priceFor_62 : decode cX4_priceFor 62 = .ok (.aload_n 0, 1) := by decide +kernel
theorem dX4_priceFor_63 : decode cX4_priceFor 63 = .ok (.iload_n 1, 1) := by decide +kernel
theorem dX4_priceFor_64 : decode cX4_priceFor 64 = .ok (.invokevirtual 120, 3) := by decide +kernel
theorem dX4_priceFor_67 : decode cX4_priceFor 67 = .ok (.iload_n 2, 1) := by decide +kernel
theorem dX4_priceFor_68 : decode cX4_priceFor 68 = .ok (.if_icmp .lt 8, 3) := by decide +kernel
theorem dX4_priceFor_71 : decode cX4_priceFor 71 = .ok (.iload 6, 2) := by decide +kernel
theorem dX4_priceFor_73 : decode cX4_priceFor 73 = .ok (.goto 5, 3) := by decide +kernel
theorem dX4_priceFor_76 : decode cX4_priceFor 76 = .ok (.iload 5, 2) := by decide +kernel
theorem dX4_priceFor_78 : decode cX4_priceFor 78 = .ok (.istore 5, 2) := by decide +kernel
theorem dX4_priceFor_80 : decode cX4_priceFor 80 = .ok (.iinc 6 (-1), 3) := by decide +kernel
theorem dX4_priceFor_83 : decode cX4_priceFor 83 = .ok (.goto (-34), 3) := by decide +kernel
theorem dX4_priceFor_86 : decode cX4_priceFor 86 = .ok (.aload_n 0, 1) := by decide +kernel
theorem dX4_priceFor_87 : decode cX4_priceFor 87 = .ok (.getfield 7, 3) := by decide +kernel
theorem dX4_priceFor_90 : decode cX4_priceFor 90 = .ok (.iload_n 3, 1) := by decide +kernel
theorem dX4_priceFor_91 : decode cX4_priceFor 91 = .ok (.iload 4, 2) := by decide +kernel
theorem dX4_priceFor_93 : decode cX4_priceFor 93 = .ok (.iastore, 1) := by decide +kernel
theorem dX4_priceFor_94 : decode cX4_priceFor 94 = .ok (.iload 5, 2) := by decide +kernel
theorem dX4_priceFor_96 : decode cX4_priceFor 96 = .ok (.ifCond .ge 12, 3) := by decide +kernel
theorem dX4_priceFor_99 : decode cX4_priceFor 99 = .ok (.aload_n 0, 1) := by decide +kernel
theorem dX4_priceFor_100 : decode cX4_priceFor 100 = .ok (.ldc 166, 2) := by decide +kernel
theorem dX4_priceFor_102 : decode cX4_priceFor 102 = .ok (.invokevirtual 57, 3) := by decide +kernel
theorem dX4_priceFor_105 : decode cX4_priceFor 105 = .ok (.goto 5, 3) := by decide +kernel
theorem dX4_priceFor_108 : decode cX4_priceFor 108 = .ok (.iload 5, 2) := by decide +kernel
theorem dX4_priceFor_110 : decode cX4_priceFor 110 = .ok (.ireturn, 1) := by decide +kernel
theorem dX4_taxMonth_0 : decode cX4_taxMonth 0 = .ok (.aload_n 0, 1) := by decide +kernel
theorem dX4_taxMonth_1 : decode cX4_taxMonth 1 = .ok (.bipush 12, 2) := by decide +kernel
theorem dX4_taxMonth_3 : decode cX4_taxMonth 3 = .ok (.invokevirtual 139, 3) := by decide +kernel
theorem dX4_taxMonth_6 : decode cX4_taxMonth 6 = .ok (.ifCond .eq 10, 3) := by decide +kernel
theorem dX4_taxMonth_9 : decode cX4_taxMonth 9 = .ok (.aload_n 0, 1) := by decide +kernel
theorem dX4_taxMonth_10 : decode cX4_taxMonth 10 = .ok (.ldc 119, 2) := by decide +kernel
theorem dX4_taxMonth_12 : decode cX4_taxMonth 12 = .ok (.invokevirtual 57, 3) := by decide +kernel
theorem dX4_taxMonth_15 : decode cX4_taxMonth 15 = .ok (.ireturn, 1) := by decide +kernel
theorem dX4_taxMonth_16 : decode cX4_taxMonth 16 = .ok (.aload_n 0, 1) := by decide +kernel
theorem dX4_taxMonth_17 : decode cX4_taxMonth 17 = .ok (.invokevirtual 160, 3) := by decide +kernel
theorem dX4_taxMonth_20 : decode cX4_taxMonth 20 = .ok (.iconst 0, 1) := by decide +kernel
theorem dX4_taxMonth_21 : decode cX4_taxMonth 21 = .ok (.istore_n 1, 1) := by decide +kernel
theorem dX4_taxMonth_22 : decode cX4_taxMonth 22 = .ok (.iconst (-1), 1) := by decide +kernel
theorem dX4_taxMonth_23 : decode cX4_taxMonth 23 = .ok (.istore_n 2, 1) := by decide +kernel
theorem dX4_taxMonth_24 : decode cX4_taxMonth 24 = .ok (.iconst 0, 1) := by decide +kernel
theorem dX4_taxMonth_25 : decode cX4_taxMonth 25 = .ok (.istore_n 3, 1) := by decide +kernel
theorem dX4_taxMonth_26 : decode cX4_taxMonth 26 = .ok (.iload_n 3, 1) := by decide +kernel
theorem dX4_taxMonth_27 : decode cX4_taxMonth 27 = .ok (.bipush 12, 2) := by decide +kernel
theorem dX4_taxMonth_29 : decode cX4_taxMonth 29 = .ok (.if_icmp .ge 82, 3) := by decide +kernel
theorem dX4_taxMonth_32 : decode cX4_taxMonth 32 = .ok (.aload_n 0, 1) := by decide +kernel
theorem dX4_taxMonth_33 : decode cX4_taxMonth 33 = .ok (.iload_n 3, 1) := by decide +kernel
theorem dX4_taxMonth_34 : decode cX4_taxMonth 34 = .ok (.invokevirtual 152, 3) := by decide +kernel
theorem dX4_taxMonth_37 : decode cX4_taxMonth 37 = .ok (.aload_n 0, 1) := by decide +kernel
theorem dX4_taxMonth_38 : decode cX4_taxMonth 38 = .ok (.invokevirtual 184, 3) := by decide +kernel
theorem dX4_taxMonth_41 : decode cX4_taxMonth 41 = .ok (.istore 4, 2) := by decide +kernel
theorem dX4_taxMonth_43 : decode cX4_taxMonth 43 = .ok (.aload_n 0, 1) := by decide +kernel
theorem dX4_taxMonth_44 : decode cX4_taxMonth 44 = .ok (.bipush 12, 2) := by decide +kernel
theorem dX4_taxMonth_46 : decode cX4_taxMonth 46 = .ok (.iload_n 3, 1) := by decide +kernel
theorem dX4_taxMonth_47 : decode cX4_taxMonth 47 = .ok (.isub, 1) := by decide +kernel
theorem dX4_taxMonth_48 : decode cX4_taxMonth 48 = .ok (.invokevirtual 152, 3) := by decide +kernel
theorem dX4_taxMonth_51 : decode cX4_taxMonth 51 = .ok (.aload_n 0, 1) := by decide +kernel
theorem dX4_taxMonth_52 : decode cX4_taxMonth 52 = .ok (.iconst 0, 1) := by decide +kernel
theorem dX4_taxMonth_53 : decode cX4_taxMonth 53 = .ok (.invokevirtual 120, 3) := by decide +kernel
theorem dX4_taxMonth_56 : decode cX4_taxMonth 56 = .ok (.aload_n 0, 1) := by decide +kernel
theorem dX4_taxMonth_57 : decode cX4_taxMonth 57 = .ok (.iconst 1, 1) := by decide +kernel
theorem dX4_taxMonth_58 : decode cX4_taxMonth 58 = .ok (.invokevirtual 120, 3) := by decide +kernel
theorem dX4_taxMonth_61 : decode cX4_taxMonth 61 = .ok (.iadd, 1) := by decide +kernel
theorem dX4_taxMonth_62 : decode cX4_taxMonth 62 = .ok (.aload_n 0, 1) := by decide +kernel
theorem dX4_taxMonth_63 : decode cX4_taxMonth 63 = .ok (.iconst 2, 1) := by decide +kernel
theorem dX4_taxMonth_64 : decode cX4_taxMonth 64 = .ok (.invokevirtual 120, 3) := by decide +kernel
theorem dX4_taxMonth_67 : decode cX4_taxMonth 67 = .ok (.iadd, 1) := by decide +kernel
theorem dX4_taxMonth_68 : decode cX4_taxMonth 68 = .ok (.aload_n 0, 1) := by decide +kernel
theorem dX4_taxMonth_69 : decode cX4_taxMonth 69 = .ok (.iconst 3, 1) := by decide +kernel
theorem dX4_taxMonth_70 : decode cX4_taxMonth 70 = .ok (.invokevirtual 120, 3) := by decide +kernel
theorem dX4_taxMonth_73 : decode cX4_taxMonth 73 = .ok (.iadd, 1) := by decide +kernel
theorem dX4_taxMonth_74 : decode cX4_taxMonth 74 = .ok (.istore 5, 2) := by decide +kernel
theorem dX4_taxMonth_76 : decode cX4_taxMonth 76 = .ok (.aload_n 0, 1) := by decide +kernel
theorem dX4_taxMonth_77 : decode cX4_taxMonth 77 = .ok (.invokevirtual 163, 3) := by decide +kernel
theorem dX4_taxMonth_80 : decode cX4_taxMonth 80 = .ok (.iload 5, 2) := by decide +kernel
theorem dX4_taxMonth_82 : decode cX4_taxMonth 82 = .ok (.iload_n 2, 1) := by decide +kernel
theorem dX4_taxMonth_83 : decode cX4_taxMonth 83 = .ok (.if_icmp .le 7, 3) := by decide +kernel
theorem dX4_taxMonth_86 : decode cX4_taxMonth 86 = .ok (.iload_n 3, 1) := by decide +kernel
theorem dX4_taxMonth_87 : decode cX4_taxMonth 87 = .ok (.goto 4, 3) := by decide +kernel
theorem dX4_taxMonth_90 : decode cX4_taxMonth 90 = .ok (.iload_n 1, 1) := by decide +kernel
theorem dX4_taxMonth_91 : decode cX4_taxMonth 91 = .ok (.istore_n 1, 1) := by decide +kernel
theorem dX4_taxMonth_92 : decode cX4_taxMonth 92 = .ok (.iload 5, 2) := by decide +kernel
theorem dX4_taxMonth_94 : decode cX4_taxMonth 94 = .ok (.iload_n 2, 1) := by decide +kernel
theorem dX4_taxMonth_95 : decode cX4_taxMonth 95 = .ok (.if_icmp .le 8, 3) := by decide +kernel
theorem dX4_taxMonth_98 : decode cX4_taxMonth 98 = .ok (.iload 5, 2) := by decide +kernel
theorem dX4_taxMonth_100 : decode cX4_taxMonth 100 = .ok (.goto 4, 3) := by decide +kernel
theorem dX4_taxMonth_103 : decode cX4_taxMonth 103 = .ok (.iload_n 2, 1) := by decide +kernel
theorem dX4_taxMonth_104 : decode cX4_taxMonth 104 = .ok (.istore_n 2, 1) := by decide +kernel
theorem dX4_taxMonth_105 : decode cX4_taxMonth 105 = .ok (.iinc 3 1, 3) := by decide +kernel
theorem dX4_taxMonth_108 : decode cX4_taxMonth 108 = .ok (.goto (-82), 3) := by decide +kernel
theorem dX4_taxMonth_111 : decode cX4_taxMonth 111 = .ok (.iload_n 1, 1) := by decide +kernel
theorem dX4_taxMonth_112 : decode cX4_taxMonth 112 = .ok (.ireturn, 1) := by decide +kernel
theorem dX4_bluesOf_0 : decode cX4_bluesOf 0 = .ok (.iconst 0, 1) := by decide +kernel
theorem dX4_bluesOf_1 : decode cX4_bluesOf 1 = .ok (.istore_n 2, 1) := by decide +kernel
theorem dX4_bluesOf_2 : decode cX4_bluesOf 2 = .ok (.iconst 0, 1) := by decide +kernel
theorem dX4_bluesOf_3 : decode cX4_bluesOf 3 = .ok (.istore_n 3, 1) := by decide +kernel
theorem dX4_bluesOf_4 : decode cX4_bluesOf 4 = .ok (.iload_n 3, 1) := by decide +kernel
theorem dX4_bluesOf_5 : decode cX4_bluesOf 5 = .ok (.aload_n 0, 1) := by decide +kernel
theorem dX4_bluesOf_6 : decode cX4_bluesOf 6 = .ok (.getfield 7, 3) := by decide +kernel
theorem dX4_bluesOf_9 : decode cX4_bluesOf 9 = .ok (.iconst 0, 1) := by decide +kernel
theorem dX4_bluesOf_10 : decode cX4_bluesOf 10 = .ok (.iaload, 1) := by decide +kernel
theorem dX4_bluesOf_11 : decode cX4_bluesOf 11 = .ok (.if_icmp .ge 48, 3) := by decide +kernel
theorem dX4_bluesOf_14 : decode cX4_bluesOf 14 = .ok (.iload_n 2, 1) := by decide +kernel
theorem dX4_bluesOf_15 : decode cX4_bluesOf 15 = .ok (.aload_n 0, 1) := by decide +kernel
theorem dX4_bluesOf_16 : decode cX4_bluesOf 16 = .ok (.iload_n 3, 1) := by decide +kernel
theorem dX4_bluesOf_17 : decode cX4_bluesOf 17 = .ok (.iconst 1, 1) := by decide +kernel
theorem dX4_bluesOf_18 : decode cX4_bluesOf 18 = .ok (.invokevirtual 84, 3) := by decide +kernel
theorem dX4_bluesOf_21 : decode cX4_bluesOf 21 = .ok (.iload_n 1, 1) := by decide +kernel
theorem dX4_bluesOf_22 : decode cX4_bluesOf 22 = .ok (.if_icmp .ne 28, 3) := by decide +kernel
theorem dX4_bluesOf_25 : decode cX4_bluesOf 25 = .ok (.aload_n 0, 1) := by decide +kernel
theorem dX4_bluesOf_26 : decode cX4_bluesOf 26 = .ok (.iload_n 3, 1) := by decide +kernel
theorem dX4_bluesOf_27 : decode cX4_bluesOf 27 = .ok (.iconst 3, 1) := by decide +kernel
theorem dX4_bluesOf_28 : decode cX4_bluesOf 28 = .ok (.invokevirtual 84, 3) := by decide +kernel
theorem dX4_bluesOf_31 : decode cX4_bluesOf 31 = .ok (.ifCond .ne 19, 3) := by decide +kernel
theorem dX4_bluesOf_34 : decode cX4_bluesOf 34 = .ok (.aload_n 0, 1) := by decide +kernel
theorem dX4_bluesOf_35 : decode cX4_bluesOf 35 = .ok (.iload_n 3, 1) := by decide +kernel
theorem dX4_bluesOf_36 : decode cX4_bluesOf 36 = .ok (.iconst 0, 1) := by decide +kernel
theorem dX4_bluesOf_37 : decode cX4_bluesOf 37 = .ok (.invokevirtual 84, 3) := by decide +kernel
theorem dX4_bluesOf_40 : decode cX4_bluesOf 40 = .ok (.invokestatic 101, 3) := by decide +kernel
theorem dX4_bluesOf_43 : decode cX4_bluesOf 43 = .ok (.ifCond .eq 7, 3) := by decide +kernel
theorem dX4_bluesOf_46 : decode cX4_bluesOf 46 = .ok (.iconst 1, 1) := by decide +kernel
theorem dX4_bluesOf_47 : decode cX4_bluesOf 47 = .ok (.goto 4, 3) := by decide +kernel
theorem dX4_bluesOf_50 : decode cX4_bluesOf 50 = .ok (.iconst 0, 1) := by decide +kernel
theorem dX4_bluesOf_51 : decode cX4_bluesOf 51 = .ok (.iadd, 1) := by decide +kernel
theorem dX4_bluesOf_52 : decode cX4_bluesOf 52 = .ok (.istore_n 2, 1) := by decide +kernel
theorem dX4_bluesOf_53 : decode cX4_bluesOf 53 = .ok (.iinc 3 1, 3) := by decide +kernel
theorem dX4_bluesOf_56 : decode cX4_bluesOf 56 = .ok (.goto (-52), 3) := by decide +kernel
theorem dX4_bluesOf_59 : decode cX4_bluesOf 59 = .ok (.iload_n 2, 1) := by decide +kernel
theorem dX4_bluesOf_60 : decode cX4_bluesOf 60 = .ok (.ireturn, 1) := by decide +kernel
theorem dX4_bank_0 : decode cX4_bank 0 = .ok (.iconst 0, 1) := by decide +kernel
theorem dX4_bank_1 : decode cX4_bank 1 = .ok (.istore_n 1, 1) := by decide +kernel
theorem dX4_bank_2 : decode cX4_bank 2 = .ok (.iconst 1, 1) := by decide +kernel
theorem dX4_bank_3 : decode cX4_bank 3 = .ok (.istore_n 2, 1) := by decide +kernel
theorem dX4_bank_4 : decode cX4_bank 4 = .ok (.iload_n 2, 1) := by decide +kernel
theorem dX4_bank_5 : decode cX4_bank 5 = .ok (.iconst 4, 1) := by decide +kernel
theorem dX4_bank_6 : decode cX4_bank 6 = .ok (.if_icmp .ge 28, 3) := by decide +kernel
theorem dX4_bank_9 : decode cX4_bank 9 = .ok (.aload_n 0, 1) := by decide +kernel
theorem dX4_bank_10 : decode cX4_bank 10 = .ok (.iload_n 2, 1) := by decide +kernel
theorem dX4_bank_11 : decode cX4_bank 11 = .ok (.invokevirtual 187, 3) := by decide +kernel
theorem dX4_bank_14 : decode cX4_bank 14 = .ok (.aload_n 0, 1) := by decide +kernel
theorem dX4_bank_15 : decode cX4_bank 15 = .ok (.iload_n 1, 1) := by decide +kernel
theorem dX4_bank_16 : decode cX4_bank 16 = .ok (.invokevirtual 187, 3) := by decide +kernel
theorem dX4_bank_19 : decode cX4_bank 19 = .ok (.if_icmp .le 7, 3) := by decide +kernel
theorem dX4_bank_22 : decode cX4_bank 22 = .ok (.iload_n 2, 1) := by decide +kernel
theorem dX4_bank_23 : decode cX4_bank 23 = .ok (.goto 4, 3) := by decide +kernel
theorem dX4_bank_26 : decode cX4_bank 26 = .ok (.iload_n 1, 1) := by decide +kernel
theorem dX4_bank_27 : decode cX4_bank 27 = .ok (.istore_n 1, 1) := by decide +kernel
theorem dX4_bank_28 : decode cX4_bank 28 = .ok (.iinc 2 1, 3) := by decide +kernel
theorem dX4_bank_31 : decode cX4_bank 31 = .ok (.goto (-27), 3) := by decide +kernel
theorem dX4_bank_34 : decode cX4_bank 34 = .ok (.aload_n 0, 1) := by decide +kernel
theorem dX4_bank_35 : decode cX4_bank 35 = .ok (.iload_n 1, 1) := by decide +kernel
theorem dX4_bank_36 : decode cX4_bank 36 = .ok (.invokevirtual 187, 3) := by decide +kernel
theorem dX4_bank_39 : decode cX4_bank 39 = .ok (.ifCond .ne 12, 3) := by decide +kernel
theorem dX4_bank_42 : decode cX4_bank 42 = .ok (.aload_n 0, 1) := by decide +kernel
theorem dX4_bank_43 : decode cX4_bank 43 = .ok (.ldc 166, 2) := by decide +kernel
theorem dX4_bank_45 : decode cX4_bank 45 = .ok (.invokevirtual 57, 3) := by decide +kernel
theorem dX4_bank_48 : decode cX4_bank 48 = .ok (.goto 4, 3) := by decide +kernel
theorem dX4_bank_51 : decode cX4_bank 51 = .ok (.iload_n 1, 1) := by decide +kernel
theorem dX4_bank_52 : decode cX4_bank 52 = .ok (.ireturn, 1) := by decide +kernel
theorem dX4_feed_0 : decode cX4_feed 0 = .ok (.iload_n 2, 1) := by decide +kernel
theorem dX4_feed_1 : decode cX4_feed 1 = .ok (.i2l, 1) := by decide +kernel
theorem dX4_feed_2 : decode cX4_feed 2 = .ok (.lconst 1, 1) := by decide +kernel
theorem dX4_feed_3 : decode cX4_feed 3 = .ok (.ldc2_w 82, 3) := by decide +kernel
theorem dX4_feed_6 : decode cX4_feed 6 = .ok (.invokestatic 49, 3) := by decide +kernel
theorem dX4_feed_9 : decode cX4_feed 9 = .ok (.ifCond .ne 10, 3) := by decide +kernel
theorem dX4_feed_12 : decode cX4_feed 12 = .ok (.aload_n 0, 1) := by decide +kernel
theorem dX4_feed_13 : decode cX4_feed 13 = .ok (.ldc 42, 2) := by decide +kernel
theorem dX4_feed_15 : decode cX4_feed 15 = .ok (.invokevirtual 57, 3) := by decide +kernel
theorem dX4_feed_18 : decode cX4_feed 18 = .ok (.ireturn, 1) := by decide +kernel
theorem dX4_feed_19 : decode cX4_feed 19 = .ok (.aload_n 0, 1) := by decide +kernel
theorem dX4_feed_20 : decode cX4_feed 20 = .ok (.getfield 190, 3) := by decide +kernel
theorem dX4_feed_23 : decode cX4_feed 23 = .ok (.iload_n 2, 1) := by decide +kernel
theorem dX4_feed_24 : decode cX4_feed 24 = .ok (.iadd, 1) := by decide +kernel
theorem dX4_feed_25 : decode cX4_feed 25 = .ok (.bipush 120, 2) := by decide +kernel
theorem dX4_feed_27 : decode cX4_feed 27 = .ok (.if_icmp .le 10, 3) := by decide +kernel
theorem dX4_feed_30 : decode cX4_feed 30 = .ok (.aload_n 0, 1) := by decide +kernel
theorem dX4_feed_31 : decode cX4_feed 31 = .ok (.ldc 71, 2) := by decide +kernel
theorem dX4_feed_33 : decode cX4_feed 33 = .ok (.invokevirtual 57, 3) := by decide +kernel
theorem dX4_feed_36 : decode cX4_feed 36 = .ok (.ireturn, 1) := by decide +kernel
theorem dX4_feed_37 : decode cX4_feed 37 = .ok (.iload_n 2, 1) := by decide +kernel
theorem dX4_feed_38 : decode cX4_feed 38 = .ok (.iconst 1, 1) := by decide +kernel
theorem dX4_feed_39 : decode cX4_feed 39 = .ok (.isub, 1) := by decide +kernel
theorem dX4_feed_40 : decode cX4_feed 40 = .ok (.istore_n 3, 1) := by decide +kernel
theorem dX4_feed_41 : decode cX4_feed 41 = .ok (.iload_n 3, 1) := by decide +kernel
theorem dX4_feed_42 : decode cX4_feed 42 = .ok (.ifCond .lt 38, 3) := by decide +kernel
theorem dX4_feed_45 : decode cX4_feed 45 = .ok (.aload_n 0, 1) := by decide +kernel
theorem dX4_feed_46 : decode cX4_feed 46 = .ok (.getfield 22, 3) := by decide +kernel
theorem dX4_feed_49 : decode cX4_feed 49 = .ok (.aload_n 0, 1) := by decide +kernel
theorem dX4_feed_50 : decode cX4_feed 50 = .ok (.getfield 190, 3) := by decide +kernel
theorem dX4_feed_53 : decode cX4_feed 53 = .ok (.iload_n 1, 1) := by decide +kernel
theorem dX4_feed_54 : decode cX4_feed 54 = .ok (.bipush 8, 2) := by decide +kernel
theorem dX4_feed_56 : decode cX4_feed 56 = .ok (.iload_n 3, 1) := by decide +kernel
theorem dX4_feed_57 : decode cX4_feed 57 = .ok (.imul, 1) := by decide +kernel
theorem dX4_feed_58 : decode cX4_feed 58 = .ok (.ishr, 1) := by decide +kernel
theorem dX4_feed_59 : decode cX4_feed 59 = .ok (.sipush 255, 3) := by decide +kernel
theorem dX4_feed_62 : decode cX4_feed 62 = .ok (.iand, 1) := by decide +kernel
theorem dX4_feed_63 : decode cX4_feed 63 = .ok (.iastore, 1) := by decide +kernel
theorem dX4_feed_64 : decode cX4_feed 64 = .ok (.aload_n 0, 1) := by decide +kernel
theorem dX4_feed_65 : decode cX4_feed 65 = .ok (.dup, 1) := by decide +kernel
theorem dX4_feed_66 : decode cX4_feed 66 = .ok (.getfield 190, 3) := by decide +kernel
theorem dX4_feed_69 : decode cX4_feed 69 = .ok (.iconst 1, 1) := by decide +kernel
theorem dX4_feed_70 : decode cX4_feed 70 = .ok (.iadd, 1) := by decide +kernel
theorem dX4_feed_71 : decode cX4_feed 71 = .ok (.putfield 190, 3) := by decide +kernel
theorem dX4_feed_74 : decode cX4_feed 74 = .ok (.iinc 3 (-1), 3) := by decide +kernel
theorem dX4_feed_77 : decode cX4_feed 77 = .ok (.goto (-36), 3) := by decide +kernel
theorem dX4_feed_80 : decode cX4_feed 80 = .ok (.aload_n 0, 1) := by decide +kernel
theorem dX4_feed_81 : decode cX4_feed 81 = .ok (.getfield 190, 3) := by decide +kernel
theorem dX4_feed_84 : decode cX4_feed 84 = .ok (.ireturn, 1) := by decide +kernel
theorem dX4_wipe_0 : decode cX4_wipe 0 = .ok (.aload_n 0, 1) := by decide +kernel
theorem dX4_wipe_1 : decode cX4_wipe 1 = .ok (.getfield 190, 3) := by decide +kernel
theorem dX4_wipe_4 : decode cX4_wipe 4 = .ok (.istore_n 1, 1) := by decide +kernel
theorem dX4_wipe_5 : decode cX4_wipe 5 = .ok (.aload_n 0, 1) := by decide +kernel
theorem dX4_wipe_6 : decode cX4_wipe 6 = .ok (.iconst 0, 1) := by decide +kernel
theorem dX4_wipe_7 : decode cX4_wipe 7 = .ok (.putfield 190, 3) := by decide +kernel
theorem dX4_wipe_10 : decode cX4_wipe 10 = .ok (.iload_n 1, 1) := by decide +kernel
theorem dX4_wipe_11 : decode cX4_wipe 11 = .ok (.ireturn, 1) := by decide +kernel
theorem dX4_isLetter_0 : decode cX4_isLetter 0 = .ok (.iload_n 0, 1) := by decide +kernel
theorem dX4_isLetter_1 : decode cX4_isLetter 1 = .ok (.bipush 97, 2) := by decide +kernel
theorem dX4_isLetter_3 : decode cX4_isLetter 3 = .ok (.if_icmp .lt 13, 3) := by decide +kernel
theorem dX4_isLetter_6 : decode cX4_isLetter 6 = .ok (.iload_n 0, 1) := by decide +kernel
theorem dX4_isLetter_7 : decode cX4_isLetter 7 = .ok (.bipush 122, 2) := by decide +kernel
theorem dX4_isLetter_9 : decode cX4_isLetter 9 = .ok (.if_icmp .gt 7, 3) := by decide +kernel
theorem dX4_isLetter_12 : decode cX4_isLetter 12 = .ok (.iconst 1, 1) := by decide +kernel
theorem dX4_isLetter_13 : decode cX4_isLetter 13 = .ok (.goto 4, 3) := by decide +kernel
theorem dX4_isLetter_16 : decode cX4_isLetter 16 = .ok (.iconst 0, 1) := by decide +kernel
theorem dX4_isLetter_17 : decode cX4_isLetter 17 = .ok (.ireturn, 1) := by decide +kernel
theorem dX4_isDigit_0 : decode cX4_isDigit 0 = .ok (.iload_n 0, 1) := by decide +kernel
theorem dX4_isDigit_1 : decode cX4_isDigit 1 = .ok (.bipush 48, 2) := by decide +kernel
theorem dX4_isDigit_3 : decode cX4_isDigit 3 = .ok (.if_icmp .lt 13, 3) := by decide +kernel
theorem dX4_isDigit_6 : decode cX4_isDigit 6 = .ok (.iload_n 0, 1) := by decide +kernel
theorem dX4_isDigit_7 : decode cX4_isDigit 7 = .ok (.bipush 57, 2) := by decide +kernel
theorem dX4_isDigit_9 : decode cX4_isDigit 9 = .ok (.if_icmp .gt 7, 3) := by decide +kernel
theorem dX4_isDigit_12 : decode cX4_isDigit 12 = .ok (.iconst 1, 1) := by decide +kernel
theorem dX4_isDigit_13 : decode cX4_isDigit 13 = .ok (.goto 4, 3) := by decide +kernel
theorem dX4_isDigit_16 : decode cX4_isDigit 16 = .ok (.iconst 0, 1) := by decide +kernel
theorem dX4_isDigit_17 : decode cX4_isDigit 17 = .ok (.ireturn, 1) := by decide +kernel
theorem dX4_byteAt_0 : decode cX4_byteAt 0 = .ok (.iload_n 1, 1) := by decide +kernel
theorem dX4_byteAt_1 : decode cX4_byteAt 1 = .ok (.aload_n 0, 1) := by decide +kernel
theorem dX4_byteAt_2 : decode cX4_byteAt 2 = .ok (.getfield 190, 3) := by decide +kernel
theorem dX4_byteAt_5 : decode cX4_byteAt 5 = .ok (.if_icmp .ge 12, 3) := by decide +kernel
theorem dX4_byteAt_8 : decode cX4_byteAt 8 = .ok (.aload_n 0, 1) := by decide +kernel
theorem dX4_byteAt_9 : decode cX4_byteAt 9 = .ok (.getfield 22, 3) := by decide +kernel
theorem dX4_byteAt_12 : decode cX4_byteAt 12 = .ok (.iload_n 1, 1) := by decide +kernel
theorem dX4_byteAt_13 : decode cX4_byteAt 13 = .ok (.iaload, 1) := by decide +kernel
theorem dX4_byteAt_14 : decode cX4_byteAt 14 = .ok (.goto 4, 3) := by decide +kernel
theorem dX4_byteAt_17 : decode cX4_byteAt 17 = .ok (.iconst (-1), 1) := by decide +kernel
theorem dX4_byteAt_18 : decode cX4_byteAt 18 = .ok (.ireturn, 1) := by decide +kernel
theorem dX4_nextToken_0 : decode cX4_nextToken 0 = .ok (.aload_n 0, 1) := by decide +kernel
theorem dX4_nextToken_1 : decode cX4_nextToken 1 = .ok (.aload_n 0, 1) := by decide +kernel
theorem dX4_nextToken_2 : decode cX4_nextToken 2 = .ok (.getfield 194, 3) := by decide +kernel
theorem dX4_nextToken_5 : decode cX4_nextToken 5 = .ok (.putfield 197, 3) := by decide +kernel
theorem dX4_nextToken_8 : decode cX4_nextToken 8 = .ok (.aload_n 0, 1) := by decide +kernel
theorem dX4_nextToken_9 : decode cX4_nextToken 9 = .ok (.aload_n 0, 1) := by decide +kernel
theorem dX4_nextToken_10 : decode cX4_nextToken 10 = .ok (.getfield 197, 3) := by decide +kernel
theorem dX4_nextToken_13 : decode cX4_nextToken 13 = .ok (.invokevirtual 200, 3) := by decide +kernel
theorem dX4_nextToken_16 : decode cX4_nextToken 16 = .ok (.bipush 32, 2) := by decide +kernel
theorem dX4_nextToken_18 : decode cX4_nextToken 18 = .ok (.if_icmp .ne 16, 3) := by decide +kernel
theorem dX4_nextToken_21 : decode cX4_nextToken 21 = .ok (.aload_n 0, 1) := by decide +kernel
theorem dX4_nextToken_22 : decode cX4_nextToken 22 = .ok (.dup, 1) := by decide +kernel
theorem dX4_nextToken_23 : decode cX4_nextToken 23 = .ok (.getfield 197, 3) := by decide +kernel
theorem dX4_nextToken_26 : decode cX4_nextToken 26 = .ok (.iconst 1, 1) := by decide +kernel
theorem dX4_nextToken_27 : decode cX4_nextToken 27 = .ok (.iadd, 1) := by decide +kernel
theorem dX4_nextToken_28 : decode cX4_nextToken 28 = .ok (.putfield 197, 3) := by decide +kernel
theorem dX4_nextToken_31 : decode cX4_nextToken 31 = .ok (.goto (-23), 3) := by decide +kernel
theorem dX4_nextToken_34 : decode cX4_nextToken 34 = .ok (.aload_n 0, 1) := by decide +kernel
theorem dX4_nextToken_35 : decode cX4_nextToken 35 = .ok (.aload_n 0, 1) := by decide +kernel
theorem dX4_nextToken_36 : decode cX4_nextToken 36 = .ok (.getfield 197, 3) := by decide +kernel
theorem dX4_nextToken_39 : decode cX4_nextToken 39 = .ok (.putfield 194, 3) := by decide +kernel
theorem dX4_nextToken_42 : decode cX4_nextToken 42 = .ok (.aload_n 0, 1) := by decide +kernel
theorem dX4_nextToken_43 : decode cX4_nextToken 43 = .ok (.aload_n 0, 1) := by decide +kernel
theorem dX4_nextToken_44 : decode cX4_nextToken 44 = .ok (.getfield 197, 3) := by decide +kernel
theorem dX4_nextToken_47 : decode cX4_nextToken 47 = .ok (.invokevirtual 200, 3) := by decide +kernel
theorem dX4_nextToken_50 : decode cX4_nextToken 50 = .ok (.istore_n 1, 1) := by decide +kernel
theorem dX4_nextToken_51 : decode cX4_nextToken 51 = .ok (.aload_n 0, 1) := by decide +kernel
theorem dX4_nextToken_52 : decode cX4_nextToken 52 = .ok (.iload_n 1, 1) := by decide +kernel
theorem dX4_nextToken_53 : decode cX4_nextToken 53 = .ok (.ifCond .ge 7, 3) := by decide +kernel
theorem dX4_nextToken_56 : decode cX4_nextToken 56 = .ok (.iconst 0, 1) := by decide +kernel
theorem dX4_nextToken_57 : decode cX4_nextToken 57 = .ok (.goto 36, 3) := by decide +kernel
theorem dX4_nextToken_60 : decode cX4_nextToken 60 = .ok (.iload_n 1, 1) := by decide +kernel
theorem dX4_nextToken_61 : decode cX4_nextToken 61 = .ok (.invokestatic 203, 3) := by decide +kernel
theorem dX4_nextToken_64 : decode cX4_nextToken 64 = .ok (.ifCond .eq 7, 3) := by decide +kernel
theorem dX4_nextToken_67 : decode cX4_nextToken 67 = .ok (.iconst 1, 1) := by decide +kernel
theorem dX4_nextToken_68 : decode cX4_nextToken 68 = .ok (.goto 25, 3) := by decide +kernel
theorem dX4_nextToken_71 : decode cX4_nextToken 71 = .ok (.iload_n 1, 1) := by decide +kernel
theorem dX4_nextToken_72 : decode cX4_nextToken 72 = .ok (.invokestatic 206, 3) := by decide +kernel
theorem dX4_nextToken_75 : decode cX4_nextToken 75 = .ok (.ifCond .eq 7, 3) := by decide +kernel
theorem dX4_nextToken_78 : decode cX4_nextToken 78 = .ok (.iconst 2, 1) := by decide +kernel
theorem dX4_nextToken_79 : decode cX4_nextToken 79 = .ok (.goto 14, 3) := by decide +kernel
theorem dX4_nextToken_82 : decode cX4_nextToken 82 = .ok (.iload_n 1, 1) := by decide +kernel
theorem dX4_nextToken_83 : decode cX4_nextToken 83 = .ok (.bipush 59, 2) := by decide +kernel
theorem dX4_nextToken_85 : decode cX4_nextToken 85 = .ok (.if_icmp .ne 7, 3) := by decide +kernel
theorem dX4_nextToken_88 : decode cX4_nextToken 88 = .ok (.iconst 3, 1) := by decide +kernel
theorem dX4_nextToken_89 : decode cX4_nextToken 89 = .ok (.goto 4, 3) := by decide +kernel
theorem dX4_nextToken_92 : decode cX4_nextToken 92 = .ok (.iconst 4, 1) := by decide +kernel
theorem dX4_nextToken_93 : decode cX4_nextToken 93 = .ok (.putfield 209, 3) := by decide +kernel
theorem dX4_nextToken_96 : decode cX4_nextToken 96 = .ok (.aload_n 0, 1) := by decide +kernel
theorem dX4_nextToken_97 : decode cX4_nextToken 97 = .ok (.iconst 0, 1) := by decide +kernel
theorem dX4_nextToken_98 : decode cX4_nextToken 98 = .ok (.putfield 212, 3) := by decide +kernel
theorem dX4_nextToken_101 : decode cX4_nextToken 101 = .ok (.aload_n 0, 1) := by decide +kernel
theorem dX4_nextToken_102 : decode cX4_nextToken 102 = .ok (.getfield 209, 3) := by decide +kernel
theorem dX4_nextToken_105 : decode cX4_nextToken 105 = .ok (.iconst 1, 1) := by decide +kernel
theorem dX4_nextToken_106 : decode cX4_nextToken 106 = .ok (.if_icmp .ne 30, 3) := by decide +kernel
theorem dX4_nextToken_109 : decode cX4_nextToken 109 = .ok (.aload_n 0, 1) := by decide +kernel
theorem dX4_nextToken_110 : decode cX4_nextToken 110 = .ok (.aload_n 0, 1) := by decide +kernel
theorem dX4_nextToken_111 : decode cX4_nextToken 111 = .ok (.getfield 194, 3) := by decide +kernel
theorem dX4_nextToken_114 : decode cX4_nextToken 114 = .ok (.invokevirtual 200, 3) := by decide +kernel
theorem dX4_nextToken_117 : decode cX4_nextToken 117 = .ok (.invokestatic 203, 3) := by decide +kernel
theorem dX4_nextToken_120 : decode cX4_nextToken 120 = .ok (.ifCond .eq 16, 3) := by decide +kernel
theorem dX4_nextToken_123 : decode cX4_nextToken 123 = .ok (.aload_n 0, 1) := by decide +kernel
theorem dX4_nextToken_124 : decode cX4_nextToken 124 = .ok (.dup, 1) := by decide +kernel
theorem dX4_nextToken_125 : decode cX4_nextToken 125 = .ok (.getfield 194, 3) := by decide +kernel
theorem dX4_nextToken_128 : decode cX4_nextToken 128 = .ok (.iconst 1, 1) := by decide +kernel
theorem dX4_nextToken_129 : decode cX4_nextToken 129 = .ok (.iadd, 1) := by decide +kernel
theorem dX4_nextToken_130 : decode cX4_nextToken 130 = .ok (.putfield 194, 3) := by decide +kernel
theorem dX4_nextToken_133 : decode cX4_nextToken 133 = .ok (.goto (-32), 3) := by decide +kernel
theorem dX4_nextToken_136 : decode cX4_nextToken 136 = .ok (.aload_n 0, 1) := by decide +kernel
theorem dX4_nextToken_137 : decode cX4_nextToken 137 = .ok (.getfield 209, 3) := by decide +kernel
theorem dX4_nextToken_140 : decode cX4_nextToken 140 = .ok (.iconst 2, 1) := by decide +kernel
theorem dX4_nextToken_141 : decode cX4_nextToken 141 = .ok (.if_icmp .ne 70, 3) := by decide +kernel
theorem dX4_nextToken_144 : decode cX4_nextToken 144 = .ok (.aload_n 0, 1) := by decide +kernel
theorem dX4_nextToken_145 : decode cX4_nextToken 145 = .ok (.aload_n 0, 1) := by decide +kernel
theorem dX4_nextToken_146 : decode cX4_nextToken 146 = .ok (.getfield 194, 3) := by decide +kernel
theorem dX4_nextToken_149 : decode cX4_nextToken 149 = .ok (.invokevirtual 200, 3) := by decide +kernel
theorem dX4_nextToken_152 : decode cX4_nextToken 152 = .ok (.invokestatic 206, 3) := by decide +kernel
theorem dX4_nextToken_155 : decode cX4_nextToken 155 = .ok (.ifCond .eq 56, 3) := by decide +kernel
theorem dX4_nextToken_158 : decode cX4_nextToken 158 = .ok (.aload_n 0, 1) := by decide +kernel
theorem dX4_nextToken_159 : decode cX4_nextToken 159 = .ok (.aload_n 0, 1) := by decide +kernel
theorem dX4_nextToken_160 : decode cX4_nextToken 160 = .ok (.getfield 212, 3) := by decide +kernel
theorem dX4_nextToken_163 : decode cX4_nextToken 163 = .ok (.sipush 9999, 3) := by decide +kernel
theorem dX4_nextToken_166 : decode cX4_nextToken 166 = .ok (.if_icmp .le 10, 3) := by decide +kernel
theorem dX4_nextToken_169 : decode cX4_nextToken 169 = .ok (.aload_n 0, 1) := by decide +kernel
theorem dX4_nextToken_170 : decode cX4_nextToken 170 = .ok (.getfield 212, 3) := by decide +kernel
theorem dX4_nextToken_173 : decode cX4_nextToken 173 = .ok (.goto 22, 3) := by decide +kernel
theorem dX4_nextToken_176 : decode cX4_nextToken 176 = .ok (.bipush 10, 2) := by decide +kernel
theorem dX4_nextToken_178 : decode cX4_nextToken 178 = .ok (.aload_n 0, 1) := by decide +kernel
theorem dX4_nextToken_179 : decode cX4_nextToken 179 = .ok (.getfield 212, 3) := by decide +kernel
theorem dX4_nextToken_182 : decode cX4_nextToken 182 = .ok (.imul, 1) := by decide +kernel
theorem dX4_nextToken_183 : decode cX4_nextToken 183 = .ok (.aload_n 0, 1) := by decide +kernel
theorem dX4_nextToken_184 : decode cX4_nextToken 184 = .ok (.aload_n 0, 1) := by decide +kernel
theorem dX4_nextToken_185 : decode cX4_nextToken 185 = .ok (.getfield 194, 3) := by decide +kernel
theorem dX4_nextToken_188 : decode cX4_nextToken 188 = .ok (.invokevirtual 200, 3) := by decide +kernel
theorem dX4_nextToken_191 : decode cX4_nextToken 191 = .ok (.iadd, 1) := by decide +kernel
theorem dX4_nextToken_192 : decode cX4_nextToken 192 = .ok (.bipush 48, 2) := by decide +kernel
theorem dX4_nextToken_194 : decode cX4_nextToken 194 = .ok (.isub, 1) := by decide +kernel
theorem dX4_nextToken_195 : decode cX4_nextToken 195 = .ok (.putfield 212, 3) := by decide +kernel
theorem dX4_nextToken_198 : decode cX4_nextToken 198 = .ok (.aload_n 0, 1) := by decide +kernel
theorem dX4_nextToken_199 : decode cX4_nextToken 199 = .ok (.dup, 1) := by decide +kernel
theorem dX4_nextToken_200 : decode cX4_nextToken 200 = .ok (.getfield 194, 3) := by decide +kernel
theorem dX4_nextToken_203 : decode cX4_nextToken 203 = .ok (.iconst 1, 1) := by decide +kernel
theorem dX4_nextToken_204 : decode cX4_nextToken 204 = .ok (.iadd, 1) := by decide +kernel
theorem dX4_nextToken_205 : decode cX4_nextToken 205 = .ok (.putfield 194, 3) := by decide +kernel
theorem dX4_nextToken_208 : decode cX4_nextToken 208 = .ok (.goto (-72), 3) := by decide +kernel
theorem dX4_nextToken_211 : decode cX4_nextToken 211 = .ok (.aload_n 0, 1) := by decide +kernel
theorem dX4_nextToken_212 : decode cX4_nextToken 212 = .ok (.dup, 1) := by decide +kernel
theorem dX4_nextToken_213 : decode cX4_nextToken 213 = .ok (.getfield 194, 3) := by decide +kernel
theorem dX4_nextToken_216 : decode cX4_nextToken 216 = .ok (.aload_n 0, 1) := by decide +kernel
theorem dX4_nextToken_217 : decode cX4_nextToken 217 = .ok (.getfield 209, 3) := by decide +kernel
theorem dX4_nextToken_220 : decode cX4_nextToken 220 = .ok (.iconst 2, 1) := by decide +kernel
theorem dX4_nextToken_221 : decode cX4_nextToken 221 = .ok (.if_icmp .le 7, 3) := by decide +kernel
theorem dX4_nextToken_224 : decode cX4_nextToken 224 = .ok (.iconst 1, 1) := by decide +kernel
theorem dX4_nextToken_225 : decode cX4_nextToken 225 = .ok (.goto 4, 3) := by decide +kernel
theorem dX4_nextToken_228 : decode cX4_nextToken 228 = .ok (.iconst 0, 1) := by decide +kernel
theorem dX4_nextToken_229 : decode cX4_nextToken 229 = .ok (.iadd, 1) := by decide +kernel
theorem dX4_nextToken_230 : decode cX4_nextToken 230 = .ok (.putfield 194, 3) := by decide +kernel
theorem dX4_nextToken_233 : decode cX4_nextToken 233 = .ok (.return_, 1) := by decide +kernel
theorem dX4_has3_0 : decode cX4_has3 0 = .ok (.aload_n 0, 1) := by decide +kernel
theorem dX4_has3_1 : decode cX4_has3 1 = .ok (.aload_n 0, 1) := by decide +kernel
theorem dX4_has3_2 : decode cX4_has3 2 = .ok (.getfield 197, 3) := by decide +kernel
theorem dX4_has3_5 : decode cX4_has3 5 = .ok (.iload_n 1, 1) := by decide +kernel
theorem dX4_has3_6 : decode cX4_has3 6 = .ok (.iadd, 1) := by decide +kernel
theorem dX4_has3_7 : decode cX4_has3 7 = .ok (.invokevirtual 200, 3) := by decide +kernel
theorem dX4_has3_10 : decode cX4_has3 10 = .ok (.iload_n 2, 1) := by decide +kernel
theorem dX4_has3_11 : decode cX4_has3 11 = .ok (.if_icmp .ne 40, 3) := by decide +kernel
theorem dX4_has3_14 : decode cX4_has3 14 = .ok (.aload_n 0, 1) := by decide +kernel
theorem dX4_has3_15 : decode cX4_has3 15 = .ok (.aload_n 0, 1) := by decide +kernel
theorem dX4_has3_16 : decode cX4_has3 16 = .ok (.getfield 197, 3) := by decide +kernel
theorem dX4_has3_19 : decode cX4_has3 19 = .ok (.iload_n 1, 1) := by decide +kernel
theorem dX4_has3_20 : decode cX4_has3 20 = .ok (.iadd, 1) := by decide +kernel
theorem dX4_has3_21 : decode cX4_has3 21 = .ok (.iconst 1, 1) := by decide +kernel
theorem dX4_has3_22 : decode cX4_has3 22 = .ok (.iadd, 1) := by decide +kernel
theorem dX4_has3_23 : decode cX4_has3 23 = .ok (.invokevirtual 200, 3) := by decide +kernel
theorem dX4_has3_26 : decode cX4_has3 26 = .ok (.iload_n 3, 1) := by decide +kernel
theorem dX4_has3_27 : decode cX4_has3 27 = .ok (.if_icmp .ne 24, 3) := by decide +kernel
theorem dX4_has3_30 : decode cX4_has3 30 = .ok (.aload_n 0, 1) := by decide +kernel
theorem dX4_has3_31 : decode cX4_has3 31 = .ok (.aload_n 0, 1) := by decide +kernel
theorem dX4_has3_32 : decode cX4_has3 32 = .ok (.getfield 197, 3) := by decide +kernel
theorem dX4_has3_35 : decode cX4_has3 35 = .ok (.iload_n 1, 1) := by decide +kernel
theorem dX4_has3_36 : decode cX4_has3 36 = .ok (.iadd, 1) := by decide +kernel
theorem dX4_has3_37 : decode cX4_has3 37 = .ok (.iconst 2, 1) := by decide +kernel
theorem dX4_has3_38 : decode cX4_has3 38 = .ok (.iadd, 1) := by decide +kernel
theorem dX4_has3_39 : decode cX4_has3 39 = .ok (.invokevirtual 200, 3) := by decide +kernel
theorem dX4_has3_42 : decode cX4_has3 42 = .ok (.iload 4, 2) := by decide +kernel
theorem dX4_has3_44 : decode cX4_has3 44 = .ok (.if_icmp .ne 7, 3) := by decide +kernel
theorem dX4_has3_47 : decode cX4_has3 47 = .ok (.iconst 1, 1) := by decide +kernel
theorem dX4_has3_48 : decode cX4_has3 48 = .ok (.goto 4, 3) := by decide +kernel
theorem dX4_has3_51 : decode cX4_has3 51 = .ok (.iconst 0, 1) := by decide +kernel
theorem dX4_has3_52 : decode cX4_has3 52 = .ok (.ireturn, 1) := by decide +kernel
theorem dX4_isWord_0 : decode cX4_isWord 0 = .ok (.aload_n 0, 1) := by decide +kernel
theorem dX4_isWord_1 : decode cX4_isWord 1 = .ok (.getfield 209, 3) := by decide +kernel
theorem dX4_isWord_4 : decode cX4_isWord 4 = .ok (.iconst 1, 1) := by decide +kernel
theorem dX4_isWord_5 : decode cX4_isWord 5 = .ok (.if_icmp .ne 20, 3) := by decide +kernel
theorem dX4_isWord_8 : decode cX4_isWord 8 = .ok (.aload_n 0, 1) := by decide +kernel
theorem dX4_isWord_9 : decode cX4_isWord 9 = .ok (.getfield 194, 3) := by decide +kernel
theorem dX4_isWord_12 : decode cX4_isWord 12 = .ok (.aload_n 0, 1) := by decide +kernel
theorem dX4_isWord_13 : decode cX4_isWord 13 = .ok (.getfield 197, 3) := by decide +kernel
theorem dX4_isWord_16 : decode cX4_isWord 16 = .ok (.isub, 1) := by decide +kernel
theorem dX4_isWord_17 : decode cX4_isWord 17 = .ok (.iload_n 1, 1) := by decide +kernel
theorem dX4_isWord_18 : decode cX4_isWord 18 = .ok (.if_icmp .ne 7, 3) := by decide +kernel
theorem dX4_isWord_21 : decode cX4_isWord 21 = .ok (.iconst 1, 1) := by decide +kernel
theorem dX4_isWord_22 : decode cX4_isWord 22 = .ok (.goto 4, 3) := by decide +kernel
theorem dX4_isWord_25 : decode cX4_isWord 25 = .ok (.iconst 0, 1) := by decide +kernel
theorem dX4_isWord_26 : decode cX4_isWord 26 = .ok (.ireturn, 1) := by decide +kernel
theorem dX4_isWord4_0 : decode cX4_isWord4 0 = .ok (.aload_n 0, 1) := by decide +kernel
theorem dX4_isWord4_1 : decode cX4_isWord4 1 = .ok (.iconst 4, 1) := by decide +kernel
theorem dX4_isWord4_2 : decode cX4_isWord4 2 = .ok (.invokevirtual 215, 3) := by decide +kernel
theorem dX4_isWord4_5 : decode cX4_isWord4 5 = .ok (.ifCond .eq 33, 3) := by decide +kernel
theorem dX4_isWord4_8 : decode cX4_isWord4 8 = .ok (.aload_n 0, 1) := by decide +kernel
theorem dX4_isWord4_9 : decode cX4_isWord4 9 = .ok (.iconst 0, 1) := by decide +kernel
theorem dX4_isWord4_10 : decode cX4_isWord4 10 = .ok (.iload_n 1, 1) := by decide +kernel
theorem dX4_isWord4_11 : decode cX4_isWord4 11 = .ok (.iload_n 2, 1) := by decide +kernel
theorem dX4_isWord4_12 : decode cX4_isWord4 12 = .ok (.iload_n 3, 1) := by decide +kernel
theorem dX4_isWord4_13 : decode cX4_isWord4 13 = .ok (.invokevirtual 218, 3) := by decide +kernel
theorem dX4_isWord4_16 : decode cX4_isWord4 16 = .ok (.ifCond .eq 22, 3) := by decide +kernel
theorem dX4_isWord4_19 : decode cX4_isWord4 19 = .ok (.aload_n 0, 1) := by decide +kernel
theorem dX4_isWord4_20 : decode cX4_isWord4 20 = .ok (.aload_n 0, 1) := by decide +kernel
theorem dX4_isWord4_21 : decode cX4_isWord4 21 = .ok (.getfield 197, 3) := by decide +kernel
theorem dX4_isWord4_24 : decode cX4_isWord4 24 = .ok (.iconst 3, 1) := by decide +kernel
theorem dX4_isWord4_25 : decode cX4_isWord4 25 = .ok (.iadd, 1) := by decide +kernel
theorem dX4_isWord4_26 : decode cX4_isWord4 26 = .ok (.invokevirtual 200, 3) := by decide +kernel
theorem dX4_isWord4_29 : decode cX4_isWord4 29 = .ok (.iload 4, 2) := by decide +kernel
theorem dX4_isWord4_31 : decode cX4_isWord4 31 = .ok (.if_icmp .ne 7, 3) := by decide +kernel
theorem dX4_isWord4_34 : decode cX4_isWord4 34 = .ok (.iconst 1, 1) := by decide +kernel
theorem dX4_isWord4_35 : decode cX4_isWord4 35 = .ok (.goto 4, 3) := by decide +kernel
theorem dX4_isWord4_38 : decode cX4_isWord4 38 = .ok (.iconst 0, 1) := by decide +kernel
theorem dX4_isWord4_39 : decode cX4_isWord4 39 = .ok (.ireturn, 1) := by decide +kernel
theorem dX4_kindNamed_0 : decode cX4_kindNamed 0 = .ok (.aload_n 0, 1) := by decide +kernel
theorem dX4_kindNamed_1 : decode cX4_kindNamed 1 = .ok (.bipush 99, 2) := by decide +kernel
theorem dX4_kindNamed_3 : decode cX4_kindNamed 3 = .ok (.bipush 111, 2) := by decide +kernel
theorem dX4_kindNamed_5 : decode cX4_kindNamed 5 = .ok (.bipush 105, 2) := by decide +kernel
theorem dX4_kindNamed_7 : decode cX4_kindNamed 7 = .ok (.bipush 110, 2) := by decide +kernel
theorem dX4_kindNamed_9 : decode cX4_kindNamed 9 = .ok (.invokevirtual 222, 3) := by decide +kernel
theorem dX4_kindNamed_12 : decode cX4_kindNamed 12 = .ok (.ifCond .eq 5, 3) := by decide +kernel
theorem dX4_kindNamed_15 : decode cX4_kindNamed 15 = .ok (.iconst 0, 1) := by decide +kernel
theorem dX4_kindNamed_16 : decode cX4_kindNamed 16 = .ok (.ireturn, 1) := by decide +kernel
theorem dX4_kindNamed_17 : decode cX4_kindNamed 17 = .ok (.aload_n 0, 1) := by decide +kernel
theorem dX4_kindNamed_18 : decode cX4_kindNamed 18 = .ok (.bipush 98, 2) := by decide +kernel
theorem dX4_kindNamed_20 : decode cX4_kindNamed 20 = .ok (.bipush 108, 2) := by decide +kernel
theorem dX4_kindNamed_22 : decode cX4_kindNamed 22 = .ok (.bipush 117, 2) := by decide +kernel
theorem dX4_kindNamed_24 : decode cX4_kindNamed 24 = .ok (.bipush 101, 2) := by decide +kernel
theorem dX4_kindNamed_26 : decode cX4_kindNamed 26 = .ok (.invokevirtual 222, 3) := by decide +kernel
theorem dX4_kindNamed_29 : decode cX4_kindNamed 29 = .ok (.ifCond .eq 5, 3) := by decide +kernel
theorem dX4_kindNamed_32 : decode cX4_kindNamed 32 = .ok (.iconst 1, 1) := by decide +kernel
theorem dX4_kindNamed_33 : decode cX4_kindNamed 33 = .ok (.ireturn, 1) := by decide +kernel
theorem dX4_kindNamed_34 : decode cX4_kindNamed 34 = .ok (.aload_n 0, 1) := by decide +kernel
theorem dX4_kindNamed_35 : decode cX4_kindNamed 35 = .ok (.iconst 3, 1) := by decide +kernel
theorem dX4_kindNamed_36 : decode cX4_kindNamed 36 = .ok (.invokevirtual 215, 3) := by decide +kernel
theorem dX4_kindNamed_39 : decode cX4_kindNamed 39 = .ok (.ifCond .eq 19, 3) := by decide +kernel
theorem dX4_kindNamed_42 : decode cX4_kindNamed 42 = .ok (.aload_n 0, 1) := by decide +kernel
theorem dX4_kindNamed_43 : decode cX4_kindNamed 43 = .ok (.iconst 0, 1) := by decide +kernel
theorem dX4_kindNamed_44 : decode cX4_kindNamed 44 = .ok (.bipush 114, 2) := by decide +kernel
theorem dX4_kindNamed_46 : decode cX4_kindNamed 46 = .ok (.bipush 101, 2) := by decide +kernel
theorem dX4_kindNamed_48 : decode cX4_kindNamed 48 = .ok (.bipush 100, 2) := by decide +kernel
theorem dX4_kindNamed_50 : decode cX4_kindNamed 50 = .ok (.invokevirtual 218, 3) := by decide +kernel
theorem dX4_kindNamed_53 : decode cX4_kindNamed 53 = .ok (.ifCond .eq 5, 3) := by decide +kernel
theorem dX4_kindNamed_56 : decode cX4_kindNamed 56 = .ok (.iconst 2, 1) := by decide +kernel
theorem dX4_kindNamed_57 : decode cX4_kindNamed 57 = .ok (.ireturn, 1) := by decide +kernel
theorem dX4_kindNamed_58 : decode cX4_kindNamed 58 = .ok (.aload_n 0, 1) := by decide +kernel
theorem dX4_kindNamed_59 : decode cX4_kindNamed 59 = .ok (.bipush 115, 2) := by decide +kernel
theorem dX4_kindNamed_61 : decode cX4_kindNamed 61 = .ok (.bipush 101, 2) := by decide +kernel
theorem dX4_kindNamed_63 : decode cX4_kindNamed 63 = .ok (.bipush 101, 2) := by decide +kernel
theorem dX4_kindNamed_65 : decode cX4_kindNamed 65 = .ok (.bipush 100, 2) := by decide +kernel
theorem dX4_kindNamed_67 : decode cX4_kindNamed 67 = .ok (.invokevirtual 222, 3) := by decide +kernel
theorem dX4_kindNamed_70 : decode cX4_kindNamed 70 = .ok (.ifCond .eq 5, 3) := by decide +kernel
theorem dX4_kindNamed_73 : decode cX4_kindNamed 73 = .ok (.iconst 3, 1) := by decide +kernel
theorem dX4_kindNamed_74 : decode cX4_kindNamed 74 = .ok (.ireturn, 1) := by decide +kernel
theorem dX4_kindNamed_75 : decode cX4_kindNamed 75 = .ok (.aload_n 0, 1) := by decide +kernel
theorem dX4_kindNamed_76 : decode cX4_kindNamed 76 = .ok (.bipush 6, 2) := by decide +kernel
theorem dX4_kindNamed_78 : decode cX4_kindNamed 78 = .ok (.invokevirtual 215, 3) := by decide +kernel
theorem dX4_kindNamed_81 : decode cX4_kindNamed 81 = .ok (.ifCond .eq 33, 3) := by decide +kernel
theorem dX4_kindNamed_84 : decode cX4_kindNamed 84 = .ok (.aload_n 0, 1) := by decide +kernel
theorem dX4_kindNamed_85 : decode cX4_kindNamed 85 = .ok (.iconst 0, 1) := by decide +kernel
theorem dX4_kindNamed_86 : decode cX4_kindNamed 86 = .ok (.bipush 98, 2) := by decide +kernel
theorem dX4_kindNamed_88 : decode cX4_kindNamed 88 = .ok (.bipush 111, 2) := by decide +kernel
theorem dX4_kindNamed_90 : decode cX4_kindNamed 90 = .ok (.bipush 105, 2) := by decide +kernel
theorem dX4_kindNamed_92 : decode cX4_kindNamed 92 = .ok (.invokevirtual 218, 3) := by decide +kernel
theorem dX4_kindNamed_95 : decode cX4_kindNamed 95 = .ok (.ifCond .eq 19, 3) := by decide +kernel
theorem dX4_kindNamed_98 : decode cX4_kindNamed 98 = .ok (.aload_n 0, 1) := by decide +kernel
theorem dX4_kindNamed_99 : decode cX4_kindNamed 99 = .ok (.iconst 3, 1) := by decide +kernel
theorem dX4_kindNamed_100 : decode cX4_kindNamed 100 = .ok (.bipush 108, 2) := by decide +kernel
theorem dX4_kindNamed_102 : decode cX4_kindNamed 102 = .ok (.bipush 101, 2) := by decide +kernel
theorem dX4_kindNamed_104 : decode cX4_kindNamed 104 = .ok (.bipush 100, 2) := by decide +kernel
theorem dX4_kindNamed_106 : decode cX4_kindNamed 106 = .ok (.invokevirtual 218, 3) := by decide +kernel
theorem dX4_kindNamed_109 : decode cX4_kindNamed 109 = .ok (.ifCond .eq 5, 3) := by decide +kernel
theorem dX4_kindNamed_112 : decode cX4_kindNamed 112 = .ok (.iconst 4, 1) := by decide +kernel
theorem dX4_kindNamed_113 : decode cX4_kindNamed 113 = .ok (.ireturn, 1) := by decide +kernel
theorem dX4_kindNamed_114 : decode cX4_kindNamed 114 = .ok (.aload_n 0, 1) := by decide +kernel
theorem dX4_kindNamed_115 : decode cX4_kindNamed 115 = .ok (.iconst 3, 1) := by decide +kernel
theorem dX4_kindNamed_116 : decode cX4_kindNamed 116 = .ok (.invokevirtual 215, 3) := by decide +kernel
theorem dX4_kindNamed_119 : decode cX4_kindNamed 119 = .ok (.ifCond .eq 21, 3) := by decide +kernel
theorem dX4_kindNamed_122 : decode cX4_kindNamed 122 = .ok (.aload_n 0, 1) := by decide +kernel
theorem dX4_kindNamed_123 : decode cX4_kindNamed 123 = .ok (.iconst 0, 1) := by decide +kernel
theorem dX4_kindNamed_124 : decode cX4_kindNamed 124 = .ok (.bipush 115, 2) := by decide +kernel
theorem dX4_kindNamed_126 : decode cX4_kindNamed 126 = .ok (.bipush 107, 2) := by decide +kernel
theorem dX4_kindNamed_128 : decode cX4_kindNamed 128 = .ok (.bipush 121, 2) := by decide +kernel
theorem dX4_kindNamed_130 : decode cX4_kindNamed 130 = .ok (.invokevirtual 218, 3) := by decide +kernel
theorem dX4_kindNamed_133 : decode cX4_kindNamed 133 = .ok (.ifCond .eq 7, 3) := by decide +kernel
theorem dX4_kindNamed_136 : decode cX4_kindNamed 136 = .ok (.iconst 5, 1) := by decide +kernel
theorem dX4_kindNamed_137 : decode cX4_kindNamed 137 = .ok (.goto 4, 3) := by decide +kernel
theorem dX4_kindNamed_140 : decode cX4_kindNamed 140 = .ok (.iconst (-1), 1) := by decide +kernel
theorem dX4_kindNamed_141 : decode cX4_kindNamed 141 = .ok (.ireturn, 1) := by decide +kernel
theorem dX4_isWord2_0 : decode cX4_isWord2 0 = .ok (.aload_n 0, 1) := by decide +kernel
theorem dX4_isWord2_1 : decode cX4_isWord2 1 = .ok (.iconst 2, 1) := by decide +kernel
theorem dX4_isWord2_2 : decode cX4_isWord2 2 = .ok (.invokevirtual 215, 3) := by decide +kernel
theorem dX4_isWord2_5 : decode cX4_isWord2 5 = .ok (.ifCond .eq 33, 3) := by decide +kernel
theorem dX4_isWord2_8 : decode cX4_isWord2 8 = .ok (.aload_n 0, 1) := by decide +kernel
theorem dX4_isWord2_9 : decode cX4_isWord2 9 = .ok (.aload_n 0, 1) := by decide +kernel
theorem dX4_isWord2_10 : decode cX4_isWord2 10 = .ok (.getfield 197, 3) := by decide +kernel
theorem dX4_isWord2_13 : decode cX4_isWord2 13 = .ok (.invokevirtual 200, 3) := by decide +kernel
theorem dX4_isWord2_16 : decode cX4_isWord2 16 = .ok (.iload_n 1, 1) := by decide +kernel
theorem dX4_isWord2_17 : decode cX4_isWord2 17 = .ok (.if_icmp .ne 21, 3) := by decide +kernel
theorem dX4_isWord2_20 : decode cX4_isWord2 20 = .ok (.aload_n 0, 1) := by decide +kernel
theorem dX4_isWord2_21 : decode cX4_isWord2 21 = .ok (.aload_n 0, 1) := by decide +kernel
theorem dX4_isWord2_22 : decode cX4_isWord2 22 = .ok (.getfield 197, 3) := by decide +kernel
theorem dX4_isWord2_25 : decode cX4_isWord2 25 = .ok (.iconst 1, 1) := by decide +kernel
theorem dX4_isWord2_26 : decode cX4_isWord2 26 = .ok (.iadd, 1) := by decide +kernel
theorem dX4_isWord2_27 : decode cX4_isWord2 27 = .ok (.invokevirtual 200, 3) := by decide +kernel
theorem dX4_isWord2_30 : decode cX4_isWord2 30 = .ok (.iload_n 2, 1) := by decide +kernel
theorem dX4_isWord2_31 : decode cX4_isWord2 31 = .ok (.if_icmp .ne 7, 3) := by decide +kernel
theorem dX4_isWord2_34 : decode cX4_isWord2 34 = .ok (.iconst 1, 1) := by decide +kernel
theorem dX4_isWord2_35 : decode cX4_isWord2 35 = .ok (.goto 4, 3) := by decide +kernel
theorem dX4_isWord2_38 : decode cX4_isWord2 38 = .ok (.iconst 0, 1) := by decide +kernel
theorem dX4_isWord2_39 : decode cX4_isWord2 39 = .ok (.ireturn, 1) := by decide +kernel
theorem dX4_isNumber_0 : decode cX4_isNumber 0 = .ok (.aload_n 0, 1) := by decide +kernel
theorem dX4_isNumber_1 : decode cX4_isNumber 1 = .ok (.getfield 209, 3) := by decide +kernel
theorem dX4_isNumber_4 : decode cX4_isNumber 4 = .ok (.iconst 2, 1) := by decide +kernel
theorem dX4_isNumber_5 : decode cX4_isNumber 5 = .ok (.if_icmp .ne 22, 3) := by decide +kernel
theorem dX4_isNumber_8 : decode cX4_isNumber 8 = .ok (.aload_n 0, 1) := by decide +kernel
theorem dX4_isNumber_9 : decode cX4_isNumber 9 = .ok (.getfield 212, 3) := by decide +kernel
theorem dX4_isNumber_12 : decode cX4_isNumber 12 = .ok (.i2l, 1) := by decide +kernel
theorem dX4_isNumber_13 : decode cX4_isNumber 13 = .ok (.iload_n 1, 1) := by decide +kernel
theorem dX4_isNumber_14 : decode cX4_isNumber 14 = .ok (.i2l, 1) := by decide +kernel
theorem dX4_isNumber_15 : decode cX4_isNumber 15 = .ok (.iload_n 2, 1) := by decide +kernel
theorem dX4_isNumber_16 : decode cX4_isNumber 16 = .ok (.i2l, 1) := by decide +kernel
theorem dX4_isNumber_17 : decode cX4_isNumber 17 = .ok (.invokestatic 49, 3) := by decide +kernel
theorem dX4_isNumber_20 : decode cX4_isNumber 20 = .ok (.ifCond .eq 7, 3) := by decide +kernel
theorem dX4_isNumber_23 : decode cX4_isNumber 23 = .ok (.iconst 1, 1) := by decide +kernel
theorem dX4_isNumber_24 : decode cX4_isNumber 24 = .ok (.goto 4, 3) := by decide +kernel
theorem dX4_isNumber_27 : decode cX4_isNumber 27 = .ok (.iconst 0, 1) := by decide +kernel
theorem dX4_isNumber_28 : decode cX4_isNumber 28 = .ok (.ireturn, 1) := by decide +kernel
theorem dX4_goesNumber_0 : decode cX4_goesNumber 0 = .ok (.aload_n 0, 1) := by decide +kernel
theorem dX4_goesNumber_1 : decode cX4_goesNumber 1 = .ok (.invokevirtual 225, 3) := by decide +kernel
theorem dX4_goesNumber_4 : decode cX4_goesNumber 4 = .ok (.aload_n 0, 1) := by decide +kernel
theorem dX4_goesNumber_5 : decode cX4_goesNumber 5 = .ok (.iload_n 1, 1) := by decide +kernel
theorem dX4_goesNumber_6 : decode cX4_goesNumber 6 = .ok (.iload_n 2, 1) := by decide +kernel
theorem dX4_goesNumber_7 : decode cX4_goesNumber 7 = .ok (.invokevirtual 228, 3) := by decide +kernel
theorem dX4_goesNumber_10 : decode cX4_goesNumber 10 = .ok (.ireturn, 1) := by decide +kernel
theorem dX4_goesCoin_0 : decode cX4_goesCoin 0 = .ok (.aload_n 0, 1) := by decide +kernel
theorem dX4_goesCoin_1 : decode cX4_goesCoin 1 = .ok (.getfield 7, 3) := by decide +kernel
theorem dX4_goesCoin_4 : decode cX4_goesCoin 4 = .ok (.iconst 0, 1) := by decide +kernel
theorem dX4_goesCoin_5 : decode cX4_goesCoin 5 = .ok (.iaload, 1) := by decide +kernel
theorem dX4_goesCoin_6 : decode cX4_goesCoin 6 = .ok (.bipush 12, 2) := by decide +kernel
theorem dX4_goesCoin_8 : decode cX4_goesCoin 8 = .ok (.if_icmp .ne 5, 3) := by decide +kernel
theorem dX4_goesCoin_11 : decode cX4_goesCoin 11 = .ok (.iconst 0, 1) := by decide +kernel
theorem dX4_goesCoin_12 : decode cX4_goesCoin 12 = .ok (.ireturn, 1) := by decide +kernel
theorem dX4_goesCoin_13 : decode cX4_goesCoin 13 = .ok (.aload_n 0, 1) := by decide +kernel
theorem dX4_goesCoin_14 : decode cX4_goesCoin 14 = .ok (.invokevirtual 225, 3) := by decide +kernel
theorem dX4_goesCoin_17 : decode cX4_goesCoin 17 = .ok (.aload_n 0, 1) := by decide +kernel
theorem dX4_goesCoin_18 : decode cX4_goesCoin 18 = .ok (.bipush 111, 2) := by decide +kernel
theorem dX4_goesCoin_20 : decode cX4_goesCoin 20 = .ok (.bipush 102, 2) := by decide +kernel
theorem dX4_goesCoin_22 : decode cX4_goesCoin 22 = .ok (.invokevirtual 231, 3) := by decide +kernel
theorem dX4_goesCoin_25 : decode cX4_goesCoin 25 = .ok (.ifCond .eq 12, 3) := by decide +kernel
theorem dX4_goesCoin_28 : decode cX4_goesCoin 28 = .ok (.aload_n 0, 1) := by decide +kernel
theorem dX4_goesCoin_29 : decode cX4_goesCoin 29 = .ok (.iconst 0, 1) := by decide +kernel
theorem dX4_goesCoin_30 : decode cX4_goesCoin 30 = .ok (.iconst 3, 1) := by decide +kernel
theorem dX4_goesCoin_31 : decode cX4_goesCoin 31 = .ok (.invokevirtual 234, 3) := by decide +kernel
theorem dX4_goesCoin_34 : decode cX4_goesCoin 34 = .ok (.ifCond .ne 5, 3) := by decide +kernel
theorem dX4_goesCoin_37 : decode cX4_goesCoin 37 = .ok (.iconst 0, 1) := by decide +kernel
theorem dX4_goesCoin_38 : decode cX4_goesCoin 38 = .ok (.ireturn, 1) := by decide +kernel
theorem dX4_goesCoin_39 : decode cX4_goesCoin 39 = .ok (.aload_n 0, 1) := by decide +kernel
theorem dX4_goesCoin_40 : decode cX4_goesCoin 40 = .ok (.getfield 212, 3) := by decide +kernel
theorem dX4_goesCoin_43 : decode cX4_goesCoin 43 = .ok (.istore_n 2, 1) := by decide +kernel
theorem dX4_goesCoin_44 : decode cX4_goesCoin 44 = .ok (.aload_n 0, 1) := by decide +kernel
theorem dX4_goesCoin_45 : decode cX4_goesCoin 45 = .ok (.invokevirtual 225, 3) := by decide +kernel
theorem dX4_goesCoin_48 : decode cX4_goesCoin 48 = .ok (.aload_n 0, 1) := by decide +kernel
theorem dX4_goesCoin_49 : decode cX4_goesCoin 49 = .ok (.bipush 115, 2) := by decide +kernel
theorem dX4_goesCoin_51 : decode cX4_goesCoin 51 = .ok (.bipush 105, 2) := by decide +kernel
theorem dX4_goesCoin_53 : decode cX4_goesCoin 53 = .ok (.bipush 122, 2) := by decide +kernel
theorem dX4_goesCoin_55 : decode cX4_goesCoin 55 = .ok (.bipush 101, 2) := by decide +kernel
theorem dX4_goesCoin_57 : decode cX4_goesCoin 57 = .ok (.invokevirtual 222, 3) := by decide +kernel
theorem dX4_goesCoin_60 : decode cX4_goesCoin 60 = .ok (.ifCond .eq 13, 3) := by decide +kernel
theorem dX4_goesCoin_63 : decode cX4_goesCoin 63 = .ok (.aload_n 0, 1) := by decide +kernel
theorem dX4_goesCoin_64 : decode cX4_goesCoin 64 = .ok (.iconst 0, 1) := by decide +kernel
theorem dX4_goesCoin_65 : decode cX4_goesCoin 65 = .ok (.bipush 99, 2) := by decide +kernel
theorem dX4_goesCoin_67 : decode cX4_goesCoin 67 = .ok (.invokevirtual 234, 3) := by decide +kernel
theorem dX4_goesCoin_70 : decode cX4_goesCoin 70 = .ok (.ifCond .ne 5, 3) := by decide +kernel
theorem dX4_goesCoin_73 : decode cX4_goesCoin 73 = .ok (.iconst 0, 1) := by decide +kernel
theorem dX4_goesCoin_74 : decode cX4_goesCoin 74 = .ok (.ireturn, 1) := by decide +kernel
theorem dX4_goesCoin_75 : decode cX4_goesCoin 75 = .ok (.aload_n 0, 1) := by decide +kernel
theorem dX4_goesCoin_76 : decode cX4_goesCoin 76 = .ok (.iload_n 1, 1) := by decide +kernel
theorem dX4_goesCoin_77 : decode cX4_goesCoin 77 = .ok (.iload_n 2, 1) := by decide +kernel
theorem dX4_goesCoin_78 : decode cX4_goesCoin 78 = .ok (.aload_n 0, 1) := by decide +kernel
theorem dX4_goesCoin_79 : decode cX4_goesCoin 79 = .ok (.getfield 212, 3) := by decide +kernel
theorem dX4_goesCoin_82 : decode cX4_goesCoin 82 = .ok (.invokevirtual 72, 3) := by decide +kernel
theorem dX4_goesCoin_85 : decode cX4_goesCoin 85 = .ok (.istore_n 3, 1) := by decide +kernel
theorem dX4_goesCoin_86 : decode cX4_goesCoin 86 = .ok (.aload_n 0, 1) := by decide +kernel
theorem dX4_goesCoin_87 : decode cX4_goesCoin 87 = .ok (.invokevirtual 225, 3) := by decide +kernel
theorem dX4_goesCoin_90 : decode cX4_goesCoin 90 = .ok (.aload_n 0, 1) := by decide +kernel
theorem dX4_goesCoin_91 : decode cX4_goesCoin 91 = .ok (.bipush 6, 2) := by decide +kernel
theorem dX4_goesCoin_93 : decode cX4_goesCoin 93 = .ok (.invokevirtual 215, 3) := by decide +kernel
theorem dX4_goesCoin_96 : decode cX4_goesCoin 96 = .ok (.ifCond .eq 35, 3) := by decide +kernel
theorem dX4_goesCoin_99 : decode cX4_goesCoin 99 = .ok (.aload_n 0, 1) := by decide +kernel
theorem dX4_goesCoin_100 : decode cX4_goesCoin 100 = .ok (.iconst 0, 1) := by decide +kernel
theorem dX4_goesCoin_101 : decode cX4_goesCoin 101 = .ok (.bipush 114, 2) := by decide +kernel
theorem dX4_goesCoin_103 : decode cX4_goesCoin 103 = .ok (.bipush 111, 2) := by decide +kernel
theorem dX4_goesCoin_105 : decode cX4_goesCoin 105 = .ok (.bipush 116, 2) := by decide +kernel
theorem dX4_goesCoin_107 : decode cX4_goesCoin 107 = .ok (.invokevirtual 218, 3) := by decide +kernel
theorem dX4_goesCoin_110 : decode cX4_goesCoin 110 = .ok (.ifCond .eq 21, 3) := by decide +kernel
theorem dX4_goesCoin_113 : decode cX4_goesCoin 113 = .ok (.aload_n 0, 1) := by decide +kernel
theorem dX4_goesCoin_114 : decode cX4_goesCoin 114 = .ok (.iconst 3, 1) := by decide +kernel
theorem dX4_goesCoin_115 : decode cX4_goesCoin 115 = .ok (.bipush 116, 2) := by decide +kernel
theorem dX4_goesCoin_117 : decode cX4_goesCoin 117 = .ok (.bipush 101, 2) := by decide +kernel
theorem dX4_goesCoin_119 : decode cX4_goesCoin 119 = .ok (.bipush 110, 2) := by decide +kernel
theorem dX4_goesCoin_121 : decode cX4_goesCoin 121 = .ok (.invokevirtual 218, 3) := by decide +kernel
theorem dX4_goesCoin_124 : decode cX4_goesCoin 124 = .ok (.ifCond .eq 7, 3) := by decide +kernel
theorem dX4_goesCoin_127 : decode cX4_goesCoin 127 = .ok (.iconst 1, 1) := by decide +kernel
theorem dX4_goesCoin_128 : decode cX4_goesCoin 128 = .ok (.goto 4, 3) := by decide +kernel
theorem dX4_goesCoin_131 : decode cX4_goesCoin 131 = .ok (.iconst 0, 1) := by decide +kernel
theorem dX4_goesCoin_132 : decode cX4_goesCoin 132 = .ok (.istore 4, 2) := by decide +kernel
theorem dX4_goesCoin_134 : decode cX4_goesCoin 134 = .ok (.aload_n 0, 1) := by decide +kernel
theorem dX4_goesCoin_135 : decode cX4_goesCoin 135 = .ok (.bipush 7, 2) := by decide +kernel
theorem dX4_goesCoin_137 : decode cX4_goesCoin 137 = .ok (.invokevirtual 215, 3) := by decide +kernel
theorem dX4_goesCoin_140 : decode cX4_goesCoin 140 = .ok (.ifCond .eq 51, 3) := by decide +kernel
theorem dX4_goesCoin_143 : decode cX4_goesCoin 143 = .ok (.aload_n 0, 1) := by decide +kernel
theorem dX4_goesCoin_144 : decode cX4_goesCoin 144 = .ok (.iconst 0, 1) := by decide +kernel
theorem dX4_goesCoin_145 : decode cX4_goesCoin 145 = .ok (.bipush 112, 2) := by decide +kernel
theorem dX4_goesCoin_147 : decode cX4_goesCoin 147 = .ok (.bipush 108, 2) := by decide +kernel
theorem dX4_goesCoin_149 : decode cX4_goesCoin 149 = .ok (.bipush 97, 2) := by decide +kernel
theorem dX4_goesCoin_151 : decode cX4_goesCoin 151 = .ok (.invokevirtual 218, 3) := by decide +kernel
theorem dX4_goesCoin_154 : decode cX4_goesCoin 154 = .ok (.ifCond .eq 37, 3) := by decide +kernel
theorem dX4_goesCoin_157 : decode cX4_goesCoin 157 = .ok (.aload_n 0, 1) := by decide +kernel
theorem dX4_goesCoin_158 : decode cX4_goesCoin 158 = .ok (.iconst 3, 1) := by decide +kernel
theorem dX4_goesCoin_159 : decode cX4_goesCoin 159 = .ok (.bipush 110, 2) := by decide +kernel
theorem dX4_goesCoin_161 : decode cX4_goesCoin 161 = .ok (.bipush 116, 2) := by decide +kernel
theorem dX4_goesCoin_163 : decode cX4_goesCoin 163 = .ok (.bipush 101, 2) := by decide +kernel
theorem dX4_goesCoin_165 : decode cX4_goesCoin 165 = .ok (.invokevirtual 218, 3) := by decide +kernel
theorem dX4_goesCoin_168 : decode cX4_goesCoin 168 = .ok (.ifCond .eq 23, 3) := by decide +kernel
theorem dX4_goesCoin_171 : decode cX4_goesCoin 171 = .ok (.aload_n 0, 1) := by decide +kernel
theorem dX4_goesCoin_172 : decode cX4_goesCoin 172 = .ok (.aload_n 0, 1) := by decide +kernel
theorem dX4_goesCoin_173 : decode cX4_goesCoin 173 = .ok (.getfield 197, 3) := by decide +kernel
theorem dX4_goesCoin_176 : decode cX4_goesCoin 176 = .ok (.bipush 6, 2) := by decide +kernel
theorem dX4_goesCoin_178 : decode cX4_goesCoin 178 = .ok (.iadd, 1) := by decide +kernel
theorem dX4_goesCoin_179 : decode cX4_goesCoin 179 = .ok (.invokevirtual 200, 3) := by decide +kernel
theorem dX4_goesCoin_182 : decode cX4_goesCoin 182 = .ok (.bipush 100, 2) := by decide +kernel
theorem dX4_goesCoin_184 : decode cX4_goesCoin 184 = .ok (.if_icmp .ne 7, 3) := by decide +kernel
theorem dX4_goesCoin_187 : decode cX4_goesCoin 187 = .ok (.iconst 1, 1) := by decide +kernel
theorem dX4_goesCoin_188 : decode cX4_goesCoin 188 = .ok (.goto 4, 3) := by decide +kernel
theorem dX4_goesCoin_191 : decode cX4_goesCoin 191 = .ok (.iconst 0, 1) := by decide +kernel
theorem dX4_goesCoin_192 : decode cX4_goesCoin 192 = .ok (.istore 5, 2) := by decide +kernel
theorem dX4_goesCoin_194 : decode cX4_goesCoin 194 = .ok (.aload_n 0, 1) := by decide +kernel
theorem dX4_goesCoin_195 : decode cX4_goesCoin 195 = .ok (.iload_n 3, 1) := by decide +kernel
theorem dX4_goesCoin_196 : decode cX4_goesCoin 196 = .ok (.iconst 3, 1) := by decide +kernel
theorem dX4_goesCoin_197 : decode cX4_goesCoin 197 = .ok (.iload 4, 2) := by decide +kernel
theorem dX4_goesCoin_199 : decode cX4_goesCoin 199 = .ok (.ifCond .eq 7, 3) := by decide +kernel
theorem dX4_goesCoin_202 : decode cX4_goesCoin 202 = .ok (.iconst 1, 1) := by decide +kernel
theorem dX4_goesCoin_203 : decode cX4_goesCoin 203 = .ok (.goto 13, 3) := by decide +kernel
theorem dX4_goesCoin_206 : decode cX4_goesCoin 206 = .ok (.iload 5, 2) := by decide +kernel
theorem dX4_goesCoin_208 : decode cX4_goesCoin 208 = .ok (.ifCond .eq 7, 3) := by decide +kernel
theorem dX4_goesCoin_211 : decode cX4_goesCoin 211 = .ok (.iconst 2, 1) := by decide +kernel
theorem dX4_goesCoin_212 : decode cX4_goesCoin 212 = .ok (.goto 4, 3) := by decide +kernel
theorem dX4_goesCoin_215 : decode cX4_goesCoin 215 = .ok (.iconst 0, 1) := by decide +kernel
theorem dX4_goesCoin_216 : decode cX4_goesCoin 216 = .ok (.invokevirtual 65, 3) := by decide +kernel
theorem dX4_goesCoin_219 : decode cX4_goesCoin 219 = .ok (.iload 4, 2) := by decide +kernel
theorem dX4_goesCoin_221 : decode cX4_goesCoin 221 = .ok (.ifCond .ne 8, 3) := by decide +kernel
theorem dX4_goesCoin_224 : decode cX4_goesCoin 224 = .ok (.iload 5, 2) := by decide +kernel
theorem dX4_goesCoin_226 : decode cX4_goesCoin 226 = .ok (.ifCond .eq 7, 3) := by decide +kernel
theorem dX4_goesCoin_229 : decode cX4_goesCoin 229 = .ok (.aload_n 0, 1) := by decide +kernel
theorem dX4_goesCoin_230 : decode cX4_goesCoin 230 = .ok (.invokevirtual 225, 3) := by decide +kernel
theorem dX4_goesCoin_233 : decode cX4_goesCoin 233 = .ok (.iconst 1, 1) := by decide +kernel
theorem dX4_goesCoin_234 : decode cX4_goesCoin 234 = .ok (.ireturn, 1) := by decide +kernel
theorem dX4_goesTwo_0 : decode cX4_goesTwo 0 = .ok (.aload_n 0, 1) := by decide +kernel
theorem dX4_goesTwo_1 : decode cX4_goesTwo 1 = .ok (.iconst 0, 1) := by decide +kernel
theorem dX4_goesTwo_2 : decode cX4_goesTwo 2 = .ok (.iload_n 2, 1) := by decide +kernel
theorem dX4_goesTwo_3 : decode cX4_goesTwo 3 = .ok (.iconst 1, 1) := by decide +kernel
theorem dX4_goesTwo_4 : decode cX4_goesTwo 4 = .ok (.isub, 1) := by decide +kernel
theorem dX4_goesTwo_5 : decode cX4_goesTwo 5 = .ok (.invokevirtual 234, 3) := by decide +kernel
theorem dX4_goesTwo_8 : decode cX4_goesTwo 8 = .ok (.ifCond .ne 5, 3) := by decide +kernel
theorem dX4_goesTwo_11 : decode cX4_goesTwo 11 = .ok (.iconst 0, 1) := by decide +kernel
theorem dX4_goesTwo_12 : decode cX4_goesTwo 12 = .ok (.ireturn, 1) := by decide +kernel
theorem dX4_goesTwo_13 : decode cX4_goesTwo 13 = .ok (.aload_n 0, 1) := by decide +kernel
theorem dX4_goesTwo_14 : decode cX4_goesTwo 14 = .ok (.getfield 212, 3) := by decide +kernel
theorem dX4_goesTwo_17 : decode cX4_goesTwo 17 = .ok (.istore 4, 2) := by decide +kernel
theorem dX4_goesTwo_19 : decode cX4_goesTwo 19 = .ok (.aload_n 0, 1) := by decide +kernel
theorem dX4_goesTwo_20 : decode cX4_goesTwo 20 = .ok (.iconst 0, 1) := by decide +kernel
theorem dX4_goesTwo_21 : decode cX4_goesTwo 21 = .ok (.iload_n 3, 1) := by decide +kernel
theorem dX4_goesTwo_22 : decode cX4_goesTwo 22 = .ok (.invokevirtual 234, 3) := by decide +kernel
theorem dX4_goesTwo_25 : decode cX4_goesTwo 25 = .ok (.ifCond .ne 5, 3) := by decide +kernel
theorem dX4_goesTwo_28 : decode cX4_goesTwo 28 = .ok (.iconst 0, 1) := by decide +kernel
theorem dX4_goesTwo_29 : decode cX4_goesTwo 29 = .ok (.ireturn, 1) := by decide +kernel
theorem dX4_goesTwo_30 : decode cX4_goesTwo 30 = .ok (.aload_n 0, 1) := by decide +kernel
theorem dX4_goesTwo_31 : decode cX4_goesTwo 31 = .ok (.getfield 7, 3) := by decide +kernel
theorem dX4_goesTwo_34 : decode cX4_goesTwo 34 = .ok (.iload_n 1, 1) := by decide +kernel
theorem dX4_goesTwo_35 : decode cX4_goesTwo 35 = .ok (.iload 4, 2) := by decide +kernel
theorem dX4_goesTwo_37 : decode cX4_goesTwo 37 = .ok (.iadd, 1) := by decide +kernel
theorem dX4_goesTwo_38 : decode cX4_goesTwo 38 = .ok (.aload_n 0, 1) := by decide +kernel
theorem dX4_goesTwo_39 : decode cX4_goesTwo 39 = .ok (.getfield 212, 3) := by decide +kernel
theorem dX4_goesTwo_42 : decode cX4_goesTwo 42 = .ok (.iastore, 1) := by decide +kernel
theorem dX4_goesTwo_43 : decode cX4_goesTwo 43 = .ok (.aload_n 0, 1) := by decide +kernel
theorem dX4_goesTwo_44 : decode cX4_goesTwo 44 = .ok (.invokevirtual 225, 3) := by decide +kernel
theorem dX4_goesTwo_47 : decode cX4_goesTwo 47 = .ok (.iconst 1, 1) := by decide +kernel
theorem dX4_goesTwo_48 : decode cX4_goesTwo 48 = .ok (.ireturn, 1) := by decide +kernel
theorem dX4_goesLoan_0 : decode cX4_goesLoan 0 = .ok (.aload_n 0, 1) := by decide +kernel
theorem dX4_goesLoan_1 : decode cX4_goesLoan 1 = .ok (.getfield 7, 3) := by decide +kernel
theorem dX4_goesLoan_4 : decode cX4_goesLoan 4 = .ok (.iconst 1, 1) := by decide +kernel
theorem dX4_goesLoan_5 : decode cX4_goesLoan 5 = .ok (.iaload, 1) := by decide +kernel
theorem dX4_goesLoan_6 : decode cX4_goesLoan 6 = .ok (.bipush 8, 2) := by decide +kernel
theorem dX4_goesLoan_8 : decode cX4_goesLoan 8 = .ok (.if_icmp .eq 12, 3) := by decide +kernel
theorem dX4_goesLoan_11 : decode cX4_goesLoan 11 = .ok (.aload_n 0, 1) := by decide +kernel
theorem dX4_goesLoan_12 : decode cX4_goesLoan 12 = .ok (.iconst 0, 1) := by decide +kernel
theorem dX4_goesLoan_13 : decode cX4_goesLoan 13 = .ok (.iconst 3, 1) := by decide +kernel
theorem dX4_goesLoan_14 : decode cX4_goesLoan 14 = .ok (.invokevirtual 234, 3) := by decide +kernel
theorem dX4_goesLoan_17 : decode cX4_goesLoan 17 = .ok (.ifCond .ne 5, 3) := by decide +kernel
theorem dX4_goesLoan_20 : decode cX4_goesLoan 20 = .ok (.iconst 0, 1) := by decide +kernel
theorem dX4_goesLoan_21 : decode cX4_goesLoan 21 = .ok (.ireturn, 1) := by decide +kernel
theorem dX4_goesLoan_22 : decode cX4_goesLoan 22 = .ok (.aload_n 0, 1) := by decide +kernel
theorem dX4_goesLoan_23 : decode cX4_goesLoan 23 = .ok (.getfield 212, 3) := by decide +kernel
theorem dX4_goesLoan_26 : decode cX4_goesLoan 26 = .ok (.istore_n 1, 1) := by decide +kernel
theorem dX4_goesLoan_27 : decode cX4_goesLoan 27 = .ok (.aload_n 0, 1) := by decide +kernel
theorem dX4_goesLoan_28 : decode cX4_goesLoan 28 = .ok (.invokevirtual 225, 3) := by decide +kernel
theorem dX4_goesLoan_31 : decode cX4_goesLoan 31 = .ok (.aload_n 0, 1) := by decide +kernel
theorem dX4_goesLoan_32 : decode cX4_goesLoan 32 = .ok (.bipush 116, 2) := by decide +kernel
theorem dX4_goesLoan_34 : decode cX4_goesLoan 34 = .ok (.bipush 111, 2) := by decide +kernel
theorem dX4_goesLoan_36 : decode cX4_goesLoan 36 = .ok (.invokevirtual 231, 3) := by decide +kernel
theorem dX4_goesLoan_39 : decode cX4_goesLoan 39 = .ok (.ifCond .eq 20, 3) := by decide +kernel
theorem dX4_goesLoan_42 : decode cX4_goesLoan 42 = .ok (.aload_n 0, 1) := by decide +kernel
theorem dX4_goesLoan_43 : decode cX4_goesLoan 43 = .ok (.iconst 0, 1) := by decide +kernel
theorem dX4_goesLoan_44 : decode cX4_goesLoan 44 = .ok (.iconst 3, 1) := by decide +kernel
theorem dX4_goesLoan_45 : decode cX4_goesLoan 45 = .ok (.invokevirtual 234, 3) := by decide +kernel
theorem dX4_goesLoan_48 : decode cX4_goesLoan 48 = .ok (.ifCond .eq 11, 3) := by decide +kernel
theorem dX4_goesLoan_51 : decode cX4_goesLoan 51 = .ok (.aload_n 0, 1) := by decide +kernel
theorem dX4_goesLoan_52 : decode cX4_goesLoan 52 = .ok (.getfield 212, 3) := by decide +kernel
theorem dX4_goesLoan_55 : decode cX4_goesLoan 55 = .ok (.iload_n 1, 1) := by decide +kernel
theorem dX4_goesLoan_56 : decode cX4_goesLoan 56 = .ok (.if_icmp .ne 5, 3) := by decide +kernel
theorem dX4_goesLoan_59 : decode cX4_goesLoan 59 = .ok (.iconst 0, 1) := by decide +kernel
theorem dX4_goesLoan_60 : decode cX4_goesLoan 60 = .ok (.ireturn, 1) := by decide +kernel
theorem dX4_goesLoan_61 : decode cX4_goesLoan 61 = .ok (.aload_n 0, 1) := by decide +kernel
theorem dX4_goesLoan_62 : decode cX4_goesLoan 62 = .ok (.getfield 212, 3) := by decide +kernel
theorem dX4_goesLoan_65 : decode cX4_goesLoan 65 = .ok (.istore_n 2, 1) := by decide +kernel
theorem dX4_goesLoan_66 : decode cX4_goesLoan 66 = .ok (.aload_n 0, 1) := by decide +kernel
theorem dX4_goesLoan_67 : decode cX4_goesLoan 67 = .ok (.iconst 1, 1) := by decide +kernel
theorem dX4_goesLoan_68 : decode cX4_goesLoan 68 = .ok (.sipush 9999, 3) := by decide +kernel
theorem dX4_goesLoan_71 : decode cX4_goesLoan 71 = .ok (.invokevirtual 234, 3) := by decide +kernel
theorem dX4_goesLoan_74 : decode cX4_goesLoan 74 = .ok (.ifCond .ne 5, 3) := by decide +kernel
theorem dX4_goesLoan_77 : decode cX4_goesLoan 77 = .ok (.iconst 0, 1) := by decide +kernel
theorem dX4_goesLoan_78 : decode cX4_goesLoan 78 = .ok (.ireturn, 1) := by decide +kernel
theorem dX4_goesLoan_79 : decode cX4_goesLoan 79 = .ok (.aload_n 0, 1) := by decide +kernel
theorem dX4_goesLoan_80 : decode cX4_goesLoan 80 = .ok (.getfield 212, 3) := by decide +kernel
theorem dX4_goesLoan_83 : decode cX4_goesLoan 83 = .ok (.istore_n 3, 1) := by decide +kernel
theorem dX4_goesLoan_84 : decode cX4_goesLoan 84 = .ok (.aload_n 0, 1) := by decide +kernel
theorem dX4_goesLoan_85 : decode cX4_goesLoan 85 = .ok (.invokevirtual 225, 3) := by decide +kernel
theorem dX4_goesLoan_88 : decode cX4_goesLoan 88 = .ok (.aload_n 0, 1) := by decide +kernel
theorem dX4_goesLoan_89 : decode cX4_goesLoan 89 = .ok (.bipush 105, 2) := by decide +kernel
theorem dX4_goesLoan_91 : decode cX4_goesLoan 91 = .ok (.bipush 110, 2) := by decide +kernel
theorem dX4_goesLoan_93 : decode cX4_goesLoan 93 = .ok (.invokevirtual 231, 3) := by decide +kernel
theorem dX4_goesLoan_96 : decode cX4_goesLoan 96 = .ok (.ifCond .eq 13, 3) := by decide +kernel
theorem dX4_goesLoan_99 : decode cX4_goesLoan 99 = .ok (.aload_n 0, 1) := by decide +kernel
theorem dX4_goesLoan_100 : decode cX4_goesLoan 100 = .ok (.iconst 1, 1) := by decide +kernel
theorem dX4_goesLoan_101 : decode cX4_goesLoan 101 = .ok (.bipush 120, 2) := by decide +kernel
theorem dX4_goesLoan_103 : decode cX4_goesLoan 103 = .ok (.invokevirtual 234, 3) := by decide +kernel
theorem dX4_goesLoan_106 : decode cX4_goesLoan 106 = .ok (.ifCond .ne 5, 3) := by decide +kernel
theorem dX4_goesLoan_109 : decode cX4_goesLoan 109 = .ok (.iconst 0, 1) := by decide +kernel
theorem dX4_goesLoan_110 : decode cX4_goesLoan 110 = .ok (.ireturn, 1) := by decide +kernel
theorem dX4_goesLoan_111 : decode cX4_goesLoan 111 = .ok (.aload_n 0, 1) := by decide +kernel
theorem dX4_goesLoan_112 : decode cX4_goesLoan 112 = .ok (.iload_n 1, 1) := by decide +kernel
theorem dX4_goesLoan_113 : decode cX4_goesLoan 113 = .ok (.iload_n 2, 1) := by decide +kernel
theorem dX4_goesLoan_114 : decode cX4_goesLoan 114 = .ok (.iload_n 3, 1) := by decide +kernel
theorem dX4_goesLoan_115 : decode cX4_goesLoan 115 = .ok (.aload_n 0, 1) := by decide +kernel
theorem dX4_goesLoan_116 : decode cX4_goesLoan 116 = .ok (.getfield 212, 3) := by decide +kernel
theorem dX4_goesLoan_119 : decode cX4_goesLoan 119 = .ok (.invokevirtual 142, 3) := by decide +kernel
theorem dX4_goesLoan_122 : decode cX4_goesLoan 122 = .ok (.istore 4, 2) := by decide +kernel
theorem dX4_goesLoan_124 : decode cX4_goesLoan 124 = .ok (.aload_n 0, 1) := by decide +kernel
theorem dX4_goesLoan_125 : decode cX4_goesLoan 125 = .ok (.invokevirtual 225, 3) := by decide +kernel
theorem dX4_goesLoan_128 : decode cX4_goesLoan 128 = .ok (.iconst 1, 1) := by decide +kernel
theorem dX4_goesLoan_129 : decode cX4_goesLoan 129 = .ok (.ireturn, 1) := by decide +kernel
theorem dX4_goesItem_0 : decode cX4_goesItem 0 = .ok (.aload_n 0, 1) := by decide +kernel
theorem dX4_goesItem_1 : decode cX4_goesItem 1 = .ok (.invokevirtual 237, 3) := by decide +kernel
theorem dX4_goesItem_4 : decode cX4_goesItem 4 = .ok (.istore_n 1, 1) := by decide +kernel
theorem dX4_goesItem_5 : decode cX4_goesItem 5 = .ok (.iload_n 1, 1) := by decide +kernel
theorem dX4_goesItem_6 : decode cX4_goesItem 6 = .ok (.ifCond .lt 9, 3) := by decide +kernel
theorem dX4_goesItem_9 : decode cX4_goesItem 9 = .ok (.aload_n 0, 1) := by decide +kernel
theorem dX4_goesItem_10 : decode cX4_goesItem 10 = .ok (.iload_n 1, 1) := by decide +kernel
theorem dX4_goesItem_11 : decode cX4_goesItem 11 = .ok (.invokevirtual 240, 3) := by decide +kernel
theorem dX4_goesItem_14 : decode cX4_goesItem 14 = .ok (.ireturn, 1) := by decide +kernel
theorem dX4_goesItem_15 : decode cX4_goesItem 15 = .ok (.aload_n 0, 1) := by decide +kernel
theorem dX4_goesItem_16 : decode cX4_goesItem 16 = .ok (.bipush 115, 2) := by decide +kernel
theorem dX4_goesItem_18 : decode cX4_goesItem 18 = .ok (.bipush 111, 2) := by decide +kernel
theorem dX4_goesItem_20 : decode cX4_goesItem 20 = .ok (.bipush 105, 2) := by decide +kernel
theorem dX4_goesItem_22 : decode cX4_goesItem 22 = .ok (.bipush 108, 2) := by decide +kernel
theorem dX4_goesItem_24 : decode cX4_goesItem 24 = .ok (.invokevirtual 222, 3) := by decide +kernel
theorem dX4_goesItem_27 : decode cX4_goesItem 27 = .ok (.ifCond .eq 12, 3) := by decide +kernel
theorem dX4_goesItem_30 : decode cX4_goesItem 30 = .ok (.aload_n 0, 1) := by decide +kernel
theorem dX4_goesItem_31 : decode cX4_goesItem 31 = .ok (.iconst 4, 1) := by decide +kernel
theorem dX4_goesItem_32 : decode cX4_goesItem 32 = .ok (.iconst 4, 1) := by decide +kernel
theorem dX4_goesItem_33 : decode cX4_goesItem 33 = .ok (.bipush 9, 2) := by decide +kernel
theorem dX4_goesItem_35 : decode cX4_goesItem 35 = .ok (.invokevirtual 243, 3) := by decide +kernel
theorem dX4_goesItem_38 : decode cX4_goesItem 38 = .ok (.ireturn, 1) := by decide +kernel
theorem dX4_goesItem_39 : decode cX4_goesItem 39 = .ok (.aload_n 0, 1) := by decide +kernel
theorem dX4_goesItem_40 : decode cX4_goesItem 40 = .ok (.iconst 5, 1) := by decide +kernel
theorem dX4_goesItem_41 : decode cX4_goesItem 41 = .ok (.invokevirtual 215, 3) := by decide +kernel
theorem dX4_goesItem_44 : decode cX4_goesItem 44 = .ok (.ifCond .eq 42, 3) := by decide +kernel
theorem dX4_goesItem_47 : decode cX4_goesItem 47 = .ok (.aload_n 0, 1) := by decide +kernel
theorem dX4_goesItem_48 : decode cX4_goesItem 48 = .ok (.iconst 0, 1) := by decide +kernel
theorem dX4_goesItem_49 : decode cX4_goesItem 49 = .ok (.bipush 112, 2) := by decide +kernel
theorem dX4_goesItem_51 : decode cX4_goesItem 51 = .ok (.bipush 114, 2) := by decide +kernel
theorem dX4_goesItem_53 : decode cX4_goesItem 53 = .ok (.bipush 105, 2) := by decide +kernel
theorem dX4_goesItem_55 : decode cX4_goesItem 55 = .ok (.invokevirtual 218, 3) := by decide +kernel
theorem dX4_goesItem_58 : decode cX4_goesItem 58 = .ok (.ifCond .eq 28, 3) := by decide +kernel
theorem dX4_goesItem_61 : decode cX4_goesItem 61 = .ok (.aload_n 0, 1) := by decide +kernel
theorem dX4_goesItem_62 : decode cX4_goesItem 62 = .ok (.iconst 2, 1) := by decide +kernel
theorem dX4_goesItem_63 : decode cX4_goesItem 63 = .ok (.bipush 105, 2) := by decide +kernel
theorem dX4_goesItem_65 : decode cX4_goesItem 65 = .ok (.bipush 99, 2) := by decide +kernel
theorem dX4_goesItem_67 : decode cX4_goesItem 67 = .ok (.bipush 101, 2) := by decide +kernel
theorem dX4_goesItem_69 : decode cX4_goesItem 69 = .ok (.invokevirtual 218, 3) := by decide +kernel
theorem dX4_goesItem_72 : decode cX4_goesItem 72 = .ok (.ifCond .eq 14, 3) := by decide +kernel
theorem dX4_goesItem_75 : decode cX4_goesItem 75 = .ok (.aload_n 0, 1) := by decide +kernel
theorem dX4_goesItem_76 : decode cX4_goesItem 76 = .ok (.bipush 8, 2) := by decide +kernel
theorem dX4_goesItem_78 : decode cX4_goesItem 78 = .ok (.bipush 12, 2) := by decide +kernel
theorem dX4_goesItem_80 : decode cX4_goesItem 80 = .ok (.bipush 99, 2) := by decide +kernel
theorem dX4_goesItem_82 : decode cX4_goesItem 82 = .ok (.invokevirtual 243, 3) := by decide +kernel
theorem dX4_goesItem_85 : decode cX4_goesItem 85 = .ok (.ireturn, 1) := by decide +kernel
theorem dX4_goesItem_86 : decode cX4_goesItem 86 = .ok (.aload_n 0, 1) := by decide +kernel
theorem dX4_goesItem_87 : decode cX4_goesItem 87 = .ok (.bipush 108, 2) := by decide +kernel
theorem dX4_goesItem_89 : decode cX4_goesItem 89 = .ok (.bipush 111, 2) := by decide +kernel
theorem dX4_goesItem_91 : decode cX4_goesItem 91 = .ok (.bipush 97, 2) := by decide +kernel
theorem dX4_goesItem_93 : decode cX4_goesItem 93 = .ok (.bipush 110, 2) := by decide +kernel
theorem dX4_goesItem_95 : decode cX4_goesItem 95 = .ok (.invokevirtual 222, 3) := by decide +kernel
theorem dX4_goesItem_98 : decode cX4_goesItem 98 = .ok (.ifCond .eq 14, 3) := by decide +kernel
theorem dX4_goesItem_101 : decode cX4_goesItem 101 = .ok (.aload_n 0, 1) := by decide +kernel
theorem dX4_goesItem_102 : decode cX4_goesItem 102 = .ok (.invokevirtual 247, 3) := by decide +kernel
theorem dX4_goesItem_105 : decode cX4_goesItem 105 = .ok (.ifCond .eq 7, 3) := by decide +kernel
theorem dX4_goesItem_108 : decode cX4_goesItem 108 = .ok (.iconst 1, 1) := by decide +kernel
theorem dX4_goesItem_109 : decode cX4_goesItem 109 = .ok (.goto 4, 3) := by decide +kernel
theorem dX4_goesItem_112 : decode cX4_goesItem 112 = .ok (.iconst 0, 1) := by decide +kernel
theorem dX4_goesItem_113 : decode cX4_goesItem 113 = .ok (.ireturn, 1) := by decide +kernel
theorem dX4_market_0 : decode cX4_market 0 = .ok (.aload_n 0, 1) := by decide +kernel
theorem dX4_market_1 : decode cX4_market 1 = .ok (.invokevirtual 160, 3) := by decide +kernel
theorem dX4_market_4 : decode cX4_market 4 = .ok (.aload_n 0, 1) := by decide +kernel
theorem dX4_market_5 : decode cX4_market 5 = .ok (.iconst 0, 1) := by decide +kernel
theorem dX4_market_6 : decode cX4_market 6 = .ok (.putfield 194, 3) := by decide +kernel
theorem dX4_market_9 : decode cX4_market 9 = .ok (.iconst 0, 1) := by decide +kernel
theorem dX4_market_10 : decode cX4_market 10 = .ok (.istore_n 1, 1) := by decide +kernel
theorem dX4_market_11 : decode cX4_market 11 = .ok (.iconst 1, 1) := by decide +kernel
theorem dX4_market_12 : decode cX4_market 12 = .ok (.istore_n 2, 1) := by decide +kernel
theorem dX4_market_13 : decode cX4_market 13 = .ok (.iload_n 2, 1) := by decide +kernel
theorem dX4_market_14 : decode cX4_market 14 = .ok (.ifCond .eq 68, 3) := by decide +kernel
theorem dX4_market_17 : decode cX4_market 17 = .ok (.aload_n 0, 1) := by decide +kernel
theorem dX4_market_18 : decode cX4_market 18 = .ok (.invokevirtual 225, 3) := by decide +kernel
theorem dX4_market_21 : decode cX4_market 21 = .ok (.aload_n 0, 1) := by decide +kernel
theorem dX4_market_22 : decode cX4_market 22 = .ok (.invokevirtual 250, 3) := by decide +kernel
theorem dX4_market_25 : decode cX4_market 25 = .ok (.ifCond .ne 15, 3) := by decide +kernel
theorem dX4_market_28 : decode cX4_market 28 = .ok (.iconst (-1), 1) := by decide +kernel
theorem dX4_market_29 : decode cX4_market 29 = .ok (.aload_n 0, 1) := by decide +kernel
theorem dX4_market_30 : decode cX4_market 30 = .ok (.getfield 197, 3) := by decide +kernel
theorem dX4_market_33 : decode cX4_market 33 = .ok (.isub, 1) := by decide +kernel
theorem dX4_market_34 : decode cX4_market 34 = .ok (.istore_n 1, 1) := by decide +kernel
theorem dX4_market_35 : decode cX4_market 35 = .ok (.iconst 0, 1) := by decide +kernel
theorem dX4_market_36 : decode cX4_market 36 = .ok (.istore_n 2, 1) := by decide +kernel
theorem dX4_market_37 : decode cX4_market 37 = .ok (.goto (-24), 3) := by decide +kernel
theorem dX4_market_40 : decode cX4_market 40 = .ok (.iinc 1 1, 3) := by decide +kernel
theorem dX4_market_43 : decode cX4_market 43 = .ok (.aload_n 0, 1) := by decide +kernel
theorem dX4_market_44 : decode cX4_market 44 = .ok (.getfield 209, 3) := by decide +kernel
theorem dX4_market_47 : decode cX4_market 47 = .ok (.iconst 3, 1) := by decide +kernel
theorem dX4_market_48 : decode cX4_market 48 = .ok (.if_icmp .ne 7, 3) := by decide +kernel
theorem dX4_market_51 : decode cX4_market 51 = .ok (.iconst 1, 1) := by decide +kernel
theorem dX4_market_52 : decode cX4_market 52 = .ok (.goto 4, 3) := by decide +kernel
theorem dX4_market_55 : decode cX4_market 55 = .ok (.iconst 0, 1) := by decide +kernel
theorem dX4_market_56 : decode cX4_market 56 = .ok (.istore_n 2, 1) := by decide +kernel
theorem dX4_market_57 : decode cX4_market 57 = .ok (.iload_n 2, 1) := by decide +kernel
theorem dX4_market_58 : decode cX4_market 58 = .ok (.ifCond .ne 10, 3) := by decide +kernel
theorem dX4_market_61 : decode cX4_market 61 = .ok (.aload_n 0, 1) := by decide +kernel
theorem dX4_market_62 : decode cX4_market 62 = .ok (.getfield 209, 3) := by decide +kernel
theorem dX4_market_65 : decode cX4_market 65 = .ok (.ifCond .ne 7, 3) := by decide +kernel
theorem dX4_market_68 : decode cX4_market 68 = .ok (.iload_n 1, 1) := by decide +kernel
theorem dX4_market_69 : decode cX4_market 69 = .ok (.goto 9, 3) := by decide +kernel
theorem dX4_market_72 : decode cX4_market 72 = .ok (.iconst (-1), 1) := by decide +kernel
theorem dX4_market_73 : decode cX4_market 73 = .ok (.aload_n 0, 1) := by decide +kernel
theorem dX4_market_74 : decode cX4_market 74 = .ok (.getfield 197, 3) := by decide +kernel
theorem dX4_market_77 : decode cX4_market 77 = .ok (.isub, 1) := by decide +kernel
theorem dX4_market_78 : decode cX4_market 78 = .ok (.istore_n 1, 1) := by decide +kernel
theorem dX4_market_79 : decode cX4_market 79 = .ok (.goto (-66), 3) := by decide +kernel
theorem dX4_market_82 : decode cX4_market 82 = .ok (.iload_n 1, 1) := by decide +kernel
theorem dX4_market_83 : decode cX4_market 83 = .ok (.ifCond .ge 7, 3) := by decide +kernel
theorem dX4_market_86 : decode cX4_market 86 = .ok (.aload_n 0, 1) := by decide +kernel
theorem dX4_market_87 : decode cX4_market 87 = .ok (.invokevirtual 163, 3) := by decide +kernel
theorem dX4_market_90 : decode cX4_market 90 = .ok (.aload_n 0, 1) := by decide +kernel
theorem dX4_market_91 : decode cX4_market 91 = .ok (.iconst 0, 1) := by decide +kernel
theorem dX4_market_92 : decode cX4_market 92 = .ok (.putfield 190, 3) := by decide +kernel
theorem dX4_market_95 : decode cX4_market 95 = .ok (.iload_n 1, 1) := by decide +kernel
theorem dX4_market_96 : decode cX4_market 96 = .ok (.ireturn, 1) := by decide +kernel
theorem dX4_isSheet_0 : decode cX4_isSheet 0 = .ok (.iload_n 0, 1) := by decide +kernel
theorem dX4_isSheet_1 : decode cX4_isSheet 1 = .ok (.ifCond .lt 12, 3) := by decide +kernel
theorem dX4_isSheet_4 : decode cX4_isSheet 4 = .ok (.iload_n 0, 1) := by decide +kernel
theorem dX4_isSheet_5 : decode cX4_isSheet 5 = .ok (.iconst 4, 1) := by decide +kernel
theorem dX4_isSheet_6 : decode cX4_isSheet 6 = .ok (.if_icmp .ge 7, 3) := by decide +kernel
theorem dX4_isSheet_9 : decode cX4_isSheet 9 = .ok (.iconst 1, 1) := by decide +kernel
theorem dX4_isSheet_10 : decode cX4_isSheet 10 = .ok (.goto 4, 3) := by decide +kernel
theorem dX4_isSheet_13 : decode cX4_isSheet 13 = .ok (.iconst 0, 1) := by decide +kernel
theorem dX4_isSheet_14 : decode cX4_isSheet 14 = .ok (.ireturn, 1) := by decide +kernel
theorem dX4_narrow_0 : decode cX4_narrow 0 = .ok (.iload_n 0, 1) := by decide +kernel
theorem dX4_narrow_1 : decode cX4_narrow 1 = .ok (.bipush 8, 2) := by decide +kernel
theorem dX4_narrow_3 : decode cX4_narrow 3 = .ok (.if_icmp .ne 10, 3) := by decide +kernel
theorem dX4_narrow_6 : decode cX4_narrow 6 = .ok (.lload_n 1, 1) := by decide +kernel
theorem dX4_narrow_7 : decode cX4_narrow 7 = .ok (.l2i, 1) := by decide +kernel
theorem dX4_narrow_8 : decode cX4_narrow 8 = .ok (.i2b, 1) := by decide +kernel
theorem dX4_narrow_9 : decode cX4_narrow 9 = .ok (.i2l, 1) := by decide +kernel
theorem dX4_narrow_10 : decode cX4_narrow 10 = .ok (.goto 17, 3) := by decide +kernel
theorem dX4_narrow_13 : decode cX4_narrow 13 = .ok (.iload_n 0, 1) := by decide +kernel
theorem dX4_narrow_14 : decode cX4_narrow 14 = .ok (.bipush 16, 2) := by decide +kernel
theorem dX4_narrow_16 : decode cX4_narrow 16 = .ok (.if_icmp .ne 10, 3) := by decide +kernel
theorem dX4_narrow_19 : decode cX4_narrow 19 = .ok (.lload_n 1, 1) := by decide +kernel
theorem dX4_narrow_20 : decode cX4_narrow 20 = .ok (.l2i, 1) := by decide +kernel
theorem dX4_narrow_21 : decode cX4_narrow 21 = .ok (.i2s, 1) := by decide +kernel
theorem dX4_narrow_22 : decode cX4_narrow 22 = .ok (.i2l, 1) := by decide +kernel
theorem dX4_narrow_23 : decode cX4_narrow 23 = .ok (.goto 4, 3) := by decide +kernel
theorem dX4_narrow_26 : decode cX4_narrow 26 = .ok (.lload_n 1, 1) := by decide +kernel
theorem dX4_narrow_27 : decode cX4_narrow 27 = .ok (.lreturn, 1) := by decide +kernel
theorem dX4_sheet_0 : decode cX4_sheet 0 = .ok (.iload_n 1, 1) := by decide +kernel
theorem dX4_sheet_1 : decode cX4_sheet 1 = .ok (.invokestatic 253, 3) := by decide +kernel
theorem dX4_sheet_4 : decode cX4_sheet 4 = .ok (.ifCond .eq 25, 3) := by decide +kernel
theorem dX4_sheet_7 : decode cX4_sheet 7 = .ok (.iload_n 2, 1) := by decide +kernel
theorem dX4_sheet_8 : decode cX4_sheet 8 = .ok (.ifCond .eq 28, 3) := by decide +kernel
theorem dX4_sheet_11 : decode cX4_sheet 11 = .ok (.iload_n 2, 1) := by decide +kernel
theorem dX4_sheet_12 : decode cX4_sheet 12 = .ok (.bipush 8, 2) := by decide +kernel
theorem dX4_sheet_14 : decode cX4_sheet 14 = .ok (.if_icmp .eq 22, 3) := by decide +kernel
theorem dX4_sheet_17 : decode cX4_sheet 17 = .ok (.iload_n 2, 1) := by decide +kernel
theorem dX4_sheet_18 : decode cX4_sheet 18 = .ok (.bipush 16, 2) := by decide +kernel
theorem dX4_sheet_20 : decode cX4_sheet 20 = .ok (.if_icmp .eq 16, 3) := by decide +kernel
theorem dX4_sheet_23 : decode cX4_sheet 23 = .ok (.iload_n 2, 1) := by decide +kernel
theorem dX4_sheet_24 : decode cX4_sheet 24 = .ok (.bipush 64, 2) := by decide +kernel
theorem dX4_sheet_26 : decode cX4_sheet 26 = .ok (.if_icmp .eq 10, 3) := by decide +kernel
theorem dX4_sheet_29 : decode cX4_sheet 29 = .ok (.aload_n 0, 1) := by decide +kernel
theorem dX4_sheet_30 : decode cX4_sheet 30 = .ok (.ldc 42, 2) := by decide +kernel
theorem dX4_sheet_32 : decode cX4_sheet 32 = .ok (.invokevirtual 57, 3) := by decide +kernel
theorem dX4_sheet_35 : decode cX4_sheet 35 = .ok (.ireturn, 1) := by decide +kernel
theorem dX4_sheet_36 : decode cX4_sheet 36 = .ok (.iload_n 3, 1) := by decide +kernel
theorem dX4_sheet_37 : decode cX4_sheet 37 = .ok (.ifCond .ge 10, 3) := by decide +kernel
theorem dX4_sheet_40 : decode cX4_sheet 40 = .ok (.aload_n 0, 1) := by decide +kernel
theorem dX4_sheet_41 : decode cX4_sheet 41 = .ok (.ldc 180, 2) := by decide +kernel
theorem dX4_sheet_43 : decode cX4_sheet 43 = .ok (.invokevirtual 57, 3) := by decide +kernel
theorem dX4_sheet_46 : decode cX4_sheet 46 = .ok (.ireturn, 1) := by decide +kernel
theorem dX4_sheet_47 : decode cX4_sheet 47 = .ok (.iload_n 3, 1) := by decide +kernel
theorem dX4_sheet_48 : decode cX4_sheet 48 = .ok (.bipush 40, 2) := by decide +kernel
theorem dX4_sheet_50 : decode cX4_sheet 50 = .ok (.if_icmp .le 10, 3) := by decide +kernel
theorem dX4_sheet_53 : decode cX4_sheet 53 = .ok (.aload_n 0, 1) := by decide +kernel
theorem dX4_sheet_54 : decode cX4_sheet 54 = .ok (.ldc 42, 2) := by decide +kernel
theorem dX4_sheet_56 : decode cX4_sheet 56 = .ok (.invokevirtual 57, 3) := by decide +kernel
theorem dX4_sheet_59 : decode cX4_sheet 59 = .ok (.ireturn, 1) := by decide +kernel
theorem dX4_sheet_60 : decode cX4_sheet 60 = .ok (.aload_n 0, 1) := by decide +kernel
theorem dX4_sheet_61 : decode cX4_sheet 61 = .ok (.getfield 25, 3) := by decide +kernel
theorem dX4_sheet_64 : decode cX4_sheet 64 = .ok (.iload_n 1, 1) := by decide +kernel
theorem dX4_sheet_65 : decode cX4_sheet 65 = .ok (.iload_n 2, 1) := by decide +kernel
theorem dX4_sheet_66 : decode cX4_sheet 66 = .ok (.ifCond .ne 7, 3) := by decide +kernel
theorem dX4_sheet_69 : decode cX4_sheet 69 = .ok (.iconst (-1), 1) := by decide +kernel
theorem dX4_sheet_70 : decode cX4_sheet 70 = .ok (.goto 4, 3) := by decide +kernel
theorem dX4_sheet_73 : decode cX4_sheet 73 = .ok (.iload_n 2, 1) := by decide +kernel
theorem dX4_sheet_74 : decode cX4_sheet 74 = .ok (.iastore, 1) := by decide +kernel
theorem dX4_sheet_75 : decode cX4_sheet 75 = .ok (.aload_n 0, 1) := by decide +kernel
theorem dX4_sheet_76 : decode cX4_sheet 76 = .ok (.getfield 28, 3) := by decide +kernel
theorem dX4_sheet_79 : decode cX4_sheet 79 = .ok (.iload_n 1, 1) := by decide +kernel
theorem dX4_sheet_80 : decode cX4_sheet 80 = .ok (.iload_n 2, 1) := by decide +kernel
theorem dX4_sheet_81 : decode cX4_sheet 81 = .ok (.ifCond .ne 7, 3) := by decide +kernel
theorem dX4_sheet_84 : decode cX4_sheet 84 = .ok (.iconst 0, 1) := by decide +kernel
theorem dX4_sheet_85 : decode cX4_sheet 85 = .ok (.goto 4, 3) := by decide +kernel
theorem dX4_sheet_88 : decode cX4_sheet 88 = .ok (.iload_n 3, 1) := by decide +kernel
theorem dX4_sheet_89 : decode cX4_sheet 89 = .ok (.iastore, 1) := by decide +kernel
theorem dX4_sheet_90 : decode cX4_sheet 90 = .ok (.iconst 0, 1) := by decide +kernel
theorem dX4_sheet_91 : decode cX4_sheet 91 = .ok (.istore 4, 2) := by decide +kernel
theorem dX4_sheet_93 : decode cX4_sheet 93 = .ok (.iload 4, 2) := by decide +kernel
theorem dX4_sheet_95 : decode cX4_sheet 95 = .ok (.bipush 40, 2) := by decide +kernel
theorem dX4_sheet_97 : decode cX4_sheet 97 = .ok (.if_icmp .ge 22, 3) := by decide +kernel
theorem dX4_sheet_100 : decode cX4_sheet 100 = .ok (.aload_n 0, 1) := by decide +kernel
theorem dX4_sheet_101 : decode cX4_sheet 101 = .ok (.getfield 31, 3) := by decide +kernel
theorem dX4_sheet_104 : decode cX4_sheet 104 = .ok (.bipush 40, 2) := by decide +kernel
theorem dX4_sheet_106 : decode cX4_sheet 106 = .ok (.iload_n 1, 1) := by decide +kernel
theorem dX4_sheet_107 : decode cX4_sheet 107 = .ok (.imul, 1) := by decide +kernel
theorem dX4_sheet_108 : decode cX4_sheet 108 = .ok (.iload 4, 2) := by decide +kernel
theorem dX4_sheet_110 : decode cX4_sheet 110 = .ok (.iadd, 1) := by decide +kernel
theorem dX4_sheet_111 : decode cX4_sheet 111 = .ok (.lconst 0, 1) := by decide +kernel
theorem dX4_sheet_112 : decode cX4_sheet 112 = .ok (.lastore, 1) := by decide +kernel
theorem dX4_sheet_113 : decode cX4_sheet 113 = .ok (.iinc 4 1, 3) := by decide +kernel
theorem dX4_sheet_116 : decode cX4_sheet 116 = .ok (.goto (-23), 3) := by decide +kernel
theorem dX4_sheet_119 : decode cX4_sheet 119 = .ok (.aload_n 0, 1) := by decide +kernel
theorem dX4_sheet_120 : decode cX4_sheet 120 = .ok (.getfield 28, 3) := by decide +kernel
theorem dX4_sheet_123 : decode cX4_sheet 123 = .ok (.iload_n 1, 1) := by decide +kernel
theorem dX4_sheet_124 : decode cX4_sheet 124 = .ok (.iaload, 1) := by decide +kernel
theorem dX4_sheet_125 : decode cX4_sheet 125 = .ok (.ireturn, 1) := by decide +kernel
theorem dX4_write_0 : decode cX4_write 0 = .ok (.iload_n 1, 1) := by decide +kernel
theorem dX4_write_1 : decode cX4_write 1 = .ok (.invokestatic 253, 3) := by decide +kernel
theorem dX4_write_4 : decode cX4_write 4 = .ok (.ifCond .ne 11, 3) := by decide +kernel
theorem dX4_write_7 : decode cX4_write 7 = .ok (.aload_n 0, 1) := by decide +kernel
theorem dX4_write_8 : decode cX4_write 8 = .ok (.ldc 42, 2) := by decide +kernel
theorem dX4_write_10 : decode cX4_write 10 = .ok (.invokevirtual 57, 3) := by decide +kernel
theorem dX4_write_13 : decode cX4_write 13 = .ok (.i2l, 1) := by decide +kernel
theorem dX4_write_14 : decode cX4_write 14 = .ok (.lreturn, 1) := by decide +kernel
theorem dX4_write_15 : decode cX4_write 15 = .ok (.aload_n 0, 1) := by decide +kernel
theorem dX4_write_16 : decode cX4_write 16 = .ok (.getfield 25, 3) := by decide +kernel
theorem dX4_write_19 : decode cX4_write 19 = .ok (.iload_n 1, 1) := by decide +kernel
theorem dX4_write_20 : decode cX4_write 20 = .ok (.iaload, 1) := by decide +kernel
theorem dX4_write_21 : decode cX4_write 21 = .ok (.ifCond .ge 12, 3) := by decide +kernel
theorem dX4_write_24 : decode cX4_write 24 = .ok (.aload_n 0, 1) := by decide +kernel
theorem dX4_write_25 : decode cX4_write 25 = .ok (.ldc_w 256, 3) := by decide +kernel
theorem dX4_write_28 : decode cX4_write 28 = .ok (.invokevirtual 57, 3) := by decide +kernel
theorem dX4_write_31 : decode cX4_write 31 = .ok (.i2l, 1) := by decide +kernel
theorem dX4_write_32 : decode cX4_write 32 = .ok (.lreturn, 1) := by decide +kernel
theorem dX4_write_33 : decode cX4_write 33 = .ok (.iload_n 2, 1) := by decide +kernel
theorem dX4_write_34 : decode cX4_write 34 = .ok (.i2l, 1) := by decide +kernel
theorem dX4_write_35 : decode cX4_write 35 = .ok (.lconst 0, 1) := by decide +kernel
theorem dX4_write_36 : decode cX4_write 36 = .ok (.aload_n 0, 1) := by decide +kernel
theorem dX4_write_37 : decode cX4_write 37 = .ok (.getfield 28, 3) := by decide +kernel
theorem dX4_write_40 : decode cX4_write 40 = .ok (.iload_n 1, 1) := by decide +kernel
theorem dX4_write_41 : decode cX4_write 41 = .ok (.iaload, 1) := by decide +kernel
theorem dX4_write_42 : decode cX4_write 42 = .ok (.iconst 1, 1) := by decide +kernel
theorem dX4_write_43 : decode cX4_write 43 = .ok (.isub, 1) := by decide +kernel
theorem dX4_write_44 : decode cX4_write 44 = .ok (.i2l, 1) := by decide +kernel
theorem dX4_write_45 : decode cX4_write 45 = .ok (.invokestatic 49, 3) := by decide +kernel
theorem dX4_write_48 : decode cX4_write 48 = .ok (.ifCond .ne 11, 3) := by decide +kernel
theorem dX4_write_51 : decode cX4_write 51 = .ok (.aload_n 0, 1) := by decide +kernel
theorem dX4_write_52 : decode cX4_write 52 = .ok (.ldc 42, 2) := by decide +kernel
theorem dX4_write_54 : decode cX4_write 54 = .ok (.invokevirtual 57, 3) := by decide +kernel
theorem dX4_write_57 : decode cX4_write 57 = .ok (.i2l, 1) := by decide +kernel
theorem dX4_write_58 : decode cX4_write 58 = .ok (.lreturn, 1) := by decide +kernel
theorem dX4_write_59 : decode cX4_write 59 = .ok (.aload_n 0, 1) := by decide +kernel
theorem dX4_write_60 : decode cX4_write 60 = .ok (.getfield 31, 3) := by decide +kernel
theorem dX4_write_63 : decode cX4_write 63 = .ok (.bipush 40, 2) := by decide +kernel
theorem dX4_write_65 : decode cX4_write 65 = .ok (.iload_n 1, 1) := by decide +kernel
theorem dX4_write_66 : decode cX4_write 66 = .ok (.imul, 1) := by decide +kernel
theorem dX4_write_67 : decode cX4_write 67 = .ok (.iload_n 2, 1) := by decide +kernel
theorem dX4_write_68 : decode cX4_write 68 = .ok (.iadd, 1) := by decide +kernel
theorem dX4_write_69 : decode cX4_write 69 = .ok (.laload, 1) := by decide +kernel
theorem dX4_write_70 : decode cX4_write 70 = .ok (.lstore 5, 2) := by decide +kernel
theorem dX4_write_72 : decode cX4_write 72 = .ok (.aload_n 0, 1) := by decide +kernel
theorem dX4_write_73 : decode cX4_write 73 = .ok (.getfield 31, 3) := by decide +kernel
theorem dX4_write_76 : decode cX4_write 76 = .ok (.bipush 40, 2) := by decide +kernel
theorem dX4_write_78 : decode cX4_write 78 = .ok (.iload_n 1, 1) := by decide +kernel
theorem dX4_write_79 : decode cX4_write 79 = .ok (.imul, 1) := by decide +kernel
theorem dX4_write_80 : decode cX4_write 80 = .ok (.iload_n 2, 1) := by decide +kernel
theorem dX4_write_81 : decode cX4_write 81 = .ok (.iadd, 1) := by decide +kernel
theorem dX4_write_82 : decode cX4_write 82 = .ok (.aload_n 0, 1) := by decide +kernel
theorem dX4_write_83 : decode cX4_write 83 = .ok (.getfield 25, 3) := by decide +kernel
theorem dX4_write_86 : decode cX4_write 86 = .ok (.iload_n 1, 1) := by decide +kernel
theorem dX4_write_87 : decode cX4_write 87 = .ok (.iaload, 1) := by decide +kernel
theorem dX4_write_88 : decode cX4_write 88 = .ok (.lload_n 3, 1) := by decide +kernel
theorem dX4_write_89 : decode cX4_write 89 = .ok (.invokestatic 257, 3) := by decide +kernel
theorem dX4_write_92 : decode cX4_write 92 = .ok (.lastore, 1) := by decide +kernel
theorem dX4_write_93 : decode cX4_write 93 = .ok (.lload 5, 2) := by decide +kernel
theorem dX4_write_95 : decode cX4_write 95 = .ok (.lreturn, 1) := by decide +kernel
theorem dX4_copy_0 : decode cX4_copy 0 = .ok (.iload_n 1, 1) := by decide +kernel
theorem dX4_copy_1 : decode cX4_copy 1 = .ok (.invokestatic 253, 3) := by decide +kernel
theorem dX4_copy_4 : decode cX4_copy 4 = .ok (.ifCond .eq 10, 3) := by decide +kernel
theorem dX4_copy_7 : decode cX4_copy 7 = .ok (.iload_n 3, 1) := by decide +kernel
theorem dX4_copy_8 : decode cX4_copy 8 = .ok (.invokestatic 253, 3) := by decide +kernel
theorem dX4_copy_11 : decode cX4_copy 11 = .ok (.ifCond .ne 10, 3) := by decide +kernel
theorem dX4_copy_14 : decode cX4_copy 14 = .ok (.aload_n 0, 1) := by decide +kernel
theorem dX4_copy_15 : decode cX4_copy 15 = .ok (.ldc 42, 2) := by decide +kernel
theorem dX4_copy_17 : decode cX4_copy 17 = .ok (.invokevirtual 57, 3) := by decide +kernel
theorem dX4_copy_20 : decode cX4_copy 20 = .ok (.ireturn, 1) := by decide +kernel
theorem dX4_copy_21 : decode cX4_copy 21 = .ok (.aload_n 0, 1) := by decide +kernel
theorem dX4_copy_22 : decode cX4_copy 22 = .ok (.getfield 25, 3) := by decide +kernel
theorem dX4_copy_25 : decode cX4_copy 25 = .ok (.iload_n 1, 1) := by decide +kernel
theorem dX4_copy_26 : decode cX4_copy 26 = .ok (.iaload, 1) := by decide +kernel
theorem dX4_copy_27 : decode cX4_copy 27 = .ok (.ifCond .lt 12, 3) := by decide +kernel
theorem dX4_copy_30 : decode cX4_copy 30 = .ok (.aload_n 0, 1) := by decide +kernel
theorem dX4_copy_31 : decode cX4_copy 31 = .ok (.getfield 25, 3) := by decide +kernel
theorem dX4_copy_34 : decode cX4_copy 34 = .ok (.iload_n 3, 1) := by decide +kernel
theorem dX4_copy_35 : decode cX4_copy 35 = .ok (.iaload, 1) := by decide +kernel
theorem dX4_copy_36 : decode cX4_copy 36 = .ok (.ifCond .ge 11, 3) := by decide +kernel
theorem dX4_copy_39 : decode cX4_copy 39 = .ok (.aload_n 0, 1) := by decide +kernel
theorem dX4_copy_40 : decode cX4_copy 40 = .ok (.ldc_w 256, 3) := by decide +kernel
theorem dX4_copy_43 : decode cX4_copy 43 = .ok (.invokevirtual 57, 3) := by decide +kernel
theorem dX4_copy_46 : decode cX4_copy 46 = .ok (.ireturn, 1) := by decide +kernel
theorem dX4_copy_47 : decode cX4_copy 47 = .ok (.aload_n 0, 1) := by decide +kernel
theorem dX4_copy_48 : decode cX4_copy 48 = .ok (.getfield 25, 3) := by decide +kernel
theorem dX4_copy_51 : decode cX4_copy 51 = .ok (.iload_n 1, 1) := by decide +kernel
theorem dX4_copy_52 : decode cX4_copy 52 = .ok (.iaload, 1) := by decide +kernel
theorem dX4_copy_53 : decode cX4_copy 53 = .ok (.aload_n 0, 1) := by decide +kernel
theorem dX4_copy_54 : decode cX4_copy 54 = .ok (.getfield 25, 3) := by decide +kernel
theorem dX4_copy_57 : decode cX4_copy 57 = .ok (.iload_n 3, 1) := by decide +kernel
theorem dX4_copy_58 : decode cX4_copy 58 = .ok (.iaload, 1) := by decide +kernel
theorem dX4_copy_59 : decode cX4_copy 59 = .ok (.if_icmp .eq 10, 3) := by decide +kernel
theorem dX4_copy_62 : decode cX4_copy 62 = .ok (.aload_n 0, 1) := by decide +kernel
theorem dX4_copy_63 : decode cX4_copy 63 = .ok (.ldc 110, 2) := by decide +kernel
theorem dX4_copy_65 : decode cX4_copy 65 = .ok (.invokevirtual 57, 3) := by decide +kernel
theorem dX4_copy_68 : decode cX4_copy 68 = .ok (.ireturn, 1) := by decide +kernel
theorem dX4_copy_69 : decode cX4_copy 69 = .ok (.iload_n 2, 1) := by decide +kernel
theorem dX4_copy_70 : decode cX4_copy 70 = .ok (.ifCond .lt 40, 3) := by decide +kernel
theorem dX4_copy_73 : decode cX4_copy 73 = .ok (.iload 4, 2) := by decide +kernel
theorem dX4_copy_75 : decode cX4_copy 75 = .ok (.ifCond .lt 35, 3) := by decide +kernel
theorem dX4_copy_78 : decode cX4_copy 78 = .ok (.iload 5, 2) := by decide +kernel
theorem dX4_copy_80 : decode cX4_copy 80 = .ok (.ifCond .lt 30, 3) := by decide +kernel
theorem dX4_copy_83 : decode cX4_copy 83 = .ok (.iload 5, 2) := by decide +kernel
theorem dX4_copy_85 : decode cX4_copy 85 = .ok (.aload_n 0, 1) := by decide +kernel
theorem dX4_copy_86 : decode cX4_copy 86 = .ok (.getfield 28, 3) := by decide +kernel
theorem dX4_copy_89 : decode cX4_copy 89 = .ok (.iload_n 1, 1) := by decide +kernel
theorem dX4_copy_90 : decode cX4_copy 90 = .ok (.iaload, 1) := by decide +kernel
theorem dX4_copy_91 : decode cX4_copy 91 = .ok (.iload_n 2, 1) := by decide +kernel
theorem dX4_copy_92 : decode cX4_copy 92 = .ok (.isub, 1) := by decide +kernel
theorem dX4_copy_93 : decode cX4_copy 93 = .ok (.if_icmp .gt 17, 3) := by decide +kernel
theorem dX4_copy_96 : decode cX4_copy 96 = .ok (.iload 5, 2) := by decide +kernel
theorem dX4_copy_98 : decode cX4_copy 98 = .ok (.aload_n 0, 1) := by decide +kernel
theorem dX4_copy_99 : decode cX4_copy 99 = .ok (.getfield 28, 3) := by decide +kernel
theorem dX4_copy_102 : decode cX4_copy 102 = .ok (.iload_n 3, 1) := by decide +kernel
theorem dX4_copy_103 : decode cX4_copy 103 = .ok (.iaload, 1) := by decide +kernel
theorem dX4_copy_104 : decode cX4_copy 104 = .ok (.iload 4, 2) := by decide +kernel
theorem dX4_copy_106 : decode cX4_copy 106 = .ok (.isub, 1) := by decide +kernel
theorem dX4_copy_107 : decode cX4_copy 107 = .ok (.if_icmp .le 10, 3) := by decide +kernel
theorem dX4_copy_110 : decode cX4_copy 110 = .ok (.aload_n 0, 1) := by decide +kernel
theorem dX4_copy_111 : decode cX4_copy 111 = .ok (.ldc 42, 2) := by decide +kernel
theorem dX4_copy_113 : decode cX4_copy 113 = .ok (.invokevirtual 57, 3) := by decide +kernel
theorem dX4_copy_116 : decode cX4_copy 116 = .ok (.ireturn, 1) := by decide +kernel
theorem dX4_copy_117 : decode cX4_copy 117 = .ok (.bipush 40, 2) := by decide +kernel
theorem dX4_copy_119 : decode cX4_copy 119 = .ok (.iload_n 1, 1) := by decide +kernel
theorem dX4_copy_120 : decode cX4_copy 120 = .ok (.imul, 1) := by decide +kernel
theorem dX4_copy_121 : decode cX4_copy 121 = .ok (.iload_n 2, 1) := by decide +kernel
theorem dX4_copy_122 : decode cX4_copy 122 = .ok (.iadd, 1) := by decide +kernel
theorem dX4_copy_123 : decode cX4_copy 123 = .ok (.istore 6, 2) := by decide +kernel
theorem dX4_copy_125 : decode cX4_copy 125 = .ok (.bipush 40, 2) := by decide +kernel
theorem dX4_copy_127 : decode cX4_copy 127 = .ok (.iload_n 3, 1) := by decide +kernel
theorem dX4_copy_128 : decode cX4_copy 128 = .ok (.imul, 1) := by decide +kernel
theorem dX4_copy_129 : decode cX4_copy 129 = .ok (.iload 4, 2) := by decide +kernel
theorem dX4_copy_131 : decode cX4_copy 131 = .ok (.iadd, 1) := by decide +kernel
theorem dX4_copy_132 : decode cX4_copy 132 = .ok (.istore 7, 2) := by decide +kernel
theorem dX4_copy_134 : decode cX4_copy 134 = .ok (.iconst 0, 1) := by decide +kernel
theorem dX4_copy_135 : decode cX4_copy 135 = .ok (.istore 8, 2) := by decide +kernel
theorem dX4_copy_137 : decode cX4_copy 137 = .ok (.iload 8, 2) := by decide +kernel
theorem dX4_copy_139 : decode cX4_copy 139 = .ok (.iload 5, 2) := by decide +kernel
theorem dX4_copy_141 : decode cX4_copy 141 = .ok (.if_icmp .ge 50, 3) := by decide +kernel
theorem dX4_copy_144 : decode cX4_copy 144 = .ok (.iload 6, 2) := by decide +kernel
theorem dX4_copy_146 : decode cX4_copy 146 = .ok (.iload 7, 2) := by decide +kernel
theorem dX4_copy_148 : decode cX4_copy 148 = .ok (.if_icmp .ge 13, 3) := by decide +kernel
theorem dX4_copy_151 : decode cX4_copy 151 = .ok (.iload 5, 2) := by decide +kernel
theorem dX4_copy_153 : decode cX4_copy 153 = .ok (.iconst 1, 1) := by decide +kernel
theorem dX4_copy_154 : decode cX4_copy 154 = .ok (.isub, 1) := by decide +kernel
theorem dX4_copy_155 : decode cX4_copy 155 = .ok (.iload 8, 2) := by decide +kernel
theorem dX4_copy_157 : decode cX4_copy 157 = .ok (.isub, 1) := by decide +kernel
theorem dX4_copy_158 : decode cX4_copy 158 = .ok (.goto 5, 3) := by decide +kernel
theorem dX4_copy_161 : decode cX4_copy 161 = .ok (.iload 8, 2) := by decide +kernel
theorem dX4_copy_163 : decode cX4_copy 163 = .ok (.istore 9, 2) := by decide +kernel
theorem dX4_copy_165 : decode cX4_copy 165 = .ok (.aload_n 0, 1) := by decide +kernel
theorem dX4_copy_166 : decode cX4_copy 166 = .ok (.getfield 31, 3) := by decide +kernel
theorem dX4_copy_169 : decode cX4_copy 169 = .ok (.iload 7, 2) := by decide +kernel
theorem dX4_copy_171 : decode cX4_copy 171 = .ok (.iload 9, 2) := by decide +kernel
theorem dX4_copy_173 : decode cX4_copy 173 = .ok (.iadd, 1) := by decide +kernel
theorem dX4_copy_174 : decode cX4_copy 174 = .ok (.aload_n 0, 1) := by decide +kernel
theorem dX4_copy_175 : decode cX4_copy 175 = .ok (.getfield 31, 3) := by decide +kernel
theorem dX4_copy_178 : decode cX4_copy 178 = .ok (.iload 6, 2) := by decide +kernel
theorem dX4_copy_180 : decode cX4_copy 180 = .ok (.iload 9, 2) := by decide +kernel
theorem dX4_copy_182 : decode cX4_copy 182 = .ok (.iadd, 1) := by decide +kernel
theorem dX4_copy_183 : decode cX4_copy 183 = .ok (.laload, 1) := by decide +kernel
theorem dX4_copy_184 : decode cX4_copy 184 = .ok (.lastore, 1) := by decide +kernel
theorem dX4_copy_185 : decode cX4_copy 185 = .ok (.iinc 8 1, 3) := by decide +kernel
theorem dX4_copy_188 : decode cX4_copy 188 = .ok (.goto (-51), 3) := by decide +kernel
theorem dX4_copy_191 : decode cX4_copy 191 = .ok (.iload 5, 2) := by decide +kernel
theorem dX4_copy_193 : decode cX4_copy 193 = .ok (.ireturn, 1) := by decide +kernel
theorem dX4_wants_0 : decode cX4_wants 0 = .ok (.iload_n 1, 1) := by decide +kernel
theorem dX4_wants_1 : decode cX4_wants 1 = .ok (.invokestatic 253, 3) := by decide +kernel
theorem dX4_wants_4 : decode cX4_wants 4 = .ok (.ifCond .ne 8, 3) := by decide +kernel
theorem dX4_wants_7 : decode cX4_wants 7 = .ok (.ldc 42, 2) := by decide +kernel
theorem dX4_wants_9 : decode cX4_wants 9 = .ok (.goto 19, 3) := by decide +kernel
theorem dX4_wants_12 : decode cX4_wants 12 = .ok (.aload_n 0, 1) := by decide +kernel
theorem dX4_wants_13 : decode cX4_wants 13 = .ok (.getfield 25, 3) := by decide +kernel
theorem dX4_wants_16 : decode cX4_wants 16 = .ok (.iload_n 1, 1) := by decide +kernel
theorem dX4_wants_17 : decode cX4_wants 17 = .ok (.iaload, 1) := by decide +kernel
theorem dX4_wants_18 : decode cX4_wants 18 = .ok (.ifCond .ge 9, 3) := by decide +kernel
theorem dX4_wants_21 : decode cX4_wants 21 = .ok (.ldc_w 256, 3) := by decide +kernel
theorem dX4_wants_24 : decode cX4_wants 24 = .ok (.goto 4, 3) := by decide +kernel
theorem dX4_wants_27 : decode cX4_wants 27 = .ok (.iconst 0, 1) := by decide +kernel
theorem dX4_wants_28 : decode cX4_wants 28 = .ok (.ireturn, 1) := by decide +kernel
theorem dX4_lays_0 : decode cX4_lays 0 = .ok (.aload_n 0, 1) := by decide +kernel
theorem dX4_lays_1 : decode cX4_lays 1 = .ok (.iload_n 1, 1) := by decide +kernel
theorem dX4_lays_2 : decode cX4_lays 2 = .ok (.invokevirtual 261, 3) := by decide +kernel
theorem dX4_lays_5 : decode cX4_lays 5 = .ok (.ifCond .eq 13, 3) := by decide +kernel
theorem dX4_lays_8 : decode cX4_lays 8 = .ok (.aload_n 0, 1) := by decide +kernel
theorem dX4_lays_9 : decode cX4_lays 9 = .ok (.aload_n 0, 1) := by decide +kernel
theorem dX4_lays_10 : decode cX4_lays 10 = .ok (.iload_n 1, 1) := by decide +kernel
theorem dX4_lays_11 : decode cX4_lays 11 = .ok (.invokevirtual 261, 3) := by decide +kernel
theorem dX4_lays_14 : decode cX4_lays 14 = .ok (.invokevirtual 57, 3) := by decide +kernel
theorem dX4_lays_17 : decode cX4_lays 17 = .ok (.ireturn, 1) := by decide +kernel
theorem dX4_lays_18 : decode cX4_lays 18 = .ok (.iconst 0, 1) := by decide +kernel
theorem dX4_lays_19 : decode cX4_lays 19 = .ok (.istore_n 2, 1) := by decide +kernel
theorem dX4_lays_20 : decode cX4_lays 20 = .ok (.iconst 0, 1) := by decide +kernel
theorem dX4_lays_21 : decode cX4_lays 21 = .ok (.istore_n 3, 1) := by decide +kernel
theorem dX4_lays_22 : decode cX4_lays 22 = .ok (.iload_n 3, 1) := by decide +kernel
theorem dX4_lays_23 : decode cX4_lays 23 = .ok (.aload_n 0, 1) := by decide +kernel
theorem dX4_lays_24 : decode cX4_lays 24 = .ok (.getfield 28, 3) := by decide +kernel
theorem dX4_lays_27 : decode cX4_lays 27 = .ok (.iload_n 1, 1) := by decide +kernel
theorem dX4_lays_28 : decode cX4_lays 28 = .ok (.iaload, 1) := by decide +kernel
theorem dX4_lays_29 : decode cX4_lays 29 = .ok (.if_icmp .ge 55, 3) := by decide +kernel
theorem dX4_lays_32 : decode cX4_lays 32 = .ok (.iload_n 3, 1) := by decide +kernel
theorem dX4_lays_33 : decode cX4_lays 33 = .ok (.bipush 12, 2) := by decide +kernel
theorem dX4_lays_35 : decode cX4_lays 35 = .ok (.if_icmp .ge 49, 3) := by decide +kernel
theorem dX4_lays_38 : decode cX4_lays 38 = .ok (.aload_n 0, 1) := by decide +kernel
theorem dX4_lays_39 : decode cX4_lays 39 = .ok (.getfield 31, 3) := by decide +kernel
theorem dX4_lays_42 : decode cX4_lays 42 = .ok (.bipush 40, 2) := by decide +kernel
theorem dX4_lays_44 : decode cX4_lays 44 = .ok (.iload_n 1, 1) := by decide +kernel
theorem dX4_lays_45 : decode cX4_lays 45 = .ok (.imul, 1) := by decide +kernel
theorem dX4_lays_46 : decode cX4_lays 46 = .ok (.iload_n 3, 1) := by decide +kernel
theorem dX4_lays_47 : decode cX4_lays 47 = .ok (.iadd, 1) := by decide +kernel
theorem dX4_lays_48 : decode cX4_lays 48 = .ok (.laload, 1) := by decide +kernel
theorem dX4_lays_49 : decode cX4_lays 49 = .ok (.lstore 4, 2) := by decide +kernel
theorem dX4_lays_51 : decode cX4_lays 51 = .ok (.lload 4, 2) := by decide +kernel
theorem dX4_lays_53 : decode cX4_lays 53 = .ok (.lconst 0, 1) := by decide +kernel
theorem dX4_lays_54 : decode cX4_lays 54 = .ok (.ldc2_w 63, 3) := by decide +kernel
theorem dX4_lays_57 : decode cX4_lays 57 = .ok (.invokestatic 49, 3) := by decide +kernel
theorem dX4_lays_60 : decode cX4_lays 60 = .ok (.ifCond .eq 18, 3) := by decide +kernel
theorem dX4_lays_63 : decode cX4_lays 63 = .ok (.aload_n 0, 1) := by decide +kernel
theorem dX4_lays_64 : decode cX4_lays 64 = .ok (.getfield 7, 3) := by decide +kernel
theorem dX4_lays_67 : decode cX4_lays 67 = .ok (.bipush 8, 2) := by decide +kernel
theorem dX4_lays_69 : decode cX4_lays 69 = .ok (.iload_n 3, 1) := by decide +kernel
theorem dX4_lays_70 : decode cX4_lays 70 = .ok (.iadd, 1) := by decide +kernel
theorem dX4_lays_71 : decode cX4_lays 71 = .ok (.lload 4, 2) := by decide +kernel
theorem dX4_lays_73 : decode cX4_lays 73 = .ok (.l2i, 1) := by decide +kernel
theorem dX4_lays_74 : decode cX4_lays 74 = .ok (.iastore, 1) := by decide +kernel
theorem dX4_lays_75 : decode cX4_lays 75 = .ok (.iinc 2 1, 3) := by decide +kernel
theorem dX4_lays_78 : decode cX4_lays 78 = .ok (.iinc 3 1, 3) := by decide +kernel
theorem dX4_lays_81 : decode cX4_lays 81 = .ok (.goto (-59), 3) := by decide +kernel
theorem dX4_lays_84 : decode cX4_lays 84 = .ok (.iload_n 2, 1) := by decide +kernel
theorem dX4_lays_85 : decode cX4_lays 85 = .ok (.ireturn, 1) := by decide +kernel
theorem dX4_book_0 : decode cX4_book 0 = .ok (.aload_n 0, 1) := by decide +kernel
theorem dX4_book_1 : decode cX4_book 1 = .ok (.iload_n 1, 1) := by decide +kernel
theorem dX4_book_2 : decode cX4_book 2 = .ok (.invokevirtual 261, 3) := by decide +kernel
theorem dX4_book_5 : decode cX4_book 5 = .ok (.ifCond .eq 13, 3) := by decide +kernel
theorem dX4_book_8 : decode cX4_book 8 = .ok (.aload_n 0, 1) := by decide +kernel
theorem dX4_book_9 : decode cX4_book 9 = .ok (.aload_n 0, 1) := by decide +kernel
theorem dX4_book_10 : decode cX4_book 10 = .ok (.iload_n 1, 1) := by decide +kernel
theorem dX4_book_11 : decode cX4_book 11 = .ok (.invokevirtual 261, 3) := by decide +kernel
theorem dX4_book_14 : decode cX4_book 14 = .ok (.invokevirtual 57, 3) := by decide +kernel
theorem dX4_book_17 : decode cX4_book 17 = .ok (.ireturn, 1) := by decide +kernel
theorem dX4_book_18 : decode cX4_book 18 = .ok (.iload_n 2, 1) := by decide +kernel
theorem dX4_book_19 : decode cX4_book 19 = .ok (.i2l, 1) := by decide +kernel
theorem dX4_book_20 : decode cX4_book 20 = .ok (.lconst 0, 1) := by decide +kernel
theorem dX4_book_21 : decode cX4_book 21 = .ok (.ldc2_w 137, 3) := by decide +kernel
theorem dX4_book_24 : decode cX4_book 24 = .ok (.invokestatic 49, 3) := by decide +kernel
theorem dX4_book_27 : decode cX4_book 27 = .ok (.ifCond .ne 10, 3) := by decide +kernel
theorem dX4_book_30 : decode cX4_book 30 = .ok (.aload_n 0, 1) := by decide +kernel
theorem dX4_book_31 : decode cX4_book 31 = .ok (.ldc 42, 2) := by decide +kernel
theorem dX4_book_33 : decode cX4_book 33 = .ok (.invokevirtual 57, 3) := by decide +kernel
theorem dX4_book_36 : decode cX4_book 36 = .ok (.ireturn, 1) := by decide +kernel
theorem dX4_book_37 : decode cX4_book 37 = .ok (.aload_n 0, 1) := by decide +kernel
theorem dX4_book_38 : decode cX4_book 38 = .ok (.iload_n 2, 1) := by decide +kernel
theorem dX4_book_39 : decode cX4_book 39 = .ok (.invokevirtual 139, 3) := by decide +kernel
theorem dX4_book_42 : decode cX4_book 42 = .ok (.ifCond .eq 10, 3) := by decide +kernel
theorem dX4_book_45 : decode cX4_book 45 = .ok (.aload_n 0, 1) := by decide +kernel
theorem dX4_book_46 : decode cX4_book 46 = .ok (.ldc 119, 2) := by decide +kernel
theorem dX4_book_48 : decode cX4_book 48 = .ok (.invokevirtual 57, 3) := by decide +kernel
theorem dX4_book_51 : decode cX4_book 51 = .ok (.ireturn, 1) := by decide +kernel
theorem dX4_book_52 : decode cX4_book 52 = .ok (.aload_n 0, 1) := by decide +kernel
theorem dX4_book_53 : decode cX4_book 53 = .ok (.invokevirtual 160, 3) := by decide +kernel
theorem dX4_book_56 : decode cX4_book 56 = .ok (.aload_n 0, 1) := by decide +kernel
theorem dX4_book_57 : decode cX4_book 57 = .ok (.iload_n 2, 1) := by decide +kernel
theorem dX4_book_58 : decode cX4_book 58 = .ok (.invokevirtual 152, 3) := by decide +kernel
theorem dX4_book_61 : decode cX4_book 61 = .ok (.iconst 0, 1) := by decide +kernel
theorem dX4_book_62 : decode cX4_book 62 = .ok (.istore_n 3, 1) := by decide +kernel
theorem dX4_book_63 : decode cX4_book 63 = .ok (.iconst 0, 1) := by decide +kernel
theorem dX4_book_64 : decode cX4_book 64 = .ok (.istore 4, 2) := by decide +kernel
theorem dX4_book_66 : decode cX4_book 66 = .ok (.iload 4, 2) := by decide +kernel
theorem dX4_book_68 : decode cX4_book 68 = .ok (.aload_n 0, 1) := by decide +kernel
theorem dX4_book_69 : decode cX4_book 69 = .ok (.getfield 28, 3) := by decide +kernel
theorem dX4_book_72 : decode cX4_book 72 = .ok (.iload_n 1, 1) := by decide +kernel
theorem dX4_book_73 : decode cX4_book 73 = .ok (.iaload, 1) := by decide +kernel
theorem dX4_book_74 : decode cX4_book 74 = .ok (.if_icmp .ge 51, 3) := by decide +kernel
theorem dX4_book_77 : decode cX4_book 77 = .ok (.iload 4, 2) := by decide +kernel
theorem dX4_book_79 : decode cX4_book 79 = .ok (.aload_n 0, 1) := by decide +kernel
theorem dX4_book_80 : decode cX4_book 80 = .ok (.getfield 7, 3) := by decide +kernel
theorem dX4_book_83 : decode cX4_book 83 = .ok (.iconst 0, 1) := by decide +kernel
theorem dX4_book_84 : decode cX4_book 84 = .ok (.iaload, 1) := by decide +kernel
theorem dX4_book_85 : decode cX4_book 85 = .ok (.if_icmp .ge 40, 3) := by decide +kernel
theorem dX4_book_88 : decode cX4_book 88 = .ok (.aload_n 0, 1) := by decide +kernel
theorem dX4_book_89 : decode cX4_book 89 = .ok (.getfield 31, 3) := by decide +kernel
theorem dX4_book_92 : decode cX4_book 92 = .ok (.bipush 40, 2) := by decide +kernel
theorem dX4_book_94 : decode cX4_book 94 = .ok (.iload_n 1, 1) := by decide +kernel
theorem dX4_book_95 : decode cX4_book 95 = .ok (.imul, 1) := by decide +kernel
theorem dX4_book_96 : decode cX4_book 96 = .ok (.iload 4, 2) := by decide +kernel
theorem dX4_book_98 : decode cX4_book 98 = .ok (.iadd, 1) := by decide +kernel
theorem dX4_book_99 : decode cX4_book 99 = .ok (.aload_n 0, 1) := by decide +kernel
theorem dX4_book_100 : decode cX4_book 100 = .ok (.getfield 25, 3) := by decide +kernel
theorem dX4_book_103 : decode cX4_book 103 = .ok (.iload_n 1, 1) := by decide +kernel
theorem dX4_book_104 : decode cX4_book 104 = .ok (.iaload, 1) := by decide +kernel
theorem dX4_book_105 : decode cX4_book 105 = .ok (.aload_n 0, 1) := by decide +kernel
theorem dX4_book_106 : decode cX4_book 106 = .ok (.iload 4, 2) := by decide +kernel
theorem dX4_book_108 : decode cX4_book 108 = .ok (.invokevirtual 92, 3) := by decide +kernel
theorem dX4_book_111 : decode cX4_book 111 = .ok (.i2l, 1) := by decide +kernel
theorem dX4_book_112 : decode cX4_book 112 = .ok (.invokestatic 257, 3) := by decide +kernel
theorem dX4_book_115 : decode cX4_book 115 = .ok (.lastore, 1) := by decide +kernel
theorem dX4_book_116 : decode cX4_book 116 = .ok (.iinc 3 1, 3) := by decide +kernel
theorem dX4_book_119 : decode cX4_book 119 = .ok (.iinc 4 1, 3) := by decide +kernel
theorem dX4_book_122 : decode cX4_book 122 = .ok (.goto (-56), 3) := by decide +kernel
theorem dX4_book_125 : decode cX4_book 125 = .ok (.aload_n 0, 1) := by decide +kernel
theorem dX4_book_126 : decode cX4_book 126 = .ok (.invokevirtual 163, 3) := by decide +kernel
theorem dX4_book_129 : decode cX4_book 129 = .ok (.iload_n 3, 1) := by decide +kernel
theorem dX4_book_130 : decode cX4_book 130 = .ok (.ireturn, 1) := by decide +kernel
theorem dX4_read_0 : decode cX4_read 0 = .ok (.aload_n 0, 1) := by decide +kernel
theorem dX4_read_1 : decode cX4_read 1 = .ok (.iload_n 1, 1) := by decide +kernel
theorem dX4_read_2 : decode cX4_read 2 = .ok (.invokevirtual 261, 3) := by decide +kernel
theorem dX4_read_5 : decode cX4_read 5 = .ok (.ifCond .eq 13, 3) := by decide +kernel
theorem dX4_read_8 : decode cX4_read 8 = .ok (.aload_n 0, 1) := by decide +kernel
theorem dX4_read_9 : decode cX4_read 9 = .ok (.aload_n 0, 1) := by decide +kernel
theorem dX4_read_10 : decode cX4_read 10 = .ok (.iload_n 1, 1) := by decide +kernel
theorem dX4_read_11 : decode cX4_read 11 = .ok (.invokevirtual 261, 3) := by decide +kernel
theorem dX4_read_14 : decode cX4_read 14 = .ok (.invokevirtual 57, 3) := by decide +kernel
theorem dX4_read_17 : decode cX4_read 17 = .ok (.ireturn, 1) := by decide +kernel
theorem dX4_read_18 : decode cX4_read 18 = .ok (.iload_n 2, 1) := by decide +kernel
theorem dX4_read_19 : decode cX4_read 19 = .ok (.invokestatic 43, 3) := by decide +kernel
theorem dX4_read_22 : decode cX4_read 22 = .ok (.ifCond .ne 10, 3) := by decide +kernel
theorem dX4_read_25 : decode cX4_read 25 = .ok (.aload_n 0, 1) := by decide +kernel
theorem dX4_read_26 : decode cX4_read 26 = .ok (.ldc 42, 2) := by decide +kernel
theorem dX4_read_28 : decode cX4_read 28 = .ok (.invokevirtual 57, 3) := by decide +kernel
theorem dX4_read_31 : decode cX4_read 31 = .ok (.ireturn, 1) := by decide +kernel
theorem dX4_read_32 : decode cX4_read 32 = .ok (.aload_n 0, 1) := by decide +kernel
theorem dX4_read_33 : decode cX4_read 33 = .ok (.bipush 40, 2) := by decide +kernel
theorem dX4_read_35 : decode cX4_read 35 = .ok (.invokevirtual 139, 3) := by decide +kernel
theorem dX4_read_38 : decode cX4_read 38 = .ok (.ifCond .eq 10, 3) := by decide +kernel
theorem dX4_read_41 : decode cX4_read 41 = .ok (.aload_n 0, 1) := by decide +kernel
theorem dX4_read_42 : decode cX4_read 42 = .ok (.ldc 119, 2) := by decide +kernel
theorem dX4_read_44 : decode cX4_read 44 = .ok (.invokevirtual 57, 3) := by decide +kernel
theorem dX4_read_47 : decode cX4_read 47 = .ok (.ireturn, 1) := by decide +kernel
theorem dX4_read_48 : decode cX4_read 48 = .ok (.aload_n 0, 1) := by decide +kernel
theorem dX4_read_49 : decode cX4_read 49 = .ok (.invokevirtual 160, 3) := by decide +kernel
theorem dX4_read_52 : decode cX4_read 52 = .ok (.iconst 0, 1) := by decide +kernel
theorem dX4_read_53 : decode cX4_read 53 = .ok (.istore_n 3, 1) := by decide +kernel
theorem dX4_read_54 : decode cX4_read 54 = .ok (.iconst 0, 1) := by decide +kernel
theorem dX4_read_55 : decode cX4_read 55 = .ok (.istore 4, 2) := by decide +kernel
theorem dX4_read_57 : decode cX4_read 57 = .ok (.iload 4, 2) := by decide +kernel
theorem dX4_read_59 : decode cX4_read 59 = .ok (.aload_n 0, 1) := by decide +kernel
theorem dX4_read_60 : decode cX4_read 60 = .ok (.getfield 28, 3) := by decide +kernel
theorem dX4_read_63 : decode cX4_read 63 = .ok (.iload_n 1, 1) := by decide +kernel
theorem dX4_read_64 : decode cX4_read 64 = .ok (.iaload, 1) := by decide +kernel
theorem dX4_read_65 : decode cX4_read 65 = .ok (.if_icmp .ge 48, 3) := by decide +kernel
theorem dX4_read_68 : decode cX4_read 68 = .ok (.iload_n 3, 1) := by decide +kernel
theorem dX4_read_69 : decode cX4_read 69 = .ok (.ifCond .ne 44, 3) := by decide +kernel
theorem dX4_read_72 : decode cX4_read 72 = .ok (.aload_n 0, 1) := by decide +kernel
theorem dX4_read_73 : decode cX4_read 73 = .ok (.getfield 31, 3) := by decide +kernel
theorem dX4_read_76 : decode cX4_read 76 = .ok (.bipush 40, 2) := by decide +kernel
theorem dX4_read_78 : decode cX4_read 78 = .ok (.iload_n 1, 1) := by decide +kernel
theorem dX4_read_79 : decode cX4_read 79 = .ok (.imul, 1) := by decide +kernel
theorem dX4_read_80 : decode cX4_read 80 = .ok (.iload 4, 2) := by decide +kernel
theorem dX4_read_82 : decode cX4_read 82 = .ok (.iadd, 1) := by decide +kernel
theorem dX4_read_83 : decode cX4_read 83 = .ok (.laload, 1) := by decide +kernel
theorem dX4_read_84 : decode cX4_read 84 = .ok (.aload_n 0, 1) := by decide +kernel
theorem dX4_read_85 : decode cX4_read 85 = .ok (.iload_n 2, 1) := by decide +kernel
theorem dX4_read_86 : decode cX4_read 86 = .ok (.invokevirtual 120, 3) := by decide +kernel
theorem dX4_read_89 : decode cX4_read 89 = .ok (.i2l, 1) := by decide +kernel
theorem dX4_read_90 : decode cX4_read 90 = .ok (.lcmp, 1) := by decide +kernel
theorem dX4_read_91 : decode cX4_read 91 = .ok (.ifCond .ne 7, 3) := by decide +kernel
theorem dX4_read_94 : decode cX4_read 94 = .ok (.iconst 0, 1) := by decide +kernel
theorem dX4_read_95 : decode cX4_read 95 = .ok (.goto 7, 3) := by decide +kernel
theorem dX4_read_98 : decode cX4_read 98 = .ok (.iconst 1, 1) := by decide +kernel
theorem dX4_read_99 : decode cX4_read 99 = .ok (.iload 4, 2) := by decide +kernel
theorem dX4_read_101 : decode cX4_read 101 = .ok (.iadd, 1) := by decide +kernel
theorem dX4_read_102 : decode cX4_read 102 = .ok (.istore_n 3, 1) := by decide +kernel
theorem dX4_read_103 : decode cX4_read 103 = .ok (.aload_n 0, 1) := by decide +kernel
theorem dX4_read_104 : decode cX4_read 104 = .ok (.invokevirtual 146, 3) := by decide +kernel
theorem dX4_read_107 : decode cX4_read 107 = .ok (.iinc 4 1, 3) := by decide +kernel
theorem dX4_read_110 : decode cX4_read 110 = .ok (.goto (-53), 3) := by decide +kernel
theorem dX4_read_113 : decode cX4_read 113 = .ok (.aload_n 0, 1) := by decide +kernel
theorem dX4_read_114 : decode cX4_read 114 = .ok (.invokevirtual 163, 3) := by decide +kernel
theorem dX4_read_117 : decode cX4_read 117 = .ok (.iload_n 3, 1) := by decide +kernel
theorem dX4_read_118 : decode cX4_read 118 = .ok (.ireturn, 1) := by decide +kernel
theorem dX4_image_0 : decode cX4_image 0 = .ok (.aload_n 0, 1) := by decide +kernel
theorem dX4_image_1 : decode cX4_image 1 = .ok (.getfield 7, 3) := by decide +kernel
theorem dX4_image_4 : decode cX4_image 4 = .ok (.aload_n 0, 1) := by decide +kernel
theorem dX4_image_5 : decode cX4_image 5 = .ok (.getfield 13, 3) := by decide +kernel
theorem dX4_image_8 : decode cX4_image 8 = .ok (.invokestatic 156, 3) := by decide +kernel
theorem dX4_image_11 : decode cX4_image 11 = .ok (.aload_n 0, 1) := by decide +kernel
theorem dX4_image_12 : decode cX4_image 12 = .ok (.iconst 1, 1) := by decide +kernel
theorem dX4_image_13 : decode cX4_image 13 = .ok (.putfield 264, 3) := by decide +kernel
theorem dX4_image_16 : decode cX4_image 16 = .ok (.iconst 1, 1) := by decide +kernel
theorem dX4_image_17 : decode cX4_image 17 = .ok (.ireturn, 1) := by decide +kernel
theorem dX4_undo_0 : decode cX4_undo 0 = .ok (.aload_n 0, 1) := by decide +kernel
theorem dX4_undo_1 : decode cX4_undo 1 = .ok (.getfield 264, 3) := by decide +kernel
theorem dX4_undo_4 : decode cX4_undo 4 = .ok (.ifCond .ne 10, 3) := by decide +kernel
theorem dX4_undo_7 : decode cX4_undo 7 = .ok (.aload_n 0, 1) := by decide +kernel
theorem dX4_undo_8 : decode cX4_undo 8 = .ok (.ldc 166, 2) := by decide +kernel
theorem dX4_undo_10 : decode cX4_undo 10 = .ok (.invokevirtual 57, 3) := by decide +kernel
theorem dX4_undo_13 : decode cX4_undo 13 = .ok (.ireturn, 1) := by decide +kernel
theorem dX4_undo_14 : decode cX4_undo 14 = .ok (.aload_n 0, 1) := by decide +kernel
theorem dX4_undo_15 : decode cX4_undo 15 = .ok (.getfield 13, 3) := by decide +kernel
theorem dX4_undo_18 : decode cX4_undo 18 = .ok (.aload_n 0, 1) := by decide +kernel
theorem dX4_undo_19 : decode cX4_undo 19 = .ok (.getfield 7, 3) := by decide +kernel
theorem dX4_undo_22 : decode cX4_undo 22 = .ok (.invokestatic 156, 3) := by decide +kernel
theorem dX4_undo_25 : decode cX4_undo 25 = .ok (.aload_n 0, 1) := by decide +kernel
theorem dX4_undo_26 : decode cX4_undo 26 = .ok (.getfield 7, 3) := by decide +kernel
theorem dX4_undo_29 : decode cX4_undo 29 = .ok (.iconst 0, 1) := by decide +kernel
theorem dX4_undo_30 : decode cX4_undo 30 = .ok (.iaload, 1) := by decide +kernel
theorem dX4_undo_31 : decode cX4_undo 31 = .ok (.ireturn, 1) := by decide +kernel
theorem dX4_tear_0 : decode cX4_tear 0 = .ok (.aload_n 0, 1) := by decide +kernel
theorem dX4_tear_1 : decode cX4_tear 1 = .ok (.getfield 264, 3) := by decide +kernel
theorem dX4_tear_4 : decode cX4_tear 4 = .ok (.istore_n 1, 1) := by decide +kernel
theorem dX4_tear_5 : decode cX4_tear 5 = .ok (.aload_n 0, 1) := by decide +kernel
theorem dX4_tear_6 : decode cX4_tear 6 = .ok (.iconst 0, 1) := by decide +kernel
theorem dX4_tear_7 : decode cX4_tear 7 = .ok (.putfield 264, 3) := by decide +kernel
theorem dX4_tear_10 : decode cX4_tear 10 = .ok (.iload_n 1, 1) := by decide +kernel
theorem dX4_tear_11 : decode cX4_tear 11 = .ok (.ifCond .eq 7, 3) := by decide +kernel
theorem dX4_tear_14 : decode cX4_tear 14 = .ok (.iconst 1, 1) := by decide +kernel
theorem dX4_tear_15 : decode cX4_tear 15 = .ok (.goto 4, 3) := by decide +kernel
theorem dX4_tear_18 : decode cX4_tear 18 = .ok (.iconst 0, 1) := by decide +kernel
theorem dX4_tear_19 : decode cX4_tear 19 = .ok (.ireturn, 1) := by decide +kernel
theorem dX4_count_0 : decode cX4_count 0 = .ok (.iconst 0, 1) := by decide +kernel
theorem dX4_count_1 : decode cX4_count 1 = .ok (.istore_n 2, 1) := by decide +kernel
theorem dX4_count_2 : decode cX4_count 2 = .ok (.iload_n 1, 1) := by decide +kernel
theorem dX4_count_3 : decode cX4_count 3 = .ok (.tableswitch 119 0 4 #[33, 40, 47, 85, 90], 33) := by decide +kernel
theorem dX4_count_36 : decode cX4_count 36 = .ok (.aload_n 0, 1) := by decide +kernel
theorem dX4_count_37 : decode cX4_count 37 = .ok (.getfield 7, 3) := by decide +kernel
theorem dX4_count_40 : decode cX4_count 40 = .ok (.iconst 0, 1) := by decide +kernel
theorem dX4_count_41 : decode cX4_count 41 = .ok (.iaload, 1) := by decide +kernel
theorem dX4_count_42 : decode cX4_count 42 = .ok (.ireturn, 1) := by decide +kernel
theorem dX4_count_43 : decode cX4_count 43 = .ok (.aload_n 0, 1) := by decide +kernel
theorem dX4_count_44 : decode cX4_count 44 = .ok (.getfield 7, 3) := by decide +kernel
theorem dX4_count_47 : decode cX4_count 47 = .ok (.iconst 1, 1) := by decide +kernel
theorem dX4_count_48 : decode cX4_count 48 = .ok (.iaload, 1) := by decide +kernel
theorem dX4_count_49 : decode cX4_count 49 = .ok (.ireturn, 1) := by decide +kernel
theorem dX4_count_50 : decode cX4_count 50 = .ok (.iconst 0, 1) := by decide +kernel
theorem dX4_count_51 : decode cX4_count 51 = .ok (.istore_n 3, 1) := by decide +kernel
theorem dX4_count_52 : decode cX4_count 52 = .ok (.iload_n 3, 1) := by decide +kernel
theorem dX4_count_53 : decode cX4_count 53 = .ok (.aload_n 0, 1) := by decide +kernel
theorem dX4_count_54 : decode cX4_count 54 = .ok (.getfield 7, 3) := by decide +kernel
theorem dX4_count_57 : decode cX4_count 57 = .ok (.iconst 1, 1) := by decide +kernel
theorem dX4_count_58 : decode cX4_count 58 = .ok (.iaload, 1) := by decide +kernel
theorem dX4_count_59 : decode cX4_count 59 = .ok (.if_icmp .ge 27, 3) := by decide +kernel
theorem dX4_count_62 : decode cX4_count 62 = .ok (.iload_n 2, 1) := by decide +kernel
theorem dX4_count_63 : decode cX4_count 63 = .ok (.iconst 1, 1) := by decide +kernel
theorem dX4_count_64 : decode cX4_count 64 = .ok (.aload_n 0, 1) := by decide +kernel
theorem dX4_count_65 : decode cX4_count 65 = .ok (.getfield 7, 3) := by decide +kernel
theorem dX4_count_68 : decode cX4_count 68 = .ok (.bipush 68, 2) := by decide +kernel
theorem dX4_count_70 : decode cX4_count 70 = .ok (.iconst 5, 1) := by decide +kernel
theorem dX4_count_71 : decode cX4_count 71 = .ok (.iload_n 3, 1) := by decide +kernel
theorem dX4_count_72 : decode cX4_count 72 = .ok (.imul, 1) := by decide +kernel
theorem dX4_count_73 : decode cX4_count 73 = .ok (.iadd, 1) := by decide +kernel
theorem dX4_count_74 : decode cX4_count 74 = .ok (.iconst 4, 1) := by decide +kernel
theorem dX4_count_75 : decode cX4_count 75 = .ok (.iadd, 1) := by decide +kernel
theorem dX4_count_76 : decode cX4_count 76 = .ok (.iaload, 1) := by decide +kernel
theorem dX4_count_77 : decode cX4_count 77 = .ok (.isub, 1) := by decide +kernel
theorem dX4_count_78 : decode cX4_count 78 = .ok (.iadd, 1) := by decide +kernel
theorem dX4_count_79 : decode cX4_count 79 = .ok (.istore_n 2, 1) := by decide +kernel
theorem dX4_count_80 : decode cX4_count 80 = .ok (.iinc 3 1, 3) := by decide +kernel
theorem dX4_count_83 : decode cX4_count 83 = .ok (.goto (-31), 3) := by decide +kernel
theorem dX4_count_86 : decode cX4_count 86 = .ok (.iload_n 2, 1) := by decide +kernel
theorem dX4_count_87 : decode cX4_count 87 = .ok (.ireturn, 1) := by decide +kernel
theorem dX4_count_88 : decode cX4_count 88 = .ok (.aload_n 0, 1) := by decide +kernel
theorem dX4_count_89 : decode cX4_count 89 = .ok (.getfield 190, 3) := by decide +kernel
theorem dX4_count_92 : decode cX4_count 92 = .ok (.ireturn, 1) := by decide +kernel
theorem dX4_count_93 : decode cX4_count 93 = .ok (.iconst 0, 1) := by decide +kernel
theorem dX4_count_94 : decode cX4_count 94 = .ok (.istore_n 3, 1) := by decide +kernel
theorem dX4_count_95 : decode cX4_count 95 = .ok (.iload_n 3, 1) := by decide +kernel
theorem dX4_count_96 : decode cX4_count 96 = .ok (.aload_n 0, 1) := by decide +kernel
theorem dX4_count_97 : decode cX4_count 97 = .ok (.getfield 7, 3) := by decide +kernel
theorem dX4_count_100 : decode cX4_count 100 = .ok (.iconst 0, 1) := by decide +kernel
theorem dX4_count_101 : decode cX4_count 101 = .ok (.iaload, 1) := by decide +kernel
theorem dX4_count_102 : decode cX4_count 102 = .ok (.if_icmp .ge 18, 3) := by decide +kernel
theorem dX4_count_105 : decode cX4_count 105 = .ok (.iload_n 2, 1) := by decide +kernel
theorem dX4_count_106 : decode cX4_count 106 = .ok (.aload_n 0, 1) := by decide +kernel
theorem dX4_count_107 : decode cX4_count 107 = .ok (.iload_n 3, 1) := by decide +kernel
theorem dX4_count_108 : decode cX4_count 108 = .ok (.iconst 2, 1) := by decide +kernel
theorem dX4_count_109 : decode cX4_count 109 = .ok (.invokevirtual 84, 3) := by decide +kernel
theorem dX4_count_112 : decode cX4_count 112 = .ok (.iadd, 1) := by decide +kernel
theorem dX4_count_113 : decode cX4_count 113 = .ok (.istore_n 2, 1) := by decide +kernel
theorem dX4_count_114 : decode cX4_count 114 = .ok (.iinc 3 1, 3) := by decide +kernel
theorem dX4_count_117 : decode cX4_count 117 = .ok (.goto (-22), 3) := by decide +kernel
theorem dX4_count_120 : decode cX4_count 120 = .ok (.iload_n 2, 1) := by decide +kernel
theorem dX4_count_121 : decode cX4_count 121 = .ok (.ireturn, 1) := by decide +kernel
theorem dX4_count_122 : decode cX4_count 122 = .ok (.aload_n 0, 1) := by decide +kernel
theorem dX4_count_123 : decode cX4_count 123 = .ok (.ldc 42, 2) := by decide +kernel
theorem dX4_count_125 : decode cX4_count 125 = .ok (.invokevirtual 57, 3) := by decide +kernel
theorem dX4_count_128 : decode cX4_count 128 = .ok (.ireturn, 1) := by decide +kernel
theorem dX4_status_0 : decode cX4_status 0 = .ok (.iload_n 1, 1) := by decide +kernel
theorem dX4_status_1 : decode cX4_status 1 = .ok (.i2l, 1) := by decide +kernel
theorem dX4_status_2 : decode cX4_status 2 = .ok (.ldc2_w 268, 3) := by decide +kernel
theorem dX4_status_5 : decode cX4_status 5 = .ok (.ldc2_w 270, 3) := by decide +kernel
theorem dX4_status_8 : decode cX4_status 8 = .ok (.invokestatic 49, 3) := by decide +kernel
theorem dX4_status_11 : decode cX4_status 11 = .ok (.ifCond .eq 14, 3) := by decide +kernel
theorem dX4_status_14 : decode cX4_status 14 = .ok (.aload_n 0, 1) := by decide +kernel
theorem dX4_status_15 : decode cX4_status 15 = .ok (.getfield 19, 3) := by decide +kernel
theorem dX4_status_18 : decode cX4_status 18 = .ok (.iload_n 1, 1) := by decide +kernel
theorem dX4_status_19 : decode cX4_status 19 = .ok (.iconst 1, 1) := by decide +kernel
theorem dX4_status_20 : decode cX4_status 20 = .ok (.iadd, 1) := by decide +kernel
theorem dX4_status_21 : decode cX4_status 21 = .ok (.iaload, 1) := by decide +kernel
theorem dX4_status_22 : decode cX4_status 22 = .ok (.goto 9, 3) := by decide +kernel
theorem dX4_status_25 : decode cX4_status 25 = .ok (.aload_n 0, 1) := by decide +kernel
theorem dX4_status_26 : decode cX4_status 26 = .ok (.ldc 42, 2) := by decide +kernel
theorem dX4_status_28 : decode cX4_status 28 = .ok (.invokevirtual 57, 3) := by decide +kernel
theorem dX4_status_31 : decode cX4_status 31 = .ok (.ireturn, 1) := by decide +kernel
end
section
theorem dX3_init_0 : decode cX3_init 0 = .ok (.aload_n 0, 1) := by decide +kernel
theorem dX3_init_1 : decode cX3_init 1 = .ok (.invokespecial 1, 3) := by decide +kernel
theorem dX3_init_4 : decode cX3_init 4 = .ok (.aload_n 0, 1) := by decide +kernel
theorem dX3_init_5 : decode cX3_init 5 = .ok (.new 7, 3) := by decide +kernel
theorem dX3_init_8 : decode cX3_init 8 = .ok (.dup, 1) := by decide +kernel
theorem dX3_init_9 : decode cX3_init 9 = .ok (.invokespecial 9, 3) := by decide +kernel
theorem dX3_init_12 : decode cX3_init 12 = .ok (.putfield 10, 3) := by decide +kernel
theorem dX3_init_15 : decode cX3_init 15 = .ok (.aload_n 0, 1) := by decide +kernel
theorem dX3_init_16 : decode cX3_init 16 = .ok (.new 7, 3) := by decide +kernel
theorem dX3_init_19 : decode cX3_init 19 = .ok (.dup, 1) := by decide +kernel
theorem dX3_init_20 : decode cX3_init 20 = .ok (.invokespecial 9, 3) := by decide +kernel
theorem dX3_init_23 : decode cX3_init 23 = .ok (.putfield 16, 3) := by decide +kernel
theorem dX3_init_26 : decode cX3_init 26 = .ok (.aload_n 0, 1) := by decide +kernel
theorem dX3_init_27 : decode cX3_init 27 = .ok (.new 7, 3) := by decide +kernel
theorem dX3_init_30 : decode cX3_init 30 = .ok (.dup, 1) := by decide +kernel
theorem dX3_init_31 : decode cX3_init 31 = .ok (.invokespecial 9, 3) := by decide +kernel
theorem dX3_init_34 : decode cX3_init 34 = .ok (.putfield 19, 3) := by decide +kernel
theorem dX3_init_37 : decode cX3_init 37 = .ok (.aload_n 0, 1) := by decide +kernel
theorem dX3_init_38 : decode cX3_init 38 = .ok (.new 7, 3) := by decide +kernel
theorem dX3_init_41 : decode cX3_init 41 = .ok (.dup, 1) := by decide +kernel
theorem dX3_init_42 : decode cX3_init 42 = .ok (.invokespecial 9, 3) := by decide +kernel
theorem dX3_init_45 : decode cX3_init 45 = .ok (.putfield 22, 3) := by decide +kernel
theorem dX3_init_48 : decode cX3_init 48 = .ok (.aload_n 0, 1) := by decide +kernel
theorem dX3_init_49 : decode cX3_init 49 = .ok (.new 25, 3) := by decide +kernel
theorem dX3_init_52 : decode cX3_init 52 = .ok (.dup, 1) := by decide +kernel
theorem dX3_init_53 : decode cX3_init 53 = .ok (.invokespecial 27, 3) := by decide +kernel
theorem dX3_init_56 : decode cX3_init 56 = .ok (.putfield 28, 3) := by decide +kernel
theorem dX3_init_59 : decode cX3_init 59 = .ok (.aload_n 0, 1) := by decide +kernel
theorem dX3_init_60 : decode cX3_init 60 = .ok (.iconst 4, 1) := by decide +kernel
theorem dX3_init_61 : decode cX3_init 61 = .ok (.anewarray 32, 3) := by decide +kernel
theorem dX3_init_64 : decode cX3_init 64 = .ok (.putfield 34, 3) := by decide +kernel
theorem dX3_init_67 : decode cX3_init 67 = .ok (.iconst 0, 1) := by decide +kernel
theorem dX3_init_68 : decode cX3_init 68 = .ok (.istore_n 1, 1) := by decide +kernel
theorem dX3_init_69 : decode cX3_init 69 = .ok (.iload_n 1, 1) := by decide +kernel
theorem dX3_init_70 : decode cX3_init 70 = .ok (.iconst 4, 1) := by decide +kernel
theorem dX3_init_71 : decode cX3_init 71 = .ok (.if_icmp .ge 22, 3) := by decide +kernel
theorem dX3_init_74 : decode cX3_init 74 = .ok (.aload_n 0, 1) := by decide +kernel
theorem dX3_init_75 : decode cX3_init 75 = .ok (.getfield 34, 3) := by decide +kernel
theorem dX3_init_78 : decode cX3_init 78 = .ok (.iload_n 1, 1) := by decide +kernel
theorem dX3_init_79 : decode cX3_init 79 = .ok (.new 32, 3) := by decide +kernel
theorem dX3_init_82 : decode cX3_init 82 = .ok (.dup, 1) := by decide +kernel
theorem dX3_init_83 : decode cX3_init 83 = .ok (.invokespecial 38, 3) := by decide +kernel
theorem dX3_init_86 : decode cX3_init 86 = .ok (.aastore, 1) := by decide +kernel
theorem dX3_init_87 : decode cX3_init 87 = .ok (.iinc 1 1, 3) := by decide +kernel
theorem dX3_init_90 : decode cX3_init 90 = .ok (.goto (-21), 3) := by decide +kernel
theorem dX3_init_93 : decode cX3_init 93 = .ok (.aload_n 0, 1) := by decide +kernel
theorem dX3_init_94 : decode cX3_init 94 = .ok (.bipush 7, 2) := by decide +kernel
theorem dX3_init_96 : decode cX3_init 96 = .ok (.newarray .int, 2) := by decide +kernel
theorem dX3_init_98 : decode cX3_init 98 = .ok (.putfield 39, 3) := by decide +kernel
theorem dX3_init_101 : decode cX3_init 101 = .ok (.aload_n 0, 1) := by decide +kernel
theorem dX3_init_102 : decode cX3_init 102 = .ok (.iconst 0, 1) := by decide +kernel
theorem dX3_init_103 : decode cX3_init 103 = .ok (.putfield 43, 3) := by decide +kernel
theorem dX3_init_106 : decode cX3_init 106 = .ok (.return_, 1) := by decide +kernel
theorem dX3_soil_0 : decode cX3_soil 0 = .ok (.iload_n 1, 1) := by decide +kernel
theorem dX3_soil_1 : decode cX3_soil 1 = .ok (.invokestatic 47, 3) := by decide +kernel
theorem dX3_soil_4 : decode cX3_soil 4 = .ok (.ifCond .eq 13, 3) := by decide +kernel
theorem dX3_soil_7 : decode cX3_soil 7 = .ok (.iload_n 2, 1) := by decide +kernel
theorem dX3_soil_8 : decode cX3_soil 8 = .ok (.iconst 0, 1) := by decide +kernel
theorem dX3_soil_9 : decode cX3_soil 9 = .ok (.bipush 9, 2) := by decide +kernel
theorem dX3_soil_11 : decode cX3_soil 11 = .ok (.invokestatic 51, 3) := by decide +kernel
theorem dX3_soil_14 : decode cX3_soil 14 = .ok (.ifCond .ne 10, 3) := by decide +kernel
theorem dX3_soil_17 : decode cX3_soil 17 = .ok (.aload_n 0, 1) := by decide +kernel
theorem dX3_soil_18 : decode cX3_soil 18 = .ok (.ldc 55, 2) := by decide +kernel
theorem dX3_soil_20 : decode cX3_soil 20 = .ok (.invokevirtual 56, 3) := by decide +kernel
theorem dX3_soil_23 : decode cX3_soil 23 = .ok (.ireturn, 1) := by decide +kernel
theorem dX3_soil_24 : decode cX3_soil 24 = .ok (.aload_n 0, 1) := by decide +kernel
theorem dX3_soil_25 : decode cX3_soil 25 = .ok (.getfield 10, 3) := by decide +kernel
theorem dX3_soil_28 : decode cX3_soil 28 = .ok (.getfield 60, 3) := by decide +kernel
theorem dX3_soil_31 : decode cX3_soil 31 = .ok (.iload_n 1, 1) := by decide +kernel
theorem dX3_soil_32 : decode cX3_soil 32 = .ok (.iaload, 1) := by decide +kernel
theorem dX3_soil_33 : decode cX3_soil 33 = .ok (.istore_n 3, 1) := by decide +kernel
theorem dX3_soil_34 : decode cX3_soil 34 = .ok (.aload_n 0, 1) := by decide +kernel
theorem dX3_soil_35 : decode cX3_soil 35 = .ok (.getfield 10, 3) := by decide +kernel
theorem dX3_soil_38 : decode cX3_soil 38 = .ok (.getfield 60, 3) := by decide +kernel
theorem dX3_soil_41 : decode cX3_soil 41 = .ok (.iload_n 1, 1) := by decide +kernel
theorem dX3_soil_42 : decode cX3_soil 42 = .ok (.iload_n 2, 1) := by decide +kernel
theorem dX3_soil_43 : decode cX3_soil 43 = .ok (.iastore, 1) := by decide +kernel
theorem dX3_soil_44 : decode cX3_soil 44 = .ok (.iload_n 3, 1) := by decide +kernel
theorem dX3_soil_45 : decode cX3_soil 45 = .ok (.ireturn, 1) := by decide +kernel
theorem dX3_price_0 : decode cX3_price 0 = .ok (.iload_n 1, 1) := by decide +kernel
theorem dX3_price_1 : decode cX3_price 1 = .ok (.iconst 0, 1) := by decide +kernel
theorem dX3_price_2 : decode cX3_price 2 = .ok (.bipush 11, 2) := by decide +kernel
theorem dX3_price_4 : decode cX3_price 4 = .ok (.invokestatic 51, 3) := by decide +kernel
theorem dX3_price_7 : decode cX3_price 7 = .ok (.ifCond .eq 13, 3) := by decide +kernel
theorem dX3_price_10 : decode cX3_price 10 = .ok (.iload_n 2, 1) := by decide +kernel
theorem dX3_price_11 : decode cX3_price 11 = .ok (.iconst 0, 1) := by decide +kernel
theorem dX3_price_12 : decode cX3_price 12 = .ok (.bipush 99, 2) := by decide +kernel
theorem dX3_price_14 : decode cX3_price 14 = .ok (.invokestatic 51, 3) := by decide +kernel
theorem dX3_price_17 : decode cX3_price 17 = .ok (.ifCond .ne 10, 3) := by decide +kernel
theorem dX3_price_20 : decode cX3_price 20 = .ok (.aload_n 0, 1) := by decide +kernel
theorem dX3_price_21 : decode cX3_price 21 = .ok (.ldc 55, 2) := by decide +kernel
theorem dX3_price_23 : decode cX3_price 23 = .ok (.invokevirtual 56, 3) := by decide +kernel
theorem dX3_price_26 : decode cX3_price 26 = .ok (.ireturn, 1) := by decide +kernel
theorem dX3_price_27 : decode cX3_price 27 = .ok (.aload_n 0, 1) := by decide +kernel
theorem dX3_price_28 : decode cX3_price 28 = .ok (.getfield 10, 3) := by decide +kernel
theorem dX3_price_31 : decode cX3_price 31 = .ok (.getfield 63, 3) := by decide +kernel
theorem dX3_price_34 : decode cX3_price 34 = .ok (.iload_n 1, 1) := by decide +kernel
theorem dX3_price_35 : decode cX3_price 35 = .ok (.iaload, 1) := by decide +kernel
theorem dX3_price_36 : decode cX3_price 36 = .ok (.istore_n 3, 1) := by decide +kernel
theorem dX3_price_37 : decode cX3_price 37 = .ok (.aload_n 0, 1) := by decide +kernel
theorem dX3_price_38 : decode cX3_price 38 = .ok (.getfield 10, 3) := by decide +kernel
theorem dX3_price_41 : decode cX3_price 41 = .ok (.getfield 63, 3) := by decide +kernel
theorem dX3_price_44 : decode cX3_price 44 = .ok (.iload_n 1, 1) := by decide +kernel
theorem dX3_price_45 : decode cX3_price 45 = .ok (.iload_n 2, 1) := by decide +kernel
theorem dX3_price_46 : decode cX3_price 46 = .ok (.iastore, 1) := by decide +kernel
theorem dX3_price_47 : decode cX3_price 47 = .ok (.iload_n 3, 1) := by decide +kernel
theorem dX3_price_48 : decode cX3_price 48 = .ok (.ireturn, 1) := by decide +kernel
theorem dX3_coin_0 : decode cX3_coin 0 = .ok (.iload_n 1, 1) := by decide +kernel
theorem dX3_coin_1 : decode cX3_coin 1 = .ok (.invokestatic 66, 3) := by decide +kernel
theorem dX3_coin_4 : decode cX3_coin 4 = .ok (.ifCond .eq 20, 3) := by decide +kernel
theorem dX3_coin_7 : decode cX3_coin 7 = .ok (.iload_n 2, 1) := by decide +kernel
theorem dX3_coin_8 : decode cX3_coin 8 = .ok (.invokestatic 47, 3) := by decide +kernel
theorem dX3_coin_11 : decode cX3_coin 11 = .ok (.ifCond .eq 13, 3) := by decide +kernel
theorem dX3_coin_14 : decode cX3_coin 14 = .ok (.iload_n 3, 1) := by decide +kernel
theorem dX3_coin_15 : decode cX3_coin 15 = .ok (.iconst 0, 1) := by decide +kernel
theorem dX3_coin_16 : decode cX3_coin 16 = .ok (.bipush 99, 2) := by decide +kernel
theorem dX3_coin_18 : decode cX3_coin 18 = .ok (.invokestatic 51, 3) := by decide +kernel
theorem dX3_coin_21 : decode cX3_coin 21 = .ok (.ifCond .ne 10, 3) := by decide +kernel
theorem dX3_coin_24 : decode cX3_coin 24 = .ok (.aload_n 0, 1) := by decide +kernel
theorem dX3_coin_25 : decode cX3_coin 25 = .ok (.ldc 55, 2) := by decide +kernel
theorem dX3_coin_27 : decode cX3_coin 27 = .ok (.invokevirtual 56, 3) := by decide +kernel
theorem dX3_coin_30 : decode cX3_coin 30 = .ok (.ireturn, 1) := by decide +kernel
theorem dX3_coin_31 : decode cX3_coin 31 = .ok (.aload_n 0, 1) := by decide +kernel
theorem dX3_coin_32 : decode cX3_coin 32 = .ok (.getfield 10, 3) := by decide +kernel
theorem dX3_coin_35 : decode cX3_coin 35 = .ok (.getfield 69, 3) := by decide +kernel
theorem dX3_coin_38 : decode cX3_coin 38 = .ok (.bipush 12, 2) := by decide +kernel
theorem dX3_coin_40 : decode cX3_coin 40 = .ok (.if_icmp .lt 10, 3) := by decide +kernel
theorem dX3_coin_43 : decode cX3_coin 43 = .ok (.aload_n 0, 1) := by decide +kernel
theorem dX3_coin_44 : decode cX3_coin 44 = .ok (.ldc 73, 2) := by decide +kernel
theorem dX3_coin_46 : decode cX3_coin 46 = .ok (.invokevirtual 56, 3) := by decide +kernel
theorem dX3_coin_49 : decode cX3_coin 49 = .ok (.ireturn, 1) := by decide +kernel
theorem dX3_coin_50 : decode cX3_coin 50 = .ok (.aload_n 0, 1) := by decide +kernel
theorem dX3_coin_51 : decode cX3_coin 51 = .ok (.getfield 10, 3) := by decide +kernel
theorem dX3_coin_54 : decode cX3_coin 54 = .ok (.iload_n 1, 1) := by decide +kernel
theorem dX3_coin_55 : decode cX3_coin 55 = .ok (.iload_n 2, 1) := by decide +kernel
theorem dX3_coin_56 : decode cX3_coin 56 = .ok (.iload_n 3, 1) := by decide +kernel
theorem dX3_coin_57 : decode cX3_coin 57 = .ok (.iconst 0, 1) := by decide +kernel
theorem dX3_coin_58 : decode cX3_coin 58 = .ok (.invokevirtual 74, 3) := by decide +kernel
theorem dX3_coin_61 : decode cX3_coin 61 = .ok (.ireturn, 1) := by decide +kernel
theorem dX3_of_0 : decode cX3_of 0 = .ok (.aload_n 0, 1) := by decide +kernel
theorem dX3_of_1 : decode cX3_of 1 = .ok (.iload_n 1, 1) := by decide +kernel
theorem dX3_of_2 : decode cX3_of 2 = .ok (.invokevirtual 78, 3) := by decide +kernel
theorem dX3_of_5 : decode cX3_of 5 = .ok (.ifCond .ne 10, 3) := by decide +kernel
theorem dX3_of_8 : decode cX3_of 8 = .ok (.aload_n 0, 1) := by decide +kernel
theorem dX3_of_9 : decode cX3_of 9 = .ok (.ldc 55, 2) := by decide +kernel
theorem dX3_of_11 : decode cX3_of 11 = .ok (.invokevirtual 56, 3) := by decide +kernel
theorem dX3_of_14 : decode cX3_of 14 = .ok (.ireturn, 1) := by decide +kernel
theorem dX3_of_15 : decode cX3_of 15 = .ok (.iload_n 2, 1) := by decide +kernel
theorem dX3_of_16 : decode cX3_of 16 = .ok (.tableswitch 147 0 7 #[48, 58, 68, 78, 88, 97, 117, 126], 48) := by decide +kernel
theorem dX3_of_64 : decode cX3_of 64 = .ok (.aload_n 0, 1) := by decide +kernel
theorem dX3_of_65 : decode cX3_of 65 = .ok (.getfield 10, 3) := by decide +kernel
theorem dX3_of_68 : decode cX3_of 68 = .ok (.getfield 81, 3) := by decide +kernel
theorem dX3_of_71 : decode cX3_of 71 = .ok (.iload_n 1, 1) := by decide +kernel
theorem dX3_of_72 : decode cX3_of 72 = .ok (.iaload, 1) := by decide +kernel
theorem dX3_of_73 : decode cX3_of 73 = .ok (.ireturn, 1) := by decide +kernel
theorem dX3_of_74 : decode cX3_of 74 = .ok (.aload_n 0, 1) := by decide +kernel
theorem dX3_of_75 : decode cX3_of 75 = .ok (.getfield 10, 3) := by decide +kernel
theorem dX3_of_78 : decode cX3_of 78 = .ok (.getfield 84, 3) := by decide +kernel
theorem dX3_of_81 : decode cX3_of 81 = .ok (.iload_n 1, 1) := by decide +kernel
theorem dX3_of_82 : decode cX3_of 82 = .ok (.iaload, 1) := by decide +kernel
theorem dX3_of_83 : decode cX3_of 83 = .ok (.ireturn, 1) := by decide +kernel
theorem dX3_of_84 : decode cX3_of 84 = .ok (.aload_n 0, 1) := by decide +kernel
theorem dX3_of_85 : decode cX3_of 85 = .ok (.getfield 10, 3) := by decide +kernel
theorem dX3_of_88 : decode cX3_of 88 = .ok (.getfield 87, 3) := by decide +kernel
theorem dX3_of_91 : decode cX3_of 91 = .ok (.iload_n 1, 1) := by decide +kernel
theorem dX3_of_92 : decode cX3_of 92 = .ok (.iaload, 1) := by decide +kernel
theorem dX3_of_93 : decode cX3_of 93 = .ok (.ireturn, 1) := by decide +kernel
theorem dX3_of_94 : decode cX3_of 94 = .ok (.aload_n 0, 1) := by decide +kernel
theorem dX3_of_95 : decode cX3_of 95 = .ok (.getfield 10, 3) := by decide +kernel
theorem dX3_of_98 : decode cX3_of 98 = .ok (.getfield 90, 3) := by decide +kernel
theorem dX3_of_101 : decode cX3_of 101 = .ok (.iload_n 1, 1) := by decide +kernel
theorem dX3_of_102 : decode cX3_of 102 = .ok (.iaload, 1) := by decide +kernel
theorem dX3_of_103 : decode cX3_of 103 = .ok (.ireturn, 1) := by decide +kernel
theorem dX3_of_104 : decode cX3_of 104 = .ok (.aload_n 0, 1) := by decide +kernel
theorem dX3_of_105 : decode cX3_of 105 = .ok (.getfield 10, 3) := by decide +kernel
theorem dX3_of_108 : decode cX3_of 108 = .ok (.iload_n 1, 1) := by decide +kernel
theorem dX3_of_109 : decode cX3_of 109 = .ok (.invokevirtual 93, 3) := by decide +kernel
theorem dX3_of_112 : decode cX3_of 112 = .ok (.ireturn, 1) := by decide +kernel
theorem dX3_of_113 : decode cX3_of 113 = .ok (.aload_n 0, 1) := by decide +kernel
theorem dX3_of_114 : decode cX3_of 114 = .ok (.getfield 10, 3) := by decide +kernel
theorem dX3_of_117 : decode cX3_of 117 = .ok (.getfield 81, 3) := by decide +kernel
theorem dX3_of_120 : decode cX3_of 120 = .ok (.iload_n 1, 1) := by decide +kernel
theorem dX3_of_121 : decode cX3_of 121 = .ok (.iaload, 1) := by decide +kernel
theorem dX3_of_122 : decode cX3_of 122 = .ok (.aload_n 0, 1) := by decide +kernel
theorem dX3_of_123 : decode cX3_of 123 = .ok (.getfield 10, 3) := by decide +kernel
theorem dX3_of_126 : decode cX3_of 126 = .ok (.invokevirtual 96, 3) := by decide +kernel
theorem dX3_of_129 : decode cX3_of 129 = .ok (.invokestatic 100, 3) := by decide +kernel
theorem dX3_of_132 : decode cX3_of 132 = .ok (.ireturn, 1) := by decide +kernel
theorem dX3_of_133 : decode cX3_of 133 = .ok (.aload_n 0, 1) := by decide +kernel
theorem dX3_of_134 : decode cX3_of 134 = .ok (.getfield 10, 3) := by decide +kernel
theorem dX3_of_137 : decode cX3_of 137 = .ok (.iload_n 1, 1) := by decide +kernel
theorem dX3_of_138 : decode cX3_of 138 = .ok (.invokevirtual 104, 3) := by decide +kernel
theorem dX3_of_141 : decode cX3_of 141 = .ok (.ireturn, 1) := by decide +kernel
theorem dX3_of_142 : decode cX3_of 142 = .ok (.aload_n 0, 1) := by decide +kernel
theorem dX3_of_143 : decode cX3_of 143 = .ok (.getfield 10, 3) := by decide +kernel
theorem dX3_of_146 : decode cX3_of 146 = .ok (.getfield 81, 3) := by decide +kernel
theorem dX3_of_149 : decode cX3_of 149 = .ok (.iload_n 1, 1) := by decide +kernel
theorem dX3_of_150 : decode cX3_of 150 = .ok (.iaload, 1) := by decide +kernel
theorem dX3_of_151 : decode cX3_of 151 = .ok (.invokestatic 107, 3) := by decide +kernel
theorem dX3_of_154 : decode cX3_of 154 = .ok (.ifCond .eq 7, 3) := by decide +kernel
theorem dX3_of_157 : decode cX3_of 157 = .ok (.iconst 1, 1) := by decide +kernel
theorem dX3_of_158 : decode cX3_of 158 = .ok (.goto 4, 3) := by decide +kernel
theorem dX3_of_161 : decode cX3_of 161 = .ok (.iconst 0, 1) := by decide +kernel
theorem dX3_of_162 : decode cX3_of 162 = .ok (.ireturn, 1) := by decide +kernel
theorem dX3_of_163 : decode cX3_of 163 = .ok (.aload_n 0, 1) := by decide +kernel
theorem dX3_of_164 : decode cX3_of 164 = .ok (.ldc 55, 2) := by decide +kernel
theorem dX3_of_166 : decode cX3_of 166 = .ok (.invokevirtual 56, 3) := by decide +kernel
theorem dX3_of_169 : decode cX3_of 169 = .ok (.ireturn, 1) := by decide +kernel
theorem dX3_set_0 : decode cX3_set 0 = .ok (.aload_n 0, 1) := by decide +kernel
theorem dX3_set_1 : decode cX3_set 1 = .ok (.iload_n 1, 1) := by decide +kernel
theorem dX3_set_2 : decode cX3_set 2 = .ok (.invokevirtual 78, 3) := by decide +kernel
theorem dX3_set_5 : decode cX3_set 5 = .ok (.ifCond .ne 10, 3) := by decide +kernel
theorem dX3_set_8 : decode cX3_set 8 = .ok (.aload_n 0, 1) := by decide +kernel
theorem dX3_set_9 : decode cX3_set 9 = .ok (.ldc 55, 2) := by decide +kernel
theorem dX3_set_11 : decode cX3_set 11 = .ok (.invokevirtual 56, 3) := by decide +kernel
theorem dX3_set_14 : decode cX3_set 14 = .ok (.ireturn, 1) := by decide +kernel
theorem dX3_set_15 : decode cX3_set 15 = .ok (.iload_n 2, 1) := by decide +kernel
theorem dX3_set_16 : decode cX3_set 16 = .ok (.tableswitch 74 1 3 #[28, 43, 59], 28) := by decide +kernel
theorem dX3_set_44 : decode cX3_set 44 = .ok (.aload_n 0, 1) := by decide +kernel
theorem dX3_set_45 : decode cX3_set 45 = .ok (.getfield 10, 3) := by decide +kernel
theorem dX3_set_48 : decode cX3_set 48 = .ok (.getfield 84, 3) := by decide +kernel
theorem dX3_set_51 : decode cX3_set 51 = .ok (.astore 4, 2) := by decide +kernel
theorem dX3_set_53 : decode cX3_set 53 = .ok (.iconst 3, 1) := by decide +kernel
theorem dX3_set_54 : decode cX3_set 54 = .ok (.istore 5, 2) := by decide +kernel
theorem dX3_set_56 : decode cX3_set 56 = .ok (.goto 41, 3) := by decide +kernel
theorem dX3_set_59 : decode cX3_set 59 = .ok (.aload_n 0, 1) := by decide +kernel
theorem dX3_set_60 : decode cX3_set 60 = .ok (.getfield 10, 3) := by decide +kernel
theorem dX3_set_63 : decode cX3_set 63 = .ok (.getfield 87, 3) := by decide +kernel
theorem dX3_set_66 : decode cX3_set 66 = .ok (.astore 4, 2) := by decide +kernel
theorem dX3_set_68 : decode cX3_set 68 = .ok (.bipush 99, 2) := by decide +kernel
theorem dX3_set_70 : decode cX3_set 70 = .ok (.istore 5, 2) := by decide +kernel
theorem dX3_set_72 : decode cX3_set 72 = .ok (.goto 25, 3) := by decide +kernel
theorem dX3_set_75 : decode cX3_set 75 = .ok (.aload_n 0, 1) := by decide +kernel
theorem dX3_set_76 : decode cX3_set 76 = .ok (.getfield 10, 3) := by decide +kernel
theorem dX3_set_79 : decode cX3_set 79 = .ok (.getfield 90, 3) := by decide +kernel
theorem dX3_set_82 : decode cX3_set 82 = .ok (.astore 4, 2) := by decide +kernel
theorem dX3_set_84 : decode cX3_set 84 = .ok (.iconst 2, 1) := by decide +kernel
theorem dX3_set_85 : decode cX3_set 85 = .ok (.istore 5, 2) := by decide +kernel
theorem dX3_set_87 : decode cX3_set 87 = .ok (.goto 10, 3) := by decide +kernel
theorem dX3_set_90 : decode cX3_set 90 = .ok (.aload_n 0, 1) := by decide +kernel
theorem dX3_set_91 : decode cX3_set 91 = .ok (.ldc 55, 2) := by decide +kernel
theorem dX3_set_93 : decode cX3_set 93 = .ok (.invokevirtual 56, 3) := by decide +kernel
theorem dX3_set_96 : decode cX3_set 96 = .ok (.ireturn, 1) := by decide +kernel
theorem dX3_set_97 : decode cX3_set 97 = .ok (.iload_n 3, 1) := by decide +kernel
theorem dX3_set_98 : decode cX3_set 98 = .ok (.iconst 0, 1) := by decide +kernel
theorem dX3_set_99 : decode cX3_set 99 = .ok (.iload 5, 2) := by decide +kernel
theorem dX3_set_101 : decode cX3_set 101 = .ok (.invokestatic 51, 3) := by decide +kernel
theorem dX3_set_104 : decode cX3_set 104 = .ok (.ifCond .ne 10, 3) := by decide +kernel
theorem dX3_set_107 : decode cX3_set 107 = .ok (.aload_n 0, 1) := by decide +kernel
theorem dX3_set_108 : decode cX3_set 108 = .ok (.ldc 55, 2) := by decide +kernel
theorem dX3_set_110 : decode cX3_set 110 = .ok (.invokevirtual 56, 3) := by decide +kernel
theorem dX3_set_113 : decode cX3_set 113 = .ok (.ireturn, 1) := by decide +kernel
theorem dX3_set_114 : decode cX3_set 114 = .ok (.aload 4, 2) := by decide +kernel
theorem dX3_set_116 : decode cX3_set 116 = .ok (.iload_n 1, 1) := by decide +kernel
theorem dX3_set_117 : decode cX3_set 117 = .ok (.iaload, 1) := by decide +kernel
theorem dX3_set_118 : decode cX3_set 118 = .ok (.istore 6, 2) := by decide +kernel
theorem dX3_set_120 : decode cX3_set 120 = .ok (.aload 4, 2) := by decide +kernel
theorem dX3_set_122 : decode cX3_set 122 = .ok (.iload_n 1, 1) := by decide +kernel
theorem dX3_set_123 : decode cX3_set 123 = .ok (.iload_n 3, 1) := by decide +kernel
theorem dX3_set_124 : decode cX3_set 124 = .ok (.iastore, 1) := by decide +kernel
theorem dX3_set_125 : decode cX3_set 125 = .ok (.iload 6, 2) := by decide +kernel
theorem dX3_set_127 : decode cX3_set 127 = .ok (.ireturn, 1) := by decide +kernel
theorem dX3_turn_0 : decode cX3_turn 0 = .ok (.aload_n 0, 1) := by decide +kernel
theorem dX3_turn_1 : decode cX3_turn 1 = .ok (.iload_n 1, 1) := by decide +kernel
theorem dX3_turn_2 : decode cX3_turn 2 = .ok (.invokevirtual 78, 3) := by decide +kernel
theorem dX3_turn_5 : decode cX3_turn 5 = .ok (.ifCond .eq 10, 3) := by decide +kernel
theorem dX3_turn_8 : decode cX3_turn 8 = .ok (.iload_n 2, 1) := by decide +kernel
theorem dX3_turn_9 : decode cX3_turn 9 = .ok (.invokestatic 66, 3) := by decide +kernel
theorem dX3_turn_12 : decode cX3_turn 12 = .ok (.ifCond .ne 10, 3) := by decide +kernel
theorem dX3_turn_15 : decode cX3_turn 15 = .ok (.aload_n 0, 1) := by decide +kernel
theorem dX3_turn_16 : decode cX3_turn 16 = .ok (.ldc 55, 2) := by decide +kernel
theorem dX3_turn_18 : decode cX3_turn 18 = .ok (.invokevirtual 56, 3) := by decide +kernel
theorem dX3_turn_21 : decode cX3_turn 21 = .ok (.ireturn, 1) := by decide +kernel
theorem dX3_turn_22 : decode cX3_turn 22 = .ok (.aload_n 0, 1) := by decide +kernel
theorem dX3_turn_23 : decode cX3_turn 23 = .ok (.getfield 10, 3) := by decide +kernel
theorem dX3_turn_26 : decode cX3_turn 26 = .ok (.getfield 81, 3) := by decide +kernel
theorem dX3_turn_29 : decode cX3_turn 29 = .ok (.iload_n 1, 1) := by decide +kernel
theorem dX3_turn_30 : decode cX3_turn 30 = .ok (.iaload, 1) := by decide +kernel
theorem dX3_turn_31 : decode cX3_turn 31 = .ok (.istore_n 3, 1) := by decide +kernel
theorem dX3_turn_32 : decode cX3_turn 32 = .ok (.aload_n 0, 1) := by decide +kernel
theorem dX3_turn_33 : decode cX3_turn 33 = .ok (.getfield 10, 3) := by decide +kernel
theorem dX3_turn_36 : decode cX3_turn 36 = .ok (.getfield 81, 3) := by decide +kernel
theorem dX3_turn_39 : decode cX3_turn 39 = .ok (.iload_n 1, 1) := by decide +kernel
theorem dX3_turn_40 : decode cX3_turn 40 = .ok (.iload_n 2, 1) := by decide +kernel
theorem dX3_turn_41 : decode cX3_turn 41 = .ok (.iastore, 1) := by decide +kernel
theorem dX3_turn_42 : decode cX3_turn 42 = .ok (.iload_n 3, 1) := by decide +kernel
theorem dX3_turn_43 : decode cX3_turn 43 = .ok (.ireturn, 1) := by decide +kernel
theorem dX3_as_0 : decode cX3_as 0 = .ok (.aload_n 0, 1) := by decide +kernel
theorem dX3_as_1 : decode cX3_as 1 = .ok (.iload_n 1, 1) := by decide +kernel
theorem dX3_as_2 : decode cX3_as 2 = .ok (.invokevirtual 78, 3) := by decide +kernel
theorem dX3_as_5 : decode cX3_as 5 = .ok (.ifCond .eq 10, 3) := by decide +kernel
theorem dX3_as_8 : decode cX3_as 8 = .ok (.iload_n 2, 1) := by decide +kernel
theorem dX3_as_9 : decode cX3_as 9 = .ok (.invokestatic 66, 3) := by decide +kernel
theorem dX3_as_12 : decode cX3_as 12 = .ok (.ifCond .ne 10, 3) := by decide +kernel
theorem dX3_as_15 : decode cX3_as 15 = .ok (.aload_n 0, 1) := by decide +kernel
theorem dX3_as_16 : decode cX3_as 16 = .ok (.ldc 55, 2) := by decide +kernel
theorem dX3_as_18 : decode cX3_as 18 = .ok (.invokevirtual 56, 3) := by decide +kernel
theorem dX3_as_21 : decode cX3_as 21 = .ok (.ireturn, 1) := by decide +kernel
theorem dX3_as_22 : decode cX3_as 22 = .ok (.aload_n 0, 1) := by decide +kernel
theorem dX3_as_23 : decode cX3_as 23 = .ok (.getfield 10, 3) := by decide +kernel
theorem dX3_as_26 : decode cX3_as 26 = .ok (.getfield 81, 3) := by decide +kernel
theorem dX3_as_29 : decode cX3_as 29 = .ok (.iload_n 1, 1) := by decide +kernel
theorem dX3_as_30 : decode cX3_as 30 = .ok (.iaload, 1) := by decide +kernel
theorem dX3_as_31 : decode cX3_as 31 = .ok (.iload_n 2, 1) := by decide +kernel
theorem dX3_as_32 : decode cX3_as 32 = .ok (.invokestatic 110, 3) := by decide +kernel
theorem dX3_as_35 : decode cX3_as 35 = .ok (.ifCond .ne 10, 3) := by decide +kernel
theorem dX3_as_38 : decode cX3_as 38 = .ok (.aload_n 0, 1) := by decide +kernel
theorem dX3_as_39 : decode cX3_as 39 = .ok (.ldc 114, 2) := by decide +kernel
theorem dX3_as_41 : decode cX3_as 41 = .ok (.invokevirtual 56, 3) := by decide +kernel
theorem dX3_as_44 : decode cX3_as 44 = .ok (.ireturn, 1) := by decide +kernel
theorem dX3_as_45 : decode cX3_as 45 = .ok (.aload_n 0, 1) := by decide +kernel
theorem dX3_as_46 : decode cX3_as 46 = .ok (.getfield 10, 3) := by decide +kernel
theorem dX3_as_49 : decode cX3_as 49 = .ok (.getfield 87, 3) := by decide +kernel
theorem dX3_as_52 : decode cX3_as 52 = .ok (.iload_n 1, 1) := by decide +kernel
theorem dX3_as_53 : decode cX3_as 53 = .ok (.iaload, 1) := by decide +kernel
theorem dX3_as_54 : decode cX3_as 54 = .ok (.ireturn, 1) := by decide +kernel
theorem dX3_swap_0 : decode cX3_swap 0 = .ok (.aload_n 0, 1) := by decide +kernel
theorem dX3_swap_1 : decode cX3_swap 1 = .ok (.iload_n 1, 1) := by decide +kernel
theorem dX3_swap_2 : decode cX3_swap 2 = .ok (.invokevirtual 78, 3) := by decide +kernel
theorem dX3_swap_5 : decode cX3_swap 5 = .ok (.ifCond .eq 11, 3) := by decide +kernel
theorem dX3_swap_8 : decode cX3_swap 8 = .ok (.aload_n 0, 1) := by decide +kernel
theorem dX3_swap_9 : decode cX3_swap 9 = .ok (.iload_n 2, 1) := by decide +kernel
theorem dX3_swap_10 : decode cX3_swap 10 = .ok (.invokevirtual 78, 3) := by decide +kernel
theorem dX3_swap_13 : decode cX3_swap 13 = .ok (.ifCond .ne 10, 3) := by decide +kernel
theorem dX3_swap_16 : decode cX3_swap 16 = .ok (.aload_n 0, 1) := by decide +kernel
theorem dX3_swap_17 : decode cX3_swap 17 = .ok (.ldc 55, 2) := by decide +kernel
theorem dX3_swap_19 : decode cX3_swap 19 = .ok (.invokevirtual 56, 3) := by decide +kernel
theorem dX3_swap_22 : decode cX3_swap 22 = .ok (.ireturn, 1) := by decide +kernel
theorem dX3_swap_23 : decode cX3_swap 23 = .ok (.aload_n 0, 1) := by decide +kernel
theorem dX3_swap_24 : decode cX3_swap 24 = .ok (.getfield 10, 3) := by decide +kernel
theorem dX3_swap_27 : decode cX3_swap 27 = .ok (.iload_n 1, 1) := by decide +kernel
theorem dX3_swap_28 : decode cX3_swap 28 = .ok (.iload_n 2, 1) := by decide +kernel
theorem dX3_swap_29 : decode cX3_swap 29 = .ok (.invokevirtual 115, 3) := by decide +kernel
theorem dX3_swap_32 : decode cX3_swap 32 = .ok (.iconst 1, 1) := by decide +kernel
theorem dX3_swap_33 : decode cX3_swap 33 = .ok (.ireturn, 1) := by decide +kernel
theorem dX3_plant_0 : decode cX3_plant 0 = .ok (.aload_n 0, 1) := by decide +kernel
theorem dX3_plant_1 : decode cX3_plant 1 = .ok (.iload_n 1, 1) := by decide +kernel
theorem dX3_plant_2 : decode cX3_plant 2 = .ok (.invokevirtual 78, 3) := by decide +kernel
theorem dX3_plant_5 : decode cX3_plant 5 = .ok (.ifCond .ne 10, 3) := by decide +kernel
theorem dX3_plant_8 : decode cX3_plant 8 = .ok (.aload_n 0, 1) := by decide +kernel
theorem dX3_plant_9 : decode cX3_plant 9 = .ok (.ldc 55, 2) := by decide +kernel
theorem dX3_plant_11 : decode cX3_plant 11 = .ok (.invokevirtual 56, 3) := by decide +kernel
theorem dX3_plant_14 : decode cX3_plant 14 = .ok (.ireturn, 1) := by decide +kernel
theorem dX3_plant_15 : decode cX3_plant 15 = .ok (.aload_n 0, 1) := by decide +kernel
theorem dX3_plant_16 : decode cX3_plant 16 = .ok (.getfield 10, 3) := by decide +kernel
theorem dX3_plant_19 : decode cX3_plant 19 = .ok (.getfield 90, 3) := by decide +kernel
theorem dX3_plant_22 : decode cX3_plant 22 = .ok (.iload_n 1, 1) := by decide +kernel
theorem dX3_plant_23 : decode cX3_plant 23 = .ok (.iaload, 1) := by decide +kernel
theorem dX3_plant_24 : decode cX3_plant 24 = .ok (.ifCond .ne 13, 3) := by decide +kernel
theorem dX3_plant_27 : decode cX3_plant 27 = .ok (.aload_n 0, 1) := by decide +kernel
theorem dX3_plant_28 : decode cX3_plant 28 = .ok (.getfield 10, 3) := by decide +kernel
theorem dX3_plant_31 : decode cX3_plant 31 = .ok (.invokevirtual 119, 3) := by decide +kernel
theorem dX3_plant_34 : decode cX3_plant 34 = .ok (.ifCond .ne 10, 3) := by decide +kernel
theorem dX3_plant_37 : decode cX3_plant 37 = .ok (.aload_n 0, 1) := by decide +kernel
theorem dX3_plant_38 : decode cX3_plant 38 = .ok (.ldc 123, 2) := by decide +kernel
theorem dX3_plant_40 : decode cX3_plant 40 = .ok (.invokevirtual 56, 3) := by decide +kernel
theorem dX3_plant_43 : decode cX3_plant 43 = .ok (.ireturn, 1) := by decide +kernel
theorem dX3_plant_44 : decode cX3_plant 44 = .ok (.aload_n 0, 1) := by decide +kernel
theorem dX3_plant_45 : decode cX3_plant 45 = .ok (.getfield 10, 3) := by decide +kernel
theorem dX3_plant_48 : decode cX3_plant 48 = .ok (.getfield 90, 3) := by decide +kernel
theorem dX3_plant_51 : decode cX3_plant 51 = .ok (.iload_n 1, 1) := by decide +kernel
theorem dX3_plant_52 : decode cX3_plant 52 = .ok (.iconst 2, 1) := by decide +kernel
theorem dX3_plant_53 : decode cX3_plant 53 = .ok (.iastore, 1) := by decide +kernel
theorem dX3_plant_54 : decode cX3_plant 54 = .ok (.aload_n 0, 1) := by decide +kernel
theorem dX3_plant_55 : decode cX3_plant 55 = .ok (.getfield 10, 3) := by decide +kernel
theorem dX3_plant_58 : decode cX3_plant 58 = .ok (.getfield 87, 3) := by decide +kernel
theorem dX3_plant_61 : decode cX3_plant 61 = .ok (.iload_n 1, 1) := by decide +kernel
theorem dX3_plant_62 : decode cX3_plant 62 = .ok (.iaload, 1) := by decide +kernel
theorem dX3_plant_63 : decode cX3_plant 63 = .ok (.ireturn, 1) := by decide +kernel
theorem dX3_purse_0 : decode cX3_purse 0 = .ok (.iload_n 1, 1) := by decide +kernel
theorem dX3_purse_1 : decode cX3_purse 1 = .ok (.invokestatic 47, 3) := by decide +kernel
theorem dX3_purse_4 : decode cX3_purse 4 = .ok (.ifCond .eq 14, 3) := by decide +kernel
theorem dX3_purse_7 : decode cX3_purse 7 = .ok (.aload_n 0, 1) := by decide +kernel
theorem dX3_purse_8 : decode cX3_purse 8 = .ok (.getfield 10, 3) := by decide +kernel
theorem dX3_purse_11 : decode cX3_purse 11 = .ok (.iload_n 1, 1) := by decide +kernel
theorem dX3_purse_12 : decode cX3_purse 12 = .ok (.invokevirtual 124, 3) := by decide +kernel
theorem dX3_purse_15 : decode cX3_purse 15 = .ok (.goto 9, 3) := by decide +kernel
theorem dX3_purse_18 : decode cX3_purse 18 = .ok (.aload_n 0, 1) := by decide +kernel
theorem dX3_purse_19 : decode cX3_purse 19 = .ok (.ldc 55, 2) := by decide +kernel
theorem dX3_purse_21 : decode cX3_purse 21 = .ok (.invokevirtual 56, 3) := by decide +kernel
theorem dX3_purse_24 : decode cX3_purse 24 = .ok (.ireturn, 1) := by decide +kernel
theorem dX3_pay_0 : decode cX3_pay 0 = .ok (.iload_n 1, 1) := by decide +kernel
theorem dX3_pay_1 : decode cX3_pay 1 = .ok (.iload_n 2, 1) := by decide +kernel
theorem dX3_pay_2 : decode cX3_pay 2 = .ok (.invokestatic 127, 3) := by decide +kernel
theorem dX3_pay_5 : decode cX3_pay 5 = .ok (.ifCond .eq 10, 3) := by decide +kernel
theorem dX3_pay_8 : decode cX3_pay 8 = .ok (.iload_n 3, 1) := by decide +kernel
theorem dX3_pay_9 : decode cX3_pay 9 = .ok (.invokestatic 130, 3) := by decide +kernel
theorem dX3_pay_12 : decode cX3_pay 12 = .ok (.ifCond .ne 10, 3) := by decide +kernel
theorem dX3_pay_15 : decode cX3_pay 15 = .ok (.aload_n 0, 1) := by decide +kernel
theorem dX3_pay_16 : decode cX3_pay 16 = .ok (.ldc 55, 2) := by decide +kernel
theorem dX3_pay_18 : decode cX3_pay 18 = .ok (.invokevirtual 56, 3) := by decide +kernel
theorem dX3_pay_21 : decode cX3_pay 21 = .ok (.ireturn, 1) := by decide +kernel
theorem dX3_pay_22 : decode cX3_pay 22 = .ok (.aload_n 0, 1) := by decide +kernel
theorem dX3_pay_23 : decode cX3_pay 23 = .ok (.getfield 10, 3) := by decide +kernel
theorem dX3_pay_26 : decode cX3_pay 26 = .ok (.iload_n 1, 1) := by decide +kernel
theorem dX3_pay_27 : decode cX3_pay 27 = .ok (.iload_n 2, 1) := by decide +kernel
theorem dX3_pay_28 : decode cX3_pay 28 = .ok (.iload_n 3, 1) := by decide +kernel
theorem dX3_pay_29 : decode cX3_pay 29 = .ok (.invokevirtual 133, 3) := by decide +kernel
theorem dX3_pay_32 : decode cX3_pay 32 = .ok (.ireturn, 1) := by decide +kernel
theorem dX3_which_0 : decode cX3_which 0 = .ok (.iload_n 1, 1) := by decide +kernel
theorem dX3_which_1 : decode cX3_which 1 = .ok (.invokestatic 47, 3) := by decide +kernel
theorem dX3_which_4 : decode cX3_which 4 = .ok (.ifCond .eq 10, 3) := by decide +kernel
theorem dX3_which_7 : decode cX3_which 7 = .ok (.iload_n 2, 1) := by decide +kernel
theorem dX3_which_8 : decode cX3_which 8 = .ok (.invokestatic 130, 3) := by decide +kernel
theorem dX3_which_11 : decode cX3_which 11 = .ok (.ifCond .ne 10, 3) := by decide +kernel
theorem dX3_which_14 : decode cX3_which 14 = .ok (.aload_n 0, 1) := by decide +kernel
theorem dX3_which_15 : decode cX3_which 15 = .ok (.ldc 55, 2) := by decide +kernel
theorem dX3_which_17 : decode cX3_which 17 = .ok (.invokevirtual 56, 3) := by decide +kernel
theorem dX3_which_20 : decode cX3_which 20 = .ok (.ireturn, 1) := by decide +kernel
theorem dX3_which_21 : decode cX3_which 21 = .ok (.aload_n 0, 1) := by decide +kernel
theorem dX3_which_22 : decode cX3_which 22 = .ok (.getfield 10, 3) := by decide +kernel
theorem dX3_which_25 : decode cX3_which 25 = .ok (.iload_n 1, 1) := by decide +kernel
theorem dX3_which_26 : decode cX3_which 26 = .ok (.iload_n 2, 1) := by decide +kernel
theorem dX3_which_27 : decode cX3_which 27 = .ok (.invokevirtual 137, 3) := by decide +kernel
theorem dX3_which_30 : decode cX3_which 30 = .ok (.ireturn, 1) := by decide +kernel
theorem dX3_over_0 : decode cX3_over 0 = .ok (.iload_n 1, 1) := by decide +kernel
theorem dX3_over_1 : decode cX3_over 1 = .ok (.invokestatic 47, 3) := by decide +kernel
theorem dX3_over_4 : decode cX3_over 4 = .ok (.ifCond .eq 10, 3) := by decide +kernel
theorem dX3_over_7 : decode cX3_over 7 = .ok (.iload_n 2, 1) := by decide +kernel
theorem dX3_over_8 : decode cX3_over 8 = .ok (.invokestatic 130, 3) := by decide +kernel
theorem dX3_over_11 : decode cX3_over 11 = .ok (.ifCond .ne 10, 3) := by decide +kernel
theorem dX3_over_14 : decode cX3_over 14 = .ok (.aload_n 0, 1) := by decide +kernel
theorem dX3_over_15 : decode cX3_over 15 = .ok (.ldc 55, 2) := by decide +kernel
theorem dX3_over_17 : decode cX3_over 17 = .ok (.invokevirtual 56, 3) := by decide +kernel
theorem dX3_over_20 : decode cX3_over 20 = .ok (.ireturn, 1) := by decide +kernel
theorem dX3_over_21 : decode cX3_over 21 = .ok (.aload_n 0, 1) := by decide +kernel
theorem dX3_over_22 : decode cX3_over 22 = .ok (.getfield 10, 3) := by decide +kernel
theorem dX3_over_25 : decode cX3_over 25 = .ok (.aload_n 0, 1) := by decide +kernel
theorem dX3_over_26 : decode cX3_over 26 = .ok (.getfield 10, 3) := by decide +kernel
theorem dX3_over_29 : decode cX3_over 29 = .ok (.iload_n 1, 1) := by decide +kernel
theorem dX3_over_30 : decode cX3_over 30 = .ok (.iload_n 2, 1) := by decide +kernel
theorem dX3_over_31 : decode cX3_over 31 = .ok (.invokevirtual 137, 3) := by decide +kernel
theorem dX3_over_34 : decode cX3_over 34 = .ok (.invokevirtual 140, 3) := by decide +kernel
theorem dX3_over_37 : decode cX3_over 37 = .ok (.iload_n 2, 1) := by decide +kernel
theorem dX3_over_38 : decode cX3_over 38 = .ok (.isub, 1) := by decide +kernel
theorem dX3_over_39 : decode cX3_over 39 = .ok (.ireturn, 1) := by decide +kernel
theorem dX3_loan_0 : decode cX3_loan 0 = .ok (.iload_n 1, 1) := by decide +kernel
theorem dX3_loan_1 : decode cX3_loan 1 = .ok (.iload_n 2, 1) := by decide +kernel
theorem dX3_loan_2 : decode cX3_loan 2 = .ok (.invokestatic 127, 3) := by decide +kernel
theorem dX3_loan_5 : decode cX3_loan 5 = .ok (.ifCond .eq 21, 3) := by decide +kernel
theorem dX3_loan_8 : decode cX3_loan 8 = .ok (.iload_n 3, 1) := by decide +kernel
theorem dX3_loan_9 : decode cX3_loan 9 = .ok (.invokestatic 130, 3) := by decide +kernel
theorem dX3_loan_12 : decode cX3_loan 12 = .ok (.ifCond .eq 14, 3) := by decide +kernel
theorem dX3_loan_15 : decode cX3_loan 15 = .ok (.iload 4, 2) := by decide +kernel
theorem dX3_loan_17 : decode cX3_loan 17 = .ok (.iconst 1, 1) := by decide +kernel
theorem dX3_loan_18 : decode cX3_loan 18 = .ok (.bipush 120, 2) := by decide +kernel
theorem dX3_loan_20 : decode cX3_loan 20 = .ok (.invokestatic 51, 3) := by decide +kernel
theorem dX3_loan_23 : decode cX3_loan 23 = .ok (.ifCond .ne 10, 3) := by decide +kernel
theorem dX3_loan_26 : decode cX3_loan 26 = .ok (.aload_n 0, 1) := by decide +kernel
theorem dX3_loan_27 : decode cX3_loan 27 = .ok (.ldc 55, 2) := by decide +kernel
theorem dX3_loan_29 : decode cX3_loan 29 = .ok (.invokevirtual 56, 3) := by decide +kernel
theorem dX3_loan_32 : decode cX3_loan 32 = .ok (.ireturn, 1) := by decide +kernel
theorem dX3_loan_33 : decode cX3_loan 33 = .ok (.aload_n 0, 1) := by decide +kernel
theorem dX3_loan_34 : decode cX3_loan 34 = .ok (.iload 4, 2) := by decide +kernel
theorem dX3_loan_36 : decode cX3_loan 36 = .ok (.invokevirtual 143, 3) := by decide +kernel
theorem dX3_loan_39 : decode cX3_loan 39 = .ok (.ifCond .eq 10, 3) := by decide +kernel
theorem dX3_loan_42 : decode cX3_loan 42 = .ok (.aload_n 0, 1) := by decide +kernel
theorem dX3_loan_43 : decode cX3_loan 43 = .ok (.ldc 123, 2) := by decide +kernel
theorem dX3_loan_45 : decode cX3_loan 45 = .ok (.invokevirtual 56, 3) := by decide +kernel
theorem dX3_loan_48 : decode cX3_loan 48 = .ok (.ireturn, 1) := by decide +kernel
theorem dX3_loan_49 : decode cX3_loan 49 = .ok (.aload_n 0, 1) := by decide +kernel
theorem dX3_loan_50 : decode cX3_loan 50 = .ok (.getfield 10, 3) := by decide +kernel
theorem dX3_loan_53 : decode cX3_loan 53 = .ok (.getfield 146, 3) := by decide +kernel
theorem dX3_loan_56 : decode cX3_loan 56 = .ok (.bipush 8, 2) := by decide +kernel
theorem dX3_loan_58 : decode cX3_loan 58 = .ok (.if_icmp .lt 10, 3) := by decide +kernel
theorem dX3_loan_61 : decode cX3_loan 61 = .ok (.aload_n 0, 1) := by decide +kernel
theorem dX3_loan_62 : decode cX3_loan 62 = .ok (.ldc 73, 2) := by decide +kernel
theorem dX3_loan_64 : decode cX3_loan 64 = .ok (.invokevirtual 56, 3) := by decide +kernel
theorem dX3_loan_67 : decode cX3_loan 67 = .ok (.ireturn, 1) := by decide +kernel
theorem dX3_loan_68 : decode cX3_loan 68 = .ok (.aload_n 0, 1) := by decide +kernel
theorem dX3_loan_69 : decode cX3_loan 69 = .ok (.getfield 10, 3) := by decide +kernel
theorem dX3_loan_72 : decode cX3_loan 72 = .ok (.iload_n 1, 1) := by decide +kernel
theorem dX3_loan_73 : decode cX3_loan 73 = .ok (.iload_n 2, 1) := by decide +kernel
theorem dX3_loan_74 : decode cX3_loan 74 = .ok (.iload_n 3, 1) := by decide +kernel
theorem dX3_loan_75 : decode cX3_loan 75 = .ok (.iload 4, 2) := by decide +kernel
theorem dX3_loan_77 : decode cX3_loan 77 = .ok (.invokevirtual 149, 3) := by decide +kernel
theorem dX3_loan_80 : decode cX3_loan 80 = .ok (.ireturn, 1) := by decide +kernel
theorem dX3_loanOf_0 : decode cX3_loanOf 0 = .ok (.iload_n 1, 1) := by decide +kernel
theorem dX3_loanOf_1 : decode cX3_loanOf 1 = .ok (.iconst 0, 1) := by decide +kernel
theorem dX3_loanOf_2 : decode cX3_loanOf 2 = .ok (.aload_n 0, 1) := by decide +kernel
theorem dX3_loanOf_3 : decode cX3_loanOf 3 = .ok (.getfield 10, 3) := by decide +kernel
theorem dX3_loanOf_6 : decode cX3_loanOf 6 = .ok (.getfield 146, 3) := by decide +kernel
theorem dX3_loanOf_9 : decode cX3_loanOf 9 = .ok (.iconst 1, 1) := by decide +kernel
theorem dX3_loanOf_10 : decode cX3_loanOf 10 = .ok (.isub, 1) := by decide +kernel
theorem dX3_loanOf_11 : decode cX3_loanOf 11 = .ok (.invokestatic 51, 3) := by decide +kernel
theorem dX3_loanOf_14 : decode cX3_loanOf 14 = .ok (.ifCond .ne 10, 3) := by decide +kernel
theorem dX3_loanOf_17 : decode cX3_loanOf 17 = .ok (.aload_n 0, 1) := by decide +kernel
theorem dX3_loanOf_18 : decode cX3_loanOf 18 = .ok (.ldc 55, 2) := by decide +kernel
theorem dX3_loanOf_20 : decode cX3_loanOf 20 = .ok (.invokevirtual 56, 3) := by decide +kernel
theorem dX3_loanOf_23 : decode cX3_loanOf 23 = .ok (.ireturn, 1) := by decide +kernel
theorem dX3_loanOf_24 : decode cX3_loanOf 24 = .ok (.iload_n 2, 1) := by decide +kernel
theorem dX3_loanOf_25 : decode cX3_loanOf 25 = .ok (.tableswitch 85 0 4 #[35, 45, 55, 65, 75], 35) := by decide +kernel
theorem dX3_loanOf_60 : decode cX3_loanOf 60 = .ok (.aload_n 0, 1) := by decide +kernel
theorem dX3_loanOf_61 : decode cX3_loanOf 61 = .ok (.getfield 10, 3) := by decide +kernel
theorem dX3_loanOf_64 : decode cX3_loanOf 64 = .ok (.getfield 152, 3) := by decide +kernel
theorem dX3_loanOf_67 : decode cX3_loanOf 67 = .ok (.iload_n 1, 1) := by decide +kernel
theorem dX3_loanOf_68 : decode cX3_loanOf 68 = .ok (.iaload, 1) := by decide +kernel
theorem dX3_loanOf_69 : decode cX3_loanOf 69 = .ok (.ireturn, 1) := by decide +kernel
theorem dX3_loanOf_70 : decode cX3_loanOf 70 = .ok (.aload_n 0, 1) := by decide +kernel
theorem dX3_loanOf_71 : decode cX3_loanOf 71 = .ok (.getfield 10, 3) := by decide +kernel
theorem dX3_loanOf_74 : decode cX3_loanOf 74 = .ok (.getfield 155, 3) := by decide +kernel
theorem dX3_loanOf_77 : decode cX3_loanOf 77 = .ok (.iload_n 1, 1) := by decide +kernel
theorem dX3_loanOf_78 : decode cX3_loanOf 78 = .ok (.iaload, 1) := by decide +kernel
theorem dX3_loanOf_79 : decode cX3_loanOf 79 = .ok (.ireturn, 1) := by decide +kernel
theorem dX3_loanOf_80 : decode cX3_loanOf 80 = .ok (.aload_n 0, 1) := by decide +kernel
theorem dX3_loanOf_81 : decode cX3_loanOf 81 = .ok (.getfield 10, 3) := by decide +kernel
theorem dX3_loanOf_84 : decode cX3_loanOf 84 = .ok (.getfield 158, 3) := by decide +kernel
theorem dX3_loanOf_87 : decode cX3_loanOf 87 = .ok (.iload_n 1, 1) := by decide +kernel
theorem dX3_loanOf_88 : decode cX3_loanOf 88 = .ok (.iaload, 1) := by decide +kernel
theorem dX3_loanOf_89 : decode cX3_loanOf 89 = .ok (.ireturn, 1) := by decide +kernel
theorem dX3_loanOf_90 : decode cX3_loanOf 90 = .ok (.aload_n 0, 1) := by decide +kernel
theorem dX3_loanOf_91 : decode cX3_loanOf 91 = .ok (.getfield 10, 3) := by decide +kernel
theorem dX3_loanOf_94 : decode cX3_loanOf 94 = .ok (.getfield 161, 3) := by decide +kernel
theorem dX3_loanOf_97 : decode cX3_loanOf 97 = .ok (.iload_n 1, 1) := by decide +kernel
theorem dX3_loanOf_98 : decode cX3_loanOf 98 = .ok (.iaload, 1) := by decide +kernel
theorem dX3_loanOf_99 : decode cX3_loanOf 99 = .ok (.ireturn, 1) := by decide +kernel
theorem dX3_loanOf_100 : decode cX3_loanOf 100 = .ok (.aload_n 0, 1) := by decide +kernel
theorem dX3_loanOf_101 : decode cX3_loanOf 101 = .ok (.getfield 10, 3) := by decide +kernel
theorem dX3_loanOf_104 : decode cX3_loanOf 104 = .ok (.getfield 164, 3) := by decide +kernel
theorem dX3_loanOf_107 : decode cX3_loanOf 107 = .ok (.iload_n 1, 1) := by decide +kernel
theorem dX3_loanOf_108 : decode cX3_loanOf 108 = .ok (.iaload, 1) := by decide +kernel
theorem dX3_loanOf_109 : decode cX3_loanOf 109 = .ok (.ireturn, 1) := by decide +kernel
theorem dX3_loanOf_110 : decode cX3_loanOf 110 = .ok (.aload_n 0, 1) := by decide +kernel
theorem dX3_loanOf_111 : decode cX3_loanOf 111 = .ok (.ldc 55, 2) := by decide +kernel
theorem dX3_loanOf_113 : decode cX3_loanOf 113 = .ok (.invokevirtual 56, 3) := by decide +kernel
theorem dX3_loanOf_116 : decode cX3_loanOf 116 = .ok (.ireturn, 1) := by decide +kernel
theorem dX3_tax_0 : decode cX3_tax 0 = .ok (.aload_n 0, 1) := by decide +kernel
theorem dX3_tax_1 : decode cX3_tax 1 = .ok (.getfield 10, 3) := by decide +kernel
theorem dX3_tax_4 : decode cX3_tax 4 = .ok (.invokevirtual 167, 3) := by decide +kernel
theorem dX3_tax_7 : decode cX3_tax 7 = .ok (.ireturn, 1) := by decide +kernel
theorem dX3_months_0 : decode cX3_months 0 = .ok (.iload_n 1, 1) := by decide +kernel
theorem dX3_months_1 : decode cX3_months 1 = .ok (.iconst 1, 1) := by decide +kernel
theorem dX3_months_2 : decode cX3_months 2 = .ok (.bipush 120, 2) := by decide +kernel
theorem dX3_months_4 : decode cX3_months 4 = .ok (.invokestatic 51, 3) := by decide +kernel
theorem dX3_months_7 : decode cX3_months 7 = .ok (.ifCond .ne 10, 3) := by decide +kernel
theorem dX3_months_10 : decode cX3_months 10 = .ok (.aload_n 0, 1) := by decide +kernel
theorem dX3_months_11 : decode cX3_months 11 = .ok (.ldc 55, 2) := by decide +kernel
theorem dX3_months_13 : decode cX3_months 13 = .ok (.invokevirtual 56, 3) := by decide +kernel
theorem dX3_months_16 : decode cX3_months 16 = .ok (.ireturn, 1) := by decide +kernel
theorem dX3_months_17 : decode cX3_months 17 = .ok (.aload_n 0, 1) := by decide +kernel
theorem dX3_months_18 : decode cX3_months 18 = .ok (.iload_n 1, 1) := by decide +kernel
theorem dX3_months_19 : decode cX3_months 19 = .ok (.invokevirtual 143, 3) := by decide +kernel
theorem dX3_months_22 : decode cX3_months 22 = .ok (.ifCond .eq 10, 3) := by decide +kernel
theorem dX3_months_25 : decode cX3_months 25 = .ok (.aload_n 0, 1) := by decide +kernel
theorem dX3_months_26 : decode cX3_months 26 = .ok (.ldc 123, 2) := by decide +kernel
theorem dX3_months_28 : decode cX3_months 28 = .ok (.invokevirtual 56, 3) := by decide +kernel
theorem dX3_months_31 : decode cX3_months 31 = .ok (.ireturn, 1) := by decide +kernel
theorem dX3_months_32 : decode cX3_months 32 = .ok (.aload_n 0, 1) := by decide +kernel
theorem dX3_months_33 : decode cX3_months 33 = .ok (.getfield 10, 3) := by decide +kernel
theorem dX3_months_36 : decode cX3_months 36 = .ok (.iconst 1, 1) := by decide +kernel
theorem dX3_months_37 : decode cX3_months 37 = .ok (.invokevirtual 170, 3) := by decide +kernel
theorem dX3_months_40 : decode cX3_months 40 = .ok (.istore_n 2, 1) := by decide +kernel
theorem dX3_months_41 : decode cX3_months 41 = .ok (.aload_n 0, 1) := by decide +kernel
theorem dX3_months_42 : decode cX3_months 42 = .ok (.getfield 10, 3) := by decide +kernel
theorem dX3_months_45 : decode cX3_months 45 = .ok (.iload_n 1, 1) := by decide +kernel
theorem dX3_months_46 : decode cX3_months 46 = .ok (.invokevirtual 173, 3) := by decide +kernel
theorem dX3_months_49 : decode cX3_months 49 = .ok (.aload_n 0, 1) := by decide +kernel
theorem dX3_months_50 : decode cX3_months 50 = .ok (.getfield 10, 3) := by decide +kernel
theorem dX3_months_53 : decode cX3_months 53 = .ok (.iconst 1, 1) := by decide +kernel
theorem dX3_months_54 : decode cX3_months 54 = .ok (.invokevirtual 170, 3) := by decide +kernel
theorem dX3_months_57 : decode cX3_months 57 = .ok (.iload_n 2, 1) := by decide +kernel
theorem dX3_months_58 : decode cX3_months 58 = .ok (.isub, 1) := by decide +kernel
theorem dX3_months_59 : decode cX3_months 59 = .ok (.ireturn, 1) := by decide +kernel
theorem dX3_now_0 : decode cX3_now 0 = .ok (.iload_n 1, 1) := by decide +kernel
theorem dX3_now_1 : decode cX3_now 1 = .ok (.tableswitch 90 0 5 #[39, 47, 55, 63, 72, 81], 39) := by decide +kernel
theorem dX3_now_40 : decode cX3_now 40 = .ok (.aload_n 0, 1) := by decide +kernel
theorem dX3_now_41 : decode cX3_now 41 = .ok (.getfield 10, 3) := by decide +kernel
theorem dX3_now_44 : decode cX3_now 44 = .ok (.getfield 177, 3) := by decide +kernel
theorem dX3_now_47 : decode cX3_now 47 = .ok (.ireturn, 1) := by decide +kernel
theorem dX3_now_48 : decode cX3_now 48 = .ok (.aload_n 0, 1) := by decide +kernel
theorem dX3_now_49 : decode cX3_now 49 = .ok (.getfield 10, 3) := by decide +kernel
theorem dX3_now_52 : decode cX3_now 52 = .ok (.invokevirtual 96, 3) := by decide +kernel
theorem dX3_now_55 : decode cX3_now 55 = .ok (.ireturn, 1) := by decide +kernel
theorem dX3_now_56 : decode cX3_now 56 = .ok (.aload_n 0, 1) := by decide +kernel
theorem dX3_now_57 : decode cX3_now 57 = .ok (.getfield 10, 3) := by decide +kernel
theorem dX3_now_60 : decode cX3_now 60 = .ok (.getfield 180, 3) := by decide +kernel
theorem dX3_now_63 : decode cX3_now 63 = .ok (.ireturn, 1) := by decide +kernel
theorem dX3_now_64 : decode cX3_now 64 = .ok (.aload_n 0, 1) := by decide +kernel
theorem dX3_now_65 : decode cX3_now 65 = .ok (.getfield 10, 3) := by decide +kernel
theorem dX3_now_68 : decode cX3_now 68 = .ok (.iconst 0, 1) := by decide +kernel
theorem dX3_now_69 : decode cX3_now 69 = .ok (.invokevirtual 170, 3) := by decide +kernel
theorem dX3_now_72 : decode cX3_now 72 = .ok (.ireturn, 1) := by decide +kernel
theorem dX3_now_73 : decode cX3_now 73 = .ok (.aload_n 0, 1) := by decide +kernel
theorem dX3_now_74 : decode cX3_now 74 = .ok (.getfield 10, 3) := by decide +kernel
theorem dX3_now_77 : decode cX3_now 77 = .ok (.iconst 1, 1) := by decide +kernel
theorem dX3_now_78 : decode cX3_now 78 = .ok (.invokevirtual 170, 3) := by decide +kernel
theorem dX3_now_81 : decode cX3_now 81 = .ok (.ireturn, 1) := by decide +kernel
theorem dX3_now_82 : decode cX3_now 82 = .ok (.aload_n 0, 1) := by decide +kernel
theorem dX3_now_83 : decode cX3_now 83 = .ok (.getfield 10, 3) := by decide +kernel
theorem dX3_now_86 : decode cX3_now 86 = .ok (.iconst 2, 1) := by decide +kernel
theorem dX3_now_87 : decode cX3_now 87 = .ok (.invokevirtual 170, 3) := by decide +kernel
theorem dX3_now_90 : decode cX3_now 90 = .ok (.ireturn, 1) := by decide +kernel
theorem dX3_now_91 : decode cX3_now 91 = .ok (.aload_n 0, 1) := by decide +kernel
theorem dX3_now_92 : decode cX3_now 92 = .ok (.ldc 55, 2) := by decide +kernel
theorem dX3_now_94 : decode cX3_now 94 = .ok (.invokevirtual 56, 3) := by decide +kernel
theorem dX3_now_97 : decode cX3_now 97 = .ok (.ireturn, 1) := by decide +kernel
theorem dX3_on_0 : decode cX3_on 0 = .ok (.aload_n 0, 1) := by decide +kernel
theorem dX3_on_1 : decode cX3_on 1 = .ok (.iload_n 1, 1) := by decide +kernel
theorem dX3_on_2 : decode cX3_on 2 = .ok (.invokevirtual 78, 3) := by decide +kernel
theorem dX3_on_5 : decode cX3_on 5 = .ok (.ifCond .eq 13, 3) := by decide +kernel
theorem dX3_on_8 : decode cX3_on 8 = .ok (.iload_n 2, 1) := by decide +kernel
theorem dX3_on_9 : decode cX3_on 9 = .ok (.iconst 0, 1) := by decide +kernel
theorem dX3_on_10 : decode cX3_on 10 = .ok (.bipush 120, 2) := by decide +kernel
theorem dX3_on_12 : decode cX3_on 12 = .ok (.invokestatic 51, 3) := by decide +kernel
theorem dX3_on_15 : decode cX3_on 15 = .ok (.ifCond .ne 10, 3) := by decide +kernel
theorem dX3_on_18 : decode cX3_on 18 = .ok (.aload_n 0, 1) := by decide +kernel
theorem dX3_on_19 : decode cX3_on 19 = .ok (.ldc 55, 2) := by decide +kernel
theorem dX3_on_21 : decode cX3_on 21 = .ok (.invokevirtual 56, 3) := by decide +kernel
theorem dX3_on_24 : decode cX3_on 24 = .ok (.ireturn, 1) := by decide +kernel
theorem dX3_on_25 : decode cX3_on 25 = .ok (.aload_n 0, 1) := by decide +kernel
theorem dX3_on_26 : decode cX3_on 26 = .ok (.iload_n 2, 1) := by decide +kernel
theorem dX3_on_27 : decode cX3_on 27 = .ok (.invokevirtual 143, 3) := by decide +kernel
theorem dX3_on_30 : decode cX3_on 30 = .ok (.ifCond .eq 10, 3) := by decide +kernel
theorem dX3_on_33 : decode cX3_on 33 = .ok (.aload_n 0, 1) := by decide +kernel
theorem dX3_on_34 : decode cX3_on 34 = .ok (.ldc 123, 2) := by decide +kernel
theorem dX3_on_36 : decode cX3_on 36 = .ok (.invokevirtual 56, 3) := by decide +kernel
theorem dX3_on_39 : decode cX3_on 39 = .ok (.ireturn, 1) := by decide +kernel
theorem dX3_on_40 : decode cX3_on 40 = .ok (.aload_n 0, 1) := by decide +kernel
theorem dX3_on_41 : decode cX3_on 41 = .ok (.getfield 19, 3) := by decide +kernel
theorem dX3_on_44 : decode cX3_on 44 = .ok (.aload_n 0, 1) := by decide +kernel
theorem dX3_on_45 : decode cX3_on 45 = .ok (.getfield 10, 3) := by decide +kernel
theorem dX3_on_48 : decode cX3_on 48 = .ok (.invokevirtual 183, 3) := by decide +kernel
theorem dX3_on_51 : decode cX3_on 51 = .ok (.aload_n 0, 1) := by decide +kernel
theorem dX3_on_52 : decode cX3_on 52 = .ok (.getfield 19, 3) := by decide +kernel
theorem dX3_on_55 : decode cX3_on 55 = .ok (.iload_n 2, 1) := by decide +kernel
theorem dX3_on_56 : decode cX3_on 56 = .ok (.invokevirtual 187, 3) := by decide +kernel
theorem dX3_on_59 : decode cX3_on 59 = .ok (.aload_n 0, 1) := by decide +kernel
theorem dX3_on_60 : decode cX3_on 60 = .ok (.getfield 19, 3) := by decide +kernel
theorem dX3_on_63 : decode cX3_on 63 = .ok (.getfield 87, 3) := by decide +kernel
theorem dX3_on_66 : decode cX3_on 66 = .ok (.iload_n 1, 1) := by decide +kernel
theorem dX3_on_67 : decode cX3_on 67 = .ok (.iaload, 1) := by decide +kernel
theorem dX3_on_68 : decode cX3_on 68 = .ok (.ireturn, 1) := by decide +kernel
theorem dX3_purseOn_0 : decode cX3_purseOn 0 = .ok (.iload_n 1, 1) := by decide +kernel
theorem dX3_purseOn_1 : decode cX3_purseOn 1 = .ok (.invokestatic 47, 3) := by decide +kernel
theorem dX3_purseOn_4 : decode cX3_purseOn 4 = .ok (.ifCond .eq 13, 3) := by decide +kernel
theorem dX3_purseOn_7 : decode cX3_purseOn 7 = .ok (.iload_n 2, 1) := by decide +kernel
theorem dX3_purseOn_8 : decode cX3_purseOn 8 = .ok (.iconst 0, 1) := by decide +kernel
theorem dX3_purseOn_9 : decode cX3_purseOn 9 = .ok (.bipush 120, 2) := by decide +kernel
theorem dX3_purseOn_11 : decode cX3_purseOn 11 = .ok (.invokestatic 51, 3) := by decide +kernel
theorem dX3_purseOn_14 : decode cX3_purseOn 14 = .ok (.ifCond .ne 10, 3) := by decide +kernel
theorem dX3_purseOn_17 : decode cX3_purseOn 17 = .ok (.aload_n 0, 1) := by decide +kernel
theorem dX3_purseOn_18 : decode cX3_purseOn 18 = .ok (.ldc 55, 2) := by decide +kernel
theorem dX3_purseOn_20 : decode cX3_purseOn 20 = .ok (.invokevirtual 56, 3) := by decide +kernel
theorem dX3_purseOn_23 : decode cX3_purseOn 23 = .ok (.ireturn, 1) := by decide +kernel
theorem dX3_purseOn_24 : decode cX3_purseOn 24 = .ok (.aload_n 0, 1) := by decide +kernel
theorem dX3_purseOn_25 : decode cX3_purseOn 25 = .ok (.iload_n 2, 1) := by decide +kernel
theorem dX3_purseOn_26 : decode cX3_purseOn 26 = .ok (.invokevirtual 143, 3) := by decide +kernel
theorem dX3_purseOn_29 : decode cX3_purseOn 29 = .ok (.ifCond .eq 10, 3) := by decide +kernel
theorem dX3_purseOn_32 : decode cX3_purseOn 32 = .ok (.aload_n 0, 1) := by decide +kernel
theorem dX3_purseOn_33 : decode cX3_purseOn 33 = .ok (.ldc 123, 2) := by decide +kernel
theorem dX3_purseOn_35 : decode cX3_purseOn 35 = .ok (.invokevirtual 56, 3) := by decide +kernel
theorem dX3_purseOn_38 : decode cX3_purseOn 38 = .ok (.ireturn, 1) := by decide +kernel
theorem dX3_purseOn_39 : decode cX3_purseOn 39 = .ok (.aload_n 0, 1) := by decide +kernel
theorem dX3_purseOn_40 : decode cX3_purseOn 40 = .ok (.getfield 19, 3) := by decide +kernel
theorem dX3_purseOn_43 : decode cX3_purseOn 43 = .ok (.aload_n 0, 1) := by decide +kernel
theorem dX3_purseOn_44 : decode cX3_purseOn 44 = .ok (.getfield 10, 3) := by decide +kernel
theorem dX3_purseOn_47 : decode cX3_purseOn 47 = .ok (.invokevirtual 183, 3) := by decide +kernel
theorem dX3_purseOn_50 : decode cX3_purseOn 50 = .ok (.aload_n 0, 1) := by decide +kernel
theorem dX3_purseOn_51 : decode cX3_purseOn 51 = .ok (.getfield 19, 3) := by decide +kernel
theorem dX3_purseOn_54 : decode cX3_purseOn 54 = .ok (.iload_n 2, 1) := by decide +kernel
theorem dX3_purseOn_55 : decode cX3_purseOn 55 = .ok (.invokevirtual 173, 3) := by decide +kernel
theorem dX3_purseOn_58 : decode cX3_purseOn 58 = .ok (.aload_n 0, 1) := by decide +kernel
theorem dX3_purseOn_59 : decode cX3_purseOn 59 = .ok (.getfield 19, 3) := by decide +kernel
theorem dX3_purseOn_62 : decode cX3_purseOn 62 = .ok (.iload_n 1, 1) := by decide +kernel
theorem dX3_purseOn_63 : decode cX3_purseOn 63 = .ok (.invokevirtual 124, 3) := by decide +kernel
theorem dX3_purseOn_66 : decode cX3_purseOn 66 = .ok (.ireturn, 1) := by decide +kernel
theorem dX3_rich_0 : decode cX3_rich 0 = .ok (.iload_n 1, 1) := by decide +kernel
theorem dX3_rich_1 : decode cX3_rich 1 = .ok (.iconst 0, 1) := by decide +kernel
theorem dX3_rich_2 : decode cX3_rich 2 = .ok (.bipush 120, 2) := by decide +kernel
theorem dX3_rich_4 : decode cX3_rich 4 = .ok (.invokestatic 51, 3) := by decide +kernel
theorem dX3_rich_7 : decode cX3_rich 7 = .ok (.ifCond .ne 10, 3) := by decide +kernel
theorem dX3_rich_10 : decode cX3_rich 10 = .ok (.aload_n 0, 1) := by decide +kernel
theorem dX3_rich_11 : decode cX3_rich 11 = .ok (.ldc 55, 2) := by decide +kernel
theorem dX3_rich_13 : decode cX3_rich 13 = .ok (.invokevirtual 56, 3) := by decide +kernel
theorem dX3_rich_16 : decode cX3_rich 16 = .ok (.ireturn, 1) := by decide +kernel
theorem dX3_rich_17 : decode cX3_rich 17 = .ok (.aload_n 0, 1) := by decide +kernel
theorem dX3_rich_18 : decode cX3_rich 18 = .ok (.iload_n 1, 1) := by decide +kernel
theorem dX3_rich_19 : decode cX3_rich 19 = .ok (.invokevirtual 143, 3) := by decide +kernel
theorem dX3_rich_22 : decode cX3_rich 22 = .ok (.ifCond .eq 10, 3) := by decide +kernel
theorem dX3_rich_25 : decode cX3_rich 25 = .ok (.aload_n 0, 1) := by decide +kernel
theorem dX3_rich_26 : decode cX3_rich 26 = .ok (.ldc 123, 2) := by decide +kernel
theorem dX3_rich_28 : decode cX3_rich 28 = .ok (.invokevirtual 56, 3) := by decide +kernel
theorem dX3_rich_31 : decode cX3_rich 31 = .ok (.ireturn, 1) := by decide +kernel
theorem dX3_rich_32 : decode cX3_rich 32 = .ok (.aload_n 0, 1) := by decide +kernel
theorem dX3_rich_33 : decode cX3_rich 33 = .ok (.getfield 19, 3) := by decide +kernel
theorem dX3_rich_36 : decode cX3_rich 36 = .ok (.aload_n 0, 1) := by decide +kernel
theorem dX3_rich_37 : decode cX3_rich 37 = .ok (.getfield 10, 3) := by decide +kernel
theorem dX3_rich_40 : decode cX3_rich 40 = .ok (.invokevirtual 183, 3) := by decide +kernel
theorem dX3_rich_43 : decode cX3_rich 43 = .ok (.aload_n 0, 1) := by decide +kernel
theorem dX3_rich_44 : decode cX3_rich 44 = .ok (.getfield 19, 3) := by decide +kernel
theorem dX3_rich_47 : decode cX3_rich 47 = .ok (.iload_n 1, 1) := by decide +kernel
theorem dX3_rich_48 : decode cX3_rich 48 = .ok (.invokevirtual 173, 3) := by decide +kernel
theorem dX3_rich_51 : decode cX3_rich 51 = .ok (.aload_n 0, 1) := by decide +kernel
theorem dX3_rich_52 : decode cX3_rich 52 = .ok (.getfield 19, 3) := by decide +kernel
theorem dX3_rich_55 : decode cX3_rich 55 = .ok (.invokevirtual 190, 3) := by decide +kernel
theorem dX3_rich_58 : decode cX3_rich 58 = .ok (.ireturn, 1) := by decide +kernel
theorem dX3_rots_0 : decode cX3_rots 0 = .ok (.aload_n 0, 1) := by decide +kernel
theorem dX3_rots_1 : decode cX3_rots 1 = .ok (.iload_n 1, 1) := by decide +kernel
theorem dX3_rots_2 : decode cX3_rots 2 = .ok (.invokevirtual 78, 3) := by decide +kernel
theorem dX3_rots_5 : decode cX3_rots 5 = .ok (.ifCond .ne 10, 3) := by decide +kernel
theorem dX3_rots_8 : decode cX3_rots 8 = .ok (.aload_n 0, 1) := by decide +kernel
theorem dX3_rots_9 : decode cX3_rots 9 = .ok (.ldc 55, 2) := by decide +kernel
theorem dX3_rots_11 : decode cX3_rots 11 = .ok (.invokevirtual 56, 3) := by decide +kernel
theorem dX3_rots_14 : decode cX3_rots 14 = .ok (.ireturn, 1) := by decide +kernel
theorem dX3_rots_15 : decode cX3_rots 15 = .ok (.aload_n 0, 1) := by decide +kernel
theorem dX3_rots_16 : decode cX3_rots 16 = .ok (.bipush 120, 2) := by decide +kernel
theorem dX3_rots_18 : decode cX3_rots 18 = .ok (.invokevirtual 143, 3) := by decide +kernel
theorem dX3_rots_21 : decode cX3_rots 21 = .ok (.ifCond .eq 10, 3) := by decide +kernel
theorem dX3_rots_24 : decode cX3_rots 24 = .ok (.aload_n 0, 1) := by decide +kernel
theorem dX3_rots_25 : decode cX3_rots 25 = .ok (.ldc 123, 2) := by decide +kernel
theorem dX3_rots_27 : decode cX3_rots 27 = .ok (.invokevirtual 56, 3) := by decide +kernel
theorem dX3_rots_30 : decode cX3_rots 30 = .ok (.ireturn, 1) := by decide +kernel
theorem dX3_rots_31 : decode cX3_rots 31 = .ok (.aload_n 0, 1) := by decide +kernel
theorem dX3_rots_32 : decode cX3_rots 32 = .ok (.getfield 19, 3) := by decide +kernel
theorem dX3_rots_35 : decode cX3_rots 35 = .ok (.aload_n 0, 1) := by decide +kernel
theorem dX3_rots_36 : decode cX3_rots 36 = .ok (.getfield 10, 3) := by decide +kernel
theorem dX3_rots_39 : decode cX3_rots 39 = .ok (.invokevirtual 183, 3) := by decide +kernel
theorem dX3_rots_42 : decode cX3_rots 42 = .ok (.iconst 0, 1) := by decide +kernel
theorem dX3_rots_43 : decode cX3_rots 43 = .ok (.istore_n 2, 1) := by decide +kernel
theorem dX3_rots_44 : decode cX3_rots 44 = .ok (.iload_n 2, 1) := by decide +kernel
theorem dX3_rots_45 : decode cX3_rots 45 = .ok (.bipush 120, 2) := by decide +kernel
theorem dX3_rots_47 : decode cX3_rots 47 = .ok (.if_icmp .gt 32, 3) := by decide +kernel
theorem dX3_rots_50 : decode cX3_rots 50 = .ok (.aload_n 0, 1) := by decide +kernel
theorem dX3_rots_51 : decode cX3_rots 51 = .ok (.getfield 19, 3) := by decide +kernel
theorem dX3_rots_54 : decode cX3_rots 54 = .ok (.getfield 90, 3) := by decide +kernel
theorem dX3_rots_57 : decode cX3_rots 57 = .ok (.iload_n 1, 1) := by decide +kernel
theorem dX3_rots_58 : decode cX3_rots 58 = .ok (.iaload, 1) := by decide +kernel
theorem dX3_rots_59 : decode cX3_rots 59 = .ok (.iconst 1, 1) := by decide +kernel
theorem dX3_rots_60 : decode cX3_rots 60 = .ok (.if_icmp .ne 5, 3) := by decide +kernel
theorem dX3_rots_63 : decode cX3_rots 63 = .ok (.iload_n 2, 1) := by decide +kernel
theorem dX3_rots_64 : decode cX3_rots 64 = .ok (.ireturn, 1) := by decide +kernel
theorem dX3_rots_65 : decode cX3_rots 65 = .ok (.aload_n 0, 1) := by decide +kernel
theorem dX3_rots_66 : decode cX3_rots 66 = .ok (.getfield 19, 3) := by decide +kernel
theorem dX3_rots_69 : decode cX3_rots 69 = .ok (.iconst 1, 1) := by decide +kernel
theorem dX3_rots_70 : decode cX3_rots 70 = .ok (.invokevirtual 187, 3) := by decide +kernel
theorem dX3_rots_73 : decode cX3_rots 73 = .ok (.iinc 2 1, 3) := by decide +kernel
theorem dX3_rots_76 : decode cX3_rots 76 = .ok (.goto (-32), 3) := by decide +kernel
theorem dX3_rots_79 : decode cX3_rots 79 = .ok (.aload_n 0, 1) := by decide +kernel
theorem dX3_rots_80 : decode cX3_rots 80 = .ok (.ldc 193, 2) := by decide +kernel
theorem dX3_rots_82 : decode cX3_rots 82 = .ok (.invokevirtual 56, 3) := by decide +kernel
theorem dX3_rots_85 : decode cX3_rots 85 = .ok (.ireturn, 1) := by decide +kernel
theorem dX3_when_0 : decode cX3_when 0 = .ok (.aload_n 0, 1) := by decide +kernel
theorem dX3_when_1 : decode cX3_when 1 = .ok (.iload_n 1, 1) := by decide +kernel
theorem dX3_when_2 : decode cX3_when 2 = .ok (.invokevirtual 78, 3) := by decide +kernel
theorem dX3_when_5 : decode cX3_when 5 = .ok (.ifCond .ne 10, 3) := by decide +kernel
theorem dX3_when_8 : decode cX3_when 8 = .ok (.aload_n 0, 1) := by decide +kernel
theorem dX3_when_9 : decode cX3_when 9 = .ok (.ldc 55, 2) := by decide +kernel
theorem dX3_when_11 : decode cX3_when 11 = .ok (.invokevirtual 56, 3) := by decide +kernel
theorem dX3_when_14 : decode cX3_when 14 = .ok (.ireturn, 1) := by decide +kernel
theorem dX3_when_15 : decode cX3_when 15 = .ok (.aload_n 0, 1) := by decide +kernel
theorem dX3_when_16 : decode cX3_when 16 = .ok (.bipush 24, 2) := by decide +kernel
theorem dX3_when_18 : decode cX3_when 18 = .ok (.invokevirtual 143, 3) := by decide +kernel
theorem dX3_when_21 : decode cX3_when 21 = .ok (.ifCond .eq 10, 3) := by decide +kernel
theorem dX3_when_24 : decode cX3_when 24 = .ok (.aload_n 0, 1) := by decide +kernel
theorem dX3_when_25 : decode cX3_when 25 = .ok (.ldc 123, 2) := by decide +kernel
theorem dX3_when_27 : decode cX3_when 27 = .ok (.invokevirtual 56, 3) := by decide +kernel
theorem dX3_when_30 : decode cX3_when 30 = .ok (.ireturn, 1) := by decide +kernel
theorem dX3_when_31 : decode cX3_when 31 = .ok (.aload_n 0, 1) := by decide +kernel
theorem dX3_when_32 : decode cX3_when 32 = .ok (.getfield 19, 3) := by decide +kernel
theorem dX3_when_35 : decode cX3_when 35 = .ok (.aload_n 0, 1) := by decide +kernel
theorem dX3_when_36 : decode cX3_when 36 = .ok (.getfield 10, 3) := by decide +kernel
theorem dX3_when_39 : decode cX3_when 39 = .ok (.invokevirtual 183, 3) := by decide +kernel
theorem dX3_when_42 : decode cX3_when 42 = .ok (.aload_n 0, 1) := by decide +kernel
theorem dX3_when_43 : decode cX3_when 43 = .ok (.getfield 19, 3) := by decide +kernel
theorem dX3_when_46 : decode cX3_when 46 = .ok (.iload_n 1, 1) := by decide +kernel
theorem dX3_when_47 : decode cX3_when 47 = .ok (.invokevirtual 93, 3) := by decide +kernel
theorem dX3_when_50 : decode cX3_when 50 = .ok (.istore_n 2, 1) := by decide +kernel
theorem dX3_when_51 : decode cX3_when 51 = .ok (.iconst 0, 1) := by decide +kernel
theorem dX3_when_52 : decode cX3_when 52 = .ok (.istore_n 3, 1) := by decide +kernel
theorem dX3_when_53 : decode cX3_when 53 = .ok (.iconst 1, 1) := by decide +kernel
theorem dX3_when_54 : decode cX3_when 54 = .ok (.istore 4, 2) := by decide +kernel
theorem dX3_when_56 : decode cX3_when 56 = .ok (.iload 4, 2) := by decide +kernel
theorem dX3_when_58 : decode cX3_when 58 = .ok (.bipush 24, 2) := by decide +kernel
theorem dX3_when_60 : decode cX3_when 60 = .ok (.if_icmp .gt 39, 3) := by decide +kernel
theorem dX3_when_63 : decode cX3_when 63 = .ok (.aload_n 0, 1) := by decide +kernel
theorem dX3_when_64 : decode cX3_when 64 = .ok (.getfield 19, 3) := by decide +kernel
theorem dX3_when_67 : decode cX3_when 67 = .ok (.iconst 1, 1) := by decide +kernel
theorem dX3_when_68 : decode cX3_when 68 = .ok (.invokevirtual 187, 3) := by decide +kernel
theorem dX3_when_71 : decode cX3_when 71 = .ok (.aload_n 0, 1) := by decide +kernel
theorem dX3_when_72 : decode cX3_when 72 = .ok (.getfield 19, 3) := by decide +kernel
theorem dX3_when_75 : decode cX3_when 75 = .ok (.iload_n 1, 1) := by decide +kernel
theorem dX3_when_76 : decode cX3_when 76 = .ok (.invokevirtual 93, 3) := by decide +kernel
theorem dX3_when_79 : decode cX3_when 79 = .ok (.istore 5, 2) := by decide +kernel
theorem dX3_when_81 : decode cX3_when 81 = .ok (.iload 5, 2) := by decide +kernel
theorem dX3_when_83 : decode cX3_when 83 = .ok (.iload_n 2, 1) := by decide +kernel
theorem dX3_when_84 : decode cX3_when 84 = .ok (.if_icmp .le 9, 3) := by decide +kernel
theorem dX3_when_87 : decode cX3_when 87 = .ok (.iload 5, 2) := by decide +kernel
theorem dX3_when_89 : decode cX3_when 89 = .ok (.istore_n 2, 1) := by decide +kernel
theorem dX3_when_90 : decode cX3_when 90 = .ok (.iload 4, 2) := by decide +kernel
theorem dX3_when_92 : decode cX3_when 92 = .ok (.istore_n 3, 1) := by decide +kernel
theorem dX3_when_93 : decode cX3_when 93 = .ok (.iinc 4 1, 3) := by decide +kernel
theorem dX3_when_96 : decode cX3_when 96 = .ok (.goto (-40), 3) := by decide +kernel
theorem dX3_when_99 : decode cX3_when 99 = .ok (.iload_n 3, 1) := by decide +kernel
theorem dX3_when_100 : decode cX3_when 100 = .ok (.ireturn, 1) := by decide +kernel
theorem dX3_lacks_0 : decode cX3_lacks 0 = .ok (.iload_n 1, 1) := by decide +kernel
theorem dX3_lacks_1 : decode cX3_lacks 1 = .ok (.iconst 0, 1) := by decide +kernel
theorem dX3_lacks_2 : decode cX3_lacks 2 = .ok (.bipush 120, 2) := by decide +kernel
theorem dX3_lacks_4 : decode cX3_lacks 4 = .ok (.invokestatic 51, 3) := by decide +kernel
theorem dX3_lacks_7 : decode cX3_lacks 7 = .ok (.ifCond .ne 10, 3) := by decide +kernel
theorem dX3_lacks_10 : decode cX3_lacks 10 = .ok (.aload_n 0, 1) := by decide +kernel
theorem dX3_lacks_11 : decode cX3_lacks 11 = .ok (.ldc 55, 2) := by decide +kernel
theorem dX3_lacks_13 : decode cX3_lacks 13 = .ok (.invokevirtual 56, 3) := by decide +kernel
theorem dX3_lacks_16 : decode cX3_lacks 16 = .ok (.ireturn, 1) := by decide +kernel
theorem dX3_lacks_17 : decode cX3_lacks 17 = .ok (.aload_n 0, 1) := by decide +kernel
theorem dX3_lacks_18 : decode cX3_lacks 18 = .ok (.iload_n 1, 1) := by decide +kernel
theorem dX3_lacks_19 : decode cX3_lacks 19 = .ok (.invokevirtual 143, 3) := by decide +kernel
theorem dX3_lacks_22 : decode cX3_lacks 22 = .ok (.ifCond .eq 10, 3) := by decide +kernel
theorem dX3_lacks_25 : decode cX3_lacks 25 = .ok (.aload_n 0, 1) := by decide +kernel
theorem dX3_lacks_26 : decode cX3_lacks 26 = .ok (.ldc 123, 2) := by decide +kernel
theorem dX3_lacks_28 : decode cX3_lacks 28 = .ok (.invokevirtual 56, 3) := by decide +kernel
theorem dX3_lacks_31 : decode cX3_lacks 31 = .ok (.ireturn, 1) := by decide +kernel
theorem dX3_lacks_32 : decode cX3_lacks 32 = .ok (.aload_n 0, 1) := by decide +kernel
theorem dX3_lacks_33 : decode cX3_lacks 33 = .ok (.getfield 19, 3) := by decide +kernel
theorem dX3_lacks_36 : decode cX3_lacks 36 = .ok (.aload_n 0, 1) := by decide +kernel
theorem dX3_lacks_37 : decode cX3_lacks 37 = .ok (.getfield 10, 3) := by decide +kernel
theorem dX3_lacks_40 : decode cX3_lacks 40 = .ok (.invokevirtual 183, 3) := by decide +kernel
theorem dX3_lacks_43 : decode cX3_lacks 43 = .ok (.aload_n 0, 1) := by decide +kernel
theorem dX3_lacks_44 : decode cX3_lacks 44 = .ok (.getfield 19, 3) := by decide +kernel
theorem dX3_lacks_47 : decode cX3_lacks 47 = .ok (.iload_n 1, 1) := by decide +kernel
theorem dX3_lacks_48 : decode cX3_lacks 48 = .ok (.invokevirtual 173, 3) := by decide +kernel
theorem dX3_lacks_51 : decode cX3_lacks 51 = .ok (.aload_n 0, 1) := by decide +kernel
theorem dX3_lacks_52 : decode cX3_lacks 52 = .ok (.getfield 19, 3) := by decide +kernel
theorem dX3_lacks_55 : decode cX3_lacks 55 = .ok (.getfield 180, 3) := by decide +kernel
theorem dX3_lacks_58 : decode cX3_lacks 58 = .ok (.aload_n 0, 1) := by decide +kernel
theorem dX3_lacks_59 : decode cX3_lacks 59 = .ok (.getfield 10, 3) := by decide +kernel
theorem dX3_lacks_62 : decode cX3_lacks 62 = .ok (.getfield 180, 3) := by decide +kernel
theorem dX3_lacks_65 : decode cX3_lacks 65 = .ok (.isub, 1) := by decide +kernel
theorem dX3_lacks_66 : decode cX3_lacks 66 = .ok (.ireturn, 1) := by decide +kernel
theorem dX3_best_0 : decode cX3_best 0 = .ok (.aload_n 0, 1) := by decide +kernel
theorem dX3_best_1 : decode cX3_best 1 = .ok (.iload_n 1, 1) := by decide +kernel
theorem dX3_best_2 : decode cX3_best 2 = .ok (.invokevirtual 78, 3) := by decide +kernel
theorem dX3_best_5 : decode cX3_best 5 = .ok (.ifCond .eq 13, 3) := by decide +kernel
theorem dX3_best_8 : decode cX3_best 8 = .ok (.iload_n 2, 1) := by decide +kernel
theorem dX3_best_9 : decode cX3_best 9 = .ok (.iconst 1, 1) := by decide +kernel
theorem dX3_best_10 : decode cX3_best 10 = .ok (.bipush 24, 2) := by decide +kernel
theorem dX3_best_12 : decode cX3_best 12 = .ok (.invokestatic 51, 3) := by decide +kernel
theorem dX3_best_15 : decode cX3_best 15 = .ok (.ifCond .ne 10, 3) := by decide +kernel
theorem dX3_best_18 : decode cX3_best 18 = .ok (.aload_n 0, 1) := by decide +kernel
theorem dX3_best_19 : decode cX3_best 19 = .ok (.ldc 55, 2) := by decide +kernel
theorem dX3_best_21 : decode cX3_best 21 = .ok (.invokevirtual 56, 3) := by decide +kernel
theorem dX3_best_24 : decode cX3_best 24 = .ok (.ireturn, 1) := by decide +kernel
theorem dX3_best_25 : decode cX3_best 25 = .ok (.aload_n 0, 1) := by decide +kernel
theorem dX3_best_26 : decode cX3_best 26 = .ok (.getfield 10, 3) := by decide +kernel
theorem dX3_best_29 : decode cX3_best 29 = .ok (.getfield 90, 3) := by decide +kernel
theorem dX3_best_32 : decode cX3_best 32 = .ok (.iload_n 1, 1) := by decide +kernel
theorem dX3_best_33 : decode cX3_best 33 = .ok (.iaload, 1) := by decide +kernel
theorem dX3_best_34 : decode cX3_best 34 = .ok (.ifCond .ne 11, 3) := by decide +kernel
theorem dX3_best_37 : decode cX3_best 37 = .ok (.aload_n 0, 1) := by decide +kernel
theorem dX3_best_38 : decode cX3_best 38 = .ok (.iload_n 2, 1) := by decide +kernel
theorem dX3_best_39 : decode cX3_best 39 = .ok (.invokevirtual 143, 3) := by decide +kernel
theorem dX3_best_42 : decode cX3_best 42 = .ok (.ifCond .eq 10, 3) := by decide +kernel
theorem dX3_best_45 : decode cX3_best 45 = .ok (.aload_n 0, 1) := by decide +kernel
theorem dX3_best_46 : decode cX3_best 46 = .ok (.ldc 123, 2) := by decide +kernel
theorem dX3_best_48 : decode cX3_best 48 = .ok (.invokevirtual 56, 3) := by decide +kernel
theorem dX3_best_51 : decode cX3_best 51 = .ok (.ireturn, 1) := by decide +kernel
theorem dX3_best_52 : decode cX3_best 52 = .ok (.aload_n 0, 1) := by decide +kernel
theorem dX3_best_53 : decode cX3_best 53 = .ok (.iload_n 1, 1) := by decide +kernel
theorem dX3_best_54 : decode cX3_best 54 = .ok (.iconst 0, 1) := by decide +kernel
theorem dX3_best_55 : decode cX3_best 55 = .ok (.iload_n 2, 1) := by decide +kernel
theorem dX3_best_56 : decode cX3_best 56 = .ok (.invokevirtual 194, 3) := by decide +kernel
theorem dX3_best_59 : decode cX3_best 59 = .ok (.istore_n 3, 1) := by decide +kernel
theorem dX3_best_60 : decode cX3_best 60 = .ok (.iconst 0, 1) := by decide +kernel
theorem dX3_best_61 : decode cX3_best 61 = .ok (.istore 4, 2) := by decide +kernel
theorem dX3_best_63 : decode cX3_best 63 = .ok (.aload_n 0, 1) := by decide +kernel
theorem dX3_best_64 : decode cX3_best 64 = .ok (.getfield 10, 3) := by decide +kernel
theorem dX3_best_67 : decode cX3_best 67 = .ok (.iload_n 1, 1) := by decide +kernel
theorem dX3_best_68 : decode cX3_best 68 = .ok (.invokevirtual 93, 3) := by decide +kernel
theorem dX3_best_71 : decode cX3_best 71 = .ok (.istore 5, 2) := by decide +kernel
theorem dX3_best_73 : decode cX3_best 73 = .ok (.iload 5, 2) := by decide +kernel
theorem dX3_best_75 : decode cX3_best 75 = .ok (.iload_n 3, 1) := by decide +kernel
theorem dX3_best_76 : decode cX3_best 76 = .ok (.if_icmp .le 9, 3) := by decide +kernel
theorem dX3_best_79 : decode cX3_best 79 = .ok (.iload 5, 2) := by decide +kernel
theorem dX3_best_81 : decode cX3_best 81 = .ok (.istore_n 3, 1) := by decide +kernel
theorem dX3_best_82 : decode cX3_best 82 = .ok (.iconst 1, 1) := by decide +kernel
theorem dX3_best_83 : decode cX3_best 83 = .ok (.istore 4, 2) := by decide +kernel
theorem dX3_best_85 : decode cX3_best 85 = .ok (.aload_n 0, 1) := by decide +kernel
theorem dX3_best_86 : decode cX3_best 86 = .ok (.getfield 10, 3) := by decide +kernel
theorem dX3_best_89 : decode cX3_best 89 = .ok (.invokevirtual 119, 3) := by decide +kernel
theorem dX3_best_92 : decode cX3_best 92 = .ok (.ifCond .eq 17, 3) := by decide +kernel
theorem dX3_best_95 : decode cX3_best 95 = .ok (.aload_n 0, 1) := by decide +kernel
theorem dX3_best_96 : decode cX3_best 96 = .ok (.iload_n 1, 1) := by decide +kernel
theorem dX3_best_97 : decode cX3_best 97 = .ok (.iconst 2, 1) := by decide +kernel
theorem dX3_best_98 : decode cX3_best 98 = .ok (.iload_n 2, 1) := by decide +kernel
theorem dX3_best_99 : decode cX3_best 99 = .ok (.invokevirtual 194, 3) := by decide +kernel
theorem dX3_best_102 : decode cX3_best 102 = .ok (.iload_n 3, 1) := by decide +kernel
theorem dX3_best_103 : decode cX3_best 103 = .ok (.if_icmp .le 6, 3) := by decide +kernel
theorem dX3_best_106 : decode cX3_best 106 = .ok (.iconst 2, 1) := by decide +kernel
theorem dX3_best_107 : decode cX3_best 107 = .ok (.istore 4, 2) := by decide +kernel
theorem dX3_best_109 : decode cX3_best 109 = .ok (.iload 4, 2) := by decide +kernel
theorem dX3_best_111 : decode cX3_best 111 = .ok (.ireturn, 1) := by decide +kernel
theorem dX3_kind_0 : decode cX3_kind 0 = .ok (.aload_n 0, 1) := by decide +kernel
theorem dX3_kind_1 : decode cX3_kind 1 = .ok (.iload_n 1, 1) := by decide +kernel
theorem dX3_kind_2 : decode cX3_kind 2 = .ok (.invokevirtual 78, 3) := by decide +kernel
theorem dX3_kind_5 : decode cX3_kind 5 = .ok (.ifCond .eq 13, 3) := by decide +kernel
theorem dX3_kind_8 : decode cX3_kind 8 = .ok (.iload_n 2, 1) := by decide +kernel
theorem dX3_kind_9 : decode cX3_kind 9 = .ok (.iconst 1, 1) := by decide +kernel
theorem dX3_kind_10 : decode cX3_kind 10 = .ok (.bipush 120, 2) := by decide +kernel
theorem dX3_kind_12 : decode cX3_kind 12 = .ok (.invokestatic 51, 3) := by decide +kernel
theorem dX3_kind_15 : decode cX3_kind 15 = .ok (.ifCond .ne 10, 3) := by decide +kernel
theorem dX3_kind_18 : decode cX3_kind 18 = .ok (.aload_n 0, 1) := by decide +kernel
theorem dX3_kind_19 : decode cX3_kind 19 = .ok (.ldc 55, 2) := by decide +kernel
theorem dX3_kind_21 : decode cX3_kind 21 = .ok (.invokevirtual 56, 3) := by decide +kernel
theorem dX3_kind_24 : decode cX3_kind 24 = .ok (.ireturn, 1) := by decide +kernel
theorem dX3_kind_25 : decode cX3_kind 25 = .ok (.aload_n 0, 1) := by decide +kernel
theorem dX3_kind_26 : decode cX3_kind 26 = .ok (.iload_n 2, 1) := by decide +kernel
theorem dX3_kind_27 : decode cX3_kind 27 = .ok (.invokevirtual 143, 3) := by decide +kernel
theorem dX3_kind_30 : decode cX3_kind 30 = .ok (.ifCond .eq 10, 3) := by decide +kernel
theorem dX3_kind_33 : decode cX3_kind 33 = .ok (.aload_n 0, 1) := by decide +kernel
theorem dX3_kind_34 : decode cX3_kind 34 = .ok (.ldc 123, 2) := by decide +kernel
theorem dX3_kind_36 : decode cX3_kind 36 = .ok (.invokevirtual 56, 3) := by decide +kernel
theorem dX3_kind_39 : decode cX3_kind 39 = .ok (.ireturn, 1) := by decide +kernel
theorem dX3_kind_40 : decode cX3_kind 40 = .ok (.iconst (-1), 1) := by decide +kernel
theorem dX3_kind_41 : decode cX3_kind 41 = .ok (.istore_n 3, 1) := by decide +kernel
theorem dX3_kind_42 : decode cX3_kind 42 = .ok (.iconst 0, 1) := by decide +kernel
theorem dX3_kind_43 : decode cX3_kind 43 = .ok (.istore 4, 2) := by decide +kernel
theorem dX3_kind_45 : decode cX3_kind 45 = .ok (.iconst 0, 1) := by decide +kernel
theorem dX3_kind_46 : decode cX3_kind 46 = .ok (.istore 5, 2) := by decide +kernel
theorem dX3_kind_48 : decode cX3_kind 48 = .ok (.iload 5, 2) := by decide +kernel
theorem dX3_kind_50 : decode cX3_kind 50 = .ok (.bipush 6, 2) := by decide +kernel
theorem dX3_kind_52 : decode cX3_kind 52 = .ok (.if_icmp .ge 62, 3) := by decide +kernel
theorem dX3_kind_55 : decode cX3_kind 55 = .ok (.aload_n 0, 1) := by decide +kernel
theorem dX3_kind_56 : decode cX3_kind 56 = .ok (.getfield 19, 3) := by decide +kernel
theorem dX3_kind_59 : decode cX3_kind 59 = .ok (.aload_n 0, 1) := by decide +kernel
theorem dX3_kind_60 : decode cX3_kind 60 = .ok (.getfield 10, 3) := by decide +kernel
theorem dX3_kind_63 : decode cX3_kind 63 = .ok (.invokevirtual 183, 3) := by decide +kernel
theorem dX3_kind_66 : decode cX3_kind 66 = .ok (.aload_n 0, 1) := by decide +kernel
theorem dX3_kind_67 : decode cX3_kind 67 = .ok (.getfield 19, 3) := by decide +kernel
theorem dX3_kind_70 : decode cX3_kind 70 = .ok (.getfield 81, 3) := by decide +kernel
theorem dX3_kind_73 : decode cX3_kind 73 = .ok (.iload_n 1, 1) := by decide +kernel
theorem dX3_kind_74 : decode cX3_kind 74 = .ok (.iload 5, 2) := by decide +kernel
theorem dX3_kind_76 : decode cX3_kind 76 = .ok (.iastore, 1) := by decide +kernel
theorem dX3_kind_77 : decode cX3_kind 77 = .ok (.aload_n 0, 1) := by decide +kernel
theorem dX3_kind_78 : decode cX3_kind 78 = .ok (.getfield 19, 3) := by decide +kernel
theorem dX3_kind_81 : decode cX3_kind 81 = .ok (.iload_n 2, 1) := by decide +kernel
theorem dX3_kind_82 : decode cX3_kind 82 = .ok (.invokevirtual 187, 3) := by decide +kernel
theorem dX3_kind_85 : decode cX3_kind 85 = .ok (.aload_n 0, 1) := by decide +kernel
theorem dX3_kind_86 : decode cX3_kind 86 = .ok (.getfield 19, 3) := by decide +kernel
theorem dX3_kind_89 : decode cX3_kind 89 = .ok (.iload_n 1, 1) := by decide +kernel
theorem dX3_kind_90 : decode cX3_kind 90 = .ok (.invokevirtual 93, 3) := by decide +kernel
theorem dX3_kind_93 : decode cX3_kind 93 = .ok (.istore 6, 2) := by decide +kernel
theorem dX3_kind_95 : decode cX3_kind 95 = .ok (.iload 6, 2) := by decide +kernel
theorem dX3_kind_97 : decode cX3_kind 97 = .ok (.iload_n 3, 1) := by decide +kernel
theorem dX3_kind_98 : decode cX3_kind 98 = .ok (.if_icmp .le 10, 3) := by decide +kernel
theorem dX3_kind_101 : decode cX3_kind 101 = .ok (.iload 6, 2) := by decide +kernel
theorem dX3_kind_103 : decode cX3_kind 103 = .ok (.istore_n 3, 1) := by decide +kernel
theorem dX3_kind_104 : decode cX3_kind 104 = .ok (.iload 5, 2) := by decide +kernel
theorem dX3_kind_106 : decode cX3_kind 106 = .ok (.istore 4, 2) := by decide +kernel
theorem dX3_kind_108 : decode cX3_kind 108 = .ok (.iinc 5 1, 3) := by decide +kernel
theorem dX3_kind_111 : decode cX3_kind 111 = .ok (.goto (-63), 3) := by decide +kernel
theorem dX3_kind_114 : decode cX3_kind 114 = .ok (.iload 4, 2) := by decide +kernel
theorem dX3_kind_116 : decode cX3_kind 116 = .ok (.ireturn, 1) := by decide +kernel
theorem dX3_cellar_0 : decode cX3_cellar 0 = .ok (.iload_n 1, 1) := by decide +kernel
theorem dX3_cellar_1 : decode cX3_cellar 1 = .ok (.iconst 1, 1) := by decide +kernel
theorem dX3_cellar_2 : decode cX3_cellar 2 = .ok (.bipush 60, 2) := by decide +kernel
theorem dX3_cellar_4 : decode cX3_cellar 4 = .ok (.invokestatic 51, 3) := by decide +kernel
theorem dX3_cellar_7 : decode cX3_cellar 7 = .ok (.ifCond .ne 10, 3) := by decide +kernel
theorem dX3_cellar_10 : decode cX3_cellar 10 = .ok (.aload_n 0, 1) := by decide +kernel
theorem dX3_cellar_11 : decode cX3_cellar 11 = .ok (.ldc 55, 2) := by decide +kernel
theorem dX3_cellar_13 : decode cX3_cellar 13 = .ok (.invokevirtual 56, 3) := by decide +kernel
theorem dX3_cellar_16 : decode cX3_cellar 16 = .ok (.ireturn, 1) := by decide +kernel
theorem dX3_cellar_17 : decode cX3_cellar 17 = .ok (.aload_n 0, 1) := by decide +kernel
theorem dX3_cellar_18 : decode cX3_cellar 18 = .ok (.iload_n 1, 1) := by decide +kernel
theorem dX3_cellar_19 : decode cX3_cellar 19 = .ok (.invokevirtual 143, 3) := by decide +kernel
theorem dX3_cellar_22 : decode cX3_cellar 22 = .ok (.ifCond .eq 10, 3) := by decide +kernel
theorem dX3_cellar_25 : decode cX3_cellar 25 = .ok (.aload_n 0, 1) := by decide +kernel
theorem dX3_cellar_26 : decode cX3_cellar 26 = .ok (.ldc 123, 2) := by decide +kernel
theorem dX3_cellar_28 : decode cX3_cellar 28 = .ok (.invokevirtual 56, 3) := by decide +kernel
theorem dX3_cellar_31 : decode cX3_cellar 31 = .ok (.ireturn, 1) := by decide +kernel
theorem dX3_cellar_32 : decode cX3_cellar 32 = .ok (.aload_n 0, 1) := by decide +kernel
theorem dX3_cellar_33 : decode cX3_cellar 33 = .ok (.getfield 19, 3) := by decide +kernel
theorem dX3_cellar_36 : decode cX3_cellar 36 = .ok (.aload_n 0, 1) := by decide +kernel
theorem dX3_cellar_37 : decode cX3_cellar 37 = .ok (.getfield 10, 3) := by decide +kernel
theorem dX3_cellar_40 : decode cX3_cellar 40 = .ok (.invokevirtual 183, 3) := by decide +kernel
theorem dX3_cellar_43 : decode cX3_cellar 43 = .ok (.aload_n 0, 1) := by decide +kernel
theorem dX3_cellar_44 : decode cX3_cellar 44 = .ok (.getfield 19, 3) := by decide +kernel
theorem dX3_cellar_47 : decode cX3_cellar 47 = .ok (.iload_n 1, 1) := by decide +kernel
theorem dX3_cellar_48 : decode cX3_cellar 48 = .ok (.invokevirtual 187, 3) := by decide +kernel
theorem dX3_cellar_51 : decode cX3_cellar 51 = .ok (.aload_n 0, 1) := by decide +kernel
theorem dX3_cellar_52 : decode cX3_cellar 52 = .ok (.getfield 19, 3) := by decide +kernel
theorem dX3_cellar_55 : decode cX3_cellar 55 = .ok (.iconst 1, 1) := by decide +kernel
theorem dX3_cellar_56 : decode cX3_cellar 56 = .ok (.invokevirtual 170, 3) := by decide +kernel
theorem dX3_cellar_59 : decode cX3_cellar 59 = .ok (.istore_n 2, 1) := by decide +kernel
theorem dX3_cellar_60 : decode cX3_cellar 60 = .ok (.ldc 193, 2) := by decide +kernel
theorem dX3_cellar_62 : decode cX3_cellar 62 = .ok (.istore_n 3, 1) := by decide +kernel
theorem dX3_cellar_63 : decode cX3_cellar 63 = .ok (.iconst 0, 1) := by decide +kernel
theorem dX3_cellar_64 : decode cX3_cellar 64 = .ok (.istore 4, 2) := by decide +kernel
theorem dX3_cellar_66 : decode cX3_cellar 66 = .ok (.iload 4, 2) := by decide +kernel
theorem dX3_cellar_68 : decode cX3_cellar 68 = .ok (.aload_n 0, 1) := by decide +kernel
theorem dX3_cellar_69 : decode cX3_cellar 69 = .ok (.getfield 10, 3) := by decide +kernel
theorem dX3_cellar_72 : decode cX3_cellar 72 = .ok (.getfield 69, 3) := by decide +kernel
theorem dX3_cellar_75 : decode cX3_cellar 75 = .ok (.if_icmp .ge 63, 3) := by decide +kernel
theorem dX3_cellar_78 : decode cX3_cellar 78 = .ok (.iload 4, 2) := by decide +kernel
theorem dX3_cellar_80 : decode cX3_cellar 80 = .ok (.iconst 1, 1) := by decide +kernel
theorem dX3_cellar_81 : decode cX3_cellar 81 = .ok (.iadd, 1) := by decide +kernel
theorem dX3_cellar_82 : decode cX3_cellar 82 = .ok (.istore 5, 2) := by decide +kernel
theorem dX3_cellar_84 : decode cX3_cellar 84 = .ok (.iload 5, 2) := by decide +kernel
theorem dX3_cellar_86 : decode cX3_cellar 86 = .ok (.aload_n 0, 1) := by decide +kernel
theorem dX3_cellar_87 : decode cX3_cellar 87 = .ok (.getfield 10, 3) := by decide +kernel
theorem dX3_cellar_90 : decode cX3_cellar 90 = .ok (.getfield 69, 3) := by decide +kernel
theorem dX3_cellar_93 : decode cX3_cellar 93 = .ok (.if_icmp .ge 39, 3) := by decide +kernel
theorem dX3_cellar_96 : decode cX3_cellar 96 = .ok (.aload_n 0, 1) := by decide +kernel
theorem dX3_cellar_97 : decode cX3_cellar 97 = .ok (.iload 4, 2) := by decide +kernel
theorem dX3_cellar_99 : decode cX3_cellar 99 = .ok (.iload 5, 2) := by decide +kernel
theorem dX3_cellar_101 : decode cX3_cellar 101 = .ok (.iload_n 1, 1) := by decide +kernel
theorem dX3_cellar_102 : decode cX3_cellar 102 = .ok (.iload_n 2, 1) := by decide +kernel
theorem dX3_cellar_103 : decode cX3_cellar 103 = .ok (.invokevirtual 197, 3) := by decide +kernel
theorem dX3_cellar_106 : decode cX3_cellar 106 = .ok (.istore 6, 2) := by decide +kernel
theorem dX3_cellar_108 : decode cX3_cellar 108 = .ok (.iload 6, 2) := by decide +kernel
theorem dX3_cellar_110 : decode cX3_cellar 110 = .ok (.iload_n 2, 1) := by decide +kernel
theorem dX3_cellar_111 : decode cX3_cellar 111 = .ok (.if_icmp .ge 15, 3) := by decide +kernel
theorem dX3_cellar_114 : decode cX3_cellar 114 = .ok (.iload 6, 2) := by decide +kernel
theorem dX3_cellar_116 : decode cX3_cellar 116 = .ok (.istore_n 2, 1) := by decide +kernel
theorem dX3_cellar_117 : decode cX3_cellar 117 = .ok (.bipush 100, 2) := by decide +kernel
theorem dX3_cellar_119 : decode cX3_cellar 119 = .ok (.iload 4, 2) := by decide +kernel
theorem dX3_cellar_121 : decode cX3_cellar 121 = .ok (.imul, 1) := by decide +kernel
theorem dX3_cellar_122 : decode cX3_cellar 122 = .ok (.iload 5, 2) := by decide +kernel
theorem dX3_cellar_124 : decode cX3_cellar 124 = .ok (.iadd, 1) := by decide +kernel
theorem dX3_cellar_125 : decode cX3_cellar 125 = .ok (.istore_n 3, 1) := by decide +kernel
theorem dX3_cellar_126 : decode cX3_cellar 126 = .ok (.iinc 5 1, 3) := by decide +kernel
theorem dX3_cellar_129 : decode cX3_cellar 129 = .ok (.goto (-45), 3) := by decide +kernel
theorem dX3_cellar_132 : decode cX3_cellar 132 = .ok (.iinc 4 1, 3) := by decide +kernel
theorem dX3_cellar_135 : decode cX3_cellar 135 = .ok (.goto (-69), 3) := by decide +kernel
theorem dX3_cellar_138 : decode cX3_cellar 138 = .ok (.iload_n 3, 1) := by decide +kernel
theorem dX3_cellar_139 : decode cX3_cellar 139 = .ok (.ldc 193, 2) := by decide +kernel
theorem dX3_cellar_141 : decode cX3_cellar 141 = .ok (.if_icmp .ne 12, 3) := by decide +kernel
theorem dX3_cellar_144 : decode cX3_cellar 144 = .ok (.aload_n 0, 1) := by decide +kernel
theorem dX3_cellar_145 : decode cX3_cellar 145 = .ok (.ldc 193, 2) := by decide +kernel
theorem dX3_cellar_147 : decode cX3_cellar 147 = .ok (.invokevirtual 56, 3) := by decide +kernel
theorem dX3_cellar_150 : decode cX3_cellar 150 = .ok (.goto 4, 3) := by decide +kernel
theorem dX3_cellar_153 : decode cX3_cellar 153 = .ok (.iload_n 3, 1) := by decide +kernel
theorem dX3_cellar_154 : decode cX3_cellar 154 = .ok (.ireturn, 1) := by decide +kernel
theorem dX3_field_0 : decode cX3_field 0 = .ok (.iload_n 1, 1) := by decide +kernel
theorem dX3_field_1 : decode cX3_field 1 = .ok (.invokestatic 47, 3) := by decide +kernel
theorem dX3_field_4 : decode cX3_field 4 = .ok (.ifCond .eq 13, 3) := by decide +kernel
theorem dX3_field_7 : decode cX3_field 7 = .ok (.iload_n 2, 1) := by decide +kernel
theorem dX3_field_8 : decode cX3_field 8 = .ok (.iconst 1, 1) := by decide +kernel
theorem dX3_field_9 : decode cX3_field 9 = .ok (.bipush 24, 2) := by decide +kernel
theorem dX3_field_11 : decode cX3_field 11 = .ok (.invokestatic 51, 3) := by decide +kernel
theorem dX3_field_14 : decode cX3_field 14 = .ok (.ifCond .ne 10, 3) := by decide +kernel
theorem dX3_field_17 : decode cX3_field 17 = .ok (.aload_n 0, 1) := by decide +kernel
theorem dX3_field_18 : decode cX3_field 18 = .ok (.ldc 55, 2) := by decide +kernel
theorem dX3_field_20 : decode cX3_field 20 = .ok (.invokevirtual 56, 3) := by decide +kernel
theorem dX3_field_23 : decode cX3_field 23 = .ok (.ireturn, 1) := by decide +kernel
theorem dX3_field_24 : decode cX3_field 24 = .ok (.aload_n 0, 1) := by decide +kernel
theorem dX3_field_25 : decode cX3_field 25 = .ok (.getfield 10, 3) := by decide +kernel
theorem dX3_field_28 : decode cX3_field 28 = .ok (.invokevirtual 119, 3) := by decide +kernel
theorem dX3_field_31 : decode cX3_field 31 = .ok (.ifCond .eq 11, 3) := by decide +kernel
theorem dX3_field_34 : decode cX3_field 34 = .ok (.aload_n 0, 1) := by decide +kernel
theorem dX3_field_35 : decode cX3_field 35 = .ok (.iload_n 2, 1) := by decide +kernel
theorem dX3_field_36 : decode cX3_field 36 = .ok (.invokevirtual 143, 3) := by decide +kernel
theorem dX3_field_39 : decode cX3_field 39 = .ok (.ifCond .eq 10, 3) := by decide +kernel
theorem dX3_field_42 : decode cX3_field 42 = .ok (.aload_n 0, 1) := by decide +kernel
theorem dX3_field_43 : decode cX3_field 43 = .ok (.ldc 123, 2) := by decide +kernel
theorem dX3_field_45 : decode cX3_field 45 = .ok (.invokevirtual 56, 3) := by decide +kernel
theorem dX3_field_48 : decode cX3_field 48 = .ok (.ireturn, 1) := by decide +kernel
theorem dX3_field_49 : decode cX3_field 49 = .ok (.aload_n 0, 1) := by decide +kernel
theorem dX3_field_50 : decode cX3_field 50 = .ok (.getfield 10, 3) := by decide +kernel
theorem dX3_field_53 : decode cX3_field 53 = .ok (.iload_n 1, 1) := by decide +kernel
theorem dX3_field_54 : decode cX3_field 54 = .ok (.invokevirtual 200, 3) := by decide +kernel
theorem dX3_field_57 : decode cX3_field 57 = .ok (.istore_n 3, 1) := by decide +kernel
theorem dX3_field_58 : decode cX3_field 58 = .ok (.iload_n 3, 1) := by decide +kernel
theorem dX3_field_59 : decode cX3_field 59 = .ok (.invokestatic 203, 3) := by decide +kernel
theorem dX3_field_62 : decode cX3_field 62 = .ok (.bipush 6, 2) := by decide +kernel
theorem dX3_field_64 : decode cX3_field 64 = .ok (.if_icmp .le 10, 3) := by decide +kernel
theorem dX3_field_67 : decode cX3_field 67 = .ok (.aload_n 0, 1) := by decide +kernel
theorem dX3_field_68 : decode cX3_field 68 = .ok (.ldc 208, 2) := by decide +kernel
theorem dX3_field_70 : decode cX3_field 70 = .ok (.invokevirtual 56, 3) := by decide +kernel
theorem dX3_field_73 : decode cX3_field 73 = .ok (.ireturn, 1) := by decide +kernel
theorem dX3_field_74 : decode cX3_field 74 = .ok (.iconst (-1), 1) := by decide +kernel
theorem dX3_field_75 : decode cX3_field 75 = .ok (.istore 4, 2) := by decide +kernel
theorem dX3_field_77 : decode cX3_field 77 = .ok (.iconst 0, 1) := by decide +kernel
theorem dX3_field_78 : decode cX3_field 78 = .ok (.istore 5, 2) := by decide +kernel
theorem dX3_field_80 : decode cX3_field 80 = .ok (.iconst 0, 1) := by decide +kernel
theorem dX3_field_81 : decode cX3_field 81 = .ok (.istore 6, 2) := by decide +kernel
theorem dX3_field_83 : decode cX3_field 83 = .ok (.iconst 0, 1) := by decide +kernel
theorem dX3_field_84 : decode cX3_field 84 = .ok (.istore 7, 2) := by decide +kernel
theorem dX3_field_86 : decode cX3_field 86 = .ok (.iload 7, 2) := by decide +kernel
theorem dX3_field_88 : decode cX3_field 88 = .ok (.iconst 1, 1) := by decide +kernel
theorem dX3_field_89 : decode cX3_field 89 = .ok (.iload_n 3, 1) := by decide +kernel
theorem dX3_field_90 : decode cX3_field 90 = .ok (.invokestatic 203, 3) := by decide +kernel
theorem dX3_field_93 : decode cX3_field 93 = .ok (.ishl, 1) := by decide +kernel
theorem dX3_field_94 : decode cX3_field 94 = .ok (.if_icmp .ge 42, 3) := by decide +kernel
theorem dX3_field_97 : decode cX3_field 97 = .ok (.aload_n 0, 1) := by decide +kernel
theorem dX3_field_98 : decode cX3_field 98 = .ok (.iload 6, 2) := by decide +kernel
theorem dX3_field_100 : decode cX3_field 100 = .ok (.iload_n 1, 1) := by decide +kernel
theorem dX3_field_101 : decode cX3_field 101 = .ok (.iload_n 2, 1) := by decide +kernel
theorem dX3_field_102 : decode cX3_field 102 = .ok (.invokevirtual 209, 3) := by decide +kernel
theorem dX3_field_105 : decode cX3_field 105 = .ok (.istore 8, 2) := by decide +kernel
theorem dX3_field_107 : decode cX3_field 107 = .ok (.iload 8, 2) := by decide +kernel
theorem dX3_field_109 : decode cX3_field 109 = .ok (.iload 4, 2) := by decide +kernel
theorem dX3_field_111 : decode cX3_field 111 = .ok (.if_icmp .le 11, 3) := by decide +kernel
theorem dX3_field_114 : decode cX3_field 114 = .ok (.iload 8, 2) := by decide +kernel
theorem dX3_field_116 : decode cX3_field 116 = .ok (.istore 4, 2) := by decide +kernel
theorem dX3_field_118 : decode cX3_field 118 = .ok (.iload 6, 2) := by decide +kernel
theorem dX3_field_120 : decode cX3_field 120 = .ok (.istore 5, 2) := by decide +kernel
theorem dX3_field_122 : decode cX3_field 122 = .ok (.iload 6, 2) := by decide +kernel
theorem dX3_field_124 : decode cX3_field 124 = .ok (.iload_n 3, 1) := by decide +kernel
theorem dX3_field_125 : decode cX3_field 125 = .ok (.isub, 1) := by decide +kernel
theorem dX3_field_126 : decode cX3_field 126 = .ok (.iload_n 3, 1) := by decide +kernel
theorem dX3_field_127 : decode cX3_field 127 = .ok (.iand, 1) := by decide +kernel
theorem dX3_field_128 : decode cX3_field 128 = .ok (.istore 6, 2) := by decide +kernel
theorem dX3_field_130 : decode cX3_field 130 = .ok (.iinc 7 1, 3) := by decide +kernel
theorem dX3_field_133 : decode cX3_field 133 = .ok (.goto (-47), 3) := by decide +kernel
theorem dX3_field_136 : decode cX3_field 136 = .ok (.iload 5, 2) := by decide +kernel
theorem dX3_field_138 : decode cX3_field 138 = .ok (.ireturn, 1) := by decide +kernel
theorem dX3_priceFor_0 : decode cX3_priceFor 0 = .ok (.iload_n 1, 1) := by decide +kernel
theorem dX3_priceFor_1 : decode cX3_priceFor 1 = .ok (.invokestatic 47, 3) := by decide +kernel
theorem dX3_priceFor_4 : decode cX3_priceFor 4 = .ok (.ifCond .eq 14, 3) := by decide +kernel
theorem dX3_priceFor_7 : decode cX3_priceFor 7 = .ok (.iload_n 2, 1) := by decide +kernel
theorem dX3_priceFor_8 : decode cX3_priceFor 8 = .ok (.iconst 0, 1) := by decide +kernel
theorem dX3_priceFor_9 : decode cX3_priceFor 9 = .ok (.sipush 9999, 3) := by decide +kernel
theorem dX3_priceFor_12 : decode cX3_priceFor 12 = .ok (.invokestatic 51, 3) := by decide +kernel
theorem dX3_priceFor_15 : decode cX3_priceFor 15 = .ok (.ifCond .ne 10, 3) := by decide +kernel
theorem dX3_priceFor_18 : decode cX3_priceFor 18 = .ok (.aload_n 0, 1) := by decide +kernel
theorem dX3_priceFor_19 : decode cX3_priceFor 19 = .ok (.ldc 55, 2) := by decide +kernel
theorem dX3_priceFor_21 : decode cX3_priceFor 21 = .ok (.invokevirtual 56, 3) := by decide +kernel
theorem dX3_priceFor_24 : decode cX3_priceFor 24 = .ok (.ireturn, 1) := by decide +kernel
theorem dX3_priceFor_25 : decode cX3_priceFor 25 = .ok (.aload_n 0, 1) := by decide +kernel
theorem dX3_priceFor_26 : decode cX3_priceFor 26 = .ok (.getfield 19, 3) := by decide +kernel
theorem dX3_priceFor_29 : decode cX3_priceFor 29 = .ok (.aload_n 0, 1) := by decide +kernel
theorem dX3_priceFor_30 : decode cX3_priceFor 30 = .ok (.getfield 10, 3) := by decide +kernel
theorem dX3_priceFor_33 : decode cX3_priceFor 33 = .ok (.invokevirtual 183, 3) := by decide +kernel
theorem dX3_priceFor_36 : decode cX3_priceFor 36 = .ok (.iconst 0, 1) := by decide +kernel
theorem dX3_priceFor_37 : decode cX3_priceFor 37 = .ok (.istore_n 3, 1) := by decide +kernel
theorem dX3_priceFor_38 : decode cX3_priceFor 38 = .ok (.iload_n 3, 1) := by decide +kernel
theorem dX3_priceFor_39 : decode cX3_priceFor 39 = .ok (.bipush 99, 2) := by decide +kernel
theorem dX3_priceFor_41 : decode cX3_priceFor 41 = .ok (.if_icmp .gt 39, 3) := by decide +kernel
theorem dX3_priceFor_44 : decode cX3_priceFor 44 = .ok (.aload_n 0, 1) := by decide +kernel
theorem dX3_priceFor_45 : decode cX3_priceFor 45 = .ok (.getfield 19, 3) := by decide +kernel
theorem dX3_priceFor_48 : decode cX3_priceFor 48 = .ok (.getfield 63, 3) := by decide +kernel
theorem dX3_priceFor_51 : decode cX3_priceFor 51 = .ok (.aload_n 0, 1) := by decide +kernel
theorem dX3_priceFor_52 : decode cX3_priceFor 52 = .ok (.getfield 19, 3) := by decide +kernel
theorem dX3_priceFor_55 : decode cX3_priceFor 55 = .ok (.invokevirtual 96, 3) := by decide +kernel
theorem dX3_priceFor_58 : decode cX3_priceFor 58 = .ok (.iload_n 3, 1) := by decide +kernel
theorem dX3_priceFor_59 : decode cX3_priceFor 59 = .ok (.iastore, 1) := by decide +kernel
theorem dX3_priceFor_60 : decode cX3_priceFor 60 = .ok (.aload_n 0, 1) := by decide +kernel
theorem dX3_priceFor_61 : decode cX3_priceFor 61 = .ok (.getfield 19, 3) := by decide +kernel
theorem dX3_priceFor_64 : decode cX3_priceFor 64 = .ok (.iload_n 1, 1) := by decide +kernel
theorem dX3_priceFor_65 : decode cX3_priceFor 65 = .ok (.invokevirtual 124, 3) := by decide +kernel
theorem dX3_priceFor_68 : decode cX3_priceFor 68 = .ok (.iload_n 2, 1) := by decide +kernel
theorem dX3_priceFor_69 : decode cX3_priceFor 69 = .ok (.if_icmp .lt 5, 3) := by decide +kernel
theorem dX3_priceFor_72 : decode cX3_priceFor 72 = .ok (.iload_n 3, 1) := by decide +kernel
theorem dX3_priceFor_73 : decode cX3_priceFor 73 = .ok (.ireturn, 1) := by decide +kernel
theorem dX3_priceFor_74 : decode cX3_priceFor 74 = .ok (.iinc 3 1, 3) := by decide +kernel
theorem dX3_priceFor_77 : decode cX3_priceFor 77 = .ok (.goto (-39), 3) := by decide +kernel
theorem dX3_priceFor_80 : decode cX3_priceFor 80 = .ok (.aload_n 0, 1) := by decide +kernel
theorem dX3_priceFor_81 : decode cX3_priceFor 81 = .ok (.ldc 193, 2) := by decide +kernel
theorem dX3_priceFor_83 : decode cX3_priceFor 83 = .ok (.invokevirtual 56, 3) := by decide +kernel
theorem dX3_priceFor_86 : decode cX3_priceFor 86 = .ok (.ireturn, 1) := by decide +kernel
theorem dX3_taxMonth_0 : decode cX3_taxMonth 0 = .ok (.aload_n 0, 1) := by decide +kernel
theorem dX3_taxMonth_1 : decode cX3_taxMonth 1 = .ok (.bipush 12, 2) := by decide +kernel
theorem dX3_taxMonth_3 : decode cX3_taxMonth 3 = .ok (.invokevirtual 143, 3) := by decide +kernel
theorem dX3_taxMonth_6 : decode cX3_taxMonth 6 = .ok (.ifCond .eq 10, 3) := by decide +kernel
theorem dX3_taxMonth_9 : decode cX3_taxMonth 9 = .ok (.aload_n 0, 1) := by decide +kernel
theorem dX3_taxMonth_10 : decode cX3_taxMonth 10 = .ok (.ldc 123, 2) := by decide +kernel
theorem dX3_taxMonth_12 : decode cX3_taxMonth 12 = .ok (.invokevirtual 56, 3) := by decide +kernel
theorem dX3_taxMonth_15 : decode cX3_taxMonth 15 = .ok (.ireturn, 1) := by decide +kernel
theorem dX3_taxMonth_16 : decode cX3_taxMonth 16 = .ok (.iconst (-1), 1) := by decide +kernel
theorem dX3_taxMonth_17 : decode cX3_taxMonth 17 = .ok (.istore_n 1, 1) := by decide +kernel
theorem dX3_taxMonth_18 : decode cX3_taxMonth 18 = .ok (.iconst 0, 1) := by decide +kernel
theorem dX3_taxMonth_19 : decode cX3_taxMonth 19 = .ok (.istore_n 2, 1) := by decide +kernel
theorem dX3_taxMonth_20 : decode cX3_taxMonth 20 = .ok (.aload_n 0, 1) := by decide +kernel
theorem dX3_taxMonth_21 : decode cX3_taxMonth 21 = .ok (.getfield 19, 3) := by decide +kernel
theorem dX3_taxMonth_24 : decode cX3_taxMonth 24 = .ok (.aload_n 0, 1) := by decide +kernel
theorem dX3_taxMonth_25 : decode cX3_taxMonth 25 = .ok (.getfield 10, 3) := by decide +kernel
theorem dX3_taxMonth_28 : decode cX3_taxMonth 28 = .ok (.invokevirtual 183, 3) := by decide +kernel
theorem dX3_taxMonth_31 : decode cX3_taxMonth 31 = .ok (.iconst 0, 1) := by decide +kernel
theorem dX3_taxMonth_32 : decode cX3_taxMonth 32 = .ok (.istore_n 3, 1) := by decide +kernel
theorem dX3_taxMonth_33 : decode cX3_taxMonth 33 = .ok (.iload_n 3, 1) := by decide +kernel
theorem dX3_taxMonth_34 : decode cX3_taxMonth 34 = .ok (.bipush 12, 2) := by decide +kernel
theorem dX3_taxMonth_36 : decode cX3_taxMonth 36 = .ok (.if_icmp .ge 67, 3) := by decide +kernel
theorem dX3_taxMonth_39 : decode cX3_taxMonth 39 = .ok (.aload_n 0, 1) := by decide +kernel
theorem dX3_taxMonth_40 : decode cX3_taxMonth 40 = .ok (.getfield 22, 3) := by decide +kernel
theorem dX3_taxMonth_43 : decode cX3_taxMonth 43 = .ok (.aload_n 0, 1) := by decide +kernel
theorem dX3_taxMonth_44 : decode cX3_taxMonth 44 = .ok (.getfield 19, 3) := by decide +kernel
theorem dX3_taxMonth_47 : decode cX3_taxMonth 47 = .ok (.invokevirtual 183, 3) := by decide +kernel
theorem dX3_taxMonth_50 : decode cX3_taxMonth 50 = .ok (.aload_n 0, 1) := by decide +kernel
theorem dX3_taxMonth_51 : decode cX3_taxMonth 51 = .ok (.getfield 22, 3) := by decide +kernel
theorem dX3_taxMonth_54 : decode cX3_taxMonth 54 = .ok (.invokevirtual 167, 3) := by decide +kernel
theorem dX3_taxMonth_57 : decode cX3_taxMonth 57 = .ok (.pop, 1) := by decide +kernel
theorem dX3_taxMonth_58 : decode cX3_taxMonth 58 = .ok (.aload_n 0, 1) := by decide +kernel
theorem dX3_taxMonth_59 : decode cX3_taxMonth 59 = .ok (.getfield 22, 3) := by decide +kernel
theorem dX3_taxMonth_62 : decode cX3_taxMonth 62 = .ok (.bipush 12, 2) := by decide +kernel
theorem dX3_taxMonth_64 : decode cX3_taxMonth 64 = .ok (.iload_n 3, 1) := by decide +kernel
theorem dX3_taxMonth_65 : decode cX3_taxMonth 65 = .ok (.isub, 1) := by decide +kernel
theorem dX3_taxMonth_66 : decode cX3_taxMonth 66 = .ok (.invokevirtual 173, 3) := by decide +kernel
theorem dX3_taxMonth_69 : decode cX3_taxMonth 69 = .ok (.aload_n 0, 1) := by decide +kernel
theorem dX3_taxMonth_70 : decode cX3_taxMonth 70 = .ok (.getfield 22, 3) := by decide +kernel
theorem dX3_taxMonth_73 : decode cX3_taxMonth 73 = .ok (.invokevirtual 212, 3) := by decide +kernel
theorem dX3_taxMonth_76 : decode cX3_taxMonth 76 = .ok (.istore 4, 2) := by decide +kernel
theorem dX3_taxMonth_78 : decode cX3_taxMonth 78 = .ok (.iload 4, 2) := by decide +kernel
theorem dX3_taxMonth_80 : decode cX3_taxMonth 80 = .ok (.iload_n 1, 1) := by decide +kernel
theorem dX3_taxMonth_81 : decode cX3_taxMonth 81 = .ok (.if_icmp .le 8, 3) := by decide +kernel
theorem dX3_taxMonth_84 : decode cX3_taxMonth 84 = .ok (.iload 4, 2) := by decide +kernel
theorem dX3_taxMonth_86 : decode cX3_taxMonth 86 = .ok (.istore_n 1, 1) := by decide +kernel
theorem dX3_taxMonth_87 : decode cX3_taxMonth 87 = .ok (.iload_n 3, 1) := by decide +kernel
theorem dX3_taxMonth_88 : decode cX3_taxMonth 88 = .ok (.istore_n 2, 1) := by decide +kernel
theorem dX3_taxMonth_89 : decode cX3_taxMonth 89 = .ok (.aload_n 0, 1) := by decide +kernel
theorem dX3_taxMonth_90 : decode cX3_taxMonth 90 = .ok (.getfield 19, 3) := by decide +kernel
theorem dX3_taxMonth_93 : decode cX3_taxMonth 93 = .ok (.iconst 1, 1) := by decide +kernel
theorem dX3_taxMonth_94 : decode cX3_taxMonth 94 = .ok (.invokevirtual 173, 3) := by decide +kernel
theorem dX3_taxMonth_97 : decode cX3_taxMonth 97 = .ok (.iinc 3 1, 3) := by decide +kernel
theorem dX3_taxMonth_100 : decode cX3_taxMonth 100 = .ok (.goto (-67), 3) := by decide +kernel
theorem dX3_taxMonth_103 : decode cX3_taxMonth 103 = .ok (.iload_n 2, 1) := by decide +kernel
theorem dX3_taxMonth_104 : decode cX3_taxMonth 104 = .ok (.ireturn, 1) := by decide +kernel
theorem dX3_bank_0 : decode cX3_bank 0 = .ok (.aload_n 0, 1) := by decide +kernel
theorem dX3_bank_1 : decode cX3_bank 1 = .ok (.getfield 10, 3) := by decide +kernel
theorem dX3_bank_4 : decode cX3_bank 4 = .ok (.invokevirtual 215, 3) := by decide +kernel
theorem dX3_bank_7 : decode cX3_bank 7 = .ok (.istore_n 1, 1) := by decide +kernel
theorem dX3_bank_8 : decode cX3_bank 8 = .ok (.iload_n 1, 1) := by decide +kernel
theorem dX3_bank_9 : decode cX3_bank 9 = .ok (.ifCond .ge 12, 3) := by decide +kernel
theorem dX3_bank_12 : decode cX3_bank 12 = .ok (.aload_n 0, 1) := by decide +kernel
theorem dX3_bank_13 : decode cX3_bank 13 = .ok (.ldc 193, 2) := by decide +kernel
theorem dX3_bank_15 : decode cX3_bank 15 = .ok (.invokevirtual 56, 3) := by decide +kernel
theorem dX3_bank_18 : decode cX3_bank 18 = .ok (.goto 4, 3) := by decide +kernel
theorem dX3_bank_21 : decode cX3_bank 21 = .ok (.iload_n 1, 1) := by decide +kernel
theorem dX3_bank_22 : decode cX3_bank 22 = .ok (.ireturn, 1) := by decide +kernel
theorem dX3_feed_0 : decode cX3_feed 0 = .ok (.iload_n 2, 1) := by decide +kernel
theorem dX3_feed_1 : decode cX3_feed 1 = .ok (.iconst 1, 1) := by decide +kernel
theorem dX3_feed_2 : decode cX3_feed 2 = .ok (.iconst 4, 1) := by decide +kernel
theorem dX3_feed_3 : decode cX3_feed 3 = .ok (.invokestatic 51, 3) := by decide +kernel
theorem dX3_feed_6 : decode cX3_feed 6 = .ok (.ifCond .ne 10, 3) := by decide +kernel
theorem dX3_feed_9 : decode cX3_feed 9 = .ok (.aload_n 0, 1) := by decide +kernel
theorem dX3_feed_10 : decode cX3_feed 10 = .ok (.ldc 55, 2) := by decide +kernel
theorem dX3_feed_12 : decode cX3_feed 12 = .ok (.invokevirtual 56, 3) := by decide +kernel
theorem dX3_feed_15 : decode cX3_feed 15 = .ok (.ireturn, 1) := by decide +kernel
theorem dX3_feed_16 : decode cX3_feed 16 = .ok (.aload_n 0, 1) := by decide +kernel
theorem dX3_feed_17 : decode cX3_feed 17 = .ok (.getfield 28, 3) := by decide +kernel
theorem dX3_feed_20 : decode cX3_feed 20 = .ok (.getfield 218, 3) := by decide +kernel
theorem dX3_feed_23 : decode cX3_feed 23 = .ok (.bipush 120, 2) := by decide +kernel
theorem dX3_feed_25 : decode cX3_feed 25 = .ok (.iload_n 2, 1) := by decide +kernel
theorem dX3_feed_26 : decode cX3_feed 26 = .ok (.isub, 1) := by decide +kernel
theorem dX3_feed_27 : decode cX3_feed 27 = .ok (.if_icmp .le 10, 3) := by decide +kernel
theorem dX3_feed_30 : decode cX3_feed 30 = .ok (.aload_n 0, 1) := by decide +kernel
theorem dX3_feed_31 : decode cX3_feed 31 = .ok (.ldc 73, 2) := by decide +kernel
theorem dX3_feed_33 : decode cX3_feed 33 = .ok (.invokevirtual 56, 3) := by decide +kernel
theorem dX3_feed_36 : decode cX3_feed 36 = .ok (.ireturn, 1) := by decide +kernel
theorem dX3_feed_37 : decode cX3_feed 37 = .ok (.iload_n 2, 1) := by decide +kernel
theorem dX3_feed_38 : decode cX3_feed 38 = .ok (.iconst 1, 1) := by decide +kernel
theorem dX3_feed_39 : decode cX3_feed 39 = .ok (.isub, 1) := by decide +kernel
theorem dX3_feed_40 : decode cX3_feed 40 = .ok (.istore_n 3, 1) := by decide +kernel
theorem dX3_feed_41 : decode cX3_feed 41 = .ok (.iload_n 3, 1) := by decide +kernel
theorem dX3_feed_42 : decode cX3_feed 42 = .ok (.ifCond .lt 26, 3) := by decide +kernel
theorem dX3_feed_45 : decode cX3_feed 45 = .ok (.aload_n 0, 1) := by decide +kernel
theorem dX3_feed_46 : decode cX3_feed 46 = .ok (.getfield 28, 3) := by decide +kernel
theorem dX3_feed_49 : decode cX3_feed 49 = .ok (.iload_n 1, 1) := by decide +kernel
theorem dX3_feed_50 : decode cX3_feed 50 = .ok (.bipush 8, 2) := by decide +kernel
theorem dX3_feed_52 : decode cX3_feed 52 = .ok (.iload_n 3, 1) := by decide +kernel
theorem dX3_feed_53 : decode cX3_feed 53 = .ok (.imul, 1) := by decide +kernel
theorem dX3_feed_54 : decode cX3_feed 54 = .ok (.iushr, 1) := by decide +kernel
theorem dX3_feed_55 : decode cX3_feed 55 = .ok (.sipush 255, 3) := by decide +kernel
theorem dX3_feed_58 : decode cX3_feed 58 = .ok (.iand, 1) := by decide +kernel
theorem dX3_feed_59 : decode cX3_feed 59 = .ok (.invokevirtual 221, 3) := by decide +kernel
theorem dX3_feed_62 : decode cX3_feed 62 = .ok (.iinc 3 (-1), 3) := by decide +kernel
theorem dX3_feed_65 : decode cX3_feed 65 = .ok (.goto (-24), 3) := by decide +kernel
theorem dX3_feed_68 : decode cX3_feed 68 = .ok (.aload_n 0, 1) := by decide +kernel
theorem dX3_feed_69 : decode cX3_feed 69 = .ok (.getfield 28, 3) := by decide +kernel
theorem dX3_feed_72 : decode cX3_feed 72 = .ok (.getfield 218, 3) := by decide +kernel
theorem dX3_feed_75 : decode cX3_feed 75 = .ok (.ireturn, 1) := by decide +kernel
theorem dX3_wipe_0 : decode cX3_wipe 0 = .ok (.aload_n 0, 1) := by decide +kernel
theorem dX3_wipe_1 : decode cX3_wipe 1 = .ok (.getfield 28, 3) := by decide +kernel
theorem dX3_wipe_4 : decode cX3_wipe 4 = .ok (.getfield 218, 3) := by decide +kernel
theorem dX3_wipe_7 : decode cX3_wipe 7 = .ok (.istore_n 1, 1) := by decide +kernel
theorem dX3_wipe_8 : decode cX3_wipe 8 = .ok (.aload_n 0, 1) := by decide +kernel
theorem dX3_wipe_9 : decode cX3_wipe 9 = .ok (.getfield 28, 3) := by decide +kernel
theorem dX3_wipe_12 : decode cX3_wipe 12 = .ok (.iconst 0, 1) := by decide +kernel
theorem dX3_wipe_13 : decode cX3_wipe 13 = .ok (.putfield 218, 3) := by decide +kernel
theorem dX3_wipe_16 : decode cX3_wipe 16 = .ok (.iload_n 1, 1) := by decide +kernel
theorem dX3_wipe_17 : decode cX3_wipe 17 = .ok (.ireturn, 1) := by decide +kernel
theorem dX3_market_0 : decode cX3_market 0 = .ok (.aload_n 0, 1) := by decide +kernel
theorem dX3_market_1 : decode cX3_market 1 = .ok (.getfield 19, 3) := by decide +kernel
theorem dX3_market_4 : decode cX3_market 4 = .ok (.aload_n 0, 1) := by decide +kernel
theorem dX3_market_5 : decode cX3_market 5 = .ok (.getfield 10, 3) := by decide +kernel
theorem dX3_market_8 : decode cX3_market 8 = .ok (.invokevirtual 183, 3) := by decide +kernel
theorem dX3_market_11 : decode cX3_market 11 = .ok (.aload_n 0, 1) := by decide +kernel
theorem dX3_market_12 : decode cX3_market 12 = .ok (.getfield 28, 3) := by decide +kernel
theorem dX3_market_15 : decode cX3_market 15 = .ok (.aload_n 0, 1) := by decide +kernel
theorem dX3_market_16 : decode cX3_market 16 = .ok (.getfield 19, 3) := by decide +kernel
theorem dX3_market_19 : decode cX3_market 19 = .ok (.invokevirtual 224, 3) := by decide +kernel
theorem dX3_market_22 : decode cX3_market 22 = .ok (.istore_n 1, 1) := by decide +kernel
theorem dX3_market_23 : decode cX3_market 23 = .ok (.iload_n 1, 1) := by decide +kernel
theorem dX3_market_24 : decode cX3_market 24 = .ok (.ifCond .lt 14, 3) := by decide +kernel
theorem dX3_market_27 : decode cX3_market 27 = .ok (.aload_n 0, 1) := by decide +kernel
theorem dX3_market_28 : decode cX3_market 28 = .ok (.getfield 10, 3) := by decide +kernel
theorem dX3_market_31 : decode cX3_market 31 = .ok (.aload_n 0, 1) := by decide +kernel
theorem dX3_market_32 : decode cX3_market 32 = .ok (.getfield 19, 3) := by decide +kernel
theorem dX3_market_35 : decode cX3_market 35 = .ok (.invokevirtual 183, 3) := by decide +kernel
theorem dX3_market_38 : decode cX3_market 38 = .ok (.aload_n 0, 1) := by decide +kernel
theorem dX3_market_39 : decode cX3_market 39 = .ok (.getfield 28, 3) := by decide +kernel
theorem dX3_market_42 : decode cX3_market 42 = .ok (.iconst 0, 1) := by decide +kernel
theorem dX3_market_43 : decode cX3_market 43 = .ok (.putfield 218, 3) := by decide +kernel
theorem dX3_market_46 : decode cX3_market 46 = .ok (.iload_n 1, 1) := by decide +kernel
theorem dX3_market_47 : decode cX3_market 47 = .ok (.ireturn, 1) := by decide +kernel
theorem dX3_sheet_0 : decode cX3_sheet 0 = .ok (.iload_n 1, 1) := by decide +kernel
theorem dX3_sheet_1 : decode cX3_sheet 1 = .ok (.invokestatic 228, 3) := by decide +kernel
theorem dX3_sheet_4 : decode cX3_sheet 4 = .ok (.ifCond .eq 25, 3) := by decide +kernel
theorem dX3_sheet_7 : decode cX3_sheet 7 = .ok (.iload_n 2, 1) := by decide +kernel
theorem dX3_sheet_8 : decode cX3_sheet 8 = .ok (.ifCond .eq 28, 3) := by decide +kernel
theorem dX3_sheet_11 : decode cX3_sheet 11 = .ok (.iload_n 2, 1) := by decide +kernel
theorem dX3_sheet_12 : decode cX3_sheet 12 = .ok (.bipush 8, 2) := by decide +kernel
theorem dX3_sheet_14 : decode cX3_sheet 14 = .ok (.if_icmp .eq 22, 3) := by decide +kernel
theorem dX3_sheet_17 : decode cX3_sheet 17 = .ok (.iload_n 2, 1) := by decide +kernel
theorem dX3_sheet_18 : decode cX3_sheet 18 = .ok (.bipush 16, 2) := by decide +kernel
theorem dX3_sheet_20 : decode cX3_sheet 20 = .ok (.if_icmp .eq 16, 3) := by decide +kernel
theorem dX3_sheet_23 : decode cX3_sheet 23 = .ok (.iload_n 2, 1) := by decide +kernel
theorem dX3_sheet_24 : decode cX3_sheet 24 = .ok (.bipush 64, 2) := by decide +kernel
theorem dX3_sheet_26 : decode cX3_sheet 26 = .ok (.if_icmp .eq 10, 3) := by decide +kernel
theorem dX3_sheet_29 : decode cX3_sheet 29 = .ok (.aload_n 0, 1) := by decide +kernel
theorem dX3_sheet_30 : decode cX3_sheet 30 = .ok (.ldc 55, 2) := by decide +kernel
theorem dX3_sheet_32 : decode cX3_sheet 32 = .ok (.invokevirtual 56, 3) := by decide +kernel
theorem dX3_sheet_35 : decode cX3_sheet 35 = .ok (.ireturn, 1) := by decide +kernel
theorem dX3_sheet_36 : decode cX3_sheet 36 = .ok (.iload_n 3, 1) := by decide +kernel
theorem dX3_sheet_37 : decode cX3_sheet 37 = .ok (.ifCond .ge 10, 3) := by decide +kernel
theorem dX3_sheet_40 : decode cX3_sheet 40 = .ok (.aload_n 0, 1) := by decide +kernel
theorem dX3_sheet_41 : decode cX3_sheet 41 = .ok (.ldc 208, 2) := by decide +kernel
theorem dX3_sheet_43 : decode cX3_sheet 43 = .ok (.invokevirtual 56, 3) := by decide +kernel
theorem dX3_sheet_46 : decode cX3_sheet 46 = .ok (.ireturn, 1) := by decide +kernel
theorem dX3_sheet_47 : decode cX3_sheet 47 = .ok (.iload_n 3, 1) := by decide +kernel
theorem dX3_sheet_48 : decode cX3_sheet 48 = .ok (.bipush 40, 2) := by decide +kernel
theorem dX3_sheet_50 : decode cX3_sheet 50 = .ok (.if_icmp .le 10, 3) := by decide +kernel
theorem dX3_sheet_53 : decode cX3_sheet 53 = .ok (.aload_n 0, 1) := by decide +kernel
theorem dX3_sheet_54 : decode cX3_sheet 54 = .ok (.ldc 55, 2) := by decide +kernel
theorem dX3_sheet_56 : decode cX3_sheet 56 = .ok (.invokevirtual 56, 3) := by decide +kernel
theorem dX3_sheet_59 : decode cX3_sheet 59 = .ok (.ireturn, 1) := by decide +kernel
theorem dX3_sheet_60 : decode cX3_sheet 60 = .ok (.aload_n 0, 1) := by decide +kernel
theorem dX3_sheet_61 : decode cX3_sheet 61 = .ok (.getfield 34, 3) := by decide +kernel
theorem dX3_sheet_64 : decode cX3_sheet 64 = .ok (.iload_n 1, 1) := by decide +kernel
theorem dX3_sheet_65 : decode cX3_sheet 65 = .ok (.aaload, 1) := by decide +kernel
theorem dX3_sheet_66 : decode cX3_sheet 66 = .ok (.iload_n 2, 1) := by decide +kernel
theorem dX3_sheet_67 : decode cX3_sheet 67 = .ok (.iload_n 3, 1) := by decide +kernel
theorem dX3_sheet_68 : decode cX3_sheet 68 = .ok (.invokevirtual 231, 3) := by decide +kernel
theorem dX3_sheet_71 : decode cX3_sheet 71 = .ok (.ireturn, 1) := by decide +kernel
theorem dX3_write_0 : decode cX3_write 0 = .ok (.iload_n 1, 1) := by decide +kernel
theorem dX3_write_1 : decode cX3_write 1 = .ok (.invokestatic 228, 3) := by decide +kernel
theorem dX3_write_4 : decode cX3_write 4 = .ok (.ifCond .ne 11, 3) := by decide +kernel
theorem dX3_write_7 : decode cX3_write 7 = .ok (.aload_n 0, 1) := by decide +kernel
theorem dX3_write_8 : decode cX3_write 8 = .ok (.ldc 55, 2) := by decide +kernel
theorem dX3_write_10 : decode cX3_write 10 = .ok (.invokevirtual 56, 3) := by decide +kernel
theorem dX3_write_13 : decode cX3_write 13 = .ok (.i2l, 1) := by decide +kernel
theorem dX3_write_14 : decode cX3_write 14 = .ok (.lreturn, 1) := by decide +kernel
theorem dX3_write_15 : decode cX3_write 15 = .ok (.aload_n 0, 1) := by decide +kernel
theorem dX3_write_16 : decode cX3_write 16 = .ok (.getfield 34, 3) := by decide +kernel
theorem dX3_write_19 : decode cX3_write 19 = .ok (.iload_n 1, 1) := by decide +kernel
theorem dX3_write_20 : decode cX3_write 20 = .ok (.aaload, 1) := by decide +kernel
theorem dX3_write_21 : decode cX3_write 21 = .ok (.astore 5, 2) := by decide +kernel
theorem dX3_write_23 : decode cX3_write 23 = .ok (.aload 5, 2) := by decide +kernel
theorem dX3_write_25 : decode cX3_write 25 = .ok (.invokevirtual 234, 3) := by decide +kernel
theorem dX3_write_28 : decode cX3_write 28 = .ok (.ifCond .eq 11, 3) := by decide +kernel
theorem dX3_write_31 : decode cX3_write 31 = .ok (.aload_n 0, 1) := by decide +kernel
theorem dX3_write_32 : decode cX3_write 32 = .ok (.ldc 237, 2) := by decide +kernel
theorem dX3_write_34 : decode cX3_write 34 = .ok (.invokevirtual 56, 3) := by decide +kernel
theorem dX3_write_37 : decode cX3_write 37 = .ok (.i2l, 1) := by decide +kernel
theorem dX3_write_38 : decode cX3_write 38 = .ok (.lreturn, 1) := by decide +kernel
theorem dX3_write_39 : decode cX3_write 39 = .ok (.iload_n 2, 1) := by decide +kernel
theorem dX3_write_40 : decode cX3_write 40 = .ok (.iconst 0, 1) := by decide +kernel
theorem dX3_write_41 : decode cX3_write 41 = .ok (.aload 5, 2) := by decide +kernel
theorem dX3_write_43 : decode cX3_write 43 = .ok (.getfield 238, 3) := by decide +kernel
theorem dX3_write_46 : decode cX3_write 46 = .ok (.iconst 1, 1) := by decide +kernel
theorem dX3_write_47 : decode cX3_write 47 = .ok (.isub, 1) := by decide +kernel
theorem dX3_write_48 : decode cX3_write 48 = .ok (.invokestatic 51, 3) := by decide +kernel
theorem dX3_write_51 : decode cX3_write 51 = .ok (.ifCond .ne 11, 3) := by decide +kernel
theorem dX3_write_54 : decode cX3_write 54 = .ok (.aload_n 0, 1) := by decide +kernel
theorem dX3_write_55 : decode cX3_write 55 = .ok (.ldc 55, 2) := by decide +kernel
theorem dX3_write_57 : decode cX3_write 57 = .ok (.invokevirtual 56, 3) := by decide +kernel
theorem dX3_write_60 : decode cX3_write 60 = .ok (.i2l, 1) := by decide +kernel
theorem dX3_write_61 : decode cX3_write 61 = .ok (.lreturn, 1) := by decide +kernel
theorem dX3_write_62 : decode cX3_write 62 = .ok (.aload 5, 2) := by decide +kernel
theorem dX3_write_64 : decode cX3_write 64 = .ok (.getfield 239, 3) := by decide +kernel
theorem dX3_write_67 : decode cX3_write 67 = .ok (.iload_n 2, 1) := by decide +kernel
theorem dX3_write_68 : decode cX3_write 68 = .ok (.laload, 1) := by decide +kernel
theorem dX3_write_69 : decode cX3_write 69 = .ok (.lstore 6, 2) := by decide +kernel
theorem dX3_write_71 : decode cX3_write 71 = .ok (.aload 5, 2) := by decide +kernel
theorem dX3_write_73 : decode cX3_write 73 = .ok (.iload_n 2, 1) := by decide +kernel
theorem dX3_write_74 : decode cX3_write 74 = .ok (.lload_n 3, 1) := by decide +kernel
theorem dX3_write_75 : decode cX3_write 75 = .ok (.invokevirtual 243, 3) := by decide +kernel
theorem dX3_write_78 : decode cX3_write 78 = .ok (.lload 6, 2) := by decide +kernel
theorem dX3_write_80 : decode cX3_write 80 = .ok (.lreturn, 1) := by decide +kernel
theorem dX3_copy_0 : decode cX3_copy 0 = .ok (.iload_n 1, 1) := by decide +kernel
theorem dX3_copy_1 : decode cX3_copy 1 = .ok (.invokestatic 228, 3) := by decide +kernel
theorem dX3_copy_4 : decode cX3_copy 4 = .ok (.ifCond .eq 10, 3) := by decide +kernel
theorem dX3_copy_7 : decode cX3_copy 7 = .ok (.iload_n 3, 1) := by decide +kernel
theorem dX3_copy_8 : decode cX3_copy 8 = .ok (.invokestatic 228, 3) := by decide +kernel
theorem dX3_copy_11 : decode cX3_copy 11 = .ok (.ifCond .ne 10, 3) := by decide +kernel
theorem dX3_copy_14 : decode cX3_copy 14 = .ok (.aload_n 0, 1) := by decide +kernel
theorem dX3_copy_15 : decode cX3_copy 15 = .ok (.ldc 55, 2) := by decide +kernel
theorem dX3_copy_17 : decode cX3_copy 17 = .ok (.invokevirtual 56, 3) := by decide +kernel
theorem dX3_copy_20 : decode cX3_copy 20 = .ok (.ireturn, 1) := by decide +kernel
theorem dX3_copy_21 : decode cX3_copy 21 = .ok (.aload_n 0, 1) := by decide +kernel
theorem dX3_copy_22 : decode cX3_copy 22 = .ok (.getfield 34, 3) := by decide +kernel
theorem dX3_copy_25 : decode cX3_copy 25 = .ok (.iload_n 1, 1) := by decide +kernel
theorem dX3_copy_26 : decode cX3_copy 26 = .ok (.aaload, 1) := by decide +kernel
theorem dX3_copy_27 : decode cX3_copy 27 = .ok (.astore 6, 2) := by decide +kernel
theorem dX3_copy_29 : decode cX3_copy 29 = .ok (.aload_n 0, 1) := by decide +kernel
theorem dX3_copy_30 : decode cX3_copy 30 = .ok (.getfield 34, 3) := by decide +kernel
theorem dX3_copy_33 : decode cX3_copy 33 = .ok (.iload_n 3, 1) := by decide +kernel
theorem dX3_copy_34 : decode cX3_copy 34 = .ok (.aaload, 1) := by decide +kernel
theorem dX3_copy_35 : decode cX3_copy 35 = .ok (.astore 7, 2) := by decide +kernel
theorem dX3_copy_37 : decode cX3_copy 37 = .ok (.aload 6, 2) := by decide +kernel
theorem dX3_copy_39 : decode cX3_copy 39 = .ok (.invokevirtual 234, 3) := by decide +kernel
theorem dX3_copy_42 : decode cX3_copy 42 = .ok (.ifCond .ne 11, 3) := by decide +kernel
theorem dX3_copy_45 : decode cX3_copy 45 = .ok (.aload 7, 2) := by decide +kernel
theorem dX3_copy_47 : decode cX3_copy 47 = .ok (.invokevirtual 234, 3) := by decide +kernel
theorem dX3_copy_50 : decode cX3_copy 50 = .ok (.ifCond .eq 10, 3) := by decide +kernel
theorem dX3_copy_53 : decode cX3_copy 53 = .ok (.aload_n 0, 1) := by decide +kernel
theorem dX3_copy_54 : decode cX3_copy 54 = .ok (.ldc 237, 2) := by decide +kernel
theorem dX3_copy_56 : decode cX3_copy 56 = .ok (.invokevirtual 56, 3) := by decide +kernel
theorem dX3_copy_59 : decode cX3_copy 59 = .ok (.ireturn, 1) := by decide +kernel
theorem dX3_copy_60 : decode cX3_copy 60 = .ok (.aload 6, 2) := by decide +kernel
theorem dX3_copy_62 : decode cX3_copy 62 = .ok (.getfield 247, 3) := by decide +kernel
theorem dX3_copy_65 : decode cX3_copy 65 = .ok (.aload 7, 2) := by decide +kernel
theorem dX3_copy_67 : decode cX3_copy 67 = .ok (.getfield 247, 3) := by decide +kernel
theorem dX3_copy_70 : decode cX3_copy 70 = .ok (.if_icmp .eq 10, 3) := by decide +kernel
theorem dX3_copy_73 : decode cX3_copy 73 = .ok (.aload_n 0, 1) := by decide +kernel
theorem dX3_copy_74 : decode cX3_copy 74 = .ok (.ldc 114, 2) := by decide +kernel
theorem dX3_copy_76 : decode cX3_copy 76 = .ok (.invokevirtual 56, 3) := by decide +kernel
theorem dX3_copy_79 : decode cX3_copy 79 = .ok (.ireturn, 1) := by decide +kernel
theorem dX3_copy_80 : decode cX3_copy 80 = .ok (.aload 6, 2) := by decide +kernel
theorem dX3_copy_82 : decode cX3_copy 82 = .ok (.iload_n 2, 1) := by decide +kernel
theorem dX3_copy_83 : decode cX3_copy 83 = .ok (.iload 5, 2) := by decide +kernel
theorem dX3_copy_85 : decode cX3_copy 85 = .ok (.invokevirtual 250, 3) := by decide +kernel
theorem dX3_copy_88 : decode cX3_copy 88 = .ok (.ifCond .eq 15, 3) := by decide +kernel
theorem dX3_copy_91 : decode cX3_copy 91 = .ok (.aload 7, 2) := by decide +kernel
theorem dX3_copy_93 : decode cX3_copy 93 = .ok (.iload 4, 2) := by decide +kernel
theorem dX3_copy_95 : decode cX3_copy 95 = .ok (.iload 5, 2) := by decide +kernel
theorem dX3_copy_97 : decode cX3_copy 97 = .ok (.invokevirtual 250, 3) := by decide +kernel
theorem dX3_copy_100 : decode cX3_copy 100 = .ok (.ifCond .ne 10, 3) := by decide +kernel
theorem dX3_copy_103 : decode cX3_copy 103 = .ok (.aload_n 0, 1) := by decide +kernel
theorem dX3_copy_104 : decode cX3_copy 104 = .ok (.ldc 55, 2) := by decide +kernel
theorem dX3_copy_106 : decode cX3_copy 106 = .ok (.invokevirtual 56, 3) := by decide +kernel
theorem dX3_copy_109 : decode cX3_copy 109 = .ok (.ireturn, 1) := by decide +kernel
theorem dX3_copy_110 : decode cX3_copy 110 = .ok (.aload 6, 2) := by decide +kernel
theorem dX3_copy_112 : decode cX3_copy 112 = .ok (.getfield 239, 3) := by decide +kernel
theorem dX3_copy_115 : decode cX3_copy 115 = .ok (.iload_n 2, 1) := by decide +kernel
theorem dX3_copy_116 : decode cX3_copy 116 = .ok (.aload 7, 2) := by decide +kernel
theorem dX3_copy_118 : decode cX3_copy 118 = .ok (.getfield 239, 3) := by decide +kernel
theorem dX3_copy_121 : decode cX3_copy 121 = .ok (.iload 4, 2) := by decide +kernel
theorem dX3_copy_123 : decode cX3_copy 123 = .ok (.iload 5, 2) := by decide +kernel
theorem dX3_copy_125 : decode cX3_copy 125 = .ok (.invokestatic 253, 3) := by decide +kernel
theorem dX3_copy_128 : decode cX3_copy 128 = .ok (.iload 5, 2) := by decide +kernel
theorem dX3_copy_130 : decode cX3_copy 130 = .ok (.ireturn, 1) := by decide +kernel
theorem dX3_lays_0 : decode cX3_lays 0 = .ok (.iload_n 1, 1) := by decide +kernel
theorem dX3_lays_1 : decode cX3_lays 1 = .ok (.invokestatic 228, 3) := by decide +kernel
theorem dX3_lays_4 : decode cX3_lays 4 = .ok (.ifCond .ne 10, 3) := by decide +kernel
theorem dX3_lays_7 : decode cX3_lays 7 = .ok (.aload_n 0, 1) := by decide +kernel
theorem dX3_lays_8 : decode cX3_lays 8 = .ok (.ldc 55, 2) := by decide +kernel
theorem dX3_lays_10 : decode cX3_lays 10 = .ok (.invokevirtual 56, 3) := by decide +kernel
theorem dX3_lays_13 : decode cX3_lays 13 = .ok (.ireturn, 1) := by decide +kernel
theorem dX3_lays_14 : decode cX3_lays 14 = .ok (.aload_n 0, 1) := by decide +kernel
theorem dX3_lays_15 : decode cX3_lays 15 = .ok (.getfield 34, 3) := by decide +kernel
theorem dX3_lays_18 : decode cX3_lays 18 = .ok (.iload_n 1, 1) := by decide +kernel
theorem dX3_lays_19 : decode cX3_lays 19 = .ok (.aaload, 1) := by decide +kernel
theorem dX3_lays_20 : decode cX3_lays 20 = .ok (.astore_n 2, 1) := by decide +kernel
theorem dX3_lays_21 : decode cX3_lays 21 = .ok (.aload_n 2, 1) := by decide +kernel
theorem dX3_lays_22 : decode cX3_lays 22 = .ok (.invokevirtual 234, 3) := by decide +kernel
theorem dX3_lays_25 : decode cX3_lays 25 = .ok (.ifCond .eq 10, 3) := by decide +kernel
theorem dX3_lays_28 : decode cX3_lays 28 = .ok (.aload_n 0, 1) := by decide +kernel
theorem dX3_lays_29 : decode cX3_lays 29 = .ok (.ldc 237, 2) := by decide +kernel
theorem dX3_lays_31 : decode cX3_lays 31 = .ok (.invokevirtual 56, 3) := by decide +kernel
theorem dX3_lays_34 : decode cX3_lays 34 = .ok (.ireturn, 1) := by decide +kernel
theorem dX3_lays_35 : decode cX3_lays 35 = .ok (.iconst 0, 1) := by decide +kernel
theorem dX3_lays_36 : decode cX3_lays 36 = .ok (.istore_n 3, 1) := by decide +kernel
theorem dX3_lays_37 : decode cX3_lays 37 = .ok (.iconst 0, 1) := by decide +kernel
theorem dX3_lays_38 : decode cX3_lays 38 = .ok (.istore 4, 2) := by decide +kernel
theorem dX3_lays_40 : decode cX3_lays 40 = .ok (.iload 4, 2) := by decide +kernel
theorem dX3_lays_42 : decode cX3_lays 42 = .ok (.aload_n 2, 1) := by decide +kernel
theorem dX3_lays_43 : decode cX3_lays 43 = .ok (.getfield 238, 3) := by decide +kernel
theorem dX3_lays_46 : decode cX3_lays 46 = .ok (.if_icmp .ge 57, 3) := by decide +kernel
theorem dX3_lays_49 : decode cX3_lays 49 = .ok (.iload 4, 2) := by decide +kernel
theorem dX3_lays_51 : decode cX3_lays 51 = .ok (.bipush 12, 2) := by decide +kernel
theorem dX3_lays_53 : decode cX3_lays 53 = .ok (.if_icmp .ge 50, 3) := by decide +kernel
theorem dX3_lays_56 : decode cX3_lays 56 = .ok (.aload_n 2, 1) := by decide +kernel
theorem dX3_lays_57 : decode cX3_lays 57 = .ok (.getfield 239, 3) := by decide +kernel
theorem dX3_lays_60 : decode cX3_lays 60 = .ok (.iload 4, 2) := by decide +kernel
theorem dX3_lays_62 : decode cX3_lays 62 = .ok (.laload, 1) := by decide +kernel
theorem dX3_lays_63 : decode cX3_lays 63 = .ok (.lstore 5, 2) := by decide +kernel
theorem dX3_lays_65 : decode cX3_lays 65 = .ok (.lload 5, 2) := by decide +kernel
theorem dX3_lays_67 : decode cX3_lays 67 = .ok (.lconst 0, 1) := by decide +kernel
theorem dX3_lays_68 : decode cX3_lays 68 = .ok (.lcmp, 1) := by decide +kernel
theorem dX3_lays_69 : decode cX3_lays 69 = .ok (.ifCond .lt 28, 3) := by decide +kernel
theorem dX3_lays_72 : decode cX3_lays 72 = .ok (.lload 5, 2) := by decide +kernel
theorem dX3_lays_74 : decode cX3_lays 74 = .ok (.ldc2_w 259, 3) := by decide +kernel
theorem dX3_lays_77 : decode cX3_lays 77 = .ok (.lcmp, 1) := by decide +kernel
theorem dX3_lays_78 : decode cX3_lays 78 = .ok (.ifCond .gt 19, 3) := by decide +kernel
theorem dX3_lays_81 : decode cX3_lays 81 = .ok (.aload_n 0, 1) := by decide +kernel
theorem dX3_lays_82 : decode cX3_lays 82 = .ok (.getfield 10, 3) := by decide +kernel
theorem dX3_lays_85 : decode cX3_lays 85 = .ok (.getfield 63, 3) := by decide +kernel
theorem dX3_lays_88 : decode cX3_lays 88 = .ok (.iload 4, 2) := by decide +kernel
theorem dX3_lays_90 : decode cX3_lays 90 = .ok (.lload 5, 2) := by decide +kernel
theorem dX3_lays_92 : decode cX3_lays 92 = .ok (.l2i, 1) := by decide +kernel
theorem dX3_lays_93 : decode cX3_lays 93 = .ok (.iastore, 1) := by decide +kernel
theorem dX3_lays_94 : decode cX3_lays 94 = .ok (.iinc 3 1, 3) := by decide +kernel
theorem dX3_lays_97 : decode cX3_lays 97 = .ok (.iinc 4 1, 3) := by decide +kernel
theorem dX3_lays_100 : decode cX3_lays 100 = .ok (.goto (-60), 3) := by decide +kernel
theorem dX3_lays_103 : decode cX3_lays 103 = .ok (.iload_n 3, 1) := by decide +kernel
theorem dX3_lays_104 : decode cX3_lays 104 = .ok (.ireturn, 1) := by decide +kernel
theorem dX3_book_0 : decode cX3_book 0 = .ok (.iload_n 1, 1) := by decide +kernel
theorem dX3_book_1 : decode cX3_book 1 = .ok (.invokestatic 228, 3) := by decide +kernel
theorem dX3_book_4 : decode cX3_book 4 = .ok (.ifCond .ne 10, 3) := by decide +kernel
theorem dX3_book_7 : decode cX3_book 7 = .ok (.aload_n 0, 1) := by decide +kernel
theorem dX3_book_8 : decode cX3_book 8 = .ok (.ldc 55, 2) := by decide +kernel
theorem dX3_book_10 : decode cX3_book 10 = .ok (.invokevirtual 56, 3) := by decide +kernel
theorem dX3_book_13 : decode cX3_book 13 = .ok (.ireturn, 1) := by decide +kernel
theorem dX3_book_14 : decode cX3_book 14 = .ok (.aload_n 0, 1) := by decide +kernel
theorem dX3_book_15 : decode cX3_book 15 = .ok (.getfield 34, 3) := by decide +kernel
theorem dX3_book_18 : decode cX3_book 18 = .ok (.iload_n 1, 1) := by decide +kernel
theorem dX3_book_19 : decode cX3_book 19 = .ok (.aaload, 1) := by decide +kernel
theorem dX3_book_20 : decode cX3_book 20 = .ok (.astore_n 3, 1) := by decide +kernel
theorem dX3_book_21 : decode cX3_book 21 = .ok (.aload_n 3, 1) := by decide +kernel
theorem dX3_book_22 : decode cX3_book 22 = .ok (.invokevirtual 234, 3) := by decide +kernel
theorem dX3_book_25 : decode cX3_book 25 = .ok (.ifCond .eq 10, 3) := by decide +kernel
theorem dX3_book_28 : decode cX3_book 28 = .ok (.aload_n 0, 1) := by decide +kernel
theorem dX3_book_29 : decode cX3_book 29 = .ok (.ldc 237, 2) := by decide +kernel
theorem dX3_book_31 : decode cX3_book 31 = .ok (.invokevirtual 56, 3) := by decide +kernel
theorem dX3_book_34 : decode cX3_book 34 = .ok (.ireturn, 1) := by decide +kernel
theorem dX3_book_35 : decode cX3_book 35 = .ok (.iload_n 2, 1) := by decide +kernel
theorem dX3_book_36 : decode cX3_book 36 = .ok (.iconst 0, 1) := by decide +kernel
theorem dX3_book_37 : decode cX3_book 37 = .ok (.bipush 120, 2) := by decide +kernel
theorem dX3_book_39 : decode cX3_book 39 = .ok (.invokestatic 51, 3) := by decide +kernel
theorem dX3_book_42 : decode cX3_book 42 = .ok (.ifCond .ne 10, 3) := by decide +kernel
theorem dX3_book_45 : decode cX3_book 45 = .ok (.aload_n 0, 1) := by decide +kernel
theorem dX3_book_46 : decode cX3_book 46 = .ok (.ldc 55, 2) := by decide +kernel
theorem dX3_book_48 : decode cX3_book 48 = .ok (.invokevirtual 56, 3) := by decide +kernel
theorem dX3_book_51 : decode cX3_book 51 = .ok (.ireturn, 1) := by decide +kernel
theorem dX3_book_52 : decode cX3_book 52 = .ok (.aload_n 0, 1) := by decide +kernel
theorem dX3_book_53 : decode cX3_book 53 = .ok (.iload_n 2, 1) := by decide +kernel
theorem dX3_book_54 : decode cX3_book 54 = .ok (.invokevirtual 143, 3) := by decide +kernel
theorem dX3_book_57 : decode cX3_book 57 = .ok (.ifCond .eq 10, 3) := by decide +kernel
theorem dX3_book_60 : decode cX3_book 60 = .ok (.aload_n 0, 1) := by decide +kernel
theorem dX3_book_61 : decode cX3_book 61 = .ok (.ldc 123, 2) := by decide +kernel
theorem dX3_book_63 : decode cX3_book 63 = .ok (.invokevirtual 56, 3) := by decide +kernel
theorem dX3_book_66 : decode cX3_book 66 = .ok (.ireturn, 1) := by decide +kernel
theorem dX3_book_67 : decode cX3_book 67 = .ok (.aload_n 0, 1) := by decide +kernel
theorem dX3_book_68 : decode cX3_book 68 = .ok (.getfield 19, 3) := by decide +kernel
theorem dX3_book_71 : decode cX3_book 71 = .ok (.aload_n 0, 1) := by decide +kernel
theorem dX3_book_72 : decode cX3_book 72 = .ok (.getfield 10, 3) := by decide +kernel
theorem dX3_book_75 : decode cX3_book 75 = .ok (.invokevirtual 183, 3) := by decide +kernel
theorem dX3_book_78 : decode cX3_book 78 = .ok (.aload_n 0, 1) := by decide +kernel
theorem dX3_book_79 : decode cX3_book 79 = .ok (.getfield 19, 3) := by decide +kernel
theorem dX3_book_82 : decode cX3_book 82 = .ok (.iload_n 2, 1) := by decide +kernel
theorem dX3_book_83 : decode cX3_book 83 = .ok (.invokevirtual 187, 3) := by decide +kernel
theorem dX3_book_86 : decode cX3_book 86 = .ok (.aload_n 0, 1) := by decide +kernel
theorem dX3_book_87 : decode cX3_book 87 = .ok (.getfield 19, 3) := by decide +kernel
theorem dX3_book_90 : decode cX3_book 90 = .ok (.getfield 69, 3) := by decide +kernel
theorem dX3_book_93 : decode cX3_book 93 = .ok (.aload_n 3, 1) := by decide +kernel
theorem dX3_book_94 : decode cX3_book 94 = .ok (.getfield 238, 3) := by decide +kernel
theorem dX3_book_97 : decode cX3_book 97 = .ok (.invokestatic 261, 3) := by decide +kernel
theorem dX3_book_100 : decode cX3_book 100 = .ok (.istore 4, 2) := by decide +kernel
theorem dX3_book_102 : decode cX3_book 102 = .ok (.iconst 0, 1) := by decide +kernel
theorem dX3_book_103 : decode cX3_book 103 = .ok (.istore 5, 2) := by decide +kernel
theorem dX3_book_105 : decode cX3_book 105 = .ok (.iload 5, 2) := by decide +kernel
theorem dX3_book_107 : decode cX3_book 107 = .ok (.iload 4, 2) := by decide +kernel
theorem dX3_book_109 : decode cX3_book 109 = .ok (.if_icmp .ge 25, 3) := by decide +kernel
theorem dX3_book_112 : decode cX3_book 112 = .ok (.aload_n 3, 1) := by decide +kernel
theorem dX3_book_113 : decode cX3_book 113 = .ok (.iload 5, 2) := by decide +kernel
theorem dX3_book_115 : decode cX3_book 115 = .ok (.aload_n 0, 1) := by decide +kernel
theorem dX3_book_116 : decode cX3_book 116 = .ok (.getfield 19, 3) := by decide +kernel
theorem dX3_book_119 : decode cX3_book 119 = .ok (.iload 5, 2) := by decide +kernel
theorem dX3_book_121 : decode cX3_book 121 = .ok (.invokevirtual 93, 3) := by decide +kernel
theorem dX3_book_124 : decode cX3_book 124 = .ok (.i2l, 1) := by decide +kernel
theorem dX3_book_125 : decode cX3_book 125 = .ok (.invokevirtual 243, 3) := by decide +kernel
theorem dX3_book_128 : decode cX3_book 128 = .ok (.iinc 5 1, 3) := by decide +kernel
theorem dX3_book_131 : decode cX3_book 131 = .ok (.goto (-26), 3) := by decide +kernel
theorem dX3_book_134 : decode cX3_book 134 = .ok (.iload 4, 2) := by decide +kernel
theorem dX3_book_136 : decode cX3_book 136 = .ok (.ireturn, 1) := by decide +kernel
theorem dX3_read_0 : decode cX3_read 0 = .ok (.iload_n 1, 1) := by decide +kernel
theorem dX3_read_1 : decode cX3_read 1 = .ok (.invokestatic 228, 3) := by decide +kernel
theorem dX3_read_4 : decode cX3_read 4 = .ok (.ifCond .ne 10, 3) := by decide +kernel
theorem dX3_read_7 : decode cX3_read 7 = .ok (.aload_n 0, 1) := by decide +kernel
theorem dX3_read_8 : decode cX3_read 8 = .ok (.ldc 55, 2) := by decide +kernel
theorem dX3_read_10 : decode cX3_read 10 = .ok (.invokevirtual 56, 3) := by decide +kernel
theorem dX3_read_13 : decode cX3_read 13 = .ok (.ireturn, 1) := by decide +kernel
theorem dX3_read_14 : decode cX3_read 14 = .ok (.aload_n 0, 1) := by decide +kernel
theorem dX3_read_15 : decode cX3_read 15 = .ok (.getfield 34, 3) := by decide +kernel
theorem dX3_read_18 : decode cX3_read 18 = .ok (.iload_n 1, 1) := by decide +kernel
theorem dX3_read_19 : decode cX3_read 19 = .ok (.aaload, 1) := by decide +kernel
theorem dX3_read_20 : decode cX3_read 20 = .ok (.astore_n 3, 1) := by decide +kernel
theorem dX3_read_21 : decode cX3_read 21 = .ok (.aload_n 3, 1) := by decide +kernel
theorem dX3_read_22 : decode cX3_read 22 = .ok (.invokevirtual 234, 3) := by decide +kernel
theorem dX3_read_25 : decode cX3_read 25 = .ok (.ifCond .eq 10, 3) := by decide +kernel
theorem dX3_read_28 : decode cX3_read 28 = .ok (.aload_n 0, 1) := by decide +kernel
theorem dX3_read_29 : decode cX3_read 29 = .ok (.ldc 237, 2) := by decide +kernel
theorem dX3_read_31 : decode cX3_read 31 = .ok (.invokevirtual 56, 3) := by decide +kernel
theorem dX3_read_34 : decode cX3_read 34 = .ok (.ireturn, 1) := by decide +kernel
theorem dX3_read_35 : decode cX3_read 35 = .ok (.iload_n 2, 1) := by decide +kernel
theorem dX3_read_36 : decode cX3_read 36 = .ok (.invokestatic 47, 3) := by decide +kernel
theorem dX3_read_39 : decode cX3_read 39 = .ok (.ifCond .ne 10, 3) := by decide +kernel
theorem dX3_read_42 : decode cX3_read 42 = .ok (.aload_n 0, 1) := by decide +kernel
theorem dX3_read_43 : decode cX3_read 43 = .ok (.ldc 55, 2) := by decide +kernel
theorem dX3_read_45 : decode cX3_read 45 = .ok (.invokevirtual 56, 3) := by decide +kernel
theorem dX3_read_48 : decode cX3_read 48 = .ok (.ireturn, 1) := by decide +kernel
theorem dX3_read_49 : decode cX3_read 49 = .ok (.aload_n 0, 1) := by decide +kernel
theorem dX3_read_50 : decode cX3_read 50 = .ok (.bipush 40, 2) := by decide +kernel
theorem dX3_read_52 : decode cX3_read 52 = .ok (.invokevirtual 143, 3) := by decide +kernel
theorem dX3_read_55 : decode cX3_read 55 = .ok (.ifCond .eq 10, 3) := by decide +kernel
theorem dX3_read_58 : decode cX3_read 58 = .ok (.aload_n 0, 1) := by decide +kernel
theorem dX3_read_59 : decode cX3_read 59 = .ok (.ldc 123, 2) := by decide +kernel
theorem dX3_read_61 : decode cX3_read 61 = .ok (.invokevirtual 56, 3) := by decide +kernel
theorem dX3_read_64 : decode cX3_read 64 = .ok (.ireturn, 1) := by decide +kernel
theorem dX3_read_65 : decode cX3_read 65 = .ok (.aload_n 0, 1) := by decide +kernel
theorem dX3_read_66 : decode cX3_read 66 = .ok (.getfield 19, 3) := by decide +kernel
theorem dX3_read_69 : decode cX3_read 69 = .ok (.aload_n 0, 1) := by decide +kernel
theorem dX3_read_70 : decode cX3_read 70 = .ok (.getfield 10, 3) := by decide +kernel
theorem dX3_read_73 : decode cX3_read 73 = .ok (.invokevirtual 183, 3) := by decide +kernel
theorem dX3_read_76 : decode cX3_read 76 = .ok (.iconst 0, 1) := by decide +kernel
theorem dX3_read_77 : decode cX3_read 77 = .ok (.istore 4, 2) := by decide +kernel
theorem dX3_read_79 : decode cX3_read 79 = .ok (.iload 4, 2) := by decide +kernel
theorem dX3_read_81 : decode cX3_read 81 = .ok (.aload_n 3, 1) := by decide +kernel
theorem dX3_read_82 : decode cX3_read 82 = .ok (.getfield 238, 3) := by decide +kernel
theorem dX3_read_85 : decode cX3_read 85 = .ok (.if_icmp .ge 42, 3) := by decide +kernel
theorem dX3_read_88 : decode cX3_read 88 = .ok (.aload_n 3, 1) := by decide +kernel
theorem dX3_read_89 : decode cX3_read 89 = .ok (.getfield 239, 3) := by decide +kernel
theorem dX3_read_92 : decode cX3_read 92 = .ok (.iload 4, 2) := by decide +kernel
theorem dX3_read_94 : decode cX3_read 94 = .ok (.laload, 1) := by decide +kernel
theorem dX3_read_95 : decode cX3_read 95 = .ok (.aload_n 0, 1) := by decide +kernel
theorem dX3_read_96 : decode cX3_read 96 = .ok (.getfield 19, 3) := by decide +kernel
theorem dX3_read_99 : decode cX3_read 99 = .ok (.iload_n 2, 1) := by decide +kernel
theorem dX3_read_100 : decode cX3_read 100 = .ok (.invokevirtual 124, 3) := by decide +kernel
theorem dX3_read_103 : decode cX3_read 103 = .ok (.i2l, 1) := by decide +kernel
theorem dX3_read_104 : decode cX3_read 104 = .ok (.lcmp, 1) := by decide +kernel
theorem dX3_read_105 : decode cX3_read 105 = .ok (.ifCond .eq 8, 3) := by decide +kernel
theorem dX3_read_108 : decode cX3_read 108 = .ok (.iconst 1, 1) := by decide +kernel
theorem dX3_read_109 : decode cX3_read 109 = .ok (.iload 4, 2) := by decide +kernel
theorem dX3_read_111 : decode cX3_read 111 = .ok (.iadd, 1) := by decide +kernel
theorem dX3_read_112 : decode cX3_read 112 = .ok (.ireturn, 1) := by decide +kernel
theorem dX3_read_113 : decode cX3_read 113 = .ok (.aload_n 0, 1) := by decide +kernel
theorem dX3_read_114 : decode cX3_read 114 = .ok (.getfield 19, 3) := by decide +kernel
theorem dX3_read_117 : decode cX3_read 117 = .ok (.iconst 1, 1) := by decide +kernel
theorem dX3_read_118 : decode cX3_read 118 = .ok (.invokevirtual 173, 3) := by decide +kernel
theorem dX3_read_121 : decode cX3_read 121 = .ok (.iinc 4 1, 3) := by decide +kernel
theorem dX3_read_124 : decode cX3_read 124 = .ok (.goto (-45), 3) := by decide +kernel
theorem dX3_read_127 : decode cX3_read 127 = .ok (.iconst 0, 1) := by decide +kernel
theorem dX3_read_128 : decode cX3_read 128 = .ok (.ireturn, 1) := by decide +kernel
theorem dX3_image_0 : decode cX3_image 0 = .ok (.aload_n 0, 1) := by decide +kernel
theorem dX3_image_1 : decode cX3_image 1 = .ok (.getfield 16, 3) := by decide +kernel
theorem dX3_image_4 : decode cX3_image 4 = .ok (.aload_n 0, 1) := by decide +kernel
theorem dX3_image_5 : decode cX3_image 5 = .ok (.getfield 10, 3) := by decide +kernel
theorem dX3_image_8 : decode cX3_image 8 = .ok (.invokevirtual 183, 3) := by decide +kernel
theorem dX3_image_11 : decode cX3_image 11 = .ok (.aload_n 0, 1) := by decide +kernel
theorem dX3_image_12 : decode cX3_image 12 = .ok (.iconst 1, 1) := by decide +kernel
theorem dX3_image_13 : decode cX3_image 13 = .ok (.putfield 43, 3) := by decide +kernel
theorem dX3_image_16 : decode cX3_image 16 = .ok (.iconst 1, 1) := by decide +kernel
theorem dX3_image_17 : decode cX3_image 17 = .ok (.ireturn, 1) := by decide +kernel
theorem dX3_undo_0 : decode cX3_undo 0 = .ok (.aload_n 0, 1) := by decide +kernel
theorem dX3_undo_1 : decode cX3_undo 1 = .ok (.getfield 43, 3) := by decide +kernel
theorem dX3_undo_4 : decode cX3_undo 4 = .ok (.ifCond .ne 10, 3) := by decide +kernel
theorem dX3_undo_7 : decode cX3_undo 7 = .ok (.aload_n 0, 1) := by decide +kernel
theorem dX3_undo_8 : decode cX3_undo 8 = .ok (.ldc 193, 2) := by decide +kernel
theorem dX3_undo_10 : decode cX3_undo 10 = .ok (.invokevirtual 56, 3) := by decide +kernel
theorem dX3_undo_13 : decode cX3_undo 13 = .ok (.ireturn, 1) := by decide +kernel
theorem dX3_undo_14 : decode cX3_undo 14 = .ok (.aload_n 0, 1) := by decide +kernel
theorem dX3_undo_15 : decode cX3_undo 15 = .ok (.getfield 10, 3) := by decide +kernel
theorem dX3_undo_18 : decode cX3_undo 18 = .ok (.aload_n 0, 1) := by decide +kernel
theorem dX3_undo_19 : decode cX3_undo 19 = .ok (.getfield 16, 3) := by decide +kernel
theorem dX3_undo_22 : decode cX3_undo 22 = .ok (.invokevirtual 183, 3) := by decide +kernel
theorem dX3_undo_25 : decode cX3_undo 25 = .ok (.aload_n 0, 1) := by decide +kernel
theorem dX3_undo_26 : decode cX3_undo 26 = .ok (.getfield 10, 3) := by decide +kernel
theorem dX3_undo_29 : decode cX3_undo 29 = .ok (.getfield 69, 3) := by decide +kernel
theorem dX3_undo_32 : decode cX3_undo 32 = .ok (.ireturn, 1) := by decide +kernel
theorem dX3_tear_0 : decode cX3_tear 0 = .ok (.aload_n 0, 1) := by decide +kernel
theorem dX3_tear_1 : decode cX3_tear 1 = .ok (.getfield 43, 3) := by decide +kernel
theorem dX3_tear_4 : decode cX3_tear 4 = .ok (.ifCond .eq 7, 3) := by decide +kernel
theorem dX3_tear_7 : decode cX3_tear 7 = .ok (.iconst 1, 1) := by decide +kernel
theorem dX3_tear_8 : decode cX3_tear 8 = .ok (.goto 4, 3) := by decide +kernel
theorem dX3_tear_11 : decode cX3_tear 11 = .ok (.iconst 0, 1) := by decide +kernel
theorem dX3_tear_12 : decode cX3_tear 12 = .ok (.istore_n 1, 1) := by decide +kernel
theorem dX3_tear_13 : decode cX3_tear 13 = .ok (.aload_n 0, 1) := by decide +kernel
theorem dX3_tear_14 : decode cX3_tear 14 = .ok (.iconst 0, 1) := by decide +kernel
theorem dX3_tear_15 : decode cX3_tear 15 = .ok (.putfield 43, 3) := by decide +kernel
theorem dX3_tear_18 : decode cX3_tear 18 = .ok (.iload_n 1, 1) := by decide +kernel
theorem dX3_tear_19 : decode cX3_tear 19 = .ok (.ireturn, 1) := by decide +kernel
theorem dX3_count_0 : decode cX3_count 0 = .ok (.iload_n 1, 1) := by decide +kernel
theorem dX3_count_1 : decode cX3_count 1 = .ok (.tableswitch 75 0 4 #[35, 43, 51, 59, 67], 35) := by decide +kernel
theorem dX3_count_36 : decode cX3_count 36 = .ok (.aload_n 0, 1) := by decide +kernel
theorem dX3_count_37 : decode cX3_count 37 = .ok (.getfield 10, 3) := by decide +kernel
theorem dX3_count_40 : decode cX3_count 40 = .ok (.getfield 69, 3) := by decide +kernel
theorem dX3_count_43 : decode cX3_count 43 = .ok (.ireturn, 1) := by decide +kernel
theorem dX3_count_44 : decode cX3_count 44 = .ok (.aload_n 0, 1) := by decide +kernel
theorem dX3_count_45 : decode cX3_count 45 = .ok (.getfield 10, 3) := by decide +kernel
theorem dX3_count_48 : decode cX3_count 48 = .ok (.getfield 146, 3) := by decide +kernel
theorem dX3_count_51 : decode cX3_count 51 = .ok (.ireturn, 1) := by decide +kernel
theorem dX3_count_52 : decode cX3_count 52 = .ok (.aload_n 0, 1) := by decide +kernel
theorem dX3_count_53 : decode cX3_count 53 = .ok (.getfield 10, 3) := by decide +kernel
theorem dX3_count_56 : decode cX3_count 56 = .ok (.invokevirtual 266, 3) := by decide +kernel
theorem dX3_count_59 : decode cX3_count 59 = .ok (.ireturn, 1) := by decide +kernel
theorem dX3_count_60 : decode cX3_count 60 = .ok (.aload_n 0, 1) := by decide +kernel
theorem dX3_count_61 : decode cX3_count 61 = .ok (.getfield 28, 3) := by decide +kernel
theorem dX3_count_64 : decode cX3_count 64 = .ok (.getfield 218, 3) := by decide +kernel
theorem dX3_count_67 : decode cX3_count 67 = .ok (.ireturn, 1) := by decide +kernel
theorem dX3_count_68 : decode cX3_count 68 = .ok (.aload_n 0, 1) := by decide +kernel
theorem dX3_count_69 : decode cX3_count 69 = .ok (.getfield 10, 3) := by decide +kernel
theorem dX3_count_72 : decode cX3_count 72 = .ok (.invokevirtual 269, 3) := by decide +kernel
theorem dX3_count_75 : decode cX3_count 75 = .ok (.ireturn, 1) := by decide +kernel
theorem dX3_count_76 : decode cX3_count 76 = .ok (.aload_n 0, 1) := by decide +kernel
theorem dX3_count_77 : decode cX3_count 77 = .ok (.ldc 55, 2) := by decide +kernel
theorem dX3_count_79 : decode cX3_count 79 = .ok (.invokevirtual 56, 3) := by decide +kernel
theorem dX3_count_82 : decode cX3_count 82 = .ok (.ireturn, 1) := by decide +kernel
theorem dX3_status_0 : decode cX3_status 0 = .ok (.iload_n 1, 1) := by decide +kernel
theorem dX3_status_1 : decode cX3_status 1 = .ok (.iconst (-1), 1) := by decide +kernel
theorem dX3_status_2 : decode cX3_status 2 = .ok (.bipush 6, 2) := by decide +kernel
theorem dX3_status_4 : decode cX3_status 4 = .ok (.invokestatic 51, 3) := by decide +kernel
theorem dX3_status_7 : decode cX3_status 7 = .ok (.ifCond .ne 10, 3) := by decide +kernel
theorem dX3_status_10 : decode cX3_status 10 = .ok (.aload_n 0, 1) := by decide +kernel
theorem dX3_status_11 : decode cX3_status 11 = .ok (.ldc 55, 2) := by decide +kernel
theorem dX3_status_13 : decode cX3_status 13 = .ok (.invokevirtual 56, 3) := by decide +kernel
theorem dX3_status_16 : decode cX3_status 16 = .ok (.ireturn, 1) := by decide +kernel
theorem dX3_status_17 : decode cX3_status 17 = .ok (.iload_n 1, 1) := by decide +kernel
theorem dX3_status_18 : decode cX3_status 18 = .ok (.ifCond .lt 10, 3) := by decide +kernel
theorem dX3_status_21 : decode cX3_status 21 = .ok (.aload_n 0, 1) := by decide +kernel
theorem dX3_status_22 : decode cX3_status 22 = .ok (.getfield 39, 3) := by decide +kernel
theorem dX3_status_25 : decode cX3_status 25 = .ok (.iload_n 1, 1) := by decide +kernel
theorem dX3_status_26 : decode cX3_status 26 = .ok (.iaload, 1) := by decide +kernel
theorem dX3_status_27 : decode cX3_status 27 = .ok (.ireturn, 1) := by decide +kernel
theorem dX3_status_28 : decode cX3_status 28 = .ok (.iconst 0, 1) := by decide +kernel
theorem dX3_status_29 : decode cX3_status 29 = .ok (.istore_n 2, 1) := by decide +kernel
theorem dX3_status_30 : decode cX3_status 30 = .ok (.iconst 0, 1) := by decide +kernel
theorem dX3_status_31 : decode cX3_status 31 = .ok (.istore_n 3, 1) := by decide +kernel
theorem dX3_status_32 : decode cX3_status 32 = .ok (.iload_n 3, 1) := by decide +kernel
theorem dX3_status_33 : decode cX3_status 33 = .ok (.bipush 7, 2) := by decide +kernel
theorem dX3_status_35 : decode cX3_status 35 = .ok (.if_icmp .ge 18, 3) := by decide +kernel
theorem dX3_status_38 : decode cX3_status 38 = .ok (.iload_n 2, 1) := by decide +kernel
theorem dX3_status_39 : decode cX3_status 39 = .ok (.aload_n 0, 1) := by decide +kernel
theorem dX3_status_40 : decode cX3_status 40 = .ok (.getfield 39, 3) := by decide +kernel
theorem dX3_status_43 : decode cX3_status 43 = .ok (.iload_n 3, 1) := by decide +kernel
theorem dX3_status_44 : decode cX3_status 44 = .ok (.iaload, 1) := by decide +kernel
theorem dX3_status_45 : decode cX3_status 45 = .ok (.iadd, 1) := by decide +kernel
theorem dX3_status_46 : decode cX3_status 46 = .ok (.istore_n 2, 1) := by decide +kernel
theorem dX3_status_47 : decode cX3_status 47 = .ok (.iinc 3 1, 3) := by decide +kernel
theorem dX3_status_50 : decode cX3_status 50 = .ok (.goto (-18), 3) := by decide +kernel
theorem dX3_status_53 : decode cX3_status 53 = .ok (.iload_n 2, 1) := by decide +kernel
theorem dX3_status_54 : decode cX3_status 54 = .ok (.ireturn, 1) := by decide +kernel
theorem dX3_finding_0 : decode cX3_finding 0 = .ok (.ldc 55, 2) := by decide +kernel
theorem dX3_finding_2 : decode cX3_finding 2 = .ok (.iload_n 1, 1) := by decide +kernel
theorem dX3_finding_3 : decode cX3_finding 3 = .ok (.isub, 1) := by decide +kernel
theorem dX3_finding_4 : decode cX3_finding 4 = .ok (.istore_n 2, 1) := by decide +kernel
theorem dX3_finding_5 : decode cX3_finding 5 = .ok (.iload_n 2, 1) := by decide +kernel
theorem dX3_finding_6 : decode cX3_finding 6 = .ok (.ifCond .lt 19, 3) := by decide +kernel
theorem dX3_finding_9 : decode cX3_finding 9 = .ok (.iload_n 2, 1) := by decide +kernel
theorem dX3_finding_10 : decode cX3_finding 10 = .ok (.bipush 7, 2) := by decide +kernel
theorem dX3_finding_12 : decode cX3_finding 12 = .ok (.if_icmp .ge 13, 3) := by decide +kernel
theorem dX3_finding_15 : decode cX3_finding 15 = .ok (.aload_n 0, 1) := by decide +kernel
theorem dX3_finding_16 : decode cX3_finding 16 = .ok (.getfield 39, 3) := by decide +kernel
theorem dX3_finding_19 : decode cX3_finding 19 = .ok (.iload_n 2, 1) := by decide +kernel
theorem dX3_finding_20 : decode cX3_finding 20 = .ok (.dup2, 1) := by decide +kernel
theorem dX3_finding_21 : decode cX3_finding 21 = .ok (.iaload, 1) := by decide +kernel
theorem dX3_finding_22 : decode cX3_finding 22 = .ok (.iconst 1, 1) := by decide +kernel
theorem dX3_finding_23 : decode cX3_finding 23 = .ok (.iadd, 1) := by decide +kernel
theorem dX3_finding_24 : decode cX3_finding 24 = .ok (.iastore, 1) := by decide +kernel
theorem dX3_finding_25 : decode cX3_finding 25 = .ok (.iload_n 1, 1) := by decide +kernel
theorem dX3_finding_26 : decode cX3_finding 26 = .ok (.ireturn, 1) := by decide +kernel
theorem dX3_isWithin_0 : decode cX3_isWithin 0 = .ok (.iload_n 0, 1) := by decide +kernel
theorem dX3_isWithin_1 : decode cX3_isWithin 1 = .ok (.iload_n 1, 1) := by decide +kernel
theorem dX3_isWithin_2 : decode cX3_isWithin 2 = .ok (.if_icmp .lt 12, 3) := by decide +kernel
theorem dX3_isWithin_5 : decode cX3_isWithin 5 = .ok (.iload_n 0, 1) := by decide +kernel
theorem dX3_isWithin_6 : decode cX3_isWithin 6 = .ok (.iload_n 2, 1) := by decide +kernel
theorem dX3_isWithin_7 : decode cX3_isWithin 7 = .ok (.if_icmp .gt 7, 3) := by decide +kernel
theorem dX3_isWithin_10 : decode cX3_isWithin 10 = .ok (.iconst 1, 1) := by decide +kernel
theorem dX3_isWithin_11 : decode cX3_isWithin 11 = .ok (.goto 4, 3) := by decide +kernel
theorem dX3_isWithin_14 : decode cX3_isWithin 14 = .ok (.iconst 0, 1) := by decide +kernel
theorem dX3_isWithin_15 : decode cX3_isWithin 15 = .ok (.ireturn, 1) := by decide +kernel
theorem dX3_isOwner_0 : decode cX3_isOwner 0 = .ok (.iload_n 0, 1) := by decide +kernel
theorem dX3_isOwner_1 : decode cX3_isOwner 1 = .ok (.iconst 0, 1) := by decide +kernel
theorem dX3_isOwner_2 : decode cX3_isOwner 2 = .ok (.iconst 3, 1) := by decide +kernel
theorem dX3_isOwner_3 : decode cX3_isOwner 3 = .ok (.invokestatic 51, 3) := by decide +kernel
theorem dX3_isOwner_6 : decode cX3_isOwner 6 = .ok (.ireturn, 1) := by decide +kernel
theorem dX3_areTwoOwners_0 : decode cX3_areTwoOwners 0 = .ok (.iload_n 0, 1) := by decide +kernel
theorem dX3_areTwoOwners_1 : decode cX3_areTwoOwners 1 = .ok (.invokestatic 47, 3) := by decide +kernel
theorem dX3_areTwoOwners_4 : decode cX3_areTwoOwners 4 = .ok (.ifCond .eq 19, 3) := by decide +kernel
theorem dX3_areTwoOwners_7 : decode cX3_areTwoOwners 7 = .ok (.iload_n 1, 1) := by decide +kernel
theorem dX3_areTwoOwners_8 : decode cX3_areTwoOwners 8 = .ok (.invokestatic 47, 3) := by decide +kernel
theorem dX3_areTwoOwners_11 : decode cX3_areTwoOwners 11 = .ok (.ifCond .eq 12, 3) := by decide +kernel
theorem dX3_areTwoOwners_14 : decode cX3_areTwoOwners 14 = .ok (.iload_n 0, 1) := by decide +kernel
theorem dX3_areTwoOwners_15 : decode cX3_areTwoOwners 15 = .ok (.iload_n 1, 1) := by decide +kernel
theorem dX3_areTwoOwners_16 : decode cX3_areTwoOwners 16 = .ok (.if_icmp .eq 7, 3) := by decide +kernel
theorem dX3_areTwoOwners_19 : decode cX3_areTwoOwners 19 = .ok (.iconst 1, 1) := by decide +kernel
theorem dX3_areTwoOwners_20 : decode cX3_areTwoOwners 20 = .ok (.goto 4, 3) := by decide +kernel
theorem dX3_areTwoOwners_23 : decode cX3_areTwoOwners 23 = .ok (.iconst 0, 1) := by decide +kernel
theorem dX3_areTwoOwners_24 : decode cX3_areTwoOwners 24 = .ok (.ireturn, 1) := by decide +kernel
theorem dX3_isOwed_0 : decode cX3_isOwed 0 = .ok (.iload_n 0, 1) := by decide +kernel
theorem dX3_isOwed_1 : decode cX3_isOwed 1 = .ok (.iconst 1, 1) := by decide +kernel
theorem dX3_isOwed_2 : decode cX3_isOwed 2 = .ok (.sipush 9999, 3) := by decide +kernel
theorem dX3_isOwed_5 : decode cX3_isOwed 5 = .ok (.invokestatic 51, 3) := by decide +kernel
theorem dX3_isOwed_8 : decode cX3_isOwed 8 = .ok (.ireturn, 1) := by decide +kernel
theorem dX3_isKind_0 : decode cX3_isKind 0 = .ok (.iload_n 0, 1) := by decide +kernel
theorem dX3_isKind_1 : decode cX3_isKind 1 = .ok (.iconst 0, 1) := by decide +kernel
theorem dX3_isKind_2 : decode cX3_isKind 2 = .ok (.iconst 5, 1) := by decide +kernel
theorem dX3_isKind_3 : decode cX3_isKind 3 = .ok (.invokestatic 51, 3) := by decide +kernel
theorem dX3_isKind_6 : decode cX3_isKind 6 = .ok (.ireturn, 1) := by decide +kernel
theorem dX3_isSheet_0 : decode cX3_isSheet 0 = .ok (.iload_n 0, 1) := by decide +kernel
theorem dX3_isSheet_1 : decode cX3_isSheet 1 = .ok (.iconst 0, 1) := by decide +kernel
theorem dX3_isSheet_2 : decode cX3_isSheet 2 = .ok (.iconst 3, 1) := by decide +kernel
theorem dX3_isSheet_3 : decode cX3_isSheet 3 = .ok (.invokestatic 51, 3) := by decide +kernel
theorem dX3_isSheet_6 : decode cX3_isSheet 6 = .ok (.ireturn, 1) := by decide +kernel
theorem dX3_isCoin_0 : decode cX3_isCoin 0 = .ok (.iload_n 1, 1) := by decide +kernel
theorem dX3_isCoin_1 : decode cX3_isCoin 1 = .ok (.iconst 0, 1) := by decide +kernel
theorem dX3_isCoin_2 : decode cX3_isCoin 2 = .ok (.aload_n 0, 1) := by decide +kernel
theorem dX3_isCoin_3 : decode cX3_isCoin 3 = .ok (.getfield 10, 3) := by decide +kernel
theorem dX3_isCoin_6 : decode cX3_isCoin 6 = .ok (.getfield 69, 3) := by decide +kernel
theorem dX3_isCoin_9 : decode cX3_isCoin 9 = .ok (.iconst 1, 1) := by decide +kernel
theorem dX3_isCoin_10 : decode cX3_isCoin 10 = .ok (.isub, 1) := by decide +kernel
theorem dX3_isCoin_11 : decode cX3_isCoin 11 = .ok (.invokestatic 51, 3) := by decide +kernel
theorem dX3_isCoin_14 : decode cX3_isCoin 14 = .ok (.ireturn, 1) := by decide +kernel
theorem dX3_isPastTheEnd_0 : decode cX3_isPastTheEnd 0 = .ok (.aload_n 0, 1) := by decide +kernel
theorem dX3_isPastTheEnd_1 : decode cX3_isPastTheEnd 1 = .ok (.getfield 10, 3) := by decide +kernel
theorem dX3_isPastTheEnd_4 : decode cX3_isPastTheEnd 4 = .ok (.getfield 177, 3) := by decide +kernel
theorem dX3_isPastTheEnd_7 : decode cX3_isPastTheEnd 7 = .ok (.sipush 9999, 3) := by decide +kernel
theorem dX3_isPastTheEnd_10 : decode cX3_isPastTheEnd 10 = .ok (.iload_n 1, 1) := by decide +kernel
theorem dX3_isPastTheEnd_11 : decode cX3_isPastTheEnd 11 = .ok (.isub, 1) := by decide +kernel
theorem dX3_isPastTheEnd_12 : decode cX3_isPastTheEnd 12 = .ok (.if_icmp .le 7, 3) := by decide +kernel
theorem dX3_isPastTheEnd_15 : decode cX3_isPastTheEnd 15 = .ok (.iconst 1, 1) := by decide +kernel
theorem dX3_isPastTheEnd_16 : decode cX3_isPastTheEnd 16 = .ok (.goto 4, 3) := by decide +kernel
theorem dX3_isPastTheEnd_19 : decode cX3_isPastTheEnd 19 = .ok (.iconst 0, 1) := by decide +kernel
theorem dX3_isPastTheEnd_20 : decode cX3_isPastTheEnd 20 = .ok (.ireturn, 1) := by decide +kernel
theorem dX3_worthWith_0 : decode cX3_worthWith 0 = .ok (.aload_n 0, 1) := by decide +kernel
theorem dX3_worthWith_1 : decode cX3_worthWith 1 = .ok (.getfield 19, 3) := by decide +kernel
theorem dX3_worthWith_4 : decode cX3_worthWith 4 = .ok (.aload_n 0, 1) := by decide +kernel
theorem dX3_worthWith_5 : decode cX3_worthWith 5 = .ok (.getfield 10, 3) := by decide +kernel
theorem dX3_worthWith_8 : decode cX3_worthWith 8 = .ok (.invokevirtual 183, 3) := by decide +kernel
theorem dX3_worthWith_11 : decode cX3_worthWith 11 = .ok (.aload_n 0, 1) := by decide +kernel
theorem dX3_worthWith_12 : decode cX3_worthWith 12 = .ok (.getfield 19, 3) := by decide +kernel
theorem dX3_worthWith_15 : decode cX3_worthWith 15 = .ok (.getfield 90, 3) := by decide +kernel
theorem dX3_worthWith_18 : decode cX3_worthWith 18 = .ok (.iload_n 1, 1) := by decide +kernel
theorem dX3_worthWith_19 : decode cX3_worthWith 19 = .ok (.iload_n 2, 1) := by decide +kernel
theorem dX3_worthWith_20 : decode cX3_worthWith 20 = .ok (.iastore, 1) := by decide +kernel
theorem dX3_worthWith_21 : decode cX3_worthWith 21 = .ok (.aload_n 0, 1) := by decide +kernel
theorem dX3_worthWith_22 : decode cX3_worthWith 22 = .ok (.getfield 19, 3) := by decide +kernel
theorem dX3_worthWith_25 : decode cX3_worthWith 25 = .ok (.iload_n 3, 1) := by decide +kernel
theorem dX3_worthWith_26 : decode cX3_worthWith 26 = .ok (.invokevirtual 187, 3) := by decide +kernel
theorem dX3_worthWith_29 : decode cX3_worthWith 29 = .ok (.aload_n 0, 1) := by decide +kernel
theorem dX3_worthWith_30 : decode cX3_worthWith 30 = .ok (.getfield 19, 3) := by decide +kernel
theorem dX3_worthWith_33 : decode cX3_worthWith 33 = .ok (.iload_n 1, 1) := by decide +kernel
theorem dX3_worthWith_34 : decode cX3_worthWith 34 = .ok (.invokevirtual 93, 3) := by decide +kernel
theorem dX3_worthWith_37 : decode cX3_worthWith 37 = .ok (.ireturn, 1) := by decide +kernel
theorem dX3_rottenWith_0 : decode cX3_rottenWith 0 = .ok (.aload_n 0, 1) := by decide +kernel
theorem dX3_rottenWith_1 : decode cX3_rottenWith 1 = .ok (.getfield 19, 3) := by decide +kernel
theorem dX3_rottenWith_4 : decode cX3_rottenWith 4 = .ok (.aload_n 0, 1) := by decide +kernel
theorem dX3_rottenWith_5 : decode cX3_rottenWith 5 = .ok (.getfield 10, 3) := by decide +kernel
theorem dX3_rottenWith_8 : decode cX3_rottenWith 8 = .ok (.invokevirtual 183, 3) := by decide +kernel
theorem dX3_rottenWith_11 : decode cX3_rottenWith 11 = .ok (.aload_n 0, 1) := by decide +kernel
theorem dX3_rottenWith_12 : decode cX3_rottenWith 12 = .ok (.getfield 19, 3) := by decide +kernel
theorem dX3_rottenWith_15 : decode cX3_rottenWith 15 = .ok (.iload_n 1, 1) := by decide +kernel
theorem dX3_rottenWith_16 : decode cX3_rottenWith 16 = .ok (.iload_n 2, 1) := by decide +kernel
theorem dX3_rottenWith_17 : decode cX3_rottenWith 17 = .ok (.invokevirtual 115, 3) := by decide +kernel
theorem dX3_rottenWith_20 : decode cX3_rottenWith 20 = .ok (.aload_n 0, 1) := by decide +kernel
theorem dX3_rottenWith_21 : decode cX3_rottenWith 21 = .ok (.getfield 19, 3) := by decide +kernel
theorem dX3_rottenWith_24 : decode cX3_rottenWith 24 = .ok (.iconst 1, 1) := by decide +kernel
theorem dX3_rottenWith_25 : decode cX3_rottenWith 25 = .ok (.invokevirtual 170, 3) := by decide +kernel
theorem dX3_rottenWith_28 : decode cX3_rottenWith 28 = .ok (.istore 5, 2) := by decide +kernel
theorem dX3_rottenWith_30 : decode cX3_rottenWith 30 = .ok (.iconst 0, 1) := by decide +kernel
theorem dX3_rottenWith_31 : decode cX3_rottenWith 31 = .ok (.istore 6, 2) := by decide +kernel
theorem dX3_rottenWith_33 : decode cX3_rottenWith 33 = .ok (.iload 6, 2) := by decide +kernel
theorem dX3_rottenWith_35 : decode cX3_rottenWith 35 = .ok (.iload_n 3, 1) := by decide +kernel
theorem dX3_rottenWith_36 : decode cX3_rottenWith 36 = .ok (.if_icmp .ge 34, 3) := by decide +kernel
theorem dX3_rottenWith_39 : decode cX3_rottenWith 39 = .ok (.iload 5, 2) := by decide +kernel
theorem dX3_rottenWith_41 : decode cX3_rottenWith 41 = .ok (.iload 4, 2) := by decide +kernel
theorem dX3_rottenWith_43 : decode cX3_rottenWith 43 = .ok (.if_icmp .ge 27, 3) := by decide +kernel
theorem dX3_rottenWith_46 : decode cX3_rottenWith 46 = .ok (.aload_n 0, 1) := by decide +kernel
theorem dX3_rottenWith_47 : decode cX3_rottenWith 47 = .ok (.getfield 19, 3) := by decide +kernel
theorem dX3_rottenWith_50 : decode cX3_rottenWith 50 = .ok (.iconst 1, 1) := by decide +kernel
theorem dX3_rottenWith_51 : decode cX3_rottenWith 51 = .ok (.invokevirtual 187, 3) := by decide +kernel
theorem dX3_rottenWith_54 : decode cX3_rottenWith 54 = .ok (.aload_n 0, 1) := by decide +kernel
theorem dX3_rottenWith_55 : decode cX3_rottenWith 55 = .ok (.getfield 19, 3) := by decide +kernel
theorem dX3_rottenWith_58 : decode cX3_rottenWith 58 = .ok (.iconst 1, 1) := by decide +kernel
theorem dX3_rottenWith_59 : decode cX3_rottenWith 59 = .ok (.invokevirtual 170, 3) := by decide +kernel
theorem dX3_rottenWith_62 : decode cX3_rottenWith 62 = .ok (.istore 5, 2) := by decide +kernel
theorem dX3_rottenWith_64 : decode cX3_rottenWith 64 = .ok (.iinc 6 1, 3) := by decide +kernel
theorem dX3_rottenWith_67 : decode cX3_rottenWith 67 = .ok (.goto (-34), 3) := by decide +kernel
theorem dX3_rottenWith_70 : decode cX3_rottenWith 70 = .ok (.iload 5, 2) := by decide +kernel
theorem dX3_rottenWith_72 : decode cX3_rottenWith 72 = .ok (.ireturn, 1) := by decide +kernel
theorem dX3_purseWith_0 : decode cX3_purseWith 0 = .ok (.aload_n 0, 1) := by decide +kernel
theorem dX3_purseWith_1 : decode cX3_purseWith 1 = .ok (.getfield 19, 3) := by decide +kernel
theorem dX3_purseWith_4 : decode cX3_purseWith 4 = .ok (.aload_n 0, 1) := by decide +kernel
theorem dX3_purseWith_5 : decode cX3_purseWith 5 = .ok (.getfield 10, 3) := by decide +kernel
theorem dX3_purseWith_8 : decode cX3_purseWith 8 = .ok (.invokevirtual 183, 3) := by decide +kernel
theorem dX3_purseWith_11 : decode cX3_purseWith 11 = .ok (.aload_n 0, 1) := by decide +kernel
theorem dX3_purseWith_12 : decode cX3_purseWith 12 = .ok (.getfield 19, 3) := by decide +kernel
theorem dX3_purseWith_15 : decode cX3_purseWith 15 = .ok (.iload_n 1, 1) := by decide +kernel
theorem dX3_purseWith_16 : decode cX3_purseWith 16 = .ok (.invokevirtual 272, 3) := by decide +kernel
theorem dX3_purseWith_19 : decode cX3_purseWith 19 = .ok (.aload_n 0, 1) := by decide +kernel
theorem dX3_purseWith_20 : decode cX3_purseWith 20 = .ok (.getfield 19, 3) := by decide +kernel
theorem dX3_purseWith_23 : decode cX3_purseWith 23 = .ok (.iload_n 3, 1) := by decide +kernel
theorem dX3_purseWith_24 : decode cX3_purseWith 24 = .ok (.invokevirtual 173, 3) := by decide +kernel
theorem dX3_purseWith_27 : decode cX3_purseWith 27 = .ok (.aload_n 0, 1) := by decide +kernel
theorem dX3_purseWith_28 : decode cX3_purseWith 28 = .ok (.getfield 19, 3) := by decide +kernel
theorem dX3_purseWith_31 : decode cX3_purseWith 31 = .ok (.iload_n 2, 1) := by decide +kernel
theorem dX3_purseWith_32 : decode cX3_purseWith 32 = .ok (.invokevirtual 124, 3) := by decide +kernel
theorem dX3_purseWith_35 : decode cX3_purseWith 35 = .ok (.ireturn, 1) := by decide +kernel
end
section
theorem dX0_init_0 : decode cX0_init 0 = .ok (.aload_n 0, 1) := by decide +kernel
theorem dX0_init_1 : decode cX0_init 1 = .ok (.invokespecial 3, 3) := by decide +kernel
theorem dX0_init_4 : decode cX0_init 4 = .ok (.aload_n 0, 1) := by decide +kernel
theorem dX0_init_5 : decode cX0_init 5 = .ok (.bipush 12, 2) := by decide +kernel
theorem dX0_init_7 : decode cX0_init 7 = .ok (.newarray .int, 2) := by decide +kernel
theorem dX0_init_9 : decode cX0_init 9 = .ok (.putfield 9, 3) := by decide +kernel
theorem dX0_init_12 : decode cX0_init 12 = .ok (.aload_n 0, 1) := by decide +kernel
theorem dX0_init_13 : decode cX0_init 13 = .ok (.bipush 12, 2) := by decide +kernel
theorem dX0_init_15 : decode cX0_init 15 = .ok (.newarray .int, 2) := by decide +kernel
theorem dX0_init_17 : decode cX0_init 17 = .ok (.putfield 15, 3) := by decide +kernel
theorem dX0_init_20 : decode cX0_init 20 = .ok (.aload_n 0, 1) := by decide +kernel
theorem dX0_init_21 : decode cX0_init 21 = .ok (.bipush 12, 2) := by decide +kernel
theorem dX0_init_23 : decode cX0_init 23 = .ok (.newarray .int, 2) := by decide +kernel
theorem dX0_init_25 : decode cX0_init 25 = .ok (.putfield 18, 3) := by decide +kernel
theorem dX0_init_28 : decode cX0_init 28 = .ok (.aload_n 0, 1) := by decide +kernel
theorem dX0_init_29 : decode cX0_init 29 = .ok (.bipush 12, 2) := by decide +kernel
theorem dX0_init_31 : decode cX0_init 31 = .ok (.newarray .int, 2) := by decide +kernel
theorem dX0_init_33 : decode cX0_init 33 = .ok (.putfield 21, 3) := by decide +kernel
theorem dX0_init_36 : decode cX0_init 36 = .ok (.aload_n 0, 1) := by decide +kernel
theorem dX0_init_37 : decode cX0_init 37 = .ok (.iconst 4, 1) := by decide +kernel
theorem dX0_init_38 : decode cX0_init 38 = .ok (.newarray .int, 2) := by decide +kernel
theorem dX0_init_40 : decode cX0_init 40 = .ok (.putfield 24, 3) := by decide +kernel
theorem dX0_init_43 : decode cX0_init 43 = .ok (.aload_n 0, 1) := by decide +kernel
theorem dX0_init_44 : decode cX0_init 44 = .ok (.bipush 12, 2) := by decide +kernel
theorem dX0_init_46 : decode cX0_init 46 = .ok (.newarray .int, 2) := by decide +kernel
theorem dX0_init_48 : decode cX0_init 48 = .ok (.putfield 27, 3) := by decide +kernel
theorem dX0_init_51 : decode cX0_init 51 = .ok (.aload_n 0, 1) := by decide +kernel
theorem dX0_init_52 : decode cX0_init 52 = .ok (.bipush 8, 2) := by decide +kernel
theorem dX0_init_54 : decode cX0_init 54 = .ok (.newarray .int, 2) := by decide +kernel
theorem dX0_init_56 : decode cX0_init 56 = .ok (.putfield 30, 3) := by decide +kernel
theorem dX0_init_59 : decode cX0_init 59 = .ok (.aload_n 0, 1) := by decide +kernel
theorem dX0_init_60 : decode cX0_init 60 = .ok (.bipush 8, 2) := by decide +kernel
theorem dX0_init_62 : decode cX0_init 62 = .ok (.newarray .int, 2) := by decide +kernel
theorem dX0_init_64 : decode cX0_init 64 = .ok (.putfield 33, 3) := by decide +kernel
theorem dX0_init_67 : decode cX0_init 67 = .ok (.aload_n 0, 1) := by decide +kernel
theorem dX0_init_68 : decode cX0_init 68 = .ok (.bipush 8, 2) := by decide +kernel
theorem dX0_init_70 : decode cX0_init 70 = .ok (.newarray .int, 2) := by decide +kernel
theorem dX0_init_72 : decode cX0_init 72 = .ok (.putfield 36, 3) := by decide +kernel
theorem dX0_init_75 : decode cX0_init 75 = .ok (.aload_n 0, 1) := by decide +kernel
theorem dX0_init_76 : decode cX0_init 76 = .ok (.bipush 8, 2) := by decide +kernel
theorem dX0_init_78 : decode cX0_init 78 = .ok (.newarray .int, 2) := by decide +kernel
theorem dX0_init_80 : decode cX0_init 80 = .ok (.putfield 39, 3) := by decide +kernel
theorem dX0_init_83 : decode cX0_init 83 = .ok (.aload_n 0, 1) := by decide +kernel
theorem dX0_init_84 : decode cX0_init 84 = .ok (.bipush 8, 2) := by decide +kernel
theorem dX0_init_86 : decode cX0_init 86 = .ok (.newarray .int, 2) := by decide +kernel
theorem dX0_init_88 : decode cX0_init 88 = .ok (.putfield 42, 3) := by decide +kernel
theorem dX0_init_91 : decode cX0_init 91 = .ok (.aload_n 0, 1) := by decide +kernel
theorem dX0_init_92 : decode cX0_init 92 = .ok (.bipush 12, 2) := by decide +kernel
theorem dX0_init_94 : decode cX0_init 94 = .ok (.newarray .int, 2) := by decide +kernel
theorem dX0_init_96 : decode cX0_init 96 = .ok (.putfield 45, 3) := by decide +kernel
theorem dX0_init_99 : decode cX0_init 99 = .ok (.aload_n 0, 1) := by decide +kernel
theorem dX0_init_100 : decode cX0_init 100 = .ok (.bipush 12, 2) := by decide +kernel
theorem dX0_init_102 : decode cX0_init 102 = .ok (.newarray .int, 2) := by decide +kernel
theorem dX0_init_104 : decode cX0_init 104 = .ok (.putfield 48, 3) := by decide +kernel
theorem dX0_init_107 : decode cX0_init 107 = .ok (.iconst 0, 1) := by decide +kernel
theorem dX0_init_108 : decode cX0_init 108 = .ok (.istore_n 1, 1) := by decide +kernel
theorem dX0_init_109 : decode cX0_init 109 = .ok (.iload_n 1, 1) := by decide +kernel
theorem dX0_init_110 : decode cX0_init 110 = .ok (.iconst 4, 1) := by decide +kernel
theorem dX0_init_111 : decode cX0_init 111 = .ok (.if_icmp .ge 16, 3) := by decide +kernel
theorem dX0_init_114 : decode cX0_init 114 = .ok (.aload_n 0, 1) := by decide +kernel
theorem dX0_init_115 : decode cX0_init 115 = .ok (.getfield 24, 3) := by decide +kernel
theorem dX0_init_118 : decode cX0_init 118 = .ok (.iload_n 1, 1) := by decide +kernel
theorem dX0_init_119 : decode cX0_init 119 = .ok (.iconst 5, 1) := by decide +kernel
theorem dX0_init_120 : decode cX0_init 120 = .ok (.iastore, 1) := by decide +kernel
theorem dX0_init_121 : decode cX0_init 121 = .ok (.iinc 1 1, 3) := by decide +kernel
theorem dX0_init_124 : decode cX0_init 124 = .ok (.goto (-15), 3) := by decide +kernel
theorem dX0_init_127 : decode cX0_init 127 = .ok (.iconst 0, 1) := by decide +kernel
theorem dX0_init_128 : decode cX0_init 128 = .ok (.istore_n 1, 1) := by decide +kernel
theorem dX0_init_129 : decode cX0_init 129 = .ok (.iload_n 1, 1) := by decide +kernel
theorem dX0_init_130 : decode cX0_init 130 = .ok (.bipush 12, 2) := by decide +kernel
theorem dX0_init_132 : decode cX0_init 132 = .ok (.if_icmp .ge 17, 3) := by decide +kernel
theorem dX0_init_135 : decode cX0_init 135 = .ok (.aload_n 0, 1) := by decide +kernel
theorem dX0_init_136 : decode cX0_init 136 = .ok (.getfield 27, 3) := by decide +kernel
theorem dX0_init_139 : decode cX0_init 139 = .ok (.iload_n 1, 1) := by decide +kernel
theorem dX0_init_140 : decode cX0_init 140 = .ok (.bipush 10, 2) := by decide +kernel
theorem dX0_init_142 : decode cX0_init 142 = .ok (.iastore, 1) := by decide +kernel
theorem dX0_init_143 : decode cX0_init 143 = .ok (.iinc 1 1, 3) := by decide +kernel
theorem dX0_init_146 : decode cX0_init 146 = .ok (.goto (-17), 3) := by decide +kernel
theorem dX0_init_149 : decode cX0_init 149 = .ok (.return_, 1) := by decide +kernel
theorem dX0_become_0 : decode cX0_become 0 = .ok (.aload_n 0, 1) := by decide +kernel
theorem dX0_become_1 : decode cX0_become 1 = .ok (.aload_n 1, 1) := by decide +kernel
theorem dX0_become_2 : decode cX0_become 2 = .ok (.getfield 51, 3) := by decide +kernel
theorem dX0_become_5 : decode cX0_become 5 = .ok (.putfield 51, 3) := by decide +kernel
theorem dX0_become_8 : decode cX0_become 8 = .ok (.aload_n 0, 1) := by decide +kernel
theorem dX0_become_9 : decode cX0_become 9 = .ok (.aload_n 1, 1) := by decide +kernel
theorem dX0_become_10 : decode cX0_become 10 = .ok (.getfield 55, 3) := by decide +kernel
theorem dX0_become_13 : decode cX0_become 13 = .ok (.putfield 55, 3) := by decide +kernel
theorem dX0_become_16 : decode cX0_become 16 = .ok (.aload_n 0, 1) := by decide +kernel
theorem dX0_become_17 : decode cX0_become 17 = .ok (.aload_n 1, 1) := by decide +kernel
theorem dX0_become_18 : decode cX0_become 18 = .ok (.getfield 58, 3) := by decide +kernel
theorem dX0_become_21 : decode cX0_become 21 = .ok (.putfield 58, 3) := by decide +kernel
theorem dX0_become_24 : decode cX0_become 24 = .ok (.aload_n 0, 1) := by decide +kernel
theorem dX0_become_25 : decode cX0_become 25 = .ok (.aload_n 1, 1) := by decide +kernel
theorem dX0_become_26 : decode cX0_become 26 = .ok (.getfield 61, 3) := by decide +kernel
theorem dX0_become_29 : decode cX0_become 29 = .ok (.putfield 61, 3) := by decide +kernel
theorem dX0_become_32 : decode cX0_become 32 = .ok (.aload_n 1, 1) := by decide +kernel
theorem dX0_become_33 : decode cX0_become 33 = .ok (.getfield 9, 3) := by decide +kernel
theorem dX0_become_36 : decode cX0_become 36 = .ok (.iconst 0, 1) := by decide +kernel
theorem dX0_become_37 : decode cX0_become 37 = .ok (.aload_n 0, 1) := by decide +kernel
theorem dX0_become_38 : decode cX0_become 38 = .ok (.getfield 9, 3) := by decide +kernel
theorem dX0_become_41 : decode cX0_become 41 = .ok (.iconst 0, 1) := by decide +kernel
theorem dX0_become_42 : decode cX0_become 42 = .ok (.bipush 12, 2) := by decide +kernel
theorem dX0_become_44 : decode cX0_become 44 = .ok (.invokestatic 64, 3) := by decide +kernel
theorem dX0_become_47 : decode cX0_become 47 = .ok (.aload_n 1, 1) := by decide +kernel
theorem dX0_become_48 : decode cX0_become 48 = .ok (.getfield 15, 3) := by decide +kernel
theorem dX0_become_51 : decode cX0_become 51 = .ok (.iconst 0, 1) := by decide +kernel
theorem dX0_become_52 : decode cX0_become 52 = .ok (.aload_n 0, 1) := by decide +kernel
theorem dX0_become_53 : decode cX0_become 53 = .ok (.getfield 15, 3) := by decide +kernel
theorem dX0_become_56 : decode cX0_become 56 = .ok (.iconst 0, 1) := by decide +kernel
theorem dX0_become_57 : decode cX0_become 57 = .ok (.bipush 12, 2) := by decide +kernel
theorem dX0_become_59 : decode cX0_become 59 = .ok (.invokestatic 64, 3) := by decide +kernel
theorem dX0_become_62 : decode cX0_become 62 = .ok (.aload_n 1, 1) := by decide +kernel
theorem dX0_become_63 : decode cX0_become 63 = .ok (.getfield 18, 3) := by decide +kernel
theorem dX0_become_66 : decode cX0_become 66 = .ok (.iconst 0, 1) := by decide +kernel
theorem dX0_become_67 : decode cX0_become 67 = .ok (.aload_n 0, 1) := by decide +kernel
theorem dX0_become_68 : decode cX0_become 68 = .ok (.getfield 18, 3) := by decide +kernel
theorem dX0_become_71 : decode cX0_become 71 = .ok (.iconst 0, 1) := by decide +kernel
theorem dX0_become_72 : decode cX0_become 72 = .ok (.bipush 12, 2) := by decide +kernel
theorem dX0_become_74 : decode cX0_become 74 = .ok (.invokestatic 64, 3) := by decide +kernel
theorem dX0_become_77 : decode cX0_become 77 = .ok (.aload_n 1, 1) := by decide +kernel
theorem dX0_become_78 : decode cX0_become 78 = .ok (.getfield 21, 3) := by decide +kernel
theorem dX0_become_81 : decode cX0_become 81 = .ok (.iconst 0, 1) := by decide +kernel
theorem dX0_become_82 : decode cX0_become 82 = .ok (.aload_n 0, 1) := by decide +kernel
theorem dX0_become_83 : decode cX0_become 83 = .ok (.getfield 21, 3) := by decide +kernel
theorem dX0_become_86 : decode cX0_become 86 = .ok (.iconst 0, 1) := by decide +kernel
theorem dX0_become_87 : decode cX0_become 87 = .ok (.bipush 12, 2) := by decide +kernel
theorem dX0_become_89 : decode cX0_become 89 = .ok (.invokestatic 64, 3) := by decide +kernel
theorem dX0_become_92 : decode cX0_become 92 = .ok (.aload_n 1, 1) := by decide +kernel
theorem dX0_become_93 : decode cX0_become 93 = .ok (.getfield 24, 3) := by decide +kernel
theorem dX0_become_96 : decode cX0_become 96 = .ok (.iconst 0, 1) := by decide +kernel
theorem dX0_become_97 : decode cX0_become 97 = .ok (.aload_n 0, 1) := by decide +kernel
theorem dX0_become_98 : decode cX0_become 98 = .ok (.getfield 24, 3) := by decide +kernel
theorem dX0_become_101 : decode cX0_become 101 = .ok (.iconst 0, 1) := by decide +kernel
theorem dX0_become_102 : decode cX0_become 102 = .ok (.iconst 4, 1) := by decide +kernel
theorem dX0_become_103 : decode cX0_become 103 = .ok (.invokestatic 64, 3) := by decide +kernel
theorem dX0_become_106 : decode cX0_become 106 = .ok (.aload_n 1, 1) := by decide +kernel
theorem dX0_become_107 : decode cX0_become 107 = .ok (.getfield 27, 3) := by decide +kernel
theorem dX0_become_110 : decode cX0_become 110 = .ok (.iconst 0, 1) := by decide +kernel
theorem dX0_become_111 : decode cX0_become 111 = .ok (.aload_n 0, 1) := by decide +kernel
theorem dX0_become_112 : decode cX0_become 112 = .ok (.getfield 27, 3) := by decide +kernel
theorem dX0_become_115 : decode cX0_become 115 = .ok (.iconst 0, 1) := by decide +kernel
theorem dX0_become_116 : decode cX0_become 116 = .ok (.bipush 12, 2) := by decide +kernel
theorem dX0_become_118 : decode cX0_become 118 = .ok (.invokestatic 64, 3) := by decide +kernel
theorem dX0_become_121 : decode cX0_become 121 = .ok (.aload_n 1, 1) := by decide +kernel
theorem dX0_become_122 : decode cX0_become 122 = .ok (.getfield 30, 3) := by decide +kernel
theorem dX0_become_125 : decode cX0_become 125 = .ok (.iconst 0, 1) := by decide +kernel
theorem dX0_become_126 : decode cX0_become 126 = .ok (.aload_n 0, 1) := by decide +kernel
theorem dX0_become_127 : decode cX0_become 127 = .ok (.getfield 30, 3) := by decide +kernel
theorem dX0_become_130 : decode cX0_become 130 = .ok (.iconst 0, 1) := by decide +kernel
theorem dX0_become_131 : decode cX0_become 131 = .ok (.bipush 8, 2) := by decide +kernel
theorem dX0_become_133 : decode cX0_become 133 = .ok (.invokestatic 64, 3) := by decide +kernel
theorem dX0_become_136 : decode cX0_become 136 = .ok (.aload_n 1, 1) := by decide +kernel
theorem dX0_become_137 : decode cX0_become 137 = .ok (.getfield 33, 3) := by decide +kernel
theorem dX0_become_140 : decode cX0_become 140 = .ok (.iconst 0, 1) := by decide +kernel
theorem dX0_become_141 : decode cX0_become 141 = .ok (.aload_n 0, 1) := by decide +kernel
theorem dX0_become_142 : decode cX0_become 142 = .ok (.getfield 33, 3) := by decide +kernel
theorem dX0_become_145 : decode cX0_become 145 = .ok (.iconst 0, 1) := by decide +kernel
theorem dX0_become_146 : decode cX0_become 146 = .ok (.bipush 8, 2) := by decide +kernel
theorem dX0_become_148 : decode cX0_become 148 = .ok (.invokestatic 64, 3) := by decide +kernel
theorem dX0_become_151 : decode cX0_become 151 = .ok (.aload_n 1, 1) := by decide +kernel
theorem dX0_become_152 : decode cX0_become 152 = .ok (.getfield 36, 3) := by decide +kernel
theorem dX0_become_155 : decode cX0_become 155 = .ok (.iconst 0, 1) := by decide +kernel
theorem dX0_become_156 : decode cX0_become 156 = .ok (.aload_n 0, 1) := by decide +kernel
theorem dX0_become_157 : decode cX0_become 157 = .ok (.getfield 36, 3) := by decide +kernel
theorem dX0_become_160 : decode cX0_become 160 = .ok (.iconst 0, 1) := by decide +kernel
theorem dX0_become_161 : decode cX0_become 161 = .ok (.bipush 8, 2) := by decide +kernel
theorem dX0_become_163 : decode cX0_become 163 = .ok (.invokestatic 64, 3) := by decide +kernel
theorem dX0_become_166 : decode cX0_become 166 = .ok (.aload_n 1, 1) := by decide +kernel
theorem dX0_become_167 : decode cX0_become 167 = .ok (.getfield 39, 3) := by decide +kernel
theorem dX0_become_170 : decode cX0_become 170 = .ok (.iconst 0, 1) := by decide +kernel
theorem dX0_become_171 : decode cX0_become 171 = .ok (.aload_n 0, 1) := by decide +kernel
theorem dX0_become_172 : decode cX0_become 172 = .ok (.getfield 39, 3) := by decide +kernel
theorem dX0_become_175 : decode cX0_become 175 = .ok (.iconst 0, 1) := by decide +kernel
theorem dX0_become_176 : decode cX0_become 176 = .ok (.bipush 8, 2) := by decide +kernel
theorem dX0_become_178 : decode cX0_become 178 = .ok (.invokestatic 64, 3) := by decide +kernel
theorem dX0_become_181 : decode cX0_become 181 = .ok (.aload_n 1, 1) := by decide +kernel
theorem dX0_become_182 : decode cX0_become 182 = .ok (.getfield 42, 3) := by decide +kernel
theorem dX0_become_185 : decode cX0_become 185 = .ok (.iconst 0, 1) := by decide +kernel
theorem dX0_become_186 : decode cX0_become 186 = .ok (.aload_n 0, 1) := by decide +kernel
theorem dX0_become_187 : decode cX0_become 187 = .ok (.getfield 42, 3) := by decide +kernel
theorem dX0_become_190 : decode cX0_become 190 = .ok (.iconst 0, 1) := by decide +kernel
theorem dX0_become_191 : decode cX0_become 191 = .ok (.bipush 8, 2) := by decide +kernel
theorem dX0_become_193 : decode cX0_become 193 = .ok (.invokestatic 64, 3) := by decide +kernel
theorem dX0_become_196 : decode cX0_become 196 = .ok (.return_, 1) := by decide +kernel
theorem dX0_isUnder_0 : decode cX0_isUnder 0 = .ok (.iload_n 0, 1) := by decide +kernel
theorem dX0_isUnder_1 : decode cX0_isUnder 1 = .ok (.iload_n 1, 1) := by decide +kernel
theorem dX0_isUnder_2 : decode cX0_isUnder 2 = .ok (.if_icmp .eq 27, 3) := by decide +kernel
theorem dX0_isUnder_5 : decode cX0_isUnder 5 = .ok (.iload_n 1, 1) := by decide +kernel
theorem dX0_isUnder_6 : decode cX0_isUnder 6 = .ok (.ifCond .eq 23, 3) := by decide +kernel
theorem dX0_isUnder_9 : decode cX0_isUnder 9 = .ok (.iload_n 0, 1) := by decide +kernel
theorem dX0_isUnder_10 : decode cX0_isUnder 10 = .ok (.iconst 4, 1) := by decide +kernel
theorem dX0_isUnder_11 : decode cX0_isUnder 11 = .ok (.if_icmp .ne 8, 3) := by decide +kernel
theorem dX0_isUnder_14 : decode cX0_isUnder 14 = .ok (.iload_n 1, 1) := by decide +kernel
theorem dX0_isUnder_15 : decode cX0_isUnder 15 = .ok (.iconst 2, 1) := by decide +kernel
theorem dX0_isUnder_16 : decode cX0_isUnder 16 = .ok (.if_icmp .eq 13, 3) := by decide +kernel
theorem dX0_isUnder_19 : decode cX0_isUnder 19 = .ok (.iload_n 0, 1) := by decide +kernel
theorem dX0_isUnder_20 : decode cX0_isUnder 20 = .ok (.iconst 5, 1) := by decide +kernel
theorem dX0_isUnder_21 : decode cX0_isUnder 21 = .ok (.if_icmp .ne 12, 3) := by decide +kernel
theorem dX0_isUnder_24 : decode cX0_isUnder 24 = .ok (.iload_n 1, 1) := by decide +kernel
theorem dX0_isUnder_25 : decode cX0_isUnder 25 = .ok (.iconst 1, 1) := by decide +kernel
theorem dX0_isUnder_26 : decode cX0_isUnder 26 = .ok (.if_icmp .ne 7, 3) := by decide +kernel
theorem dX0_isUnder_29 : decode cX0_isUnder 29 = .ok (.iconst 1, 1) := by decide +kernel
theorem dX0_isUnder_30 : decode cX0_isUnder 30 = .ok (.goto 4, 3) := by decide +kernel
theorem dX0_isUnder_33 : decode cX0_isUnder 33 = .ok (.iconst 0, 1) := by decide +kernel
theorem dX0_isUnder_34 : decode cX0_isUnder 34 = .ok (.ireturn, 1) := by decide +kernel
theorem dX0_shrinks_0 : decode cX0_shrinks 0 = .ok (.iload_n 1, 1) := by decide +kernel
theorem dX0_shrinks_1 : decode cX0_shrinks 1 = .ok (.iconst 2, 1) := by decide +kernel
theorem dX0_shrinks_2 : decode cX0_shrinks 2 = .ok (.if_icmp .lt 12, 3) := by decide +kernel
theorem dX0_shrinks_5 : decode cX0_shrinks 5 = .ok (.iload_n 1, 1) := by decide +kernel
theorem dX0_shrinks_6 : decode cX0_shrinks 6 = .ok (.iconst 4, 1) := by decide +kernel
theorem dX0_shrinks_7 : decode cX0_shrinks 7 = .ok (.if_icmp .gt 7, 3) := by decide +kernel
theorem dX0_shrinks_10 : decode cX0_shrinks 10 = .ok (.iconst 3, 1) := by decide +kernel
theorem dX0_shrinks_11 : decode cX0_shrinks 11 = .ok (.goto 4, 3) := by decide +kernel
theorem dX0_shrinks_14 : decode cX0_shrinks 14 = .ok (.iconst 1, 1) := by decide +kernel
theorem dX0_shrinks_15 : decode cX0_shrinks 15 = .ok (.istore_n 2, 1) := by decide +kernel
theorem dX0_shrinks_16 : decode cX0_shrinks 16 = .ok (.iload_n 0, 1) := by decide +kernel
theorem dX0_shrinks_17 : decode cX0_shrinks 17 = .ok (.tableswitch 63 1 5 #[35, 39, 63, 43, 49], 35) := by decide +kernel
theorem dX0_shrinks_52 : decode cX0_shrinks 52 = .ok (.iload_n 2, 1) := by decide +kernel
theorem dX0_shrinks_53 : decode cX0_shrinks 53 = .ok (.iconst 3, 1) := by decide +kernel
theorem dX0_shrinks_54 : decode cX0_shrinks 54 = .ok (.idiv, 1) := by decide +kernel
theorem dX0_shrinks_55 : decode cX0_shrinks 55 = .ok (.ireturn, 1) := by decide +kernel
theorem dX0_shrinks_56 : decode cX0_shrinks 56 = .ok (.iconst 2, 1) := by decide +kernel
theorem dX0_shrinks_57 : decode cX0_shrinks 57 = .ok (.iload_n 2, 1) := by decide +kernel
theorem dX0_shrinks_58 : decode cX0_shrinks 58 = .ok (.imul, 1) := by decide +kernel
theorem dX0_shrinks_59 : decode cX0_shrinks 59 = .ok (.ireturn, 1) := by decide +kernel
theorem dX0_shrinks_60 : decode cX0_shrinks 60 = .ok (.iconst 2, 1) := by decide +kernel
theorem dX0_shrinks_61 : decode cX0_shrinks 61 = .ok (.iload_n 2, 1) := by decide +kernel
theorem dX0_shrinks_62 : decode cX0_shrinks 62 = .ok (.imul, 1) := by decide +kernel
theorem dX0_shrinks_63 : decode cX0_shrinks 63 = .ok (.iconst 1, 1) := by decide +kernel
theorem dX0_shrinks_64 : decode cX0_shrinks 64 = .ok (.iadd, 1) := by decide +kernel
theorem dX0_shrinks_65 : decode cX0_shrinks 65 = .ok (.ireturn, 1) := by decide +kernel
theorem dX0_shrinks_66 : decode cX0_shrinks 66 = .ok (.iload_n 1, 1) := by decide +kernel
theorem dX0_shrinks_67 : decode cX0_shrinks 67 = .ok (.bipush 9, 2) := by decide +kernel
theorem dX0_shrinks_69 : decode cX0_shrinks 69 = .ok (.if_icmp .lt 7, 3) := by decide +kernel
theorem dX0_shrinks_72 : decode cX0_shrinks 72 = .ok (.iconst 0, 1) := by decide +kernel
theorem dX0_shrinks_73 : decode cX0_shrinks 73 = .ok (.goto 6, 3) := by decide +kernel
theorem dX0_shrinks_76 : decode cX0_shrinks 76 = .ok (.iload_n 2, 1) := by decide +kernel
theorem dX0_shrinks_77 : decode cX0_shrinks 77 = .ok (.iconst 3, 1) := by decide +kernel
theorem dX0_shrinks_78 : decode cX0_shrinks 78 = .ok (.idiv, 1) := by decide +kernel
theorem dX0_shrinks_79 : decode cX0_shrinks 79 = .ok (.ireturn, 1) := by decide +kernel
theorem dX0_shrinks_80 : decode cX0_shrinks 80 = .ok (.iload_n 2, 1) := by decide +kernel
theorem dX0_shrinks_81 : decode cX0_shrinks 81 = .ok (.ireturn, 1) := by decide +kernel
theorem dX0_yields_0 : decode cX0_yields 0 = .ok (.iload_n 1, 1) := by decide +kernel
theorem dX0_yields_1 : decode cX0_yields 1 = .ok (.iconst 5, 1) := by decide +kernel
theorem dX0_yields_2 : decode cX0_yields 2 = .ok (.iadd, 1) := by decide +kernel
theorem dX0_yields_3 : decode cX0_yields 3 = .ok (.istore_n 2, 1) := by decide +kernel
theorem dX0_yields_4 : decode cX0_yields 4 = .ok (.iload_n 0, 1) := by decide +kernel
theorem dX0_yields_5 : decode cX0_yields 5 = .ok (.tableswitch 49 1 5 #[39, 49, 35, 47, 39], 35) := by decide +kernel
theorem dX0_yields_40 : decode cX0_yields 40 = .ok (.iload_n 2, 1) := by decide +kernel
theorem dX0_yields_41 : decode cX0_yields 41 = .ok (.iconst 3, 1) := by decide +kernel
theorem dX0_yields_42 : decode cX0_yields 42 = .ok (.iadd, 1) := by decide +kernel
theorem dX0_yields_43 : decode cX0_yields 43 = .ok (.ireturn, 1) := by decide +kernel
theorem dX0_yields_44 : decode cX0_yields 44 = .ok (.iconst 0, 1) := by decide +kernel
theorem dX0_yields_45 : decode cX0_yields 45 = .ok (.iload_n 2, 1) := by decide +kernel
theorem dX0_yields_46 : decode cX0_yields 46 = .ok (.iconst 4, 1) := by decide +kernel
theorem dX0_yields_47 : decode cX0_yields 47 = .ok (.isub, 1) := by decide +kernel
theorem dX0_yields_48 : decode cX0_yields 48 = .ok (.invokestatic 70, 3) := by decide +kernel
theorem dX0_yields_51 : decode cX0_yields 51 = .ok (.ireturn, 1) := by decide +kernel
theorem dX0_yields_52 : decode cX0_yields 52 = .ok (.iconst 0, 1) := by decide +kernel
theorem dX0_yields_53 : decode cX0_yields 53 = .ok (.ireturn, 1) := by decide +kernel
theorem dX0_yields_54 : decode cX0_yields 54 = .ok (.iload_n 2, 1) := by decide +kernel
theorem dX0_yields_55 : decode cX0_yields 55 = .ok (.ireturn, 1) := by decide +kernel
theorem dX0_turns_0 : decode cX0_turns 0 = .ok (.iload_n 0, 1) := by decide +kernel
theorem dX0_turns_1 : decode cX0_turns 1 = .ok (.iconst 1, 1) := by decide +kernel
theorem dX0_turns_2 : decode cX0_turns 2 = .ok (.invokestatic 76, 3) := by decide +kernel
theorem dX0_turns_5 : decode cX0_turns 5 = .ok (.ifCond .ne 7, 3) := by decide +kernel
theorem dX0_turns_8 : decode cX0_turns 8 = .ok (.iconst 1, 1) := by decide +kernel
theorem dX0_turns_9 : decode cX0_turns 9 = .ok (.goto 4, 3) := by decide +kernel
theorem dX0_turns_12 : decode cX0_turns 12 = .ok (.iconst 0, 1) := by decide +kernel
theorem dX0_turns_13 : decode cX0_turns 13 = .ok (.ireturn, 1) := by decide +kernel
theorem dX0_addCoin_0 : decode cX0_addCoin 0 = .ok (.aload_n 0, 1) := by decide +kernel
theorem dX0_addCoin_1 : decode cX0_addCoin 1 = .ok (.getfield 51, 3) := by decide +kernel
theorem dX0_addCoin_4 : decode cX0_addCoin 4 = .ok (.istore 5, 2) := by decide +kernel
theorem dX0_addCoin_6 : decode cX0_addCoin 6 = .ok (.iload 5, 2) := by decide +kernel
theorem dX0_addCoin_8 : decode cX0_addCoin 8 = .ok (.bipush 12, 2) := by decide +kernel
theorem dX0_addCoin_10 : decode cX0_addCoin 10 = .ok (.if_icmp .lt 5, 3) := by decide +kernel
theorem dX0_addCoin_13 : decode cX0_addCoin 13 = .ok (.iconst (-1), 1) := by decide +kernel
theorem dX0_addCoin_14 : decode cX0_addCoin 14 = .ok (.ireturn, 1) := by decide +kernel
theorem dX0_addCoin_15 : decode cX0_addCoin 15 = .ok (.aload_n 0, 1) := by decide +kernel
theorem dX0_addCoin_16 : decode cX0_addCoin 16 = .ok (.getfield 9, 3) := by decide +kernel
theorem dX0_addCoin_19 : decode cX0_addCoin 19 = .ok (.iload 5, 2) := by decide +kernel
theorem dX0_addCoin_21 : decode cX0_addCoin 21 = .ok (.iload_n 1, 1) := by decide +kernel
theorem dX0_addCoin_22 : decode cX0_addCoin 22 = .ok (.iastore, 1) := by decide +kernel
theorem dX0_addCoin_23 : decode cX0_addCoin 23 = .ok (.aload_n 0, 1) := by decide +kernel
theorem dX0_addCoin_24 : decode cX0_addCoin 24 = .ok (.getfield 15, 3) := by decide +kernel
theorem dX0_addCoin_27 : decode cX0_addCoin 27 = .ok (.iload 5, 2) := by decide +kernel
theorem dX0_addCoin_29 : decode cX0_addCoin 29 = .ok (.iload_n 2, 1) := by decide +kernel
theorem dX0_addCoin_30 : decode cX0_addCoin 30 = .ok (.iastore, 1) := by decide +kernel
theorem dX0_addCoin_31 : decode cX0_addCoin 31 = .ok (.aload_n 0, 1) := by decide +kernel
theorem dX0_addCoin_32 : decode cX0_addCoin 32 = .ok (.getfield 18, 3) := by decide +kernel
theorem dX0_addCoin_35 : decode cX0_addCoin 35 = .ok (.iload 5, 2) := by decide +kernel
theorem dX0_addCoin_37 : decode cX0_addCoin 37 = .ok (.iload_n 3, 1) := by decide +kernel
theorem dX0_addCoin_38 : decode cX0_addCoin 38 = .ok (.iastore, 1) := by decide +kernel
theorem dX0_addCoin_39 : decode cX0_addCoin 39 = .ok (.aload_n 0, 1) := by decide +kernel
theorem dX0_addCoin_40 : decode cX0_addCoin 40 = .ok (.getfield 21, 3) := by decide +kernel
theorem dX0_addCoin_43 : decode cX0_addCoin 43 = .ok (.iload 5, 2) := by decide +kernel
theorem dX0_addCoin_45 : decode cX0_addCoin 45 = .ok (.iload 4, 2) := by decide +kernel
theorem dX0_addCoin_47 : decode cX0_addCoin 47 = .ok (.iastore, 1) := by decide +kernel
theorem dX0_addCoin_48 : decode cX0_addCoin 48 = .ok (.aload_n 0, 1) := by decide +kernel
theorem dX0_addCoin_49 : decode cX0_addCoin 49 = .ok (.dup, 1) := by decide +kernel
theorem dX0_addCoin_50 : decode cX0_addCoin 50 = .ok (.getfield 51, 3) := by decide +kernel
theorem dX0_addCoin_53 : decode cX0_addCoin 53 = .ok (.iconst 1, 1) := by decide +kernel
theorem dX0_addCoin_54 : decode cX0_addCoin 54 = .ok (.iadd, 1) := by decide +kernel
theorem dX0_addCoin_55 : decode cX0_addCoin 55 = .ok (.putfield 51, 3) := by decide +kernel
theorem dX0_addCoin_58 : decode cX0_addCoin 58 = .ok (.iload 5, 2) := by decide +kernel
theorem dX0_addCoin_60 : decode cX0_addCoin 60 = .ok (.ireturn, 1) := by decide +kernel
theorem dX0_exchange_0 : decode cX0_exchange 0 = .ok (.aload_n 0, 1) := by decide +kernel
theorem dX0_exchange_1 : decode cX0_exchange 1 = .ok (.getfield 9, 3) := by decide +kernel
theorem dX0_exchange_4 : decode cX0_exchange 4 = .ok (.iload_n 1, 1) := by decide +kernel
theorem dX0_exchange_5 : decode cX0_exchange 5 = .ok (.iload_n 2, 1) := by decide +kernel
theorem dX0_exchange_6 : decode cX0_exchange 6 = .ok (.invokestatic 80, 3) := by decide +kernel
theorem dX0_exchange_9 : decode cX0_exchange 9 = .ok (.aload_n 0, 1) := by decide +kernel
theorem dX0_exchange_10 : decode cX0_exchange 10 = .ok (.getfield 15, 3) := by decide +kernel
theorem dX0_exchange_13 : decode cX0_exchange 13 = .ok (.iload_n 1, 1) := by decide +kernel
theorem dX0_exchange_14 : decode cX0_exchange 14 = .ok (.iload_n 2, 1) := by decide +kernel
theorem dX0_exchange_15 : decode cX0_exchange 15 = .ok (.invokestatic 80, 3) := by decide +kernel
theorem dX0_exchange_18 : decode cX0_exchange 18 = .ok (.aload_n 0, 1) := by decide +kernel
theorem dX0_exchange_19 : decode cX0_exchange 19 = .ok (.getfield 18, 3) := by decide +kernel
theorem dX0_exchange_22 : decode cX0_exchange 22 = .ok (.iload_n 1, 1) := by decide +kernel
theorem dX0_exchange_23 : decode cX0_exchange 23 = .ok (.iload_n 2, 1) := by decide +kernel
theorem dX0_exchange_24 : decode cX0_exchange 24 = .ok (.invokestatic 80, 3) := by decide +kernel
theorem dX0_exchange_27 : decode cX0_exchange 27 = .ok (.aload_n 0, 1) := by decide +kernel
theorem dX0_exchange_28 : decode cX0_exchange 28 = .ok (.getfield 21, 3) := by decide +kernel
theorem dX0_exchange_31 : decode cX0_exchange 31 = .ok (.iload_n 1, 1) := by decide +kernel
theorem dX0_exchange_32 : decode cX0_exchange 32 = .ok (.iload_n 2, 1) := by decide +kernel
theorem dX0_exchange_33 : decode cX0_exchange 33 = .ok (.invokestatic 80, 3) := by decide +kernel
theorem dX0_exchange_36 : decode cX0_exchange 36 = .ok (.return_, 1) := by decide +kernel
theorem dX0_exchangeIn_0 : decode cX0_exchangeIn 0 = .ok (.aload_n 0, 1) := by decide +kernel
theorem dX0_exchangeIn_1 : decode cX0_exchangeIn 1 = .ok (.iload_n 1, 1) := by decide +kernel
theorem dX0_exchangeIn_2 : decode cX0_exchangeIn 2 = .ok (.iaload, 1) := by decide +kernel
theorem dX0_exchangeIn_3 : decode cX0_exchangeIn 3 = .ok (.istore_n 3, 1) := by decide +kernel
theorem dX0_exchangeIn_4 : decode cX0_exchangeIn 4 = .ok (.aload_n 0, 1) := by decide +kernel
theorem dX0_exchangeIn_5 : decode cX0_exchangeIn 5 = .ok (.iload_n 1, 1) := by decide +kernel
theorem dX0_exchangeIn_6 : decode cX0_exchangeIn 6 = .ok (.aload_n 0, 1) := by decide +kernel
theorem dX0_exchangeIn_7 : decode cX0_exchangeIn 7 = .ok (.iload_n 2, 1) := by decide +kernel
theorem dX0_exchangeIn_8 : decode cX0_exchangeIn 8 = .ok (.iaload, 1) := by decide +kernel
theorem dX0_exchangeIn_9 : decode cX0_exchangeIn 9 = .ok (.iastore, 1) := by decide +kernel
theorem dX0_exchangeIn_10 : decode cX0_exchangeIn 10 = .ok (.aload_n 0, 1) := by decide +kernel
theorem dX0_exchangeIn_11 : decode cX0_exchangeIn 11 = .ok (.iload_n 2, 1) := by decide +kernel
theorem dX0_exchangeIn_12 : decode cX0_exchangeIn 12 = .ok (.iload_n 3, 1) := by decide +kernel
theorem dX0_exchangeIn_13 : decode cX0_exchangeIn 13 = .ok (.iastore, 1) := by decide +kernel
theorem dX0_exchangeIn_14 : decode cX0_exchangeIn 14 = .ok (.return_, 1) := by decide +kernel
theorem dX0_plantSet_0 : decode cX0_plantSet 0 = .ok (.iconst 0, 1) := by decide +kernel
theorem dX0_plantSet_1 : decode cX0_plantSet 1 = .ok (.istore_n 2, 1) := by decide +kernel
theorem dX0_plantSet_2 : decode cX0_plantSet 2 = .ok (.iload_n 2, 1) := by decide +kernel
theorem dX0_plantSet_3 : decode cX0_plantSet 3 = .ok (.aload_n 0, 1) := by decide +kernel
theorem dX0_plantSet_4 : decode cX0_plantSet 4 = .ok (.getfield 51, 3) := by decide +kernel
theorem dX0_plantSet_7 : decode cX0_plantSet 7 = .ok (.if_icmp .ge 25, 3) := by decide +kernel
theorem dX0_plantSet_10 : decode cX0_plantSet 10 = .ok (.iload_n 1, 1) := by decide +kernel
theorem dX0_plantSet_11 : decode cX0_plantSet 11 = .ok (.iload_n 2, 1) := by decide +kernel
theorem dX0_plantSet_12 : decode cX0_plantSet 12 = .ok (.ishr, 1) := by decide +kernel
theorem dX0_plantSet_13 : decode cX0_plantSet 13 = .ok (.iconst 1, 1) := by decide +kernel
theorem dX0_plantSet_14 : decode cX0_plantSet 14 = .ok (.iand, 1) := by decide +kernel
theorem dX0_plantSet_15 : decode cX0_plantSet 15 = .ok (.iconst 1, 1) := by decide +kernel
theorem dX0_plantSet_16 : decode cX0_plantSet 16 = .ok (.if_icmp .ne 10, 3) := by decide +kernel
theorem dX0_plantSet_19 : decode cX0_plantSet 19 = .ok (.aload_n 0, 1) := by decide +kernel
theorem dX0_plantSet_20 : decode cX0_plantSet 20 = .ok (.getfield 21, 3) := by decide +kernel
theorem dX0_plantSet_23 : decode cX0_plantSet 23 = .ok (.iload_n 2, 1) := by decide +kernel
theorem dX0_plantSet_24 : decode cX0_plantSet 24 = .ok (.iconst 2, 1) := by decide +kernel
theorem dX0_plantSet_25 : decode cX0_plantSet 25 = .ok (.iastore, 1) := by decide +kernel
theorem dX0_plantSet_26 : decode cX0_plantSet 26 = .ok (.iinc 2 1, 3) := by decide +kernel
theorem dX0_plantSet_29 : decode cX0_plantSet 29 = .ok (.goto (-27), 3) := by decide +kernel
theorem dX0_plantSet_32 : decode cX0_plantSet 32 = .ok (.return_, 1) := by decide +kernel
theorem dX0_season_0 : decode cX0_season 0 = .ok (.aload_n 0, 1) := by decide +kernel
theorem dX0_season_1 : decode cX0_season 1 = .ok (.getfield 58, 3) := by decide +kernel
theorem dX0_season_4 : decode cX0_season 4 = .ok (.bipush 12, 2) := by decide +kernel
theorem dX0_season_6 : decode cX0_season 6 = .ok (.irem, 1) := by decide +kernel
theorem dX0_season_7 : decode cX0_season 7 = .ok (.ireturn, 1) := by decide +kernel
theorem dX0_isPlantingTime_0 : decode cX0_isPlantingTime 0 = .ok (.aload_n 0, 1) := by decide +kernel
theorem dX0_isPlantingTime_1 : decode cX0_isPlantingTime 1 = .ok (.invokevirtual 84, 3) := by decide +kernel
theorem dX0_isPlantingTime_4 : decode cX0_isPlantingTime 4 = .ok (.iconst 2, 1) := by decide +kernel
theorem dX0_isPlantingTime_5 : decode cX0_isPlantingTime 5 = .ok (.if_icmp .lt 15, 3) := by decide +kernel
theorem dX0_isPlantingTime_8 : decode cX0_isPlantingTime 8 = .ok (.aload_n 0, 1) := by decide +kernel
theorem dX0_isPlantingTime_9 : decode cX0_isPlantingTime 9 = .ok (.invokevirtual 84, 3) := by decide +kernel
theorem dX0_isPlantingTime_12 : decode cX0_isPlantingTime 12 = .ok (.iconst 5, 1) := by decide +kernel
theorem dX0_isPlantingTime_13 : decode cX0_isPlantingTime 13 = .ok (.if_icmp .gt 7, 3) := by decide +kernel
theorem dX0_isPlantingTime_16 : decode cX0_isPlantingTime 16 = .ok (.iconst 1, 1) := by decide +kernel
theorem dX0_isPlantingTime_17 : decode cX0_isPlantingTime 17 = .ok (.goto 4, 3) := by decide +kernel
theorem dX0_isPlantingTime_20 : decode cX0_isPlantingTime 20 = .ok (.iconst 0, 1) := by decide +kernel
theorem dX0_isPlantingTime_21 : decode cX0_isPlantingTime 21 = .ok (.ireturn, 1) := by decide +kernel
theorem dX0_yieldOf_0 : decode cX0_yieldOf 0 = .ok (.aload_n 0, 1) := by decide +kernel
theorem dX0_yieldOf_1 : decode cX0_yieldOf 1 = .ok (.getfield 9, 3) := by decide +kernel
theorem dX0_yieldOf_4 : decode cX0_yieldOf 4 = .ok (.iload_n 1, 1) := by decide +kernel
theorem dX0_yieldOf_5 : decode cX0_yieldOf 5 = .ok (.iaload, 1) := by decide +kernel
theorem dX0_yieldOf_6 : decode cX0_yieldOf 6 = .ok (.aload_n 0, 1) := by decide +kernel
theorem dX0_yieldOf_7 : decode cX0_yieldOf 7 = .ok (.getfield 24, 3) := by decide +kernel
theorem dX0_yieldOf_10 : decode cX0_yieldOf 10 = .ok (.aload_n 0, 1) := by decide +kernel
theorem dX0_yieldOf_11 : decode cX0_yieldOf 11 = .ok (.getfield 15, 3) := by decide +kernel
theorem dX0_yieldOf_14 : decode cX0_yieldOf 14 = .ok (.iload_n 1, 1) := by decide +kernel
theorem dX0_yieldOf_15 : decode cX0_yieldOf 15 = .ok (.iaload, 1) := by decide +kernel
theorem dX0_yieldOf_16 : decode cX0_yieldOf 16 = .ok (.iaload, 1) := by decide +kernel
theorem dX0_yieldOf_17 : decode cX0_yieldOf 17 = .ok (.invokestatic 88, 3) := by decide +kernel
theorem dX0_yieldOf_20 : decode cX0_yieldOf 20 = .ok (.ireturn, 1) := by decide +kernel
theorem dX0_worthOf_0 : decode cX0_worthOf 0 = .ok (.aload_n 0, 1) := by decide +kernel
theorem dX0_worthOf_1 : decode cX0_worthOf 1 = .ok (.getfield 21, 3) := by decide +kernel
theorem dX0_worthOf_4 : decode cX0_worthOf 4 = .ok (.iload_n 1, 1) := by decide +kernel
theorem dX0_worthOf_5 : decode cX0_worthOf 5 = .ok (.iaload, 1) := by decide +kernel
theorem dX0_worthOf_6 : decode cX0_worthOf 6 = .ok (.ifCond .ne 25, 3) := by decide +kernel
theorem dX0_worthOf_9 : decode cX0_worthOf 9 = .ok (.aload_n 0, 1) := by decide +kernel
theorem dX0_worthOf_10 : decode cX0_worthOf 10 = .ok (.getfield 18, 3) := by decide +kernel
theorem dX0_worthOf_13 : decode cX0_worthOf 13 = .ok (.iload_n 1, 1) := by decide +kernel
theorem dX0_worthOf_14 : decode cX0_worthOf 14 = .ok (.iaload, 1) := by decide +kernel
theorem dX0_worthOf_15 : decode cX0_worthOf 15 = .ok (.aload_n 0, 1) := by decide +kernel
theorem dX0_worthOf_16 : decode cX0_worthOf 16 = .ok (.getfield 27, 3) := by decide +kernel
theorem dX0_worthOf_19 : decode cX0_worthOf 19 = .ok (.aload_n 0, 1) := by decide +kernel
theorem dX0_worthOf_20 : decode cX0_worthOf 20 = .ok (.invokevirtual 84, 3) := by decide +kernel
theorem dX0_worthOf_23 : decode cX0_worthOf 23 = .ok (.iaload, 1) := by decide +kernel
theorem dX0_worthOf_24 : decode cX0_worthOf 24 = .ok (.imul, 1) := by decide +kernel
theorem dX0_worthOf_25 : decode cX0_worthOf 25 = .ok (.bipush 10, 2) := by decide +kernel
theorem dX0_worthOf_27 : decode cX0_worthOf 27 = .ok (.idiv, 1) := by decide +kernel
theorem dX0_worthOf_28 : decode cX0_worthOf 28 = .ok (.goto 4, 3) := by decide +kernel
theorem dX0_worthOf_31 : decode cX0_worthOf 31 = .ok (.iconst 0, 1) := by decide +kernel
theorem dX0_worthOf_32 : decode cX0_worthOf 32 = .ok (.ireturn, 1) := by decide +kernel
theorem dX0_howMany_0 : decode cX0_howMany 0 = .ok (.iconst 0, 1) := by decide +kernel
theorem dX0_howMany_1 : decode cX0_howMany 1 = .ok (.istore_n 2, 1) := by decide +kernel
theorem dX0_howMany_2 : decode cX0_howMany 2 = .ok (.iconst 0, 1) := by decide +kernel
theorem dX0_howMany_3 : decode cX0_howMany 3 = .ok (.istore_n 3, 1) := by decide +kernel
theorem dX0_howMany_4 : decode cX0_howMany 4 = .ok (.iload_n 3, 1) := by decide +kernel
theorem dX0_howMany_5 : decode cX0_howMany 5 = .ok (.aload_n 0, 1) := by decide +kernel
theorem dX0_howMany_6 : decode cX0_howMany 6 = .ok (.getfield 51, 3) := by decide +kernel
theorem dX0_howMany_9 : decode cX0_howMany 9 = .ok (.if_icmp .ge 22, 3) := by decide +kernel
theorem dX0_howMany_12 : decode cX0_howMany 12 = .ok (.aload_n 0, 1) := by decide +kernel
theorem dX0_howMany_13 : decode cX0_howMany 13 = .ok (.getfield 21, 3) := by decide +kernel
theorem dX0_howMany_16 : decode cX0_howMany 16 = .ok (.iload_n 3, 1) := by decide +kernel
theorem dX0_howMany_17 : decode cX0_howMany 17 = .ok (.iaload, 1) := by decide +kernel
theorem dX0_howMany_18 : decode cX0_howMany 18 = .ok (.iload_n 1, 1) := by decide +kernel
theorem dX0_howMany_19 : decode cX0_howMany 19 = .ok (.if_icmp .ne 6, 3) := by decide +kernel
theorem dX0_howMany_22 : decode cX0_howMany 22 = .ok (.iinc 2 1, 3) := by decide +kernel
theorem dX0_howMany_25 : decode cX0_howMany 25 = .ok (.iinc 3 1, 3) := by decide +kernel
theorem dX0_howMany_28 : decode cX0_howMany 28 = .ok (.goto (-24), 3) := by decide +kernel
theorem dX0_howMany_31 : decode cX0_howMany 31 = .ok (.iload_n 2, 1) := by decide +kernel
theorem dX0_howMany_32 : decode cX0_howMany 32 = .ok (.ireturn, 1) := by decide +kernel
theorem dX0_sizeOfAll_0 : decode cX0_sizeOfAll 0 = .ok (.iconst 0, 1) := by decide +kernel
theorem dX0_sizeOfAll_1 : decode cX0_sizeOfAll 1 = .ok (.istore_n 1, 1) := by decide +kernel
theorem dX0_sizeOfAll_2 : decode cX0_sizeOfAll 2 = .ok (.iconst 0, 1) := by decide +kernel
theorem dX0_sizeOfAll_3 : decode cX0_sizeOfAll 3 = .ok (.istore_n 2, 1) := by decide +kernel
theorem dX0_sizeOfAll_4 : decode cX0_sizeOfAll 4 = .ok (.iload_n 2, 1) := by decide +kernel
theorem dX0_sizeOfAll_5 : decode cX0_sizeOfAll 5 = .ok (.aload_n 0, 1) := by decide +kernel
theorem dX0_sizeOfAll_6 : decode cX0_sizeOfAll 6 = .ok (.getfield 51, 3) := by decide +kernel
theorem dX0_sizeOfAll_9 : decode cX0_sizeOfAll 9 = .ok (.if_icmp .ge 18, 3) := by decide +kernel
theorem dX0_sizeOfAll_12 : decode cX0_sizeOfAll 12 = .ok (.iload_n 1, 1) := by decide +kernel
theorem dX0_sizeOfAll_13 : decode cX0_sizeOfAll 13 = .ok (.aload_n 0, 1) := by decide +kernel
theorem dX0_sizeOfAll_14 : decode cX0_sizeOfAll 14 = .ok (.getfield 18, 3) := by decide +kernel
theorem dX0_sizeOfAll_17 : decode cX0_sizeOfAll 17 = .ok (.iload_n 2, 1) := by decide +kernel
theorem dX0_sizeOfAll_18 : decode cX0_sizeOfAll 18 = .ok (.iaload, 1) := by decide +kernel
theorem dX0_sizeOfAll_19 : decode cX0_sizeOfAll 19 = .ok (.iadd, 1) := by decide +kernel
theorem dX0_sizeOfAll_20 : decode cX0_sizeOfAll 20 = .ok (.istore_n 1, 1) := by decide +kernel
theorem dX0_sizeOfAll_21 : decode cX0_sizeOfAll 21 = .ok (.iinc 2 1, 3) := by decide +kernel
theorem dX0_sizeOfAll_24 : decode cX0_sizeOfAll 24 = .ok (.goto (-20), 3) := by decide +kernel
theorem dX0_sizeOfAll_27 : decode cX0_sizeOfAll 27 = .ok (.iload_n 1, 1) := by decide +kernel
theorem dX0_sizeOfAll_28 : decode cX0_sizeOfAll 28 = .ok (.ireturn, 1) := by decide +kernel
theorem dX0_isSoundOf_0 : decode cX0_isSoundOf 0 = .ok (.aload_n 0, 1) := by decide +kernel
theorem dX0_isSoundOf_1 : decode cX0_isSoundOf 1 = .ok (.getfield 21, 3) := by decide +kernel
theorem dX0_isSoundOf_4 : decode cX0_isSoundOf 4 = .ok (.iload_n 1, 1) := by decide +kernel
theorem dX0_isSoundOf_5 : decode cX0_isSoundOf 5 = .ok (.iaload, 1) := by decide +kernel
theorem dX0_isSoundOf_6 : decode cX0_isSoundOf 6 = .ok (.ifCond .ne 17, 3) := by decide +kernel
theorem dX0_isSoundOf_9 : decode cX0_isSoundOf 9 = .ok (.aload_n 0, 1) := by decide +kernel
theorem dX0_isSoundOf_10 : decode cX0_isSoundOf 10 = .ok (.getfield 15, 3) := by decide +kernel
theorem dX0_isSoundOf_13 : decode cX0_isSoundOf 13 = .ok (.iload_n 1, 1) := by decide +kernel
theorem dX0_isSoundOf_14 : decode cX0_isSoundOf 14 = .ok (.iaload, 1) := by decide +kernel
theorem dX0_isSoundOf_15 : decode cX0_isSoundOf 15 = .ok (.iload_n 2, 1) := by decide +kernel
theorem dX0_isSoundOf_16 : decode cX0_isSoundOf 16 = .ok (.if_icmp .ne 7, 3) := by decide +kernel
theorem dX0_isSoundOf_19 : decode cX0_isSoundOf 19 = .ok (.iconst 1, 1) := by decide +kernel
theorem dX0_isSoundOf_20 : decode cX0_isSoundOf 20 = .ok (.goto 4, 3) := by decide +kernel
theorem dX0_isSoundOf_23 : decode cX0_isSoundOf 23 = .ok (.iconst 0, 1) := by decide +kernel
theorem dX0_isSoundOf_24 : decode cX0_isSoundOf 24 = .ok (.ireturn, 1) := by decide +kernel
theorem dX0_soundOf_0 : decode cX0_soundOf 0 = .ok (.iconst 0, 1) := by decide +kernel
theorem dX0_soundOf_1 : decode cX0_soundOf 1 = .ok (.istore_n 2, 1) := by decide +kernel
theorem dX0_soundOf_2 : decode cX0_soundOf 2 = .ok (.iconst 0, 1) := by decide +kernel
theorem dX0_soundOf_3 : decode cX0_soundOf 3 = .ok (.istore_n 3, 1) := by decide +kernel
theorem dX0_soundOf_4 : decode cX0_soundOf 4 = .ok (.iload_n 3, 1) := by decide +kernel
theorem dX0_soundOf_5 : decode cX0_soundOf 5 = .ok (.aload_n 0, 1) := by decide +kernel
theorem dX0_soundOf_6 : decode cX0_soundOf 6 = .ok (.getfield 51, 3) := by decide +kernel
theorem dX0_soundOf_9 : decode cX0_soundOf 9 = .ok (.if_icmp .ge 24, 3) := by decide +kernel
theorem dX0_soundOf_12 : decode cX0_soundOf 12 = .ok (.aload_n 0, 1) := by decide +kernel
theorem dX0_soundOf_13 : decode cX0_soundOf 13 = .ok (.iload_n 3, 1) := by decide +kernel
theorem dX0_soundOf_14 : decode cX0_soundOf 14 = .ok (.iload_n 1, 1) := by decide +kernel
theorem dX0_soundOf_15 : decode cX0_soundOf 15 = .ok (.invokevirtual 91, 3) := by decide +kernel
theorem dX0_soundOf_18 : decode cX0_soundOf 18 = .ok (.ifCond .eq 9, 3) := by decide +kernel
theorem dX0_soundOf_21 : decode cX0_soundOf 21 = .ok (.iload_n 2, 1) := by decide +kernel
theorem dX0_soundOf_22 : decode cX0_soundOf 22 = .ok (.iconst 1, 1) := by decide +kernel
theorem dX0_soundOf_23 : decode cX0_soundOf 23 = .ok (.iload_n 3, 1) := by decide +kernel
theorem dX0_soundOf_24 : decode cX0_soundOf 24 = .ok (.ishl, 1) := by decide +kernel
theorem dX0_soundOf_25 : decode cX0_soundOf 25 = .ok (.ior, 1) := by decide +kernel
theorem dX0_soundOf_26 : decode cX0_soundOf 26 = .ok (.istore_n 2, 1) := by decide +kernel
theorem dX0_soundOf_27 : decode cX0_soundOf 27 = .ok (.iinc 3 1, 3) := by decide +kernel
theorem dX0_soundOf_30 : decode cX0_soundOf 30 = .ok (.goto (-26), 3) := by decide +kernel
theorem dX0_soundOf_33 : decode cX0_soundOf 33 = .ok (.iload_n 2, 1) := by decide +kernel
theorem dX0_soundOf_34 : decode cX0_soundOf 34 = .ok (.ireturn, 1) := by decide +kernel
theorem dX0_worthOfSet_0 : decode cX0_worthOfSet 0 = .ok (.iconst 0, 1) := by decide +kernel
theorem dX0_worthOfSet_1 : decode cX0_worthOfSet 1 = .ok (.istore_n 2, 1) := by decide +kernel
theorem dX0_worthOfSet_2 : decode cX0_worthOfSet 2 = .ok (.iconst 0, 1) := by decide +kernel
theorem dX0_worthOfSet_3 : decode cX0_worthOfSet 3 = .ok (.istore_n 3, 1) := by decide +kernel
theorem dX0_worthOfSet_4 : decode cX0_worthOfSet 4 = .ok (.iload_n 3, 1) := by decide +kernel
theorem dX0_worthOfSet_5 : decode cX0_worthOfSet 5 = .ok (.aload_n 0, 1) := by decide +kernel
theorem dX0_worthOfSet_6 : decode cX0_worthOfSet 6 = .ok (.getfield 51, 3) := by decide +kernel
theorem dX0_worthOfSet_9 : decode cX0_worthOfSet 9 = .ok (.if_icmp .ge 26, 3) := by decide +kernel
theorem dX0_worthOfSet_12 : decode cX0_worthOfSet 12 = .ok (.iload_n 1, 1) := by decide +kernel
theorem dX0_worthOfSet_13 : decode cX0_worthOfSet 13 = .ok (.iload_n 3, 1) := by decide +kernel
theorem dX0_worthOfSet_14 : decode cX0_worthOfSet 14 = .ok (.ishr, 1) := by decide +kernel
theorem dX0_worthOfSet_15 : decode cX0_worthOfSet 15 = .ok (.iconst 1, 1) := by decide +kernel
theorem dX0_worthOfSet_16 : decode cX0_worthOfSet 16 = .ok (.iand, 1) := by decide +kernel
theorem dX0_worthOfSet_17 : decode cX0_worthOfSet 17 = .ok (.iconst 1, 1) := by decide +kernel
theorem dX0_worthOfSet_18 : decode cX0_worthOfSet 18 = .ok (.if_icmp .ne 11, 3) := by decide +kernel
theorem dX0_worthOfSet_21 : decode cX0_worthOfSet 21 = .ok (.iload_n 2, 1) := by decide +kernel
theorem dX0_worthOfSet_22 : decode cX0_worthOfSet 22 = .ok (.aload_n 0, 1) := by decide +kernel
theorem dX0_worthOfSet_23 : decode cX0_worthOfSet 23 = .ok (.iload_n 3, 1) := by decide +kernel
theorem dX0_worthOfSet_24 : decode cX0_worthOfSet 24 = .ok (.invokevirtual 94, 3) := by decide +kernel
theorem dX0_worthOfSet_27 : decode cX0_worthOfSet 27 = .ok (.iadd, 1) := by decide +kernel
theorem dX0_worthOfSet_28 : decode cX0_worthOfSet 28 = .ok (.istore_n 2, 1) := by decide +kernel
theorem dX0_worthOfSet_29 : decode cX0_worthOfSet 29 = .ok (.iinc 3 1, 3) := by decide +kernel
theorem dX0_worthOfSet_32 : decode cX0_worthOfSet 32 = .ok (.goto (-28), 3) := by decide +kernel
theorem dX0_worthOfSet_35 : decode cX0_worthOfSet 35 = .ok (.iload_n 2, 1) := by decide +kernel
theorem dX0_worthOfSet_36 : decode cX0_worthOfSet 36 = .ok (.ireturn, 1) := by decide +kernel
theorem dX0_purseOf_0 : decode cX0_purseOf 0 = .ok (.aload_n 0, 1) := by decide +kernel
theorem dX0_purseOf_1 : decode cX0_purseOf 1 = .ok (.aload_n 0, 1) := by decide +kernel
theorem dX0_purseOf_2 : decode cX0_purseOf 2 = .ok (.iload_n 1, 1) := by decide +kernel
theorem dX0_purseOf_3 : decode cX0_purseOf 3 = .ok (.invokevirtual 98, 3) := by decide +kernel
theorem dX0_purseOf_6 : decode cX0_purseOf 6 = .ok (.invokevirtual 101, 3) := by decide +kernel
theorem dX0_purseOf_9 : decode cX0_purseOf 9 = .ok (.ireturn, 1) := by decide +kernel
theorem dX0_worthOfAll_0 : decode cX0_worthOfAll 0 = .ok (.aload_n 0, 1) := by decide +kernel
theorem dX0_worthOfAll_1 : decode cX0_worthOfAll 1 = .ok (.sipush 4095, 3) := by decide +kernel
theorem dX0_worthOfAll_4 : decode cX0_worthOfAll 4 = .ok (.invokevirtual 101, 3) := by decide +kernel
theorem dX0_worthOfAll_7 : decode cX0_worthOfAll 7 = .ok (.ireturn, 1) := by decide +kernel
theorem dX0_richest_0 : decode cX0_richest 0 = .ok (.aload_n 0, 1) := by decide +kernel
theorem dX0_richest_1 : decode cX0_richest 1 = .ok (.iconst 0, 1) := by decide +kernel
theorem dX0_richest_2 : decode cX0_richest 2 = .ok (.invokevirtual 104, 3) := by decide +kernel
theorem dX0_richest_5 : decode cX0_richest 5 = .ok (.istore_n 1, 1) := by decide +kernel
theorem dX0_richest_6 : decode cX0_richest 6 = .ok (.iconst 0, 1) := by decide +kernel
theorem dX0_richest_7 : decode cX0_richest 7 = .ok (.istore_n 2, 1) := by decide +kernel
theorem dX0_richest_8 : decode cX0_richest 8 = .ok (.iconst 1, 1) := by decide +kernel
theorem dX0_richest_9 : decode cX0_richest 9 = .ok (.istore_n 3, 1) := by decide +kernel
theorem dX0_richest_10 : decode cX0_richest 10 = .ok (.iload_n 3, 1) := by decide +kernel
theorem dX0_richest_11 : decode cX0_richest 11 = .ok (.iconst 4, 1) := by decide +kernel
theorem dX0_richest_12 : decode cX0_richest 12 = .ok (.if_icmp .ge 27, 3) := by decide +kernel
theorem dX0_richest_15 : decode cX0_richest 15 = .ok (.aload_n 0, 1) := by decide +kernel
theorem dX0_richest_16 : decode cX0_richest 16 = .ok (.iload_n 3, 1) := by decide +kernel
theorem dX0_richest_17 : decode cX0_richest 17 = .ok (.invokevirtual 104, 3) := by decide +kernel
theorem dX0_richest_20 : decode cX0_richest 20 = .ok (.istore 4, 2) := by decide +kernel
theorem dX0_richest_22 : decode cX0_richest 22 = .ok (.iload 4, 2) := by decide +kernel
theorem dX0_richest_24 : decode cX0_richest 24 = .ok (.iload_n 1, 1) := by decide +kernel
theorem dX0_richest_25 : decode cX0_richest 25 = .ok (.if_icmp .le 8, 3) := by decide +kernel
theorem dX0_richest_28 : decode cX0_richest 28 = .ok (.iload 4, 2) := by decide +kernel
theorem dX0_richest_30 : decode cX0_richest 30 = .ok (.istore_n 1, 1) := by decide +kernel
theorem dX0_richest_31 : decode cX0_richest 31 = .ok (.iload_n 3, 1) := by decide +kernel
theorem dX0_richest_32 : decode cX0_richest 32 = .ok (.istore_n 2, 1) := by decide +kernel
theorem dX0_richest_33 : decode cX0_richest 33 = .ok (.iinc 3 1, 3) := by decide +kernel
theorem dX0_richest_36 : decode cX0_richest 36 = .ok (.goto (-26), 3) := by decide +kernel
theorem dX0_richest_39 : decode cX0_richest 39 = .ok (.iload_n 2, 1) := by decide +kernel
theorem dX0_richest_40 : decode cX0_richest 40 = .ok (.ireturn, 1) := by decide +kernel
theorem dX0_ownerOfMostBlue_0 : decode cX0_ownerOfMostBlue 0 = .ok (.iconst 0, 1) := by decide +kernel
theorem dX0_ownerOfMostBlue_1 : decode cX0_ownerOfMostBlue 1 = .ok (.istore_n 1, 1) := by decide +kernel
theorem dX0_ownerOfMostBlue_2 : decode cX0_ownerOfMostBlue 2 = .ok (.iconst (-1), 1) := by decide +kernel
theorem dX0_ownerOfMostBlue_3 : decode cX0_ownerOfMostBlue 3 = .ok (.istore_n 2, 1) := by decide +kernel
theorem dX0_ownerOfMostBlue_4 : decode cX0_ownerOfMostBlue 4 = .ok (.iconst 0, 1) := by decide +kernel
theorem dX0_ownerOfMostBlue_5 : decode cX0_ownerOfMostBlue 5 = .ok (.istore_n 3, 1) := by decide +kernel
theorem dX0_ownerOfMostBlue_6 : decode cX0_ownerOfMostBlue 6 = .ok (.iload_n 3, 1) := by decide +kernel
theorem dX0_ownerOfMostBlue_7 : decode cX0_ownerOfMostBlue 7 = .ok (.iconst 4, 1) := by decide +kernel
theorem dX0_ownerOfMostBlue_8 : decode cX0_ownerOfMostBlue 8 = .ok (.if_icmp .ge 68, 3) := by decide +kernel
theorem dX0_ownerOfMostBlue_11 : decode cX0_ownerOfMostBlue 11 = .ok (.iconst 0, 1) := by decide +kernel
theorem dX0_ownerOfMostBlue_12 : decode cX0_ownerOfMostBlue 12 = .ok (.istore 4, 2) := by decide +kernel
theorem dX0_ownerOfMostBlue_14 : decode cX0_ownerOfMostBlue 14 = .ok (.iconst 0, 1) := by decide +kernel
theorem dX0_ownerOfMostBlue_15 : decode cX0_ownerOfMostBlue 15 = .ok (.istore 5, 2) := by decide +kernel
theorem dX0_ownerOfMostBlue_17 : decode cX0_ownerOfMostBlue 17 = .ok (.iload 5, 2) := by decide +kernel
theorem dX0_ownerOfMostBlue_19 : decode cX0_ownerOfMostBlue 19 = .ok (.aload_n 0, 1) := by decide +kernel
theorem dX0_ownerOfMostBlue_20 : decode cX0_ownerOfMostBlue 20 = .ok (.getfield 51, 3) := by decide +kernel
theorem dX0_ownerOfMostBlue_23 : decode cX0_ownerOfMostBlue 23 = .ok (.if_icmp .ge 36, 3) := by decide +kernel
theorem dX0_ownerOfMostBlue_26 : decode cX0_ownerOfMostBlue 26 = .ok (.aload_n 0, 1) := by decide +kernel
theorem dX0_ownerOfMostBlue_27 : decode cX0_ownerOfMostBlue 27 = .ok (.iload 5, 2) := by decide +kernel
theorem dX0_ownerOfMostBlue_29 : decode cX0_ownerOfMostBlue 29 = .ok (.iload_n 3, 1) := by decide +kernel
theorem dX0_ownerOfMostBlue_30 : decode cX0_ownerOfMostBlue 30 = .ok (.invokevirtual 91, 3) := by decide +kernel
theorem dX0_ownerOfMostBlue_33 : decode cX0_ownerOfMostBlue 33 = .ok (.ifCond .eq 20, 3) := by decide +kernel
theorem dX0_ownerOfMostBlue_36 : decode cX0_ownerOfMostBlue 36 = .ok (.aload_n 0, 1) := by decide +kernel
theorem dX0_ownerOfMostBlue_37 : decode cX0_ownerOfMostBlue 37 = .ok (.getfield 9, 3) := by decide +kernel
theorem dX0_ownerOfMostBlue_40 : decode cX0_ownerOfMostBlue 40 = .ok (.iload 5, 2) := by decide +kernel
theorem dX0_ownerOfMostBlue_42 : decode cX0_ownerOfMostBlue 42 = .ok (.iaload, 1) := by decide +kernel
theorem dX0_ownerOfMostBlue_43 : decode cX0_ownerOfMostBlue 43 = .ok (.iconst 1, 1) := by decide +kernel
theorem dX0_ownerOfMostBlue_44 : decode cX0_ownerOfMostBlue 44 = .ok (.invokestatic 76, 3) := by decide +kernel
theorem dX0_ownerOfMostBlue_47 : decode cX0_ownerOfMostBlue 47 = .ok (.ifCond .eq 6, 3) := by decide +kernel
theorem dX0_ownerOfMostBlue_50 : decode cX0_ownerOfMostBlue 50 = .ok (.iinc 4 1, 3) := by decide +kernel
theorem dX0_ownerOfMostBlue_53 : decode cX0_ownerOfMostBlue 53 = .ok (.iinc 5 1, 3) := by decide +kernel
theorem dX0_ownerOfMostBlue_56 : decode cX0_ownerOfMostBlue 56 = .ok (.goto (-39), 3) := by decide +kernel
theorem dX0_ownerOfMostBlue_59 : decode cX0_ownerOfMostBlue 59 = .ok (.iload 4, 2) := by decide +kernel
theorem dX0_ownerOfMostBlue_61 : decode cX0_ownerOfMostBlue 61 = .ok (.iload_n 1, 1) := by decide +kernel
theorem dX0_ownerOfMostBlue_62 : decode cX0_ownerOfMostBlue 62 = .ok (.if_icmp .le 8, 3) := by decide +kernel
theorem dX0_ownerOfMostBlue_65 : decode cX0_ownerOfMostBlue 65 = .ok (.iload 4, 2) := by decide +kernel
theorem dX0_ownerOfMostBlue_67 : decode cX0_ownerOfMostBlue 67 = .ok (.istore_n 1, 1) := by decide +kernel
theorem dX0_ownerOfMostBlue_68 : decode cX0_ownerOfMostBlue 68 = .ok (.iload_n 3, 1) := by decide +kernel
theorem dX0_ownerOfMostBlue_69 : decode cX0_ownerOfMostBlue 69 = .ok (.istore_n 2, 1) := by decide +kernel
theorem dX0_ownerOfMostBlue_70 : decode cX0_ownerOfMostBlue 70 = .ok (.iinc 3 1, 3) := by decide +kernel
theorem dX0_ownerOfMostBlue_73 : decode cX0_ownerOfMostBlue 73 = .ok (.goto (-67), 3) := by decide +kernel
theorem dX0_ownerOfMostBlue_76 : decode cX0_ownerOfMostBlue 76 = .ok (.iload_n 2, 1) := by decide +kernel
theorem dX0_ownerOfMostBlue_77 : decode cX0_ownerOfMostBlue 77 = .ok (.ireturn, 1) := by decide +kernel
theorem dX0_boilGreatest_0 : decode cX0_boilGreatest 0 = .ok (.iconst 0, 1) := by decide +kernel
theorem dX0_boilGreatest_1 : decode cX0_boilGreatest 1 = .ok (.istore_n 1, 1) := by decide +kernel
theorem dX0_boilGreatest_2 : decode cX0_boilGreatest 2 = .ok (.iconst 0, 1) := by decide +kernel
theorem dX0_boilGreatest_3 : decode cX0_boilGreatest 3 = .ok (.istore_n 2, 1) := by decide +kernel
theorem dX0_boilGreatest_4 : decode cX0_boilGreatest 4 = .ok (.iload_n 2, 1) := by decide +kernel
theorem dX0_boilGreatest_5 : decode cX0_boilGreatest 5 = .ok (.iconst 4, 1) := by decide +kernel
theorem dX0_boilGreatest_6 : decode cX0_boilGreatest 6 = .ok (.if_icmp .ge 29, 3) := by decide +kernel
theorem dX0_boilGreatest_9 : decode cX0_boilGreatest 9 = .ok (.aload_n 0, 1) := by decide +kernel
theorem dX0_boilGreatest_10 : decode cX0_boilGreatest 10 = .ok (.iload_n 2, 1) := by decide +kernel
theorem dX0_boilGreatest_11 : decode cX0_boilGreatest 11 = .ok (.invokevirtual 107, 3) := by decide +kernel
theorem dX0_boilGreatest_14 : decode cX0_boilGreatest 14 = .ok (.istore_n 3, 1) := by decide +kernel
theorem dX0_boilGreatest_15 : decode cX0_boilGreatest 15 = .ok (.iload_n 3, 1) := by decide +kernel
theorem dX0_boilGreatest_16 : decode cX0_boilGreatest 16 = .ok (.ifCond .lt 13, 3) := by decide +kernel
theorem dX0_boilGreatest_19 : decode cX0_boilGreatest 19 = .ok (.aload_n 0, 1) := by decide +kernel
theorem dX0_boilGreatest_20 : decode cX0_boilGreatest 20 = .ok (.getfield 9, 3) := by decide +kernel
theorem dX0_boilGreatest_23 : decode cX0_boilGreatest 23 = .ok (.iload_n 3, 1) := by decide +kernel
theorem dX0_boilGreatest_24 : decode cX0_boilGreatest 24 = .ok (.iconst 4, 1) := by decide +kernel
theorem dX0_boilGreatest_25 : decode cX0_boilGreatest 25 = .ok (.iastore, 1) := by decide +kernel
theorem dX0_boilGreatest_26 : decode cX0_boilGreatest 26 = .ok (.iinc 1 1, 3) := by decide +kernel
theorem dX0_boilGreatest_29 : decode cX0_boilGreatest 29 = .ok (.iinc 2 1, 3) := by decide +kernel
theorem dX0_boilGreatest_32 : decode cX0_boilGreatest 32 = .ok (.goto (-28), 3) := by decide +kernel
theorem dX0_boilGreatest_35 : decode cX0_boilGreatest 35 = .ok (.iload_n 1, 1) := by decide +kernel
theorem dX0_boilGreatest_36 : decode cX0_boilGreatest 36 = .ok (.ireturn, 1) := by decide +kernel
theorem dX0_greatestOf_0 : decode cX0_greatestOf 0 = .ok (.iconst (-1), 1) := by decide +kernel
theorem dX0_greatestOf_1 : decode cX0_greatestOf 1 = .ok (.istore_n 2, 1) := by decide +kernel
theorem dX0_greatestOf_2 : decode cX0_greatestOf 2 = .ok (.iconst (-1), 1) := by decide +kernel
theorem dX0_greatestOf_3 : decode cX0_greatestOf 3 = .ok (.istore_n 3, 1) := by decide +kernel
theorem dX0_greatestOf_4 : decode cX0_greatestOf 4 = .ok (.iconst 0, 1) := by decide +kernel
theorem dX0_greatestOf_5 : decode cX0_greatestOf 5 = .ok (.istore 4, 2) := by decide +kernel
theorem dX0_greatestOf_7 : decode cX0_greatestOf 7 = .ok (.iload 4, 2) := by decide +kernel
theorem dX0_greatestOf_9 : decode cX0_greatestOf 9 = .ok (.aload_n 0, 1) := by decide +kernel
theorem dX0_greatestOf_10 : decode cX0_greatestOf 10 = .ok (.getfield 51, 3) := by decide +kernel
theorem dX0_greatestOf_13 : decode cX0_greatestOf 13 = .ok (.if_icmp .ge 39, 3) := by decide +kernel
theorem dX0_greatestOf_16 : decode cX0_greatestOf 16 = .ok (.aload_n 0, 1) := by decide +kernel
theorem dX0_greatestOf_17 : decode cX0_greatestOf 17 = .ok (.iload 4, 2) := by decide +kernel
theorem dX0_greatestOf_19 : decode cX0_greatestOf 19 = .ok (.iload_n 1, 1) := by decide +kernel
theorem dX0_greatestOf_20 : decode cX0_greatestOf 20 = .ok (.invokevirtual 91, 3) := by decide +kernel
theorem dX0_greatestOf_23 : decode cX0_greatestOf 23 = .ok (.ifCond .eq 23, 3) := by decide +kernel
theorem dX0_greatestOf_26 : decode cX0_greatestOf 26 = .ok (.aload_n 0, 1) := by decide +kernel
theorem dX0_greatestOf_27 : decode cX0_greatestOf 27 = .ok (.iload 4, 2) := by decide +kernel
theorem dX0_greatestOf_29 : decode cX0_greatestOf 29 = .ok (.invokevirtual 94, 3) := by decide +kernel
theorem dX0_greatestOf_32 : decode cX0_greatestOf 32 = .ok (.iload_n 2, 1) := by decide +kernel
theorem dX0_greatestOf_33 : decode cX0_greatestOf 33 = .ok (.if_icmp .le 13, 3) := by decide +kernel
theorem dX0_greatestOf_36 : decode cX0_greatestOf 36 = .ok (.aload_n 0, 1) := by decide +kernel
theorem dX0_greatestOf_37 : decode cX0_greatestOf 37 = .ok (.iload 4, 2) := by decide +kernel
theorem dX0_greatestOf_39 : decode cX0_greatestOf 39 = .ok (.invokevirtual 94, 3) := by decide +kernel
theorem dX0_greatestOf_42 : decode cX0_greatestOf 42 = .ok (.istore_n 2, 1) := by decide +kernel
theorem dX0_greatestOf_43 : decode cX0_greatestOf 43 = .ok (.iload 4, 2) := by decide +kernel
theorem dX0_greatestOf_45 : decode cX0_greatestOf 45 = .ok (.istore_n 3, 1) := by decide +kernel
theorem dX0_greatestOf_46 : decode cX0_greatestOf 46 = .ok (.iinc 4 1, 3) := by decide +kernel
theorem dX0_greatestOf_49 : decode cX0_greatestOf 49 = .ok (.goto (-42), 3) := by decide +kernel
theorem dX0_greatestOf_52 : decode cX0_greatestOf 52 = .ok (.iload_n 3, 1) := by decide +kernel
theorem dX0_greatestOf_53 : decode cX0_greatestOf 53 = .ok (.ireturn, 1) := by decide +kernel
theorem dX0_handOver_0 : decode cX0_handOver 0 = .ok (.aload_n 0, 1) := by decide +kernel
theorem dX0_handOver_1 : decode cX0_handOver 1 = .ok (.iload_n 1, 1) := by decide +kernel
theorem dX0_handOver_2 : decode cX0_handOver 2 = .ok (.iload_n 3, 1) := by decide +kernel
theorem dX0_handOver_3 : decode cX0_handOver 3 = .ok (.invokevirtual 110, 3) := by decide +kernel
theorem dX0_handOver_6 : decode cX0_handOver 6 = .ok (.istore 4, 2) := by decide +kernel
theorem dX0_handOver_8 : decode cX0_handOver 8 = .ok (.aload_n 0, 1) := by decide +kernel
theorem dX0_handOver_9 : decode cX0_handOver 9 = .ok (.dup, 1) := by decide +kernel
theorem dX0_handOver_10 : decode cX0_handOver 10 = .ok (.getfield 61, 3) := by decide +kernel
theorem dX0_handOver_13 : decode cX0_handOver 13 = .ok (.iconst 0, 1) := by decide +kernel
theorem dX0_handOver_14 : decode cX0_handOver 14 = .ok (.iload_n 3, 1) := by decide +kernel
theorem dX0_handOver_15 : decode cX0_handOver 15 = .ok (.aload_n 0, 1) := by decide +kernel
theorem dX0_handOver_16 : decode cX0_handOver 16 = .ok (.iload 4, 2) := by decide +kernel
theorem dX0_handOver_18 : decode cX0_handOver 18 = .ok (.invokevirtual 101, 3) := by decide +kernel
theorem dX0_handOver_21 : decode cX0_handOver 21 = .ok (.isub, 1) := by decide +kernel
theorem dX0_handOver_22 : decode cX0_handOver 22 = .ok (.invokestatic 70, 3) := by decide +kernel
theorem dX0_handOver_25 : decode cX0_handOver 25 = .ok (.iadd, 1) := by decide +kernel
theorem dX0_handOver_26 : decode cX0_handOver 26 = .ok (.putfield 61, 3) := by decide +kernel
theorem dX0_handOver_29 : decode cX0_handOver 29 = .ok (.iconst 0, 1) := by decide +kernel
theorem dX0_handOver_30 : decode cX0_handOver 30 = .ok (.istore 5, 2) := by decide +kernel
theorem dX0_handOver_32 : decode cX0_handOver 32 = .ok (.iload 5, 2) := by decide +kernel
theorem dX0_handOver_34 : decode cX0_handOver 34 = .ok (.aload_n 0, 1) := by decide +kernel
theorem dX0_handOver_35 : decode cX0_handOver 35 = .ok (.getfield 51, 3) := by decide +kernel
theorem dX0_handOver_38 : decode cX0_handOver 38 = .ok (.if_icmp .ge 28, 3) := by decide +kernel
theorem dX0_handOver_41 : decode cX0_handOver 41 = .ok (.iload 4, 2) := by decide +kernel
theorem dX0_handOver_43 : decode cX0_handOver 43 = .ok (.iload 5, 2) := by decide +kernel
theorem dX0_handOver_45 : decode cX0_handOver 45 = .ok (.ishr, 1) := by decide +kernel
theorem dX0_handOver_46 : decode cX0_handOver 46 = .ok (.iconst 1, 1) := by decide +kernel
theorem dX0_handOver_47 : decode cX0_handOver 47 = .ok (.iand, 1) := by decide +kernel
theorem dX0_handOver_48 : decode cX0_handOver 48 = .ok (.iconst 1, 1) := by decide +kernel
theorem dX0_handOver_49 : decode cX0_handOver 49 = .ok (.if_icmp .ne 11, 3) := by decide +kernel
theorem dX0_handOver_52 : decode cX0_handOver 52 = .ok (.aload_n 0, 1) := by decide +kernel
theorem dX0_handOver_53 : decode cX0_handOver 53 = .ok (.getfield 15, 3) := by decide +kernel
theorem dX0_handOver_56 : decode cX0_handOver 56 = .ok (.iload 5, 2) := by decide +kernel
theorem dX0_handOver_58 : decode cX0_handOver 58 = .ok (.iload_n 2, 1) := by decide +kernel
theorem dX0_handOver_59 : decode cX0_handOver 59 = .ok (.iastore, 1) := by decide +kernel
theorem dX0_handOver_60 : decode cX0_handOver 60 = .ok (.iinc 5 1, 3) := by decide +kernel
theorem dX0_handOver_63 : decode cX0_handOver 63 = .ok (.goto (-31), 3) := by decide +kernel
theorem dX0_handOver_66 : decode cX0_handOver 66 = .ok (.iload 4, 2) := by decide +kernel
theorem dX0_handOver_68 : decode cX0_handOver 68 = .ok (.ireturn, 1) := by decide +kernel
theorem dX0_coinsFor_0 : decode cX0_coinsFor 0 = .ok (.iconst 0, 1) := by decide +kernel
theorem dX0_coinsFor_1 : decode cX0_coinsFor 1 = .ok (.istore_n 3, 1) := by decide +kernel
theorem dX0_coinsFor_2 : decode cX0_coinsFor 2 = .ok (.iconst 0, 1) := by decide +kernel
theorem dX0_coinsFor_3 : decode cX0_coinsFor 3 = .ok (.istore 4, 2) := by decide +kernel
theorem dX0_coinsFor_5 : decode cX0_coinsFor 5 = .ok (.iload 4, 2) := by decide +kernel
theorem dX0_coinsFor_7 : decode cX0_coinsFor 7 = .ok (.aload_n 0, 1) := by decide +kernel
theorem dX0_coinsFor_8 : decode cX0_coinsFor 8 = .ok (.getfield 51, 3) := by decide +kernel
theorem dX0_coinsFor_11 : decode cX0_coinsFor 11 = .ok (.if_icmp .ge 54, 3) := by decide +kernel
theorem dX0_coinsFor_14 : decode cX0_coinsFor 14 = .ok (.aload_n 0, 1) := by decide +kernel
theorem dX0_coinsFor_15 : decode cX0_coinsFor 15 = .ok (.getfield 45, 3) := by decide +kernel
theorem dX0_coinsFor_18 : decode cX0_coinsFor 18 = .ok (.iload 4, 2) := by decide +kernel
theorem dX0_coinsFor_20 : decode cX0_coinsFor 20 = .ok (.aload_n 0, 1) := by decide +kernel
theorem dX0_coinsFor_21 : decode cX0_coinsFor 21 = .ok (.iload 4, 2) := by decide +kernel
theorem dX0_coinsFor_23 : decode cX0_coinsFor 23 = .ok (.iload_n 1, 1) := by decide +kernel
theorem dX0_coinsFor_24 : decode cX0_coinsFor 24 = .ok (.invokevirtual 91, 3) := by decide +kernel
theorem dX0_coinsFor_27 : decode cX0_coinsFor 27 = .ok (.ifCond .eq 12, 3) := by decide +kernel
theorem dX0_coinsFor_30 : decode cX0_coinsFor 30 = .ok (.aload_n 0, 1) := by decide +kernel
theorem dX0_coinsFor_31 : decode cX0_coinsFor 31 = .ok (.iload 4, 2) := by decide +kernel
theorem dX0_coinsFor_33 : decode cX0_coinsFor 33 = .ok (.invokevirtual 94, 3) := by decide +kernel
theorem dX0_coinsFor_36 : decode cX0_coinsFor 36 = .ok (.goto 4, 3) := by decide +kernel
theorem dX0_coinsFor_39 : decode cX0_coinsFor 39 = .ok (.iconst 0, 1) := by decide +kernel
theorem dX0_coinsFor_40 : decode cX0_coinsFor 40 = .ok (.iastore, 1) := by decide +kernel
theorem dX0_coinsFor_41 : decode cX0_coinsFor 41 = .ok (.iload_n 3, 1) := by decide +kernel
theorem dX0_coinsFor_42 : decode cX0_coinsFor 42 = .ok (.aload_n 0, 1) := by decide +kernel
theorem dX0_coinsFor_43 : decode cX0_coinsFor 43 = .ok (.getfield 45, 3) := by decide +kernel
theorem dX0_coinsFor_46 : decode cX0_coinsFor 46 = .ok (.iload 4, 2) := by decide +kernel
theorem dX0_coinsFor_48 : decode cX0_coinsFor 48 = .ok (.iaload, 1) := by decide +kernel
theorem dX0_coinsFor_49 : decode cX0_coinsFor 49 = .ok (.iadd, 1) := by decide +kernel
theorem dX0_coinsFor_50 : decode cX0_coinsFor 50 = .ok (.istore_n 3, 1) := by decide +kernel
theorem dX0_coinsFor_51 : decode cX0_coinsFor 51 = .ok (.aload_n 0, 1) := by decide +kernel
theorem dX0_coinsFor_52 : decode cX0_coinsFor 52 = .ok (.getfield 48, 3) := by decide +kernel
theorem dX0_coinsFor_55 : decode cX0_coinsFor 55 = .ok (.iload 4, 2) := by decide +kernel
theorem dX0_coinsFor_57 : decode cX0_coinsFor 57 = .ok (.iload_n 3, 1) := by decide +kernel
theorem dX0_coinsFor_58 : decode cX0_coinsFor 58 = .ok (.iastore, 1) := by decide +kernel
theorem dX0_coinsFor_59 : decode cX0_coinsFor 59 = .ok (.iinc 4 1, 3) := by decide +kernel
theorem dX0_coinsFor_62 : decode cX0_coinsFor 62 = .ok (.goto (-57), 3) := by decide +kernel
theorem dX0_coinsFor_65 : decode cX0_coinsFor 65 = .ok (.iload_n 3, 1) := by decide +kernel
theorem dX0_coinsFor_66 : decode cX0_coinsFor 66 = .ok (.iload_n 2, 1) := by decide +kernel
theorem dX0_coinsFor_67 : decode cX0_coinsFor 67 = .ok (.if_icmp .ge 9, 3) := by decide +kernel
theorem dX0_coinsFor_70 : decode cX0_coinsFor 70 = .ok (.aload_n 0, 1) := by decide +kernel
theorem dX0_coinsFor_71 : decode cX0_coinsFor 71 = .ok (.iload_n 1, 1) := by decide +kernel
theorem dX0_coinsFor_72 : decode cX0_coinsFor 72 = .ok (.invokevirtual 98, 3) := by decide +kernel
theorem dX0_coinsFor_75 : decode cX0_coinsFor 75 = .ok (.ireturn, 1) := by decide +kernel
theorem dX0_coinsFor_76 : decode cX0_coinsFor 76 = .ok (.aload_n 0, 1) := by decide +kernel
theorem dX0_coinsFor_77 : decode cX0_coinsFor 77 = .ok (.getfield 45, 3) := by decide +kernel
theorem dX0_coinsFor_80 : decode cX0_coinsFor 80 = .ok (.aload_n 0, 1) := by decide +kernel
theorem dX0_coinsFor_81 : decode cX0_coinsFor 81 = .ok (.getfield 48, 3) := by decide +kernel
theorem dX0_coinsFor_84 : decode cX0_coinsFor 84 = .ok (.aload_n 0, 1) := by decide +kernel
theorem dX0_coinsFor_85 : decode cX0_coinsFor 85 = .ok (.getfield 51, 3) := by decide +kernel
theorem dX0_coinsFor_88 : decode cX0_coinsFor 88 = .ok (.iconst 1, 1) := by decide +kernel
theorem dX0_coinsFor_89 : decode cX0_coinsFor 89 = .ok (.isub, 1) := by decide +kernel
theorem dX0_coinsFor_90 : decode cX0_coinsFor 90 = .ok (.iconst 0, 1) := by decide +kernel
theorem dX0_coinsFor_91 : decode cX0_coinsFor 91 = .ok (.iload_n 2, 1) := by decide +kernel
theorem dX0_coinsFor_92 : decode cX0_coinsFor 92 = .ok (.ldc 115, 2) := by decide +kernel
theorem dX0_coinsFor_94 : decode cX0_coinsFor 94 = .ok (.invokestatic 116, 3) := by decide +kernel
theorem dX0_coinsFor_97 : decode cX0_coinsFor 97 = .ok (.sipush 4095, 3) := by decide +kernel
theorem dX0_coinsFor_100 : decode cX0_coinsFor 100 = .ok (.iand, 1) := by decide +kernel
theorem dX0_coinsFor_101 : decode cX0_coinsFor 101 = .ok (.ireturn, 1) := by decide +kernel
theorem dX0_cheapest_0 : decode cX0_cheapest 0 = .ok (.iload_n 3, 1) := by decide +kernel
theorem dX0_cheapest_1 : decode cX0_cheapest 1 = .ok (.bipush 12, 2) := by decide +kernel
theorem dX0_cheapest_3 : decode cX0_cheapest 3 = .ok (.ishr, 1) := by decide +kernel
theorem dX0_cheapest_4 : decode cX0_cheapest 4 = .ok (.istore 6, 2) := by decide +kernel
theorem dX0_cheapest_6 : decode cX0_cheapest 6 = .ok (.iload 6, 2) := by decide +kernel
theorem dX0_cheapest_8 : decode cX0_cheapest 8 = .ok (.iload 4, 2) := by decide +kernel
theorem dX0_cheapest_10 : decode cX0_cheapest 10 = .ok (.if_icmp .lt 10, 3) := by decide +kernel
theorem dX0_cheapest_13 : decode cX0_cheapest 13 = .ok (.iload_n 3, 1) := by decide +kernel
theorem dX0_cheapest_14 : decode cX0_cheapest 14 = .ok (.iload 5, 2) := by decide +kernel
theorem dX0_cheapest_16 : decode cX0_cheapest 16 = .ok (.invokestatic 120, 3) := by decide +kernel
theorem dX0_cheapest_19 : decode cX0_cheapest 19 = .ok (.ireturn, 1) := by decide +kernel
theorem dX0_cheapest_20 : decode cX0_cheapest 20 = .ok (.iload_n 2, 1) := by decide +kernel
theorem dX0_cheapest_21 : decode cX0_cheapest 21 = .ok (.ifCond .lt 30, 3) := by decide +kernel
theorem dX0_cheapest_24 : decode cX0_cheapest 24 = .ok (.iload_n 2, 1) := by decide +kernel
theorem dX0_cheapest_25 : decode cX0_cheapest 25 = .ok (.bipush 12, 2) := by decide +kernel
theorem dX0_cheapest_27 : decode cX0_cheapest 27 = .ok (.if_icmp .ge 24, 3) := by decide +kernel
theorem dX0_cheapest_30 : decode cX0_cheapest 30 = .ok (.iload 6, 2) := by decide +kernel
theorem dX0_cheapest_32 : decode cX0_cheapest 32 = .ok (.aload_n 1, 1) := by decide +kernel
theorem dX0_cheapest_33 : decode cX0_cheapest 33 = .ok (.iload_n 2, 1) := by decide +kernel
theorem dX0_cheapest_34 : decode cX0_cheapest 34 = .ok (.iaload, 1) := by decide +kernel
theorem dX0_cheapest_35 : decode cX0_cheapest 35 = .ok (.iadd, 1) := by decide +kernel
theorem dX0_cheapest_36 : decode cX0_cheapest 36 = .ok (.iload 4, 2) := by decide +kernel
theorem dX0_cheapest_38 : decode cX0_cheapest 38 = .ok (.if_icmp .lt 13, 3) := by decide +kernel
theorem dX0_cheapest_41 : decode cX0_cheapest 41 = .ok (.iload 5, 2) := by decide +kernel
theorem dX0_cheapest_43 : decode cX0_cheapest 43 = .ok (.bipush 12, 2) := by decide +kernel
theorem dX0_cheapest_45 : decode cX0_cheapest 45 = .ok (.ishr, 1) := by decide +kernel
theorem dX0_cheapest_46 : decode cX0_cheapest 46 = .ok (.iload 4, 2) := by decide +kernel
theorem dX0_cheapest_48 : decode cX0_cheapest 48 = .ok (.if_icmp .ne 6, 3) := by decide +kernel
theorem dX0_cheapest_51 : decode cX0_cheapest 51 = .ok (.iload 5, 2) := by decide +kernel
theorem dX0_cheapest_53 : decode cX0_cheapest 53 = .ok (.ireturn, 1) := by decide +kernel
theorem dX0_cheapest_54 : decode cX0_cheapest 54 = .ok (.aload_n 0, 1) := by decide +kernel
theorem dX0_cheapest_55 : decode cX0_cheapest 55 = .ok (.aload_n 1, 1) := by decide +kernel
theorem dX0_cheapest_56 : decode cX0_cheapest 56 = .ok (.iload_n 2, 1) := by decide +kernel
theorem dX0_cheapest_57 : decode cX0_cheapest 57 = .ok (.iconst 1, 1) := by decide +kernel
theorem dX0_cheapest_58 : decode cX0_cheapest 58 = .ok (.isub, 1) := by decide +kernel
theorem dX0_cheapest_59 : decode cX0_cheapest 59 = .ok (.iload_n 3, 1) := by decide +kernel
theorem dX0_cheapest_60 : decode cX0_cheapest 60 = .ok (.iload 4, 2) := by decide +kernel
theorem dX0_cheapest_62 : decode cX0_cheapest 62 = .ok (.iload 5, 2) := by decide +kernel
theorem dX0_cheapest_64 : decode cX0_cheapest 64 = .ok (.invokestatic 116, 3) := by decide +kernel
theorem dX0_cheapest_67 : decode cX0_cheapest 67 = .ok (.istore 7, 2) := by decide +kernel
theorem dX0_cheapest_69 : decode cX0_cheapest 69 = .ok (.aload_n 0, 1) := by decide +kernel
theorem dX0_cheapest_70 : decode cX0_cheapest 70 = .ok (.iload_n 2, 1) := by decide +kernel
theorem dX0_cheapest_71 : decode cX0_cheapest 71 = .ok (.iaload, 1) := by decide +kernel
theorem dX0_cheapest_72 : decode cX0_cheapest 72 = .ok (.ifCond .ne 6, 3) := by decide +kernel
theorem dX0_cheapest_75 : decode cX0_cheapest 75 = .ok (.iload 7, 2) := by decide +kernel
theorem dX0_cheapest_77 : decode cX0_cheapest 77 = .ok (.ireturn, 1) := by decide +kernel
theorem dX0_cheapest_78 : decode cX0_cheapest 78 = .ok (.iload_n 3, 1) := by decide +kernel
theorem dX0_cheapest_79 : decode cX0_cheapest 79 = .ok (.aload_n 0, 1) := by decide +kernel
theorem dX0_cheapest_80 : decode cX0_cheapest 80 = .ok (.iload_n 2, 1) := by decide +kernel
theorem dX0_cheapest_81 : decode cX0_cheapest 81 = .ok (.iaload, 1) := by decide +kernel
theorem dX0_cheapest_82 : decode cX0_cheapest 82 = .ok (.bipush 12, 2) := by decide +kernel
theorem dX0_cheapest_84 : decode cX0_cheapest 84 = .ok (.ishl, 1) := by decide +kernel
theorem dX0_cheapest_85 : decode cX0_cheapest 85 = .ok (.iadd, 1) := by decide +kernel
theorem dX0_cheapest_86 : decode cX0_cheapest 86 = .ok (.iconst 1, 1) := by decide +kernel
theorem dX0_cheapest_87 : decode cX0_cheapest 87 = .ok (.iload_n 2, 1) := by decide +kernel
theorem dX0_cheapest_88 : decode cX0_cheapest 88 = .ok (.ishl, 1) := by decide +kernel
theorem dX0_cheapest_89 : decode cX0_cheapest 89 = .ok (.iadd, 1) := by decide +kernel
theorem dX0_cheapest_90 : decode cX0_cheapest 90 = .ok (.istore 8, 2) := by decide +kernel
theorem dX0_cheapest_92 : decode cX0_cheapest 92 = .ok (.aload_n 0, 1) := by decide +kernel
theorem dX0_cheapest_93 : decode cX0_cheapest 93 = .ok (.aload_n 1, 1) := by decide +kernel
theorem dX0_cheapest_94 : decode cX0_cheapest 94 = .ok (.iload_n 2, 1) := by decide +kernel
theorem dX0_cheapest_95 : decode cX0_cheapest 95 = .ok (.iconst 1, 1) := by decide +kernel
theorem dX0_cheapest_96 : decode cX0_cheapest 96 = .ok (.isub, 1) := by decide +kernel
theorem dX0_cheapest_97 : decode cX0_cheapest 97 = .ok (.iload 8, 2) := by decide +kernel
theorem dX0_cheapest_99 : decode cX0_cheapest 99 = .ok (.iload 4, 2) := by decide +kernel
theorem dX0_cheapest_101 : decode cX0_cheapest 101 = .ok (.iload 7, 2) := by decide +kernel
theorem dX0_cheapest_103 : decode cX0_cheapest 103 = .ok (.invokestatic 116, 3) := by decide +kernel
theorem dX0_cheapest_106 : decode cX0_cheapest 106 = .ok (.ireturn, 1) := by decide +kernel
theorem dX0_addLoan_0 : decode cX0_addLoan 0 = .ok (.aload_n 0, 1) := by decide +kernel
theorem dX0_addLoan_1 : decode cX0_addLoan 1 = .ok (.getfield 55, 3) := by decide +kernel
theorem dX0_addLoan_4 : decode cX0_addLoan 4 = .ok (.istore 5, 2) := by decide +kernel
theorem dX0_addLoan_6 : decode cX0_addLoan 6 = .ok (.iload 5, 2) := by decide +kernel
theorem dX0_addLoan_8 : decode cX0_addLoan 8 = .ok (.bipush 8, 2) := by decide +kernel
theorem dX0_addLoan_10 : decode cX0_addLoan 10 = .ok (.if_icmp .lt 5, 3) := by decide +kernel
theorem dX0_addLoan_13 : decode cX0_addLoan 13 = .ok (.iconst (-1), 1) := by decide +kernel
theorem dX0_addLoan_14 : decode cX0_addLoan 14 = .ok (.ireturn, 1) := by decide +kernel
theorem dX0_addLoan_15 : decode cX0_addLoan 15 = .ok (.aload_n 0, 1) := by decide +kernel
theorem dX0_addLoan_16 : decode cX0_addLoan 16 = .ok (.getfield 30, 3) := by decide +kernel
theorem dX0_addLoan_19 : decode cX0_addLoan 19 = .ok (.iload 5, 2) := by decide +kernel
theorem dX0_addLoan_21 : decode cX0_addLoan 21 = .ok (.iload_n 1, 1) := by decide +kernel
theorem dX0_addLoan_22 : decode cX0_addLoan 22 = .ok (.iastore, 1) := by decide +kernel
theorem dX0_addLoan_23 : decode cX0_addLoan 23 = .ok (.aload_n 0, 1) := by decide +kernel
theorem dX0_addLoan_24 : decode cX0_addLoan 24 = .ok (.getfield 33, 3) := by decide +kernel
theorem dX0_addLoan_27 : decode cX0_addLoan 27 = .ok (.iload 5, 2) := by decide +kernel
theorem dX0_addLoan_29 : decode cX0_addLoan 29 = .ok (.iload_n 2, 1) := by decide +kernel
theorem dX0_addLoan_30 : decode cX0_addLoan 30 = .ok (.iastore, 1) := by decide +kernel
theorem dX0_addLoan_31 : decode cX0_addLoan 31 = .ok (.aload_n 0, 1) := by decide +kernel
theorem dX0_addLoan_32 : decode cX0_addLoan 32 = .ok (.getfield 36, 3) := by decide +kernel
theorem dX0_addLoan_35 : decode cX0_addLoan 35 = .ok (.iload 5, 2) := by decide +kernel
theorem dX0_addLoan_37 : decode cX0_addLoan 37 = .ok (.iload_n 3, 1) := by decide +kernel
theorem dX0_addLoan_38 : decode cX0_addLoan 38 = .ok (.iastore, 1) := by decide +kernel
theorem dX0_addLoan_39 : decode cX0_addLoan 39 = .ok (.aload_n 0, 1) := by decide +kernel
theorem dX0_addLoan_40 : decode cX0_addLoan 40 = .ok (.getfield 39, 3) := by decide +kernel
theorem dX0_addLoan_43 : decode cX0_addLoan 43 = .ok (.iload 5, 2) := by decide +kernel
theorem dX0_addLoan_45 : decode cX0_addLoan 45 = .ok (.aload_n 0, 1) := by decide +kernel
theorem dX0_addLoan_46 : decode cX0_addLoan 46 = .ok (.getfield 58, 3) := by decide +kernel
theorem dX0_addLoan_49 : decode cX0_addLoan 49 = .ok (.iload 4, 2) := by decide +kernel
theorem dX0_addLoan_51 : decode cX0_addLoan 51 = .ok (.iadd, 1) := by decide +kernel
theorem dX0_addLoan_52 : decode cX0_addLoan 52 = .ok (.iastore, 1) := by decide +kernel
theorem dX0_addLoan_53 : decode cX0_addLoan 53 = .ok (.aload_n 0, 1) := by decide +kernel
theorem dX0_addLoan_54 : decode cX0_addLoan 54 = .ok (.getfield 42, 3) := by decide +kernel
theorem dX0_addLoan_57 : decode cX0_addLoan 57 = .ok (.iload 5, 2) := by decide +kernel
theorem dX0_addLoan_59 : decode cX0_addLoan 59 = .ok (.iconst 0, 1) := by decide +kernel
theorem dX0_addLoan_60 : decode cX0_addLoan 60 = .ok (.iastore, 1) := by decide +kernel
theorem dX0_addLoan_61 : decode cX0_addLoan 61 = .ok (.aload_n 0, 1) := by decide +kernel
theorem dX0_addLoan_62 : decode cX0_addLoan 62 = .ok (.dup, 1) := by decide +kernel
theorem dX0_addLoan_63 : decode cX0_addLoan 63 = .ok (.getfield 55, 3) := by decide +kernel
theorem dX0_addLoan_66 : decode cX0_addLoan 66 = .ok (.iconst 1, 1) := by decide +kernel
theorem dX0_addLoan_67 : decode cX0_addLoan 67 = .ok (.iadd, 1) := by decide +kernel
theorem dX0_addLoan_68 : decode cX0_addLoan 68 = .ok (.putfield 55, 3) := by decide +kernel
theorem dX0_addLoan_71 : decode cX0_addLoan 71 = .ok (.iload 5, 2) := by decide +kernel
theorem dX0_addLoan_73 : decode cX0_addLoan 73 = .ok (.ireturn, 1) := by decide +kernel
theorem dX0_unpaid_0 : decode cX0_unpaid 0 = .ok (.iconst 0, 1) := by decide +kernel
theorem dX0_unpaid_1 : decode cX0_unpaid 1 = .ok (.istore_n 1, 1) := by decide +kernel
theorem dX0_unpaid_2 : decode cX0_unpaid 2 = .ok (.iconst 0, 1) := by decide +kernel
theorem dX0_unpaid_3 : decode cX0_unpaid 3 = .ok (.istore_n 2, 1) := by decide +kernel
theorem dX0_unpaid_4 : decode cX0_unpaid 4 = .ok (.iload_n 2, 1) := by decide +kernel
theorem dX0_unpaid_5 : decode cX0_unpaid 5 = .ok (.aload_n 0, 1) := by decide +kernel
theorem dX0_unpaid_6 : decode cX0_unpaid 6 = .ok (.getfield 55, 3) := by decide +kernel
theorem dX0_unpaid_9 : decode cX0_unpaid 9 = .ok (.if_icmp .ge 20, 3) := by decide +kernel
theorem dX0_unpaid_12 : decode cX0_unpaid 12 = .ok (.iload_n 1, 1) := by decide +kernel
theorem dX0_unpaid_13 : decode cX0_unpaid 13 = .ok (.iconst 1, 1) := by decide +kernel
theorem dX0_unpaid_14 : decode cX0_unpaid 14 = .ok (.aload_n 0, 1) := by decide +kernel
theorem dX0_unpaid_15 : decode cX0_unpaid 15 = .ok (.getfield 42, 3) := by decide +kernel
theorem dX0_unpaid_18 : decode cX0_unpaid 18 = .ok (.iload_n 2, 1) := by decide +kernel
theorem dX0_unpaid_19 : decode cX0_unpaid 19 = .ok (.iaload, 1) := by decide +kernel
theorem dX0_unpaid_20 : decode cX0_unpaid 20 = .ok (.isub, 1) := by decide +kernel
theorem dX0_unpaid_21 : decode cX0_unpaid 21 = .ok (.iadd, 1) := by decide +kernel
theorem dX0_unpaid_22 : decode cX0_unpaid 22 = .ok (.istore_n 1, 1) := by decide +kernel
theorem dX0_unpaid_23 : decode cX0_unpaid 23 = .ok (.iinc 2 1, 3) := by decide +kernel
theorem dX0_unpaid_26 : decode cX0_unpaid 26 = .ok (.goto (-22), 3) := by decide +kernel
theorem dX0_unpaid_29 : decode cX0_unpaid 29 = .ok (.iload_n 1, 1) := by decide +kernel
theorem dX0_unpaid_30 : decode cX0_unpaid 30 = .ok (.ireturn, 1) := by decide +kernel
theorem dX0_payDue_0 : decode cX0_payDue 0 = .ok (.iconst 0, 1) := by decide +kernel
theorem dX0_payDue_1 : decode cX0_payDue 1 = .ok (.istore_n 1, 1) := by decide +kernel
theorem dX0_payDue_2 : decode cX0_payDue 2 = .ok (.iload_n 1, 1) := by decide +kernel
theorem dX0_payDue_3 : decode cX0_payDue 3 = .ok (.aload_n 0, 1) := by decide +kernel
theorem dX0_payDue_4 : decode cX0_payDue 4 = .ok (.getfield 55, 3) := by decide +kernel
theorem dX0_payDue_7 : decode cX0_payDue 7 = .ok (.if_icmp .ge 61, 3) := by decide +kernel
theorem dX0_payDue_10 : decode cX0_payDue 10 = .ok (.aload_n 0, 1) := by decide +kernel
theorem dX0_payDue_11 : decode cX0_payDue 11 = .ok (.getfield 39, 3) := by decide +kernel
theorem dX0_payDue_14 : decode cX0_payDue 14 = .ok (.iload_n 1, 1) := by decide +kernel
theorem dX0_payDue_15 : decode cX0_payDue 15 = .ok (.iaload, 1) := by decide +kernel
theorem dX0_payDue_16 : decode cX0_payDue 16 = .ok (.aload_n 0, 1) := by decide +kernel
theorem dX0_payDue_17 : decode cX0_payDue 17 = .ok (.getfield 58, 3) := by decide +kernel
theorem dX0_payDue_20 : decode cX0_payDue 20 = .ok (.if_icmp .ne 42, 3) := by decide +kernel
theorem dX0_payDue_23 : decode cX0_payDue 23 = .ok (.aload_n 0, 1) := by decide +kernel
theorem dX0_payDue_24 : decode cX0_payDue 24 = .ok (.getfield 42, 3) := by decide +kernel
theorem dX0_payDue_27 : decode cX0_payDue 27 = .ok (.iload_n 1, 1) := by decide +kernel
theorem dX0_payDue_28 : decode cX0_payDue 28 = .ok (.iaload, 1) := by decide +kernel
theorem dX0_payDue_29 : decode cX0_payDue 29 = .ok (.ifCond .ne 33, 3) := by decide +kernel
theorem dX0_payDue_32 : decode cX0_payDue 32 = .ok (.aload_n 0, 1) := by decide +kernel
theorem dX0_payDue_33 : decode cX0_payDue 33 = .ok (.aload_n 0, 1) := by decide +kernel
theorem dX0_payDue_34 : decode cX0_payDue 34 = .ok (.getfield 30, 3) := by decide +kernel
theorem dX0_payDue_37 : decode cX0_payDue 37 = .ok (.iload_n 1, 1) := by decide +kernel
theorem dX0_payDue_38 : decode cX0_payDue 38 = .ok (.iaload, 1) := by decide +kernel
theorem dX0_payDue_39 : decode cX0_payDue 39 = .ok (.aload_n 0, 1) := by decide +kernel
theorem dX0_payDue_40 : decode cX0_payDue 40 = .ok (.getfield 33, 3) := by decide +kernel
theorem dX0_payDue_43 : decode cX0_payDue 43 = .ok (.iload_n 1, 1) := by decide +kernel
theorem dX0_payDue_44 : decode cX0_payDue 44 = .ok (.iaload, 1) := by decide +kernel
theorem dX0_payDue_45 : decode cX0_payDue 45 = .ok (.aload_n 0, 1) := by decide +kernel
theorem dX0_payDue_46 : decode cX0_payDue 46 = .ok (.getfield 36, 3) := by decide +kernel
theorem dX0_payDue_49 : decode cX0_payDue 49 = .ok (.iload_n 1, 1) := by decide +kernel
theorem dX0_payDue_50 : decode cX0_payDue 50 = .ok (.iaload, 1) := by decide +kernel
theorem dX0_payDue_51 : decode cX0_payDue 51 = .ok (.invokevirtual 123, 3) := by decide +kernel
theorem dX0_payDue_54 : decode cX0_payDue 54 = .ok (.pop, 1) := by decide +kernel
theorem dX0_payDue_55 : decode cX0_payDue 55 = .ok (.aload_n 0, 1) := by decide +kernel
theorem dX0_payDue_56 : decode cX0_payDue 56 = .ok (.getfield 42, 3) := by decide +kernel
theorem dX0_payDue_59 : decode cX0_payDue 59 = .ok (.iload_n 1, 1) := by decide +kernel
theorem dX0_payDue_60 : decode cX0_payDue 60 = .ok (.iconst 1, 1) := by decide +kernel
theorem dX0_payDue_61 : decode cX0_payDue 61 = .ok (.iastore, 1) := by decide +kernel
theorem dX0_payDue_62 : decode cX0_payDue 62 = .ok (.iinc 1 1, 3) := by decide +kernel
theorem dX0_payDue_65 : decode cX0_payDue 65 = .ok (.goto (-63), 3) := by decide +kernel
theorem dX0_payDue_68 : decode cX0_payDue 68 = .ok (.return_, 1) := by decide +kernel
theorem dX0_goOn_0 : decode cX0_goOn 0 = .ok (.iconst 0, 1) := by decide +kernel
theorem dX0_goOn_1 : decode cX0_goOn 1 = .ok (.istore_n 2, 1) := by decide +kernel
theorem dX0_goOn_2 : decode cX0_goOn 2 = .ok (.iload_n 2, 1) := by decide +kernel
theorem dX0_goOn_3 : decode cX0_goOn 3 = .ok (.iload_n 1, 1) := by decide +kernel
theorem dX0_goOn_4 : decode cX0_goOn 4 = .ok (.if_icmp .ge 17, 3) := by decide +kernel
theorem dX0_goOn_7 : decode cX0_goOn 7 = .ok (.aload_n 0, 1) := by decide +kernel
theorem dX0_goOn_8 : decode cX0_goOn 8 = .ok (.invokevirtual 127, 3) := by decide +kernel
theorem dX0_goOn_11 : decode cX0_goOn 11 = .ok (.aload_n 0, 1) := by decide +kernel
theorem dX0_goOn_12 : decode cX0_goOn 12 = .ok (.invokevirtual 130, 3) := by decide +kernel
theorem dX0_goOn_15 : decode cX0_goOn 15 = .ok (.iinc 2 1, 3) := by decide +kernel
theorem dX0_goOn_18 : decode cX0_goOn 18 = .ok (.goto (-16), 3) := by decide +kernel
theorem dX0_goOn_21 : decode cX0_goOn 21 = .ok (.return_, 1) := by decide +kernel
theorem dX0_age_0 : decode cX0_age 0 = .ok (.iconst 0, 1) := by decide +kernel
theorem dX0_age_1 : decode cX0_age 1 = .ok (.istore_n 2, 1) := by decide +kernel
theorem dX0_age_2 : decode cX0_age 2 = .ok (.iload_n 2, 1) := by decide +kernel
theorem dX0_age_3 : decode cX0_age 3 = .ok (.iload_n 1, 1) := by decide +kernel
theorem dX0_age_4 : decode cX0_age 4 = .ok (.if_icmp .ge 13, 3) := by decide +kernel
theorem dX0_age_7 : decode cX0_age 7 = .ok (.aload_n 0, 1) := by decide +kernel
theorem dX0_age_8 : decode cX0_age 8 = .ok (.invokevirtual 127, 3) := by decide +kernel
theorem dX0_age_11 : decode cX0_age 11 = .ok (.iinc 2 1, 3) := by decide +kernel
theorem dX0_age_14 : decode cX0_age 14 = .ok (.goto (-12), 3) := by decide +kernel
theorem dX0_age_17 : decode cX0_age 17 = .ok (.return_, 1) := by decide +kernel
theorem dX0_ageOnce_0 : decode cX0_ageOnce 0 = .ok (.aload_n 0, 1) := by decide +kernel
theorem dX0_ageOnce_1 : decode cX0_ageOnce 1 = .ok (.invokevirtual 84, 3) := by decide +kernel
theorem dX0_ageOnce_4 : decode cX0_ageOnce 4 = .ok (.istore_n 1, 1) := by decide +kernel
theorem dX0_ageOnce_5 : decode cX0_ageOnce 5 = .ok (.aload_n 0, 1) := by decide +kernel
theorem dX0_ageOnce_6 : decode cX0_ageOnce 6 = .ok (.invokevirtual 133, 3) := by decide +kernel
theorem dX0_ageOnce_9 : decode cX0_ageOnce 9 = .ok (.istore_n 2, 1) := by decide +kernel
theorem dX0_ageOnce_10 : decode cX0_ageOnce 10 = .ok (.iload_n 2, 1) := by decide +kernel
theorem dX0_ageOnce_11 : decode cX0_ageOnce 11 = .ok (.iconst 1, 1) := by decide +kernel
theorem dX0_ageOnce_12 : decode cX0_ageOnce 12 = .ok (.ishl, 1) := by decide +kernel
theorem dX0_ageOnce_13 : decode cX0_ageOnce 13 = .ok (.iload_n 2, 1) := by decide +kernel
theorem dX0_ageOnce_14 : decode cX0_ageOnce 14 = .ok (.iconst 1, 1) := by decide +kernel
theorem dX0_ageOnce_15 : decode cX0_ageOnce 15 = .ok (.ishr, 1) := by decide +kernel
theorem dX0_ageOnce_16 : decode cX0_ageOnce 16 = .ok (.ior, 1) := by decide +kernel
theorem dX0_ageOnce_17 : decode cX0_ageOnce 17 = .ok (.istore_n 3, 1) := by decide +kernel
theorem dX0_ageOnce_18 : decode cX0_ageOnce 18 = .ok (.iconst 0, 1) := by decide +kernel
theorem dX0_ageOnce_19 : decode cX0_ageOnce 19 = .ok (.istore 4, 2) := by decide +kernel
theorem dX0_ageOnce_21 : decode cX0_ageOnce 21 = .ok (.iload 4, 2) := by decide +kernel
theorem dX0_ageOnce_23 : decode cX0_ageOnce 23 = .ok (.aload_n 0, 1) := by decide +kernel
theorem dX0_ageOnce_24 : decode cX0_ageOnce 24 = .ok (.getfield 51, 3) := by decide +kernel
theorem dX0_ageOnce_27 : decode cX0_ageOnce 27 = .ok (.if_icmp .ge 67, 3) := by decide +kernel
theorem dX0_ageOnce_30 : decode cX0_ageOnce 30 = .ok (.aload_n 0, 1) := by decide +kernel
theorem dX0_ageOnce_31 : decode cX0_ageOnce 31 = .ok (.getfield 21, 3) := by decide +kernel
theorem dX0_ageOnce_34 : decode cX0_ageOnce 34 = .ok (.iload 4, 2) := by decide +kernel
theorem dX0_ageOnce_36 : decode cX0_ageOnce 36 = .ok (.iaload, 1) := by decide +kernel
theorem dX0_ageOnce_37 : decode cX0_ageOnce 37 = .ok (.ifCond .ne 28, 3) := by decide +kernel
theorem dX0_ageOnce_40 : decode cX0_ageOnce 40 = .ok (.aload_n 0, 1) := by decide +kernel
theorem dX0_ageOnce_41 : decode cX0_ageOnce 41 = .ok (.iload 4, 2) := by decide +kernel
theorem dX0_ageOnce_43 : decode cX0_ageOnce 43 = .ok (.iload_n 1, 1) := by decide +kernel
theorem dX0_ageOnce_44 : decode cX0_ageOnce 44 = .ok (.iload_n 3, 1) := by decide +kernel
theorem dX0_ageOnce_45 : decode cX0_ageOnce 45 = .ok (.iload 4, 2) := by decide +kernel
theorem dX0_ageOnce_47 : decode cX0_ageOnce 47 = .ok (.ishr, 1) := by decide +kernel
theorem dX0_ageOnce_48 : decode cX0_ageOnce 48 = .ok (.iconst 1, 1) := by decide +kernel
theorem dX0_ageOnce_49 : decode cX0_ageOnce 49 = .ok (.iand, 1) := by decide +kernel
theorem dX0_ageOnce_50 : decode cX0_ageOnce 50 = .ok (.iconst 1, 1) := by decide +kernel
theorem dX0_ageOnce_51 : decode cX0_ageOnce 51 = .ok (.if_icmp .ne 7, 3) := by decide +kernel
theorem dX0_ageOnce_54 : decode cX0_ageOnce 54 = .ok (.iconst 1, 1) := by decide +kernel
theorem dX0_ageOnce_55 : decode cX0_ageOnce 55 = .ok (.goto 4, 3) := by decide +kernel
theorem dX0_ageOnce_58 : decode cX0_ageOnce 58 = .ok (.iconst 0, 1) := by decide +kernel
theorem dX0_ageOnce_59 : decode cX0_ageOnce 59 = .ok (.invokevirtual 136, 3) := by decide +kernel
theorem dX0_ageOnce_62 : decode cX0_ageOnce 62 = .ok (.goto 26, 3) := by decide +kernel
theorem dX0_ageOnce_65 : decode cX0_ageOnce 65 = .ok (.aload_n 0, 1) := by decide +kernel
theorem dX0_ageOnce_66 : decode cX0_ageOnce 66 = .ok (.getfield 21, 3) := by decide +kernel
theorem dX0_ageOnce_69 : decode cX0_ageOnce 69 = .ok (.iload 4, 2) := by decide +kernel
theorem dX0_ageOnce_71 : decode cX0_ageOnce 71 = .ok (.iaload, 1) := by decide +kernel
theorem dX0_ageOnce_72 : decode cX0_ageOnce 72 = .ok (.iconst 2, 1) := by decide +kernel
theorem dX0_ageOnce_73 : decode cX0_ageOnce 73 = .ok (.if_icmp .ne 15, 3) := by decide +kernel
theorem dX0_ageOnce_76 : decode cX0_ageOnce 76 = .ok (.iload_n 1, 1) := by decide +kernel
theorem dX0_ageOnce_77 : decode cX0_ageOnce 77 = .ok (.bipush 8, 2) := by decide +kernel
theorem dX0_ageOnce_79 : decode cX0_ageOnce 79 = .ok (.if_icmp .ne 9, 3) := by decide +kernel
theorem dX0_ageOnce_82 : decode cX0_ageOnce 82 = .ok (.aload_n 0, 1) := by decide +kernel
theorem dX0_ageOnce_83 : decode cX0_ageOnce 83 = .ok (.iload 4, 2) := by decide +kernel
theorem dX0_ageOnce_85 : decode cX0_ageOnce 85 = .ok (.invokevirtual 140, 3) := by decide +kernel
theorem dX0_ageOnce_88 : decode cX0_ageOnce 88 = .ok (.iinc 4 1, 3) := by decide +kernel
theorem dX0_ageOnce_91 : decode cX0_ageOnce 91 = .ok (.goto (-70), 3) := by decide +kernel
theorem dX0_ageOnce_94 : decode cX0_ageOnce 94 = .ok (.aload_n 0, 1) := by decide +kernel
theorem dX0_ageOnce_95 : decode cX0_ageOnce 95 = .ok (.dup, 1) := by decide +kernel
theorem dX0_ageOnce_96 : decode cX0_ageOnce 96 = .ok (.getfield 58, 3) := by decide +kernel
theorem dX0_ageOnce_99 : decode cX0_ageOnce 99 = .ok (.iconst 1, 1) := by decide +kernel
theorem dX0_ageOnce_100 : decode cX0_ageOnce 100 = .ok (.iadd, 1) := by decide +kernel
theorem dX0_ageOnce_101 : decode cX0_ageOnce 101 = .ok (.putfield 58, 3) := by decide +kernel
theorem dX0_ageOnce_104 : decode cX0_ageOnce 104 = .ok (.return_, 1) := by decide +kernel
theorem dX0_rottenSet_0 : decode cX0_rottenSet 0 = .ok (.iconst 0, 1) := by decide +kernel
theorem dX0_rottenSet_1 : decode cX0_rottenSet 1 = .ok (.istore_n 1, 1) := by decide +kernel
theorem dX0_rottenSet_2 : decode cX0_rottenSet 2 = .ok (.iconst 0, 1) := by decide +kernel
theorem dX0_rottenSet_3 : decode cX0_rottenSet 3 = .ok (.istore_n 2, 1) := by decide +kernel
theorem dX0_rottenSet_4 : decode cX0_rottenSet 4 = .ok (.iload_n 2, 1) := by decide +kernel
theorem dX0_rottenSet_5 : decode cX0_rottenSet 5 = .ok (.aload_n 0, 1) := by decide +kernel
theorem dX0_rottenSet_6 : decode cX0_rottenSet 6 = .ok (.getfield 51, 3) := by decide +kernel
theorem dX0_rottenSet_9 : decode cX0_rottenSet 9 = .ok (.if_icmp .ge 25, 3) := by decide +kernel
theorem dX0_rottenSet_12 : decode cX0_rottenSet 12 = .ok (.aload_n 0, 1) := by decide +kernel
theorem dX0_rottenSet_13 : decode cX0_rottenSet 13 = .ok (.getfield 21, 3) := by decide +kernel
theorem dX0_rottenSet_16 : decode cX0_rottenSet 16 = .ok (.iload_n 2, 1) := by decide +kernel
theorem dX0_rottenSet_17 : decode cX0_rottenSet 17 = .ok (.iaload, 1) := by decide +kernel
theorem dX0_rottenSet_18 : decode cX0_rottenSet 18 = .ok (.iconst 1, 1) := by decide +kernel
theorem dX0_rottenSet_19 : decode cX0_rottenSet 19 = .ok (.if_icmp .ne 9, 3) := by decide +kernel
theorem dX0_rottenSet_22 : decode cX0_rottenSet 22 = .ok (.iload_n 1, 1) := by decide +kernel
theorem dX0_rottenSet_23 : decode cX0_rottenSet 23 = .ok (.iconst 1, 1) := by decide +kernel
theorem dX0_rottenSet_24 : decode cX0_rottenSet 24 = .ok (.iload_n 2, 1) := by decide +kernel
theorem dX0_rottenSet_25 : decode cX0_rottenSet 25 = .ok (.ishl, 1) := by decide +kernel
theorem dX0_rottenSet_26 : decode cX0_rottenSet 26 = .ok (.ior, 1) := by decide +kernel
theorem dX0_rottenSet_27 : decode cX0_rottenSet 27 = .ok (.istore_n 1, 1) := by decide +kernel
theorem dX0_rottenSet_28 : decode cX0_rottenSet 28 = .ok (.iinc 2 1, 3) := by decide +kernel
theorem dX0_rottenSet_31 : decode cX0_rottenSet 31 = .ok (.goto (-27), 3) := by decide +kernel
theorem dX0_rottenSet_34 : decode cX0_rottenSet 34 = .ok (.iload_n 1, 1) := by decide +kernel
theorem dX0_rottenSet_35 : decode cX0_rottenSet 35 = .ok (.ireturn, 1) := by decide +kernel
theorem dX0_shrinkOne_0 : decode cX0_shrinkOne 0 = .ok (.aload_n 0, 1) := by decide +kernel
theorem dX0_shrinkOne_1 : decode cX0_shrinkOne 1 = .ok (.getfield 9, 3) := by decide +kernel
theorem dX0_shrinkOne_4 : decode cX0_shrinkOne 4 = .ok (.iload_n 1, 1) := by decide +kernel
theorem dX0_shrinkOne_5 : decode cX0_shrinkOne 5 = .ok (.iaload, 1) := by decide +kernel
theorem dX0_shrinkOne_6 : decode cX0_shrinkOne 6 = .ok (.istore 4, 2) := by decide +kernel
theorem dX0_shrinkOne_8 : decode cX0_shrinkOne 8 = .ok (.iconst 0, 1) := by decide +kernel
theorem dX0_shrinkOne_9 : decode cX0_shrinkOne 9 = .ok (.aload_n 0, 1) := by decide +kernel
theorem dX0_shrinkOne_10 : decode cX0_shrinkOne 10 = .ok (.getfield 18, 3) := by decide +kernel
theorem dX0_shrinkOne_13 : decode cX0_shrinkOne 13 = .ok (.iload_n 1, 1) := by decide +kernel
theorem dX0_shrinkOne_14 : decode cX0_shrinkOne 14 = .ok (.iaload, 1) := by decide +kernel
theorem dX0_shrinkOne_15 : decode cX0_shrinkOne 15 = .ok (.iload 4, 2) := by decide +kernel
theorem dX0_shrinkOne_17 : decode cX0_shrinkOne 17 = .ok (.iload_n 2, 1) := by decide +kernel
theorem dX0_shrinkOne_18 : decode cX0_shrinkOne 18 = .ok (.invokestatic 144, 3) := by decide +kernel
theorem dX0_shrinkOne_21 : decode cX0_shrinkOne 21 = .ok (.isub, 1) := by decide +kernel
theorem dX0_shrinkOne_22 : decode cX0_shrinkOne 22 = .ok (.invokestatic 70, 3) := by decide +kernel
theorem dX0_shrinkOne_25 : decode cX0_shrinkOne 25 = .ok (.istore 5, 2) := by decide +kernel
theorem dX0_shrinkOne_27 : decode cX0_shrinkOne 27 = .ok (.aload_n 0, 1) := by decide +kernel
theorem dX0_shrinkOne_28 : decode cX0_shrinkOne 28 = .ok (.getfield 18, 3) := by decide +kernel
theorem dX0_shrinkOne_31 : decode cX0_shrinkOne 31 = .ok (.iload_n 1, 1) := by decide +kernel
theorem dX0_shrinkOne_32 : decode cX0_shrinkOne 32 = .ok (.iload 5, 2) := by decide +kernel
theorem dX0_shrinkOne_34 : decode cX0_shrinkOne 34 = .ok (.iastore, 1) := by decide +kernel
theorem dX0_shrinkOne_35 : decode cX0_shrinkOne 35 = .ok (.iload 5, 2) := by decide +kernel
theorem dX0_shrinkOne_37 : decode cX0_shrinkOne 37 = .ok (.ifCond .eq 15, 3) := by decide +kernel
theorem dX0_shrinkOne_40 : decode cX0_shrinkOne 40 = .ok (.iload_n 3, 1) := by decide +kernel
theorem dX0_shrinkOne_41 : decode cX0_shrinkOne 41 = .ok (.ifCond .eq 18, 3) := by decide +kernel
theorem dX0_shrinkOne_44 : decode cX0_shrinkOne 44 = .ok (.iload 4, 2) := by decide +kernel
theorem dX0_shrinkOne_46 : decode cX0_shrinkOne 46 = .ok (.invokestatic 147, 3) := by decide +kernel
theorem dX0_shrinkOne_49 : decode cX0_shrinkOne 49 = .ok (.ifCond .eq 10, 3) := by decide +kernel
theorem dX0_shrinkOne_52 : decode cX0_shrinkOne 52 = .ok (.aload_n 0, 1) := by decide +kernel
theorem dX0_shrinkOne_53 : decode cX0_shrinkOne 53 = .ok (.getfield 21, 3) := by decide +kernel
theorem dX0_shrinkOne_56 : decode cX0_shrinkOne 56 = .ok (.iload_n 1, 1) := by decide +kernel
theorem dX0_shrinkOne_57 : decode cX0_shrinkOne 57 = .ok (.iconst 1, 1) := by decide +kernel
theorem dX0_shrinkOne_58 : decode cX0_shrinkOne 58 = .ok (.iastore, 1) := by decide +kernel
theorem dX0_shrinkOne_59 : decode cX0_shrinkOne 59 = .ok (.return_, 1) := by decide +kernel
theorem dX0_harvestOne_0 : decode cX0_harvestOne 0 = .ok (.bipush 99, 2) := by decide +kernel
theorem dX0_harvestOne_2 : decode cX0_harvestOne 2 = .ok (.aload_n 0, 1) := by decide +kernel
theorem dX0_harvestOne_3 : decode cX0_harvestOne 3 = .ok (.getfield 18, 3) := by decide +kernel
theorem dX0_harvestOne_6 : decode cX0_harvestOne 6 = .ok (.iload_n 1, 1) := by decide +kernel
theorem dX0_harvestOne_7 : decode cX0_harvestOne 7 = .ok (.iaload, 1) := by decide +kernel
theorem dX0_harvestOne_8 : decode cX0_harvestOne 8 = .ok (.aload_n 0, 1) := by decide +kernel
theorem dX0_harvestOne_9 : decode cX0_harvestOne 9 = .ok (.iload_n 1, 1) := by decide +kernel
theorem dX0_harvestOne_10 : decode cX0_harvestOne 10 = .ok (.invokevirtual 151, 3) := by decide +kernel
theorem dX0_harvestOne_13 : decode cX0_harvestOne 13 = .ok (.imul, 1) := by decide +kernel
theorem dX0_harvestOne_14 : decode cX0_harvestOne 14 = .ok (.invokestatic 120, 3) := by decide +kernel
theorem dX0_harvestOne_17 : decode cX0_harvestOne 17 = .ok (.istore_n 2, 1) := by decide +kernel
theorem dX0_harvestOne_18 : decode cX0_harvestOne 18 = .ok (.aload_n 0, 1) := by decide +kernel
theorem dX0_harvestOne_19 : decode cX0_harvestOne 19 = .ok (.getfield 18, 3) := by decide +kernel
theorem dX0_harvestOne_22 : decode cX0_harvestOne 22 = .ok (.iload_n 1, 1) := by decide +kernel
theorem dX0_harvestOne_23 : decode cX0_harvestOne 23 = .ok (.iload_n 2, 1) := by decide +kernel
theorem dX0_harvestOne_24 : decode cX0_harvestOne 24 = .ok (.iastore, 1) := by decide +kernel
theorem dX0_harvestOne_25 : decode cX0_harvestOne 25 = .ok (.aload_n 0, 1) := by decide +kernel
theorem dX0_harvestOne_26 : decode cX0_harvestOne 26 = .ok (.getfield 21, 3) := by decide +kernel
theorem dX0_harvestOne_29 : decode cX0_harvestOne 29 = .ok (.iload_n 1, 1) := by decide +kernel
theorem dX0_harvestOne_30 : decode cX0_harvestOne 30 = .ok (.iload_n 2, 1) := by decide +kernel
theorem dX0_harvestOne_31 : decode cX0_harvestOne 31 = .ok (.ifCond .ne 7, 3) := by decide +kernel
theorem dX0_harvestOne_34 : decode cX0_harvestOne 34 = .ok (.iconst 1, 1) := by decide +kernel
theorem dX0_harvestOne_35 : decode cX0_harvestOne 35 = .ok (.goto 4, 3) := by decide +kernel
theorem dX0_harvestOne_38 : decode cX0_harvestOne 38 = .ok (.iconst 0, 1) := by decide +kernel
theorem dX0_harvestOne_39 : decode cX0_harvestOne 39 = .ok (.iastore, 1) := by decide +kernel
theorem dX0_harvestOne_40 : decode cX0_harvestOne 40 = .ok (.return_, 1) := by decide +kernel
theorem dX1_init_0 : decode cX1_init 0 = .ok (.aload_n 0, 1) := by decide +kernel
theorem dX1_init_1 : decode cX1_init 1 = .ok (.invokespecial 3, 3) := by decide +kernel
theorem dX1_init_4 : decode cX1_init 4 = .ok (.aload_n 0, 1) := by decide +kernel
theorem dX1_init_5 : decode cX1_init 5 = .ok (.bipush 40, 2) := by decide +kernel
theorem dX1_init_7 : decode cX1_init 7 = .ok (.newarray .long, 2) := by decide +kernel
theorem dX1_init_9 : decode cX1_init 9 = .ok (.putfield 9, 3) := by decide +kernel
theorem dX1_init_12 : decode cX1_init 12 = .ok (.return_, 1) := by decide +kernel
theorem dX1_isMissing_0 : decode cX1_isMissing 0 = .ok (.aload_n 0, 1) := by decide +kernel
theorem dX1_isMissing_1 : decode cX1_isMissing 1 = .ok (.getfield 15, 3) := by decide +kernel
theorem dX1_isMissing_4 : decode cX1_isMissing 4 = .ok (.ifCond .ne 7, 3) := by decide +kernel
theorem dX1_isMissing_7 : decode cX1_isMissing 7 = .ok (.iconst 1, 1) := by decide +kernel
theorem dX1_isMissing_8 : decode cX1_isMissing 8 = .ok (.goto 4, 3) := by decide +kernel
theorem dX1_isMissing_11 : decode cX1_isMissing 11 = .ok (.iconst 0, 1) := by decide +kernel
theorem dX1_isMissing_12 : decode cX1_isMissing 12 = .ok (.ireturn, 1) := by decide +kernel
theorem dX1_begin_0 : decode cX1_begin 0 = .ok (.aload_n 0, 1) := by decide +kernel
theorem dX1_begin_1 : decode cX1_begin 1 = .ok (.iload_n 1, 1) := by decide +kernel
theorem dX1_begin_2 : decode cX1_begin 2 = .ok (.putfield 15, 3) := by decide +kernel
theorem dX1_begin_5 : decode cX1_begin 5 = .ok (.aload_n 0, 1) := by decide +kernel
theorem dX1_begin_6 : decode cX1_begin 6 = .ok (.iload_n 1, 1) := by decide +kernel
theorem dX1_begin_7 : decode cX1_begin 7 = .ok (.ifCond .ne 7, 3) := by decide +kernel
theorem dX1_begin_10 : decode cX1_begin 10 = .ok (.iconst 0, 1) := by decide +kernel
theorem dX1_begin_11 : decode cX1_begin 11 = .ok (.goto 4, 3) := by decide +kernel
theorem dX1_begin_14 : decode cX1_begin 14 = .ok (.iload_n 2, 1) := by decide +kernel
theorem dX1_begin_15 : decode cX1_begin 15 = .ok (.putfield 19, 3) := by decide +kernel
theorem dX1_begin_18 : decode cX1_begin 18 = .ok (.iconst 0, 1) := by decide +kernel
theorem dX1_begin_19 : decode cX1_begin 19 = .ok (.istore_n 3, 1) := by decide +kernel
theorem dX1_begin_20 : decode cX1_begin 20 = .ok (.iload_n 3, 1) := by decide +kernel
theorem dX1_begin_21 : decode cX1_begin 21 = .ok (.bipush 40, 2) := by decide +kernel
theorem dX1_begin_23 : decode cX1_begin 23 = .ok (.if_icmp .ge 16, 3) := by decide +kernel
theorem dX1_begin_26 : decode cX1_begin 26 = .ok (.aload_n 0, 1) := by decide +kernel
theorem dX1_begin_27 : decode cX1_begin 27 = .ok (.getfield 9, 3) := by decide +kernel
theorem dX1_begin_30 : decode cX1_begin 30 = .ok (.iload_n 3, 1) := by decide +kernel
theorem dX1_begin_31 : decode cX1_begin 31 = .ok (.lconst 0, 1) := by decide +kernel
theorem dX1_begin_32 : decode cX1_begin 32 = .ok (.lastore, 1) := by decide +kernel
theorem dX1_begin_33 : decode cX1_begin 33 = .ok (.iinc 3 1, 3) := by decide +kernel
theorem dX1_begin_36 : decode cX1_begin 36 = .ok (.goto (-16), 3) := by decide +kernel
theorem dX1_begin_39 : decode cX1_begin 39 = .ok (.aload_n 0, 1) := by decide +kernel
theorem dX1_begin_40 : decode cX1_begin 40 = .ok (.getfield 19, 3) := by decide +kernel
theorem dX1_begin_43 : decode cX1_begin 43 = .ok (.ireturn, 1) := by decide +kernel
theorem dX1_put_0 : decode cX1_put 0 = .ok (.aload_n 0, 1) := by decide +kernel
theorem dX1_put_1 : decode cX1_put 1 = .ok (.getfield 9, 3) := by decide +kernel
theorem dX1_put_4 : decode cX1_put 4 = .ok (.iload_n 1, 1) := by decide +kernel
theorem dX1_put_5 : decode cX1_put 5 = .ok (.aload_n 0, 1) := by decide +kernel
theorem dX1_put_6 : decode cX1_put 6 = .ok (.lload_n 2, 1) := by decide +kernel
theorem dX1_put_7 : decode cX1_put 7 = .ok (.invokevirtual 22, 3) := by decide +kernel
theorem dX1_put_10 : decode cX1_put 10 = .ok (.lastore, 1) := by decide +kernel
theorem dX1_put_11 : decode cX1_put 11 = .ok (.return_, 1) := by decide +kernel
theorem dX1_lowestBits_0 : decode cX1_lowestBits 0 = .ok (.aload_n 0, 1) := by decide +kernel
theorem dX1_lowestBits_1 : decode cX1_lowestBits 1 = .ok (.getfield 15, 3) := by decide +kernel
theorem dX1_lowestBits_4 : decode cX1_lowestBits 4 = .ok (.lookupswitch 38 #[(8, 28), (16, 33)], 28) := by decide +kernel
theorem dX1_lowestBits_32 : decode cX1_lowestBits 32 = .ok (.lload_n 1, 1) := by decide +kernel
theorem dX1_lowestBits_33 : decode cX1_lowestBits 33 = .ok (.l2i, 1) := by decide +kernel
theorem dX1_lowestBits_34 : decode cX1_lowestBits 34 = .ok (.i2b, 1) := by decide +kernel
theorem dX1_lowestBits_35 : decode cX1_lowestBits 35 = .ok (.i2l, 1) := by decide +kernel
theorem dX1_lowestBits_36 : decode cX1_lowestBits 36 = .ok (.lreturn, 1) := by decide +kernel
theorem dX1_lowestBits_37 : decode cX1_lowestBits 37 = .ok (.lload_n 1, 1) := by decide +kernel
theorem dX1_lowestBits_38 : decode cX1_lowestBits 38 = .ok (.l2i, 1) := by decide +kernel
theorem dX1_lowestBits_39 : decode cX1_lowestBits 39 = .ok (.i2s, 1) := by decide +kernel
theorem dX1_lowestBits_40 : decode cX1_lowestBits 40 = .ok (.i2l, 1) := by decide +kernel
theorem dX1_lowestBits_41 : decode cX1_lowestBits 41 = .ok (.lreturn, 1) := by decide +kernel
theorem dX1_lowestBits_42 : decode cX1_lowestBits 42 = .ok (.lload_n 1, 1) := by decide +kernel
theorem dX1_lowestBits_43 : decode cX1_lowestBits 43 = .ok (.lreturn, 1) := by decide +kernel
theorem dX1_hasRun_0 : decode cX1_hasRun 0 = .ok (.iload_n 1, 1) := by decide +kernel
theorem dX1_hasRun_1 : decode cX1_hasRun 1 = .ok (.ifCond .lt 21, 3) := by decide +kernel
theorem dX1_hasRun_4 : decode cX1_hasRun 4 = .ok (.iload_n 2, 1) := by decide +kernel
theorem dX1_hasRun_5 : decode cX1_hasRun 5 = .ok (.ifCond .lt 17, 3) := by decide +kernel
theorem dX1_hasRun_8 : decode cX1_hasRun 8 = .ok (.iload_n 1, 1) := by decide +kernel
theorem dX1_hasRun_9 : decode cX1_hasRun 9 = .ok (.aload_n 0, 1) := by decide +kernel
theorem dX1_hasRun_10 : decode cX1_hasRun 10 = .ok (.getfield 19, 3) := by decide +kernel
theorem dX1_hasRun_13 : decode cX1_hasRun 13 = .ok (.iload_n 2, 1) := by decide +kernel
theorem dX1_hasRun_14 : decode cX1_hasRun 14 = .ok (.isub, 1) := by decide +kernel
theorem dX1_hasRun_15 : decode cX1_hasRun 15 = .ok (.if_icmp .gt 7, 3) := by decide +kernel
theorem dX1_hasRun_18 : decode cX1_hasRun 18 = .ok (.iconst 1, 1) := by decide +kernel
theorem dX1_hasRun_19 : decode cX1_hasRun 19 = .ok (.goto 4, 3) := by decide +kernel
theorem dX1_hasRun_22 : decode cX1_hasRun 22 = .ok (.iconst 0, 1) := by decide +kernel
theorem dX1_hasRun_23 : decode cX1_hasRun 23 = .ok (.ireturn, 1) := by decide +kernel
theorem dX2_init_0 : decode cX2_init 0 = .ok (.aload_n 0, 1) := by decide +kernel
theorem dX2_init_1 : decode cX2_init 1 = .ok (.invokespecial 3, 3) := by decide +kernel
theorem dX2_init_4 : decode cX2_init 4 = .ok (.aload_n 0, 1) := by decide +kernel
theorem dX2_init_5 : decode cX2_init 5 = .ok (.bipush 120, 2) := by decide +kernel
theorem dX2_init_7 : decode cX2_init 7 = .ok (.newarray .int, 2) := by decide +kernel
theorem dX2_init_9 : decode cX2_init 9 = .ok (.putfield 9, 3) := by decide +kernel
theorem dX2_init_12 : decode cX2_init 12 = .ok (.return_, 1) := by decide +kernel
theorem dX2_append_0 : decode cX2_append 0 = .ok (.aload_n 0, 1) := by decide +kernel
theorem dX2_append_1 : decode cX2_append 1 = .ok (.getfield 15, 3) := by decide +kernel
theorem dX2_append_4 : decode cX2_append 4 = .ok (.bipush 120, 2) := by decide +kernel
theorem dX2_append_6 : decode cX2_append 6 = .ok (.if_icmp .ge 23, 3) := by decide +kernel
theorem dX2_append_9 : decode cX2_append 9 = .ok (.aload_n 0, 1) := by decide +kernel
theorem dX2_append_10 : decode cX2_append 10 = .ok (.getfield 9, 3) := by decide +kernel
theorem dX2_append_13 : decode cX2_append 13 = .ok (.aload_n 0, 1) := by decide +kernel
theorem dX2_append_14 : decode cX2_append 14 = .ok (.getfield 15, 3) := by decide +kernel
theorem dX2_append_17 : decode cX2_append 17 = .ok (.iload_n 1, 1) := by decide +kernel
theorem dX2_append_18 : decode cX2_append 18 = .ok (.iastore, 1) := by decide +kernel
theorem dX2_append_19 : decode cX2_append 19 = .ok (.aload_n 0, 1) := by decide +kernel
theorem dX2_append_20 : decode cX2_append 20 = .ok (.dup, 1) := by decide +kernel
theorem dX2_append_21 : decode cX2_append 21 = .ok (.getfield 15, 3) := by decide +kernel
theorem dX2_append_24 : decode cX2_append 24 = .ok (.iconst 1, 1) := by decide +kernel
theorem dX2_append_25 : decode cX2_append 25 = .ok (.iadd, 1) := by decide +kernel
theorem dX2_append_26 : decode cX2_append 26 = .ok (.putfield 15, 3) := by decide +kernel
theorem dX2_append_29 : decode cX2_append 29 = .ok (.return_, 1) := by decide +kernel
theorem dX2_tellItems_0 : decode cX2_tellItems 0 = .ok (.aload_n 0, 1) := by decide +kernel
theorem dX2_tellItems_1 : decode cX2_tellItems 1 = .ok (.iconst 0, 1) := by decide +kernel
theorem dX2_tellItems_2 : decode cX2_tellItems 2 = .ok (.putfield 19, 3) := by decide +kernel
theorem dX2_tellItems_5 : decode cX2_tellItems 5 = .ok (.aload_n 0, 1) := by decide +kernel
theorem dX2_tellItems_6 : decode cX2_tellItems 6 = .ok (.invokevirtual 22, 3) := by decide +kernel
theorem dX2_tellItems_9 : decode cX2_tellItems 9 = .ok (.iconst 1, 1) := by decide +kernel
theorem dX2_tellItems_10 : decode cX2_tellItems 10 = .ok (.istore_n 2, 1) := by decide +kernel
theorem dX2_tellItems_11 : decode cX2_tellItems 11 = .ok (.iload_n 2, 1) := by decide +kernel
theorem dX2_tellItems_12 : decode cX2_tellItems 12 = .ok (.bipush 120, 2) := by decide +kernel
theorem dX2_tellItems_14 : decode cX2_tellItems 14 = .ok (.if_icmp .gt 52, 3) := by decide +kernel
theorem dX2_tellItems_17 : decode cX2_tellItems 17 = .ok (.aload_n 0, 1) := by decide +kernel
theorem dX2_tellItems_18 : decode cX2_tellItems 18 = .ok (.aload_n 1, 1) := by decide +kernel
theorem dX2_tellItems_19 : decode cX2_tellItems 19 = .ok (.invokevirtual 25, 3) := by decide +kernel
theorem dX2_tellItems_22 : decode cX2_tellItems 22 = .ok (.ifCond .ne 10, 3) := by decide +kernel
theorem dX2_tellItems_25 : decode cX2_tellItems 25 = .ok (.iconst (-1), 1) := by decide +kernel
theorem dX2_tellItems_26 : decode cX2_tellItems 26 = .ok (.aload_n 0, 1) := by decide +kernel
theorem dX2_tellItems_27 : decode cX2_tellItems 27 = .ok (.getfield 29, 3) := by decide +kernel
theorem dX2_tellItems_30 : decode cX2_tellItems 30 = .ok (.isub, 1) := by decide +kernel
theorem dX2_tellItems_31 : decode cX2_tellItems 31 = .ok (.ireturn, 1) := by decide +kernel
theorem dX2_tellItems_32 : decode cX2_tellItems 32 = .ok (.aload_n 0, 1) := by decide +kernel
theorem dX2_tellItems_33 : decode cX2_tellItems 33 = .ok (.getfield 32, 3) := by decide +kernel
theorem dX2_tellItems_36 : decode cX2_tellItems 36 = .ok (.ifCond .ne 5, 3) := by decide +kernel
theorem dX2_tellItems_39 : decode cX2_tellItems 39 = .ok (.iload_n 2, 1) := by decide +kernel
theorem dX2_tellItems_40 : decode cX2_tellItems 40 = .ok (.ireturn, 1) := by decide +kernel
theorem dX2_tellItems_41 : decode cX2_tellItems 41 = .ok (.aload_n 0, 1) := by decide +kernel
theorem dX2_tellItems_42 : decode cX2_tellItems 42 = .ok (.getfield 32, 3) := by decide +kernel
theorem dX2_tellItems_45 : decode cX2_tellItems 45 = .ok (.iconst 3, 1) := by decide +kernel
theorem dX2_tellItems_46 : decode cX2_tellItems 46 = .ok (.if_icmp .eq 10, 3) := by decide +kernel
theorem dX2_tellItems_49 : decode cX2_tellItems 49 = .ok (.iconst (-1), 1) := by decide +kernel
theorem dX2_tellItems_50 : decode cX2_tellItems 50 = .ok (.aload_n 0, 1) := by decide +kernel
theorem dX2_tellItems_51 : decode cX2_tellItems 51 = .ok (.getfield 29, 3) := by decide +kernel
theorem dX2_tellItems_54 : decode cX2_tellItems 54 = .ok (.isub, 1) := by decide +kernel
theorem dX2_tellItems_55 : decode cX2_tellItems 55 = .ok (.ireturn, 1) := by decide +kernel
theorem dX2_tellItems_56 : decode cX2_tellItems 56 = .ok (.aload_n 0, 1) := by decide +kernel
theorem dX2_tellItems_57 : decode cX2_tellItems 57 = .ok (.invokevirtual 22, 3) := by decide +kernel
theorem dX2_tellItems_60 : decode cX2_tellItems 60 = .ok (.iinc 2 1, 3) := by decide +kernel
theorem dX2_tellItems_63 : decode cX2_tellItems 63 = .ok (.goto (-52), 3) := by decide +kernel
theorem dX2_tellItems_66 : decode cX2_tellItems 66 = .ok (.iconst (-1), 1) := by decide +kernel
theorem dX2_tellItems_67 : decode cX2_tellItems 67 = .ok (.aload_n 0, 1) := by decide +kernel
theorem dX2_tellItems_68 : decode cX2_tellItems 68 = .ok (.getfield 29, 3) := by decide +kernel
theorem dX2_tellItems_71 : decode cX2_tellItems 71 = .ok (.isub, 1) := by decide +kernel
theorem dX2_tellItems_72 : decode cX2_tellItems 72 = .ok (.ireturn, 1) := by decide +kernel
theorem dX2_tellItem_0 : decode cX2_tellItem 0 = .ok (.aload_n 0, 1) := by decide +kernel
theorem dX2_tellItem_1 : decode cX2_tellItem 1 = .ok (.invokevirtual 35, 3) := by decide +kernel
theorem dX2_tellItem_4 : decode cX2_tellItem 4 = .ok (.istore_n 2, 1) := by decide +kernel
theorem dX2_tellItem_5 : decode cX2_tellItem 5 = .ok (.iload_n 2, 1) := by decide +kernel
theorem dX2_tellItem_6 : decode cX2_tellItem 6 = .ok (.ifCond .lt 27, 3) := by decide +kernel
theorem dX2_tellItem_9 : decode cX2_tellItem 9 = .ok (.aload_n 1, 1) := by decide +kernel
theorem dX2_tellItem_10 : decode cX2_tellItem 10 = .ok (.getfield 39, 3) := by decide +kernel
theorem dX2_tellItem_13 : decode cX2_tellItem 13 = .ok (.bipush 12, 2) := by decide +kernel
theorem dX2_tellItem_15 : decode cX2_tellItem 15 = .ok (.if_icmp .ge 16, 3) := by decide +kernel
theorem dX2_tellItem_18 : decode cX2_tellItem 18 = .ok (.aload_n 0, 1) := by decide +kernel
theorem dX2_tellItem_19 : decode cX2_tellItem 19 = .ok (.aload_n 1, 1) := by decide +kernel
theorem dX2_tellItem_20 : decode cX2_tellItem 20 = .ok (.iload_n 2, 1) := by decide +kernel
theorem dX2_tellItem_21 : decode cX2_tellItem 21 = .ok (.invokevirtual 44, 3) := by decide +kernel
theorem dX2_tellItem_24 : decode cX2_tellItem 24 = .ok (.ifCond .eq 7, 3) := by decide +kernel
theorem dX2_tellItem_27 : decode cX2_tellItem 27 = .ok (.iconst 1, 1) := by decide +kernel
theorem dX2_tellItem_28 : decode cX2_tellItem 28 = .ok (.goto 4, 3) := by decide +kernel
theorem dX2_tellItem_31 : decode cX2_tellItem 31 = .ok (.iconst 0, 1) := by decide +kernel
theorem dX2_tellItem_32 : decode cX2_tellItem 32 = .ok (.ireturn, 1) := by decide +kernel
theorem dX2_tellItem_33 : decode cX2_tellItem 33 = .ok (.aload_n 0, 1) := by decide +kernel
theorem dX2_tellItem_34 : decode cX2_tellItem 34 = .ok (.ldc 48, 2) := by decide +kernel
theorem dX2_tellItem_36 : decode cX2_tellItem 36 = .ok (.invokevirtual 50, 3) := by decide +kernel
theorem dX2_tellItem_39 : decode cX2_tellItem 39 = .ok (.ifCond .eq 9, 3) := by decide +kernel
theorem dX2_tellItem_42 : decode cX2_tellItem 42 = .ok (.aload_n 0, 1) := by decide +kernel
theorem dX2_tellItem_43 : decode cX2_tellItem 43 = .ok (.aload_n 1, 1) := by decide +kernel
theorem dX2_tellItem_44 : decode cX2_tellItem 44 = .ok (.invokevirtual 54, 3) := by decide +kernel
theorem dX2_tellItem_47 : decode cX2_tellItem 47 = .ok (.ireturn, 1) := by decide +kernel
theorem dX2_tellItem_48 : decode cX2_tellItem 48 = .ok (.aload_n 0, 1) := by decide +kernel
theorem dX2_tellItem_49 : decode cX2_tellItem 49 = .ok (.ldc 57, 2) := by decide +kernel
theorem dX2_tellItem_51 : decode cX2_tellItem 51 = .ok (.invokevirtual 50, 3) := by decide +kernel
theorem dX2_tellItem_54 : decode cX2_tellItem 54 = .ok (.ifCond .eq 9, 3) := by decide +kernel
theorem dX2_tellItem_57 : decode cX2_tellItem 57 = .ok (.aload_n 0, 1) := by decide +kernel
theorem dX2_tellItem_58 : decode cX2_tellItem 58 = .ok (.aload_n 1, 1) := by decide +kernel
theorem dX2_tellItem_59 : decode cX2_tellItem 59 = .ok (.invokevirtual 59, 3) := by decide +kernel
theorem dX2_tellItem_62 : decode cX2_tellItem 62 = .ok (.ireturn, 1) := by decide +kernel
theorem dX2_tellItem_63 : decode cX2_tellItem 63 = .ok (.aload_n 0, 1) := by decide +kernel
theorem dX2_tellItem_64 : decode cX2_tellItem 64 = .ok (.ldc 62, 2) := by decide +kernel
theorem dX2_tellItem_66 : decode cX2_tellItem 66 = .ok (.invokevirtual 50, 3) := by decide +kernel
theorem dX2_tellItem_69 : decode cX2_tellItem 69 = .ok (.ifCond .eq 24, 3) := by decide +kernel
theorem dX2_tellItem_72 : decode cX2_tellItem 72 = .ok (.aload_n 1, 1) := by decide +kernel
theorem dX2_tellItem_73 : decode cX2_tellItem 73 = .ok (.getfield 64, 3) := by decide +kernel
theorem dX2_tellItem_76 : decode cX2_tellItem 76 = .ok (.bipush 8, 2) := by decide +kernel
theorem dX2_tellItem_78 : decode cX2_tellItem 78 = .ok (.if_icmp .ge 15, 3) := by decide +kernel
theorem dX2_tellItem_81 : decode cX2_tellItem 81 = .ok (.aload_n 0, 1) := by decide +kernel
theorem dX2_tellItem_82 : decode cX2_tellItem 82 = .ok (.aload_n 1, 1) := by decide +kernel
theorem dX2_tellItem_83 : decode cX2_tellItem 83 = .ok (.invokevirtual 67, 3) := by decide +kernel
theorem dX2_tellItem_86 : decode cX2_tellItem 86 = .ok (.ifCond .eq 7, 3) := by decide +kernel
theorem dX2_tellItem_89 : decode cX2_tellItem 89 = .ok (.iconst 1, 1) := by decide +kernel
theorem dX2_tellItem_90 : decode cX2_tellItem 90 = .ok (.goto 4, 3) := by decide +kernel
theorem dX2_tellItem_93 : decode cX2_tellItem 93 = .ok (.iconst 0, 1) := by decide +kernel
theorem dX2_tellItem_94 : decode cX2_tellItem 94 = .ok (.ireturn, 1) := by decide +kernel
theorem dX2_tellCoin_0 : decode cX2_tellCoin 0 = .ok (.aload_n 0, 1) := by decide +kernel
theorem dX2_tellCoin_1 : decode cX2_tellCoin 1 = .ok (.invokevirtual 22, 3) := by decide +kernel
theorem dX2_tellCoin_4 : decode cX2_tellCoin 4 = .ok (.aload_n 0, 1) := by decide +kernel
theorem dX2_tellCoin_5 : decode cX2_tellCoin 5 = .ok (.ldc 70, 2) := by decide +kernel
theorem dX2_tellCoin_7 : decode cX2_tellCoin 7 = .ok (.invokevirtual 72, 3) := by decide +kernel
theorem dX2_tellCoin_10 : decode cX2_tellCoin 10 = .ok (.ifCond .ne 5, 3) := by decide +kernel
theorem dX2_tellCoin_13 : decode cX2_tellCoin 13 = .ok (.iconst 0, 1) := by decide +kernel
theorem dX2_tellCoin_14 : decode cX2_tellCoin 14 = .ok (.ireturn, 1) := by decide +kernel
theorem dX2_tellCoin_15 : decode cX2_tellCoin 15 = .ok (.aload_n 0, 1) := by decide +kernel
theorem dX2_tellCoin_16 : decode cX2_tellCoin 16 = .ok (.iconst 0, 1) := by decide +kernel
theorem dX2_tellCoin_17 : decode cX2_tellCoin 17 = .ok (.iconst 3, 1) := by decide +kernel
theorem dX2_tellCoin_18 : decode cX2_tellCoin 18 = .ok (.invokevirtual 75, 3) := by decide +kernel
theorem dX2_tellCoin_21 : decode cX2_tellCoin 21 = .ok (.istore_n 3, 1) := by decide +kernel
theorem dX2_tellCoin_22 : decode cX2_tellCoin 22 = .ok (.iload_n 3, 1) := by decide +kernel
theorem dX2_tellCoin_23 : decode cX2_tellCoin 23 = .ok (.ifCond .lt 12, 3) := by decide +kernel
theorem dX2_tellCoin_26 : decode cX2_tellCoin 26 = .ok (.aload_n 0, 1) := by decide +kernel
theorem dX2_tellCoin_27 : decode cX2_tellCoin 27 = .ok (.ldc 79, 2) := by decide +kernel
theorem dX2_tellCoin_29 : decode cX2_tellCoin 29 = .ok (.invokevirtual 72, 3) := by decide +kernel
theorem dX2_tellCoin_32 : decode cX2_tellCoin 32 = .ok (.ifCond .ne 5, 3) := by decide +kernel
theorem dX2_tellCoin_35 : decode cX2_tellCoin 35 = .ok (.iconst 0, 1) := by decide +kernel
theorem dX2_tellCoin_36 : decode cX2_tellCoin 36 = .ok (.ireturn, 1) := by decide +kernel
theorem dX2_tellCoin_37 : decode cX2_tellCoin 37 = .ok (.aload_n 0, 1) := by decide +kernel
theorem dX2_tellCoin_38 : decode cX2_tellCoin 38 = .ok (.iconst 0, 1) := by decide +kernel
theorem dX2_tellCoin_39 : decode cX2_tellCoin 39 = .ok (.bipush 99, 2) := by decide +kernel
theorem dX2_tellCoin_41 : decode cX2_tellCoin 41 = .ok (.invokevirtual 75, 3) := by decide +kernel
theorem dX2_tellCoin_44 : decode cX2_tellCoin 44 = .ok (.istore 4, 2) := by decide +kernel
theorem dX2_tellCoin_46 : decode cX2_tellCoin 46 = .ok (.iload 4, 2) := by decide +kernel
theorem dX2_tellCoin_48 : decode cX2_tellCoin 48 = .ok (.ifCond .ge 5, 3) := by decide +kernel
theorem dX2_tellCoin_51 : decode cX2_tellCoin 51 = .ok (.iconst 0, 1) := by decide +kernel
theorem dX2_tellCoin_52 : decode cX2_tellCoin 52 = .ok (.ireturn, 1) := by decide +kernel
theorem dX2_tellCoin_53 : decode cX2_tellCoin 53 = .ok (.aload_n 0, 1) := by decide +kernel
theorem dX2_tellCoin_54 : decode cX2_tellCoin 54 = .ok (.ldc 81, 2) := by decide +kernel
theorem dX2_tellCoin_56 : decode cX2_tellCoin 56 = .ok (.invokevirtual 72, 3) := by decide +kernel
theorem dX2_tellCoin_59 : decode cX2_tellCoin 59 = .ok (.ifCond .eq 7, 3) := by decide +kernel
theorem dX2_tellCoin_62 : decode cX2_tellCoin 62 = .ok (.iconst 1, 1) := by decide +kernel
theorem dX2_tellCoin_63 : decode cX2_tellCoin 63 = .ok (.goto 17, 3) := by decide +kernel
theorem dX2_tellCoin_66 : decode cX2_tellCoin 66 = .ok (.aload_n 0, 1) := by decide +kernel
theorem dX2_tellCoin_67 : decode cX2_tellCoin 67 = .ok (.ldc 83, 2) := by decide +kernel
theorem dX2_tellCoin_69 : decode cX2_tellCoin 69 = .ok (.invokevirtual 72, 3) := by decide +kernel
theorem dX2_tellCoin_72 : decode cX2_tellCoin 72 = .ok (.ifCond .eq 7, 3) := by decide +kernel
theorem dX2_tellCoin_75 : decode cX2_tellCoin 75 = .ok (.iconst 2, 1) := by decide +kernel
theorem dX2_tellCoin_76 : decode cX2_tellCoin 76 = .ok (.goto 4, 3) := by decide +kernel
theorem dX2_tellCoin_79 : decode cX2_tellCoin 79 = .ok (.iconst 0, 1) := by decide +kernel
theorem dX2_tellCoin_80 : decode cX2_tellCoin 80 = .ok (.istore 5, 2) := by decide +kernel
theorem dX2_tellCoin_82 : decode cX2_tellCoin 82 = .ok (.aload_n 1, 1) := by decide +kernel
theorem dX2_tellCoin_83 : decode cX2_tellCoin 83 = .ok (.iload_n 2, 1) := by decide +kernel
theorem dX2_tellCoin_84 : decode cX2_tellCoin 84 = .ok (.iload_n 3, 1) := by decide +kernel
theorem dX2_tellCoin_85 : decode cX2_tellCoin 85 = .ok (.iload 4, 2) := by decide +kernel
theorem dX2_tellCoin_87 : decode cX2_tellCoin 87 = .ok (.iload 5, 2) := by decide +kernel
theorem dX2_tellCoin_89 : decode cX2_tellCoin 89 = .ok (.invokevirtual 85, 3) := by decide +kernel
theorem dX2_tellCoin_92 : decode cX2_tellCoin 92 = .ok (.pop, 1) := by decide +kernel
theorem dX2_tellCoin_93 : decode cX2_tellCoin 93 = .ok (.iconst 1, 1) := by decide +kernel
theorem dX2_tellCoin_94 : decode cX2_tellCoin 94 = .ok (.ireturn, 1) := by decide +kernel
theorem dX2_tellSoil_0 : decode cX2_tellSoil 0 = .ok (.aload_n 0, 1) := by decide +kernel
theorem dX2_tellSoil_1 : decode cX2_tellSoil 1 = .ok (.invokevirtual 22, 3) := by decide +kernel
theorem dX2_tellSoil_4 : decode cX2_tellSoil 4 = .ok (.aload_n 0, 1) := by decide +kernel
theorem dX2_tellSoil_5 : decode cX2_tellSoil 5 = .ok (.iconst 0, 1) := by decide +kernel
theorem dX2_tellSoil_6 : decode cX2_tellSoil 6 = .ok (.iconst 3, 1) := by decide +kernel
theorem dX2_tellSoil_7 : decode cX2_tellSoil 7 = .ok (.invokevirtual 75, 3) := by decide +kernel
theorem dX2_tellSoil_10 : decode cX2_tellSoil 10 = .ok (.istore_n 2, 1) := by decide +kernel
theorem dX2_tellSoil_11 : decode cX2_tellSoil 11 = .ok (.iload_n 2, 1) := by decide +kernel
theorem dX2_tellSoil_12 : decode cX2_tellSoil 12 = .ok (.ifCond .ge 5, 3) := by decide +kernel
theorem dX2_tellSoil_15 : decode cX2_tellSoil 15 = .ok (.iconst 0, 1) := by decide +kernel
theorem dX2_tellSoil_16 : decode cX2_tellSoil 16 = .ok (.ireturn, 1) := by decide +kernel
theorem dX2_tellSoil_17 : decode cX2_tellSoil 17 = .ok (.aload_n 0, 1) := by decide +kernel
theorem dX2_tellSoil_18 : decode cX2_tellSoil 18 = .ok (.iconst 0, 1) := by decide +kernel
theorem dX2_tellSoil_19 : decode cX2_tellSoil 19 = .ok (.bipush 9, 2) := by decide +kernel
theorem dX2_tellSoil_21 : decode cX2_tellSoil 21 = .ok (.invokevirtual 75, 3) := by decide +kernel
theorem dX2_tellSoil_24 : decode cX2_tellSoil 24 = .ok (.istore_n 3, 1) := by decide +kernel
theorem dX2_tellSoil_25 : decode cX2_tellSoil 25 = .ok (.iload_n 3, 1) := by decide +kernel
theorem dX2_tellSoil_26 : decode cX2_tellSoil 26 = .ok (.ifCond .ge 5, 3) := by decide +kernel
theorem dX2_tellSoil_29 : decode cX2_tellSoil 29 = .ok (.iconst 0, 1) := by decide +kernel
theorem dX2_tellSoil_30 : decode cX2_tellSoil 30 = .ok (.ireturn, 1) := by decide +kernel
theorem dX2_tellSoil_31 : decode cX2_tellSoil 31 = .ok (.aload_n 1, 1) := by decide +kernel
theorem dX2_tellSoil_32 : decode cX2_tellSoil 32 = .ok (.getfield 89, 3) := by decide +kernel
theorem dX2_tellSoil_35 : decode cX2_tellSoil 35 = .ok (.iload_n 2, 1) := by decide +kernel
theorem dX2_tellSoil_36 : decode cX2_tellSoil 36 = .ok (.iload_n 3, 1) := by decide +kernel
theorem dX2_tellSoil_37 : decode cX2_tellSoil 37 = .ok (.iastore, 1) := by decide +kernel
theorem dX2_tellSoil_38 : decode cX2_tellSoil 38 = .ok (.iconst 1, 1) := by decide +kernel
theorem dX2_tellSoil_39 : decode cX2_tellSoil 39 = .ok (.ireturn, 1) := by decide +kernel
theorem dX2_tellPrice_0 : decode cX2_tellPrice 0 = .ok (.aload_n 0, 1) := by decide +kernel
theorem dX2_tellPrice_1 : decode cX2_tellPrice 1 = .ok (.invokevirtual 22, 3) := by decide +kernel
theorem dX2_tellPrice_4 : decode cX2_tellPrice 4 = .ok (.aload_n 0, 1) := by decide +kernel
theorem dX2_tellPrice_5 : decode cX2_tellPrice 5 = .ok (.iconst 0, 1) := by decide +kernel
theorem dX2_tellPrice_6 : decode cX2_tellPrice 6 = .ok (.bipush 11, 2) := by decide +kernel
theorem dX2_tellPrice_8 : decode cX2_tellPrice 8 = .ok (.invokevirtual 75, 3) := by decide +kernel
theorem dX2_tellPrice_11 : decode cX2_tellPrice 11 = .ok (.istore_n 2, 1) := by decide +kernel
theorem dX2_tellPrice_12 : decode cX2_tellPrice 12 = .ok (.iload_n 2, 1) := by decide +kernel
theorem dX2_tellPrice_13 : decode cX2_tellPrice 13 = .ok (.ifCond .ge 5, 3) := by decide +kernel
theorem dX2_tellPrice_16 : decode cX2_tellPrice 16 = .ok (.iconst 0, 1) := by decide +kernel
theorem dX2_tellPrice_17 : decode cX2_tellPrice 17 = .ok (.ireturn, 1) := by decide +kernel
theorem dX2_tellPrice_18 : decode cX2_tellPrice 18 = .ok (.aload_n 0, 1) := by decide +kernel
theorem dX2_tellPrice_19 : decode cX2_tellPrice 19 = .ok (.iconst 0, 1) := by decide +kernel
theorem dX2_tellPrice_20 : decode cX2_tellPrice 20 = .ok (.bipush 99, 2) := by decide +kernel
theorem dX2_tellPrice_22 : decode cX2_tellPrice 22 = .ok (.invokevirtual 75, 3) := by decide +kernel
theorem dX2_tellPrice_25 : decode cX2_tellPrice 25 = .ok (.istore_n 3, 1) := by decide +kernel
theorem dX2_tellPrice_26 : decode cX2_tellPrice 26 = .ok (.iload_n 3, 1) := by decide +kernel
theorem dX2_tellPrice_27 : decode cX2_tellPrice 27 = .ok (.ifCond .ge 5, 3) := by decide +kernel
theorem dX2_tellPrice_30 : decode cX2_tellPrice 30 = .ok (.iconst 0, 1) := by decide +kernel
theorem dX2_tellPrice_31 : decode cX2_tellPrice 31 = .ok (.ireturn, 1) := by decide +kernel
theorem dX2_tellPrice_32 : decode cX2_tellPrice 32 = .ok (.aload_n 1, 1) := by decide +kernel
theorem dX2_tellPrice_33 : decode cX2_tellPrice 33 = .ok (.getfield 92, 3) := by decide +kernel
theorem dX2_tellPrice_36 : decode cX2_tellPrice 36 = .ok (.iload_n 2, 1) := by decide +kernel
theorem dX2_tellPrice_37 : decode cX2_tellPrice 37 = .ok (.iload_n 3, 1) := by decide +kernel
theorem dX2_tellPrice_38 : decode cX2_tellPrice 38 = .ok (.iastore, 1) := by decide +kernel
theorem dX2_tellPrice_39 : decode cX2_tellPrice 39 = .ok (.iconst 1, 1) := by decide +kernel
theorem dX2_tellPrice_40 : decode cX2_tellPrice 40 = .ok (.ireturn, 1) := by decide +kernel
theorem dX2_tellLoan_0 : decode cX2_tellLoan 0 = .ok (.aload_n 0, 1) := by decide +kernel
theorem dX2_tellLoan_1 : decode cX2_tellLoan 1 = .ok (.invokevirtual 22, 3) := by decide +kernel
theorem dX2_tellLoan_4 : decode cX2_tellLoan 4 = .ok (.aload_n 0, 1) := by decide +kernel
theorem dX2_tellLoan_5 : decode cX2_tellLoan 5 = .ok (.iconst 0, 1) := by decide +kernel
theorem dX2_tellLoan_6 : decode cX2_tellLoan 6 = .ok (.iconst 3, 1) := by decide +kernel
theorem dX2_tellLoan_7 : decode cX2_tellLoan 7 = .ok (.invokevirtual 75, 3) := by decide +kernel
theorem dX2_tellLoan_10 : decode cX2_tellLoan 10 = .ok (.istore_n 2, 1) := by decide +kernel
theorem dX2_tellLoan_11 : decode cX2_tellLoan 11 = .ok (.iload_n 2, 1) := by decide +kernel
theorem dX2_tellLoan_12 : decode cX2_tellLoan 12 = .ok (.ifCond .lt 12, 3) := by decide +kernel
theorem dX2_tellLoan_15 : decode cX2_tellLoan 15 = .ok (.aload_n 0, 1) := by decide +kernel
theorem dX2_tellLoan_16 : decode cX2_tellLoan 16 = .ok (.ldc 95, 2) := by decide +kernel
theorem dX2_tellLoan_18 : decode cX2_tellLoan 18 = .ok (.invokevirtual 72, 3) := by decide +kernel
theorem dX2_tellLoan_21 : decode cX2_tellLoan 21 = .ok (.ifCond .ne 5, 3) := by decide +kernel
theorem dX2_tellLoan_24 : decode cX2_tellLoan 24 = .ok (.iconst 0, 1) := by decide +kernel
theorem dX2_tellLoan_25 : decode cX2_tellLoan 25 = .ok (.ireturn, 1) := by decide +kernel
theorem dX2_tellLoan_26 : decode cX2_tellLoan 26 = .ok (.aload_n 0, 1) := by decide +kernel
theorem dX2_tellLoan_27 : decode cX2_tellLoan 27 = .ok (.getfield 32, 3) := by decide +kernel
theorem dX2_tellLoan_30 : decode cX2_tellLoan 30 = .ok (.iconst 2, 1) := by decide +kernel
theorem dX2_tellLoan_31 : decode cX2_tellLoan 31 = .ok (.if_icmp .ne 13, 3) := by decide +kernel
theorem dX2_tellLoan_34 : decode cX2_tellLoan 34 = .ok (.aload_n 0, 1) := by decide +kernel
theorem dX2_tellLoan_35 : decode cX2_tellLoan 35 = .ok (.getfield 97, 3) := by decide +kernel
theorem dX2_tellLoan_38 : decode cX2_tellLoan 38 = .ok (.iload_n 2, 1) := by decide +kernel
theorem dX2_tellLoan_39 : decode cX2_tellLoan 39 = .ok (.if_icmp .ne 5, 3) := by decide +kernel
theorem dX2_tellLoan_42 : decode cX2_tellLoan 42 = .ok (.iconst 0, 1) := by decide +kernel
theorem dX2_tellLoan_43 : decode cX2_tellLoan 43 = .ok (.ireturn, 1) := by decide +kernel
theorem dX2_tellLoan_44 : decode cX2_tellLoan 44 = .ok (.aload_n 0, 1) := by decide +kernel
theorem dX2_tellLoan_45 : decode cX2_tellLoan 45 = .ok (.iconst 0, 1) := by decide +kernel
theorem dX2_tellLoan_46 : decode cX2_tellLoan 46 = .ok (.iconst 3, 1) := by decide +kernel
theorem dX2_tellLoan_47 : decode cX2_tellLoan 47 = .ok (.invokevirtual 75, 3) := by decide +kernel
theorem dX2_tellLoan_50 : decode cX2_tellLoan 50 = .ok (.istore_n 3, 1) := by decide +kernel
theorem dX2_tellLoan_51 : decode cX2_tellLoan 51 = .ok (.iload_n 3, 1) := by decide +kernel
theorem dX2_tellLoan_52 : decode cX2_tellLoan 52 = .ok (.ifCond .ge 5, 3) := by decide +kernel
theorem dX2_tellLoan_55 : decode cX2_tellLoan 55 = .ok (.iconst 0, 1) := by decide +kernel
theorem dX2_tellLoan_56 : decode cX2_tellLoan 56 = .ok (.ireturn, 1) := by decide +kernel
theorem dX2_tellLoan_57 : decode cX2_tellLoan 57 = .ok (.aload_n 0, 1) := by decide +kernel
theorem dX2_tellLoan_58 : decode cX2_tellLoan 58 = .ok (.iconst 1, 1) := by decide +kernel
theorem dX2_tellLoan_59 : decode cX2_tellLoan 59 = .ok (.sipush 9999, 3) := by decide +kernel
theorem dX2_tellLoan_62 : decode cX2_tellLoan 62 = .ok (.invokevirtual 75, 3) := by decide +kernel
theorem dX2_tellLoan_65 : decode cX2_tellLoan 65 = .ok (.istore 4, 2) := by decide +kernel
theorem dX2_tellLoan_67 : decode cX2_tellLoan 67 = .ok (.iload 4, 2) := by decide +kernel
theorem dX2_tellLoan_69 : decode cX2_tellLoan 69 = .ok (.ifCond .lt 12, 3) := by decide +kernel
theorem dX2_tellLoan_72 : decode cX2_tellLoan 72 = .ok (.aload_n 0, 1) := by decide +kernel
theorem dX2_tellLoan_73 : decode cX2_tellLoan 73 = .ok (.ldc 100, 2) := by decide +kernel
theorem dX2_tellLoan_75 : decode cX2_tellLoan 75 = .ok (.invokevirtual 72, 3) := by decide +kernel
theorem dX2_tellLoan_78 : decode cX2_tellLoan 78 = .ok (.ifCond .ne 5, 3) := by decide +kernel
theorem dX2_tellLoan_81 : decode cX2_tellLoan 81 = .ok (.iconst 0, 1) := by decide +kernel
theorem dX2_tellLoan_82 : decode cX2_tellLoan 82 = .ok (.ireturn, 1) := by decide +kernel
theorem dX2_tellLoan_83 : decode cX2_tellLoan 83 = .ok (.aload_n 0, 1) := by decide +kernel
theorem dX2_tellLoan_84 : decode cX2_tellLoan 84 = .ok (.iconst 1, 1) := by decide +kernel
theorem dX2_tellLoan_85 : decode cX2_tellLoan 85 = .ok (.bipush 120, 2) := by decide +kernel
theorem dX2_tellLoan_87 : decode cX2_tellLoan 87 = .ok (.invokevirtual 75, 3) := by decide +kernel
theorem dX2_tellLoan_90 : decode cX2_tellLoan 90 = .ok (.istore 5, 2) := by decide +kernel
theorem dX2_tellLoan_92 : decode cX2_tellLoan 92 = .ok (.iload 5, 2) := by decide +kernel
theorem dX2_tellLoan_94 : decode cX2_tellLoan 94 = .ok (.ifCond .ge 5, 3) := by decide +kernel
theorem dX2_tellLoan_97 : decode cX2_tellLoan 97 = .ok (.iconst 0, 1) := by decide +kernel
theorem dX2_tellLoan_98 : decode cX2_tellLoan 98 = .ok (.ireturn, 1) := by decide +kernel
theorem dX2_tellLoan_99 : decode cX2_tellLoan 99 = .ok (.aload_n 1, 1) := by decide +kernel
theorem dX2_tellLoan_100 : decode cX2_tellLoan 100 = .ok (.iload_n 2, 1) := by decide +kernel
theorem dX2_tellLoan_101 : decode cX2_tellLoan 101 = .ok (.iload_n 3, 1) := by decide +kernel
theorem dX2_tellLoan_102 : decode cX2_tellLoan 102 = .ok (.iload 4, 2) := by decide +kernel
theorem dX2_tellLoan_104 : decode cX2_tellLoan 104 = .ok (.iload 5, 2) := by decide +kernel
theorem dX2_tellLoan_106 : decode cX2_tellLoan 106 = .ok (.invokevirtual 102, 3) := by decide +kernel
theorem dX2_tellLoan_109 : decode cX2_tellLoan 109 = .ok (.pop, 1) := by decide +kernel
theorem dX2_tellLoan_110 : decode cX2_tellLoan 110 = .ok (.iconst 1, 1) := by decide +kernel
theorem dX2_tellLoan_111 : decode cX2_tellLoan 111 = .ok (.ireturn, 1) := by decide +kernel
theorem dX2_kindNamed_0 : decode cX2_kindNamed 0 = .ok (.iconst 0, 1) := by decide +kernel
theorem dX2_kindNamed_1 : decode cX2_kindNamed 1 = .ok (.istore_n 1, 1) := by decide +kernel
theorem dX2_kindNamed_2 : decode cX2_kindNamed 2 = .ok (.iload_n 1, 1) := by decide +kernel
theorem dX2_kindNamed_3 : decode cX2_kindNamed 3 = .ok (.bipush 6, 2) := by decide +kernel
theorem dX2_kindNamed_5 : decode cX2_kindNamed 5 = .ok (.if_icmp .ge 22, 3) := by decide +kernel
theorem dX2_kindNamed_8 : decode cX2_kindNamed 8 = .ok (.aload_n 0, 1) := by decide +kernel
theorem dX2_kindNamed_9 : decode cX2_kindNamed 9 = .ok (.iload_n 1, 1) := by decide +kernel
theorem dX2_kindNamed_10 : decode cX2_kindNamed 10 = .ok (.invokestatic 105, 3) := by decide +kernel
theorem dX2_kindNamed_13 : decode cX2_kindNamed 13 = .ok (.invokevirtual 50, 3) := by decide +kernel
theorem dX2_kindNamed_16 : decode cX2_kindNamed 16 = .ok (.ifCond .eq 5, 3) := by decide +kernel
theorem dX2_kindNamed_19 : decode cX2_kindNamed 19 = .ok (.iload_n 1, 1) := by decide +kernel
theorem dX2_kindNamed_20 : decode cX2_kindNamed 20 = .ok (.ireturn, 1) := by decide +kernel
theorem dX2_kindNamed_21 : decode cX2_kindNamed 21 = .ok (.iinc 1 1, 3) := by decide +kernel
theorem dX2_kindNamed_24 : decode cX2_kindNamed 24 = .ok (.goto (-22), 3) := by decide +kernel
theorem dX2_kindNamed_27 : decode cX2_kindNamed 27 = .ok (.iconst (-1), 1) := by decide +kernel
theorem dX2_kindNamed_28 : decode cX2_kindNamed 28 = .ok (.ireturn, 1) := by decide +kernel
theorem dX2_nameOf_0 : decode cX2_nameOf 0 = .ok (.iload_n 0, 1) := by decide +kernel
theorem dX2_nameOf_1 : decode cX2_nameOf 1 = .ok (.tableswitch 50 1 5 #[35, 38, 41, 44, 47], 35) := by decide +kernel
theorem dX2_nameOf_36 : decode cX2_nameOf 36 = .ok (.ldc 109, 2) := by decide +kernel
theorem dX2_nameOf_38 : decode cX2_nameOf 38 = .ok (.areturn, 1) := by decide +kernel
theorem dX2_nameOf_39 : decode cX2_nameOf 39 = .ok (.ldc 111, 2) := by decide +kernel
theorem dX2_nameOf_41 : decode cX2_nameOf 41 = .ok (.areturn, 1) := by decide +kernel
theorem dX2_nameOf_42 : decode cX2_nameOf 42 = .ok (.ldc 113, 2) := by decide +kernel
theorem dX2_nameOf_44 : decode cX2_nameOf 44 = .ok (.areturn, 1) := by decide +kernel
theorem dX2_nameOf_45 : decode cX2_nameOf 45 = .ok (.ldc 115, 2) := by decide +kernel
theorem dX2_nameOf_47 : decode cX2_nameOf 47 = .ok (.areturn, 1) := by decide +kernel
theorem dX2_nameOf_48 : decode cX2_nameOf 48 = .ok (.ldc 117, 2) := by decide +kernel
theorem dX2_nameOf_50 : decode cX2_nameOf 50 = .ok (.areturn, 1) := by decide +kernel
theorem dX2_nameOf_51 : decode cX2_nameOf 51 = .ok (.ldc 119, 2) := by decide +kernel
theorem dX2_nameOf_53 : decode cX2_nameOf 53 = .ok (.areturn, 1) := by decide +kernel
theorem dX2_takeWord_0 : decode cX2_takeWord 0 = .ok (.aload_n 0, 1) := by decide +kernel
theorem dX2_takeWord_1 : decode cX2_takeWord 1 = .ok (.aload_n 1, 1) := by decide +kernel
theorem dX2_takeWord_2 : decode cX2_takeWord 2 = .ok (.invokevirtual 50, 3) := by decide +kernel
theorem dX2_takeWord_5 : decode cX2_takeWord 5 = .ok (.ifCond .ne 5, 3) := by decide +kernel
theorem dX2_takeWord_8 : decode cX2_takeWord 8 = .ok (.iconst 0, 1) := by decide +kernel
theorem dX2_takeWord_9 : decode cX2_takeWord 9 = .ok (.ireturn, 1) := by decide +kernel
theorem dX2_takeWord_10 : decode cX2_takeWord 10 = .ok (.aload_n 0, 1) := by decide +kernel
theorem dX2_takeWord_11 : decode cX2_takeWord 11 = .ok (.invokevirtual 22, 3) := by decide +kernel
theorem dX2_takeWord_14 : decode cX2_takeWord 14 = .ok (.iconst 1, 1) := by decide +kernel
theorem dX2_takeWord_15 : decode cX2_takeWord 15 = .ok (.ireturn, 1) := by decide +kernel
theorem dX2_takeNumber_0 : decode cX2_takeNumber 0 = .ok (.aload_n 0, 1) := by decide +kernel
theorem dX2_takeNumber_1 : decode cX2_takeNumber 1 = .ok (.getfield 32, 3) := by decide +kernel
theorem dX2_takeNumber_4 : decode cX2_takeNumber 4 = .ok (.iconst 2, 1) := by decide +kernel
theorem dX2_takeNumber_5 : decode cX2_takeNumber 5 = .ok (.if_icmp .ne 19, 3) := by decide +kernel
theorem dX2_takeNumber_8 : decode cX2_takeNumber 8 = .ok (.aload_n 0, 1) := by decide +kernel
theorem dX2_takeNumber_9 : decode cX2_takeNumber 9 = .ok (.getfield 97, 3) := by decide +kernel
theorem dX2_takeNumber_12 : decode cX2_takeNumber 12 = .ok (.iload_n 1, 1) := by decide +kernel
theorem dX2_takeNumber_13 : decode cX2_takeNumber 13 = .ok (.if_icmp .lt 11, 3) := by decide +kernel
theorem dX2_takeNumber_16 : decode cX2_takeNumber 16 = .ok (.aload_n 0, 1) := by decide +kernel
theorem dX2_takeNumber_17 : decode cX2_takeNumber 17 = .ok (.getfield 97, 3) := by decide +kernel
theorem dX2_takeNumber_20 : decode cX2_takeNumber 20 = .ok (.iload_n 2, 1) := by decide +kernel
theorem dX2_takeNumber_21 : decode cX2_takeNumber 21 = .ok (.if_icmp .le 5, 3) := by decide +kernel
theorem dX2_takeNumber_24 : decode cX2_takeNumber 24 = .ok (.iconst (-1), 1) := by decide +kernel
theorem dX2_takeNumber_25 : decode cX2_takeNumber 25 = .ok (.ireturn, 1) := by decide +kernel
theorem dX2_takeNumber_26 : decode cX2_takeNumber 26 = .ok (.aload_n 0, 1) := by decide +kernel
theorem dX2_takeNumber_27 : decode cX2_takeNumber 27 = .ok (.getfield 97, 3) := by decide +kernel
theorem dX2_takeNumber_30 : decode cX2_takeNumber 30 = .ok (.istore_n 3, 1) := by decide +kernel
theorem dX2_takeNumber_31 : decode cX2_takeNumber 31 = .ok (.aload_n 0, 1) := by decide +kernel
theorem dX2_takeNumber_32 : decode cX2_takeNumber 32 = .ok (.invokevirtual 22, 3) := by decide +kernel
theorem dX2_takeNumber_35 : decode cX2_takeNumber 35 = .ok (.iload_n 3, 1) := by decide +kernel
theorem dX2_takeNumber_36 : decode cX2_takeNumber 36 = .ok (.ireturn, 1) := by decide +kernel
theorem dX2_isWord_0 : decode cX2_isWord 0 = .ok (.aload_n 0, 1) := by decide +kernel
theorem dX2_isWord_1 : decode cX2_isWord 1 = .ok (.getfield 32, 3) := by decide +kernel
theorem dX2_isWord_4 : decode cX2_isWord 4 = .ok (.iconst 1, 1) := by decide +kernel
theorem dX2_isWord_5 : decode cX2_isWord 5 = .ok (.if_icmp .ne 19, 3) := by decide +kernel
theorem dX2_isWord_8 : decode cX2_isWord 8 = .ok (.aload_n 0, 1) := by decide +kernel
theorem dX2_isWord_9 : decode cX2_isWord 9 = .ok (.getfield 19, 3) := by decide +kernel
theorem dX2_isWord_12 : decode cX2_isWord 12 = .ok (.aload_n 0, 1) := by decide +kernel
theorem dX2_isWord_13 : decode cX2_isWord 13 = .ok (.getfield 29, 3) := by decide +kernel
theorem dX2_isWord_16 : decode cX2_isWord 16 = .ok (.isub, 1) := by decide +kernel
theorem dX2_isWord_17 : decode cX2_isWord 17 = .ok (.aload_n 1, 1) := by decide +kernel
theorem dX2_isWord_18 : decode cX2_isWord 18 = .ok (.invokevirtual 121, 3) := by decide +kernel
theorem dX2_isWord_21 : decode cX2_isWord 21 = .ok (.if_icmp .eq 5, 3) := by decide +kernel
theorem dX2_isWord_24 : decode cX2_isWord 24 = .ok (.iconst 0, 1) := by decide +kernel
theorem dX2_isWord_25 : decode cX2_isWord 25 = .ok (.ireturn, 1) := by decide +kernel
theorem dX2_isWord_26 : decode cX2_isWord 26 = .ok (.iconst 0, 1) := by decide +kernel
theorem dX2_isWord_27 : decode cX2_isWord 27 = .ok (.istore_n 2, 1) := by decide +kernel
theorem dX2_isWord_28 : decode cX2_isWord 28 = .ok (.iload_n 2, 1) := by decide +kernel
theorem dX2_isWord_29 : decode cX2_isWord 29 = .ok (.aload_n 1, 1) := by decide +kernel
theorem dX2_isWord_30 : decode cX2_isWord 30 = .ok (.invokevirtual 121, 3) := by decide +kernel
theorem dX2_isWord_33 : decode cX2_isWord 33 = .ok (.if_icmp .ge 29, 3) := by decide +kernel
theorem dX2_isWord_36 : decode cX2_isWord 36 = .ok (.aload_n 0, 1) := by decide +kernel
theorem dX2_isWord_37 : decode cX2_isWord 37 = .ok (.aload_n 0, 1) := by decide +kernel
theorem dX2_isWord_38 : decode cX2_isWord 38 = .ok (.getfield 29, 3) := by decide +kernel
theorem dX2_isWord_41 : decode cX2_isWord 41 = .ok (.iload_n 2, 1) := by decide +kernel
theorem dX2_isWord_42 : decode cX2_isWord 42 = .ok (.iadd, 1) := by decide +kernel
theorem dX2_isWord_43 : decode cX2_isWord 43 = .ok (.invokevirtual 125, 3) := by decide +kernel
theorem dX2_isWord_46 : decode cX2_isWord 46 = .ok (.aload_n 1, 1) := by decide +kernel
theorem dX2_isWord_47 : decode cX2_isWord 47 = .ok (.iload_n 2, 1) := by decide +kernel
theorem dX2_isWord_48 : decode cX2_isWord 48 = .ok (.invokevirtual 129, 3) := by decide +kernel
theorem dX2_isWord_51 : decode cX2_isWord 51 = .ok (.if_icmp .eq 5, 3) := by decide +kernel
theorem dX2_isWord_54 : decode cX2_isWord 54 = .ok (.iconst 0, 1) := by decide +kernel
theorem dX2_isWord_55 : decode cX2_isWord 55 = .ok (.ireturn, 1) := by decide +kernel
theorem dX2_isWord_56 : decode cX2_isWord 56 = .ok (.iinc 2 1, 3) := by decide +kernel
theorem dX2_isWord_59 : decode cX2_isWord 59 = .ok (.goto (-31), 3) := by decide +kernel
theorem dX2_isWord_62 : decode cX2_isWord 62 = .ok (.iconst 1, 1) := by decide +kernel
theorem dX2_isWord_63 : decode cX2_isWord 63 = .ok (.ireturn, 1) := by decide +kernel
theorem dX2_goAhead_0 : decode cX2_goAhead 0 = .ok (.aload_n 0, 1) := by decide +kernel
theorem dX2_goAhead_1 : decode cX2_goAhead 1 = .ok (.aload_n 0, 1) := by decide +kernel
theorem dX2_goAhead_2 : decode cX2_goAhead 2 = .ok (.getfield 19, 3) := by decide +kernel
theorem dX2_goAhead_5 : decode cX2_goAhead 5 = .ok (.putfield 29, 3) := by decide +kernel
theorem dX2_goAhead_8 : decode cX2_goAhead 8 = .ok (.aload_n 0, 1) := by decide +kernel
theorem dX2_goAhead_9 : decode cX2_goAhead 9 = .ok (.getfield 29, 3) := by decide +kernel
theorem dX2_goAhead_12 : decode cX2_goAhead 12 = .ok (.aload_n 0, 1) := by decide +kernel
theorem dX2_goAhead_13 : decode cX2_goAhead 13 = .ok (.getfield 15, 3) := by decide +kernel
theorem dX2_goAhead_16 : decode cX2_goAhead 16 = .ok (.if_icmp .ge 29, 3) := by decide +kernel
theorem dX2_goAhead_19 : decode cX2_goAhead 19 = .ok (.aload_n 0, 1) := by decide +kernel
theorem dX2_goAhead_20 : decode cX2_goAhead 20 = .ok (.aload_n 0, 1) := by decide +kernel
theorem dX2_goAhead_21 : decode cX2_goAhead 21 = .ok (.getfield 29, 3) := by decide +kernel
theorem dX2_goAhead_24 : decode cX2_goAhead 24 = .ok (.invokevirtual 125, 3) := by decide +kernel
theorem dX2_goAhead_27 : decode cX2_goAhead 27 = .ok (.bipush 32, 2) := by decide +kernel
theorem dX2_goAhead_29 : decode cX2_goAhead 29 = .ok (.if_icmp .ne 16, 3) := by decide +kernel
theorem dX2_goAhead_32 : decode cX2_goAhead 32 = .ok (.aload_n 0, 1) := by decide +kernel
theorem dX2_goAhead_33 : decode cX2_goAhead 33 = .ok (.dup, 1) := by decide +kernel
theorem dX2_goAhead_34 : decode cX2_goAhead 34 = .ok (.getfield 29, 3) := by decide +kernel
theorem dX2_goAhead_37 : decode cX2_goAhead 37 = .ok (.iconst 1, 1) := by decide +kernel
theorem dX2_goAhead_38 : decode cX2_goAhead 38 = .ok (.iadd, 1) := by decide +kernel
theorem dX2_goAhead_39 : decode cX2_goAhead 39 = .ok (.putfield 29, 3) := by decide +kernel
theorem dX2_goAhead_42 : decode cX2_goAhead 42 = .ok (.goto (-34), 3) := by decide +kernel
theorem dX2_goAhead_45 : decode cX2_goAhead 45 = .ok (.aload_n 0, 1) := by decide +kernel
theorem dX2_goAhead_46 : decode cX2_goAhead 46 = .ok (.aload_n 0, 1) := by decide +kernel
theorem dX2_goAhead_47 : decode cX2_goAhead 47 = .ok (.getfield 29, 3) := by decide +kernel
theorem dX2_goAhead_50 : decode cX2_goAhead 50 = .ok (.iconst 1, 1) := by decide +kernel
theorem dX2_goAhead_51 : decode cX2_goAhead 51 = .ok (.iadd, 1) := by decide +kernel
theorem dX2_goAhead_52 : decode cX2_goAhead 52 = .ok (.putfield 19, 3) := by decide +kernel
theorem dX2_goAhead_55 : decode cX2_goAhead 55 = .ok (.aload_n 0, 1) := by decide +kernel
theorem dX2_goAhead_56 : decode cX2_goAhead 56 = .ok (.iconst 0, 1) := by decide +kernel
theorem dX2_goAhead_57 : decode cX2_goAhead 57 = .ok (.putfield 97, 3) := by decide +kernel
theorem dX2_goAhead_60 : decode cX2_goAhead 60 = .ok (.aload_n 0, 1) := by decide +kernel
theorem dX2_goAhead_61 : decode cX2_goAhead 61 = .ok (.aload_n 0, 1) := by decide +kernel
theorem dX2_goAhead_62 : decode cX2_goAhead 62 = .ok (.getfield 29, 3) := by decide +kernel
theorem dX2_goAhead_65 : decode cX2_goAhead 65 = .ok (.invokevirtual 125, 3) := by decide +kernel
theorem dX2_goAhead_68 : decode cX2_goAhead 68 = .ok (.istore_n 1, 1) := by decide +kernel
theorem dX2_goAhead_69 : decode cX2_goAhead 69 = .ok (.aload_n 0, 1) := by decide +kernel
theorem dX2_goAhead_70 : decode cX2_goAhead 70 = .ok (.getfield 29, 3) := by decide +kernel
theorem dX2_goAhead_73 : decode cX2_goAhead 73 = .ok (.aload_n 0, 1) := by decide +kernel
theorem dX2_goAhead_74 : decode cX2_goAhead 74 = .ok (.getfield 15, 3) := by decide +kernel
theorem dX2_goAhead_77 : decode cX2_goAhead 77 = .ok (.if_icmp .lt 19, 3) := by decide +kernel
theorem dX2_goAhead_80 : decode cX2_goAhead 80 = .ok (.aload_n 0, 1) := by decide +kernel
theorem dX2_goAhead_81 : decode cX2_goAhead 81 = .ok (.iconst 0, 1) := by decide +kernel
theorem dX2_goAhead_82 : decode cX2_goAhead 82 = .ok (.putfield 32, 3) := by decide +kernel
theorem dX2_goAhead_85 : decode cX2_goAhead 85 = .ok (.aload_n 0, 1) := by decide +kernel
theorem dX2_goAhead_86 : decode cX2_goAhead 86 = .ok (.aload_n 0, 1) := by decide +kernel
theorem dX2_goAhead_87 : decode cX2_goAhead 87 = .ok (.getfield 29, 3) := by decide +kernel
theorem dX2_goAhead_90 : decode cX2_goAhead 90 = .ok (.putfield 19, 3) := by decide +kernel
theorem dX2_goAhead_93 : decode cX2_goAhead 93 = .ok (.goto 56, 3) := by decide +kernel
theorem dX2_goAhead_96 : decode cX2_goAhead 96 = .ok (.iload_n 1, 1) := by decide +kernel
theorem dX2_goAhead_97 : decode cX2_goAhead 97 = .ok (.invokestatic 133, 3) := by decide +kernel
theorem dX2_goAhead_100 : decode cX2_goAhead 100 = .ok (.ifCond .eq 15, 3) := by decide +kernel
theorem dX2_goAhead_103 : decode cX2_goAhead 103 = .ok (.aload_n 0, 1) := by decide +kernel
theorem dX2_goAhead_104 : decode cX2_goAhead 104 = .ok (.iconst 1, 1) := by decide +kernel
theorem dX2_goAhead_105 : decode cX2_goAhead 105 = .ok (.putfield 32, 3) := by decide +kernel
theorem dX2_goAhead_108 : decode cX2_goAhead 108 = .ok (.aload_n 0, 1) := by decide +kernel
theorem dX2_goAhead_109 : decode cX2_goAhead 109 = .ok (.invokevirtual 137, 3) := by decide +kernel
theorem dX2_goAhead_112 : decode cX2_goAhead 112 = .ok (.goto 37, 3) := by decide +kernel
theorem dX2_goAhead_115 : decode cX2_goAhead 115 = .ok (.iload_n 1, 1) := by decide +kernel
theorem dX2_goAhead_116 : decode cX2_goAhead 116 = .ok (.invokestatic 140, 3) := by decide +kernel
theorem dX2_goAhead_119 : decode cX2_goAhead 119 = .ok (.ifCond .eq 15, 3) := by decide +kernel
theorem dX2_goAhead_122 : decode cX2_goAhead 122 = .ok (.aload_n 0, 1) := by decide +kernel
theorem dX2_goAhead_123 : decode cX2_goAhead 123 = .ok (.iconst 2, 1) := by decide +kernel
theorem dX2_goAhead_124 : decode cX2_goAhead 124 = .ok (.putfield 32, 3) := by decide +kernel
theorem dX2_goAhead_127 : decode cX2_goAhead 127 = .ok (.aload_n 0, 1) := by decide +kernel
theorem dX2_goAhead_128 : decode cX2_goAhead 128 = .ok (.invokevirtual 143, 3) := by decide +kernel
theorem dX2_goAhead_131 : decode cX2_goAhead 131 = .ok (.goto 18, 3) := by decide +kernel
theorem dX2_goAhead_134 : decode cX2_goAhead 134 = .ok (.aload_n 0, 1) := by decide +kernel
theorem dX2_goAhead_135 : decode cX2_goAhead 135 = .ok (.iload_n 1, 1) := by decide +kernel
theorem dX2_goAhead_136 : decode cX2_goAhead 136 = .ok (.bipush 59, 2) := by decide +kernel
theorem dX2_goAhead_138 : decode cX2_goAhead 138 = .ok (.if_icmp .ne 7, 3) := by decide +kernel
theorem dX2_goAhead_141 : decode cX2_goAhead 141 = .ok (.iconst 3, 1) := by decide +kernel
theorem dX2_goAhead_142 : decode cX2_goAhead 142 = .ok (.goto 4, 3) := by decide +kernel
theorem dX2_goAhead_145 : decode cX2_goAhead 145 = .ok (.iconst 4, 1) := by decide +kernel
theorem dX2_goAhead_146 : decode cX2_goAhead 146 = .ok (.putfield 32, 3) := by decide +kernel
theorem dX2_goAhead_149 : decode cX2_goAhead 149 = .ok (.return_, 1) := by decide +kernel
theorem dX2_endWord_0 : decode cX2_endWord 0 = .ok (.aload_n 0, 1) := by decide +kernel
theorem dX2_endWord_1 : decode cX2_endWord 1 = .ok (.getfield 19, 3) := by decide +kernel
theorem dX2_endWord_4 : decode cX2_endWord 4 = .ok (.aload_n 0, 1) := by decide +kernel
theorem dX2_endWord_5 : decode cX2_endWord 5 = .ok (.getfield 15, 3) := by decide +kernel
theorem dX2_endWord_8 : decode cX2_endWord 8 = .ok (.if_icmp .ge 30, 3) := by decide +kernel
theorem dX2_endWord_11 : decode cX2_endWord 11 = .ok (.aload_n 0, 1) := by decide +kernel
theorem dX2_endWord_12 : decode cX2_endWord 12 = .ok (.aload_n 0, 1) := by decide +kernel
theorem dX2_endWord_13 : decode cX2_endWord 13 = .ok (.getfield 19, 3) := by decide +kernel
theorem dX2_endWord_16 : decode cX2_endWord 16 = .ok (.invokevirtual 125, 3) := by decide +kernel
theorem dX2_endWord_19 : decode cX2_endWord 19 = .ok (.invokestatic 133, 3) := by decide +kernel
theorem dX2_endWord_22 : decode cX2_endWord 22 = .ok (.ifCond .eq 16, 3) := by decide +kernel
theorem dX2_endWord_25 : decode cX2_endWord 25 = .ok (.aload_n 0, 1) := by decide +kernel
theorem dX2_endWord_26 : decode cX2_endWord 26 = .ok (.dup, 1) := by decide +kernel
theorem dX2_endWord_27 : decode cX2_endWord 27 = .ok (.getfield 19, 3) := by decide +kernel
theorem dX2_endWord_30 : decode cX2_endWord 30 = .ok (.iconst 1, 1) := by decide +kernel
theorem dX2_endWord_31 : decode cX2_endWord 31 = .ok (.iadd, 1) := by decide +kernel
theorem dX2_endWord_32 : decode cX2_endWord 32 = .ok (.putfield 19, 3) := by decide +kernel
theorem dX2_endWord_35 : decode cX2_endWord 35 = .ok (.goto (-35), 3) := by decide +kernel
theorem dX2_endWord_38 : decode cX2_endWord 38 = .ok (.return_, 1) := by decide +kernel
theorem dX2_endNumber_0 : decode cX2_endNumber 0 = .ok (.aload_n 0, 1) := by decide +kernel
theorem dX2_endNumber_1 : decode cX2_endNumber 1 = .ok (.aload_n 0, 1) := by decide +kernel
theorem dX2_endNumber_2 : decode cX2_endNumber 2 = .ok (.aload_n 0, 1) := by decide +kernel
theorem dX2_endNumber_3 : decode cX2_endNumber 3 = .ok (.getfield 29, 3) := by decide +kernel
theorem dX2_endNumber_6 : decode cX2_endNumber 6 = .ok (.invokevirtual 125, 3) := by decide +kernel
theorem dX2_endNumber_9 : decode cX2_endNumber 9 = .ok (.bipush 48, 2) := by decide +kernel
theorem dX2_endNumber_11 : decode cX2_endNumber 11 = .ok (.isub, 1) := by decide +kernel
theorem dX2_endNumber_12 : decode cX2_endNumber 12 = .ok (.putfield 97, 3) := by decide +kernel
theorem dX2_endNumber_15 : decode cX2_endNumber 15 = .ok (.aload_n 0, 1) := by decide +kernel
theorem dX2_endNumber_16 : decode cX2_endNumber 16 = .ok (.getfield 19, 3) := by decide +kernel
theorem dX2_endNumber_19 : decode cX2_endNumber 19 = .ok (.aload_n 0, 1) := by decide +kernel
theorem dX2_endNumber_20 : decode cX2_endNumber 20 = .ok (.getfield 15, 3) := by decide +kernel
theorem dX2_endNumber_23 : decode cX2_endNumber 23 = .ok (.if_icmp .ge 59, 3) := by decide +kernel
theorem dX2_endNumber_26 : decode cX2_endNumber 26 = .ok (.aload_n 0, 1) := by decide +kernel
theorem dX2_endNumber_27 : decode cX2_endNumber 27 = .ok (.aload_n 0, 1) := by decide +kernel
theorem dX2_endNumber_28 : decode cX2_endNumber 28 = .ok (.getfield 19, 3) := by decide +kernel
theorem dX2_endNumber_31 : decode cX2_endNumber 31 = .ok (.invokevirtual 125, 3) := by decide +kernel
theorem dX2_endNumber_34 : decode cX2_endNumber 34 = .ok (.invokestatic 140, 3) := by decide +kernel
theorem dX2_endNumber_37 : decode cX2_endNumber 37 = .ok (.ifCond .eq 45, 3) := by decide +kernel
theorem dX2_endNumber_40 : decode cX2_endNumber 40 = .ok (.aload_n 0, 1) := by decide +kernel
theorem dX2_endNumber_41 : decode cX2_endNumber 41 = .ok (.sipush 10000, 3) := by decide +kernel
theorem dX2_endNumber_44 : decode cX2_endNumber 44 = .ok (.bipush 10, 2) := by decide +kernel
theorem dX2_endNumber_46 : decode cX2_endNumber 46 = .ok (.aload_n 0, 1) := by decide +kernel
theorem dX2_endNumber_47 : decode cX2_endNumber 47 = .ok (.getfield 97, 3) := by decide +kernel
theorem dX2_endNumber_50 : decode cX2_endNumber 50 = .ok (.imul, 1) := by decide +kernel
theorem dX2_endNumber_51 : decode cX2_endNumber 51 = .ok (.aload_n 0, 1) := by decide +kernel
theorem dX2_endNumber_52 : decode cX2_endNumber 52 = .ok (.aload_n 0, 1) := by decide +kernel
theorem dX2_endNumber_53 : decode cX2_endNumber 53 = .ok (.getfield 19, 3) := by decide +kernel
theorem dX2_endNumber_56 : decode cX2_endNumber 56 = .ok (.invokevirtual 125, 3) := by decide +kernel
theorem dX2_endNumber_59 : decode cX2_endNumber 59 = .ok (.iadd, 1) := by decide +kernel
theorem dX2_endNumber_60 : decode cX2_endNumber 60 = .ok (.bipush 48, 2) := by decide +kernel
theorem dX2_endNumber_62 : decode cX2_endNumber 62 = .ok (.isub, 1) := by decide +kernel
theorem dX2_endNumber_63 : decode cX2_endNumber 63 = .ok (.invokestatic 146, 3) := by decide +kernel
theorem dX2_endNumber_66 : decode cX2_endNumber 66 = .ok (.putfield 97, 3) := by decide +kernel
theorem dX2_endNumber_69 : decode cX2_endNumber 69 = .ok (.aload_n 0, 1) := by decide +kernel
theorem dX2_endNumber_70 : decode cX2_endNumber 70 = .ok (.dup, 1) := by decide +kernel
theorem dX2_endNumber_71 : decode cX2_endNumber 71 = .ok (.getfield 19, 3) := by decide +kernel
theorem dX2_endNumber_74 : decode cX2_endNumber 74 = .ok (.iconst 1, 1) := by decide +kernel
theorem dX2_endNumber_75 : decode cX2_endNumber 75 = .ok (.iadd, 1) := by decide +kernel
theorem dX2_endNumber_76 : decode cX2_endNumber 76 = .ok (.putfield 19, 3) := by decide +kernel
theorem dX2_endNumber_79 : decode cX2_endNumber 79 = .ok (.goto (-64), 3) := by decide +kernel
theorem dX2_endNumber_82 : decode cX2_endNumber 82 = .ok (.return_, 1) := by decide +kernel
theorem dX2_isLetter_0 : decode cX2_isLetter 0 = .ok (.iload_n 0, 1) := by decide +kernel
theorem dX2_isLetter_1 : decode cX2_isLetter 1 = .ok (.bipush 97, 2) := by decide +kernel
theorem dX2_isLetter_3 : decode cX2_isLetter 3 = .ok (.if_icmp .lt 13, 3) := by decide +kernel
theorem dX2_isLetter_6 : decode cX2_isLetter 6 = .ok (.iload_n 0, 1) := by decide +kernel
theorem dX2_isLetter_7 : decode cX2_isLetter 7 = .ok (.bipush 122, 2) := by decide +kernel
theorem dX2_isLetter_9 : decode cX2_isLetter 9 = .ok (.if_icmp .gt 7, 3) := by decide +kernel
theorem dX2_isLetter_12 : decode cX2_isLetter 12 = .ok (.iconst 1, 1) := by decide +kernel
theorem dX2_isLetter_13 : decode cX2_isLetter 13 = .ok (.goto 4, 3) := by decide +kernel
theorem dX2_isLetter_16 : decode cX2_isLetter 16 = .ok (.iconst 0, 1) := by decide +kernel
theorem dX2_isLetter_17 : decode cX2_isLetter 17 = .ok (.ireturn, 1) := by decide +kernel
theorem dX2_isDigit_0 : decode cX2_isDigit 0 = .ok (.iload_n 0, 1) := by decide +kernel
theorem dX2_isDigit_1 : decode cX2_isDigit 1 = .ok (.bipush 48, 2) := by decide +kernel
theorem dX2_isDigit_3 : decode cX2_isDigit 3 = .ok (.if_icmp .lt 13, 3) := by decide +kernel
theorem dX2_isDigit_6 : decode cX2_isDigit 6 = .ok (.iload_n 0, 1) := by decide +kernel
theorem dX2_isDigit_7 : decode cX2_isDigit 7 = .ok (.bipush 57, 2) := by decide +kernel
theorem dX2_isDigit_9 : decode cX2_isDigit 9 = .ok (.if_icmp .gt 7, 3) := by decide +kernel
theorem dX2_isDigit_12 : decode cX2_isDigit 12 = .ok (.iconst 1, 1) := by decide +kernel
theorem dX2_isDigit_13 : decode cX2_isDigit 13 = .ok (.goto 4, 3) := by decide +kernel
theorem dX2_isDigit_16 : decode cX2_isDigit 16 = .ok (.iconst 0, 1) := by decide +kernel
theorem dX2_isDigit_17 : decode cX2_isDigit 17 = .ok (.ireturn, 1) := by decide +kernel
theorem dX2_byteAt_0 : decode cX2_byteAt 0 = .ok (.iload_n 1, 1) := by decide +kernel
theorem dX2_byteAt_1 : decode cX2_byteAt 1 = .ok (.ifCond .lt 26, 3) := by decide +kernel
theorem dX2_byteAt_4 : decode cX2_byteAt 4 = .ok (.iload_n 1, 1) := by decide +kernel
theorem dX2_byteAt_5 : decode cX2_byteAt 5 = .ok (.aload_n 0, 1) := by decide +kernel
theorem dX2_byteAt_6 : decode cX2_byteAt 6 = .ok (.getfield 15, 3) := by decide +kernel
theorem dX2_byteAt_9 : decode cX2_byteAt 9 = .ok (.if_icmp .ge 18, 3) := by decide +kernel
theorem dX2_byteAt_12 : decode cX2_byteAt 12 = .ok (.iload_n 1, 1) := by decide +kernel
theorem dX2_byteAt_13 : decode cX2_byteAt 13 = .ok (.bipush 120, 2) := by decide +kernel
theorem dX2_byteAt_15 : decode cX2_byteAt 15 = .ok (.if_icmp .ge 12, 3) := by decide +kernel
theorem dX2_byteAt_18 : decode cX2_byteAt 18 = .ok (.aload_n 0, 1) := by decide +kernel
theorem dX2_byteAt_19 : decode cX2_byteAt 19 = .ok (.getfield 9, 3) := by decide +kernel
theorem dX2_byteAt_22 : decode cX2_byteAt 22 = .ok (.iload_n 1, 1) := by decide +kernel
theorem dX2_byteAt_23 : decode cX2_byteAt 23 = .ok (.iaload, 1) := by decide +kernel
theorem dX2_byteAt_24 : decode cX2_byteAt 24 = .ok (.goto 4, 3) := by decide +kernel
theorem dX2_byteAt_27 : decode cX2_byteAt 27 = .ok (.iconst (-1), 1) := by decide +kernel
theorem dX2_byteAt_28 : decode cX2_byteAt 28 = .ok (.ireturn, 1) := by decide +kernel
theorem dJ6_bitCount_0f7a4_0 : decode cJ6_bitCount_0f7a4 0 = .ok (.iload_n 0, 1) := by decide +kernel
theorem dJ6_bitCount_0f7a4_1 : decode cJ6_bitCount_0f7a4 1 = .ok (.iload_n 0, 1) := by decide +kernel
theorem dJ6_bitCount_0f7a4_2 : decode cJ6_bitCount_0f7a4 2 = .ok (.iconst 1, 1) := by decide +kernel
theorem dJ6_bitCount_0f7a4_3 : decode cJ6_bitCount_0f7a4 3 = .ok (.iushr, 1) := by decide +kernel
theorem dJ6_bitCount_0f7a4_4 : decode cJ6_bitCount_0f7a4 4 = .ok (.ldc_w 265, 3) := by decide +kernel
theorem dJ6_bitCount_0f7a4_7 : decode cJ6_bitCount_0f7a4 7 = .ok (.iand, 1) := by decide +kernel
theorem dJ6_bitCount_0f7a4_8 : decode cJ6_bitCount_0f7a4 8 = .ok (.isub, 1) := by decide +kernel
theorem dJ6_bitCount_0f7a4_9 : decode cJ6_bitCount_0f7a4 9 = .ok (.istore_n 0, 1) := by decide +kernel
theorem dJ6_bitCount_0f7a4_10 : decode cJ6_bitCount_0f7a4 10 = .ok (.iload_n 0, 1) := by decide +kernel
theorem dJ6_bitCount_0f7a4_11 : decode cJ6_bitCount_0f7a4 11 = .ok (.ldc_w 266, 3) := by decide +kernel
theorem dJ6_bitCount_0f7a4_14 : decode cJ6_bitCount_0f7a4 14 = .ok (.iand, 1) := by decide +kernel
theorem dJ6_bitCount_0f7a4_15 : decode cJ6_bitCount_0f7a4 15 = .ok (.iload_n 0, 1) := by decide +kernel
theorem dJ6_bitCount_0f7a4_16 : decode cJ6_bitCount_0f7a4 16 = .ok (.iconst 2, 1) := by decide +kernel
theorem dJ6_bitCount_0f7a4_17 : decode cJ6_bitCount_0f7a4 17 = .ok (.iushr, 1) := by decide +kernel
theorem dJ6_bitCount_0f7a4_18 : decode cJ6_bitCount_0f7a4 18 = .ok (.ldc_w 266, 3) := by decide +kernel
theorem dJ6_bitCount_0f7a4_21 : decode cJ6_bitCount_0f7a4 21 = .ok (.iand, 1) := by decide +kernel
theorem dJ6_bitCount_0f7a4_22 : decode cJ6_bitCount_0f7a4 22 = .ok (.iadd, 1) := by decide +kernel
theorem dJ6_bitCount_0f7a4_23 : decode cJ6_bitCount_0f7a4 23 = .ok (.istore_n 0, 1) := by decide +kernel
theorem dJ6_bitCount_0f7a4_24 : decode cJ6_bitCount_0f7a4 24 = .ok (.iload_n 0, 1) := by decide +kernel
theorem dJ6_bitCount_0f7a4_25 : decode cJ6_bitCount_0f7a4 25 = .ok (.iload_n 0, 1) := by decide +kernel
theorem dJ6_bitCount_0f7a4_26 : decode cJ6_bitCount_0f7a4 26 = .ok (.iconst 4, 1) := by decide +kernel
theorem dJ6_bitCount_0f7a4_27 : decode cJ6_bitCount_0f7a4 27 = .ok (.iushr, 1) := by decide +kernel
theorem dJ6_bitCount_0f7a4_28 : decode cJ6_bitCount_0f7a4 28 = .ok (.iadd, 1) := by decide +kernel
theorem dJ6_bitCount_0f7a4_29 : decode cJ6_bitCount_0f7a4 29 = .ok (.ldc_w 267, 3) := by decide +kernel
theorem dJ6_bitCount_0f7a4_32 : decode cJ6_bitCount_0f7a4 32 = .ok (.iand, 1) := by decide +kernel
theorem dJ6_bitCount_0f7a4_33 : decode cJ6_bitCount_0f7a4 33 = .ok (.istore_n 0, 1) := by decide +kernel
theorem dJ6_bitCount_0f7a4_34 : decode cJ6_bitCount_0f7a4 34 = .ok (.iload_n 0, 1) := by decide +kernel
theorem dJ6_bitCount_0f7a4_35 : decode cJ6_bitCount_0f7a4 35 = .ok (.iload_n 0, 1) := by decide +kernel
theorem dJ6_bitCount_0f7a4_36 : decode cJ6_bitCount_0f7a4 36 = .ok (.bipush 8, 2) := by decide +kernel
theorem dJ6_bitCount_0f7a4_38 : decode cJ6_bitCount_0f7a4 38 = .ok (.iushr, 1) := by decide +kernel
theorem dJ6_bitCount_0f7a4_39 : decode cJ6_bitCount_0f7a4 39 = .ok (.iadd, 1) := by decide +kernel
theorem dJ6_bitCount_0f7a4_40 : decode cJ6_bitCount_0f7a4 40 = .ok (.istore_n 0, 1) := by decide +kernel
theorem dJ6_bitCount_0f7a4_41 : decode cJ6_bitCount_0f7a4 41 = .ok (.iload_n 0, 1) := by decide +kernel
theorem dJ6_bitCount_0f7a4_42 : decode cJ6_bitCount_0f7a4 42 = .ok (.iload_n 0, 1) := by decide +kernel
theorem dJ6_bitCount_0f7a4_43 : decode cJ6_bitCount_0f7a4 43 = .ok (.bipush 16, 2) := by decide +kernel
theorem dJ6_bitCount_0f7a4_45 : decode cJ6_bitCount_0f7a4 45 = .ok (.iushr, 1) := by decide +kernel
theorem dJ6_bitCount_0f7a4_46 : decode cJ6_bitCount_0f7a4 46 = .ok (.iadd, 1) := by decide +kernel
theorem dJ6_bitCount_0f7a4_47 : decode cJ6_bitCount_0f7a4 47 = .ok (.istore_n 0, 1) := by decide +kernel
theorem dJ6_bitCount_0f7a4_48 : decode cJ6_bitCount_0f7a4 48 = .ok (.iload_n 0, 1) := by decide +kernel
theorem dJ6_bitCount_0f7a4_49 : decode cJ6_bitCount_0f7a4 49 = .ok (.bipush 63, 2) := by decide +kernel
theorem dJ6_bitCount_0f7a4_51 : decode cJ6_bitCount_0f7a4 51 = .ok (.iand, 1) := by decide +kernel
theorem dJ6_bitCount_0f7a4_52 : decode cJ6_bitCount_0f7a4 52 = .ok (.ireturn, 1) := by decide +kernel
theorem dJ9_max_7cf53_0 : decode cJ9_max_7cf53 0 = .ok (.iload_n 0, 1) := by decide +kernel
theorem dJ9_max_7cf53_1 : decode cJ9_max_7cf53 1 = .ok (.iload_n 1, 1) := by decide +kernel
theorem dJ9_max_7cf53_2 : decode cJ9_max_7cf53 2 = .ok (.if_icmp .lt 7, 3) := by decide +kernel
theorem dJ9_max_7cf53_5 : decode cJ9_max_7cf53 5 = .ok (.iload_n 0, 1) := by decide +kernel
theorem dJ9_max_7cf53_6 : decode cJ9_max_7cf53 6 = .ok (.goto 4, 3) := by decide +kernel
theorem dJ9_max_7cf53_9 : decode cJ9_max_7cf53 9 = .ok (.iload_n 1, 1) := by decide +kernel
theorem dJ9_max_7cf53_10 : decode cJ9_max_7cf53 10 = .ok (.ireturn, 1) := by decide +kernel
theorem dJ9_min_7cf53_0 : decode cJ9_min_7cf53 0 = .ok (.iload_n 0, 1) := by decide +kernel
theorem dJ9_min_7cf53_1 : decode cJ9_min_7cf53 1 = .ok (.iload_n 1, 1) := by decide +kernel
theorem dJ9_min_7cf53_2 : decode cJ9_min_7cf53 2 = .ok (.if_icmp .gt 7, 3) := by decide +kernel
theorem dJ9_min_7cf53_5 : decode cJ9_min_7cf53 5 = .ok (.iload_n 0, 1) := by decide +kernel
theorem dJ9_min_7cf53_6 : decode cJ9_min_7cf53 6 = .ok (.goto 4, 3) := by decide +kernel
theorem dJ9_min_7cf53_9 : decode cJ9_min_7cf53 9 = .ok (.iload_n 1, 1) := by decide +kernel
theorem dJ9_min_7cf53_10 : decode cJ9_min_7cf53 10 = .ok (.ireturn, 1) := by decide +kernel
theorem dJ0_length_8abf5_0 : decode cJ0_length_8abf5 0 = .ok (.aload_n 0, 1) := by decide +kernel
theorem dJ0_length_8abf5_1 : decode cJ0_length_8abf5 1 = .ok (.getfield 9, 3) := by decide +kernel
theorem dJ0_length_8abf5_4 : decode cJ0_length_8abf5 4 = .ok (.arraylength, 1) := by decide +kernel
theorem dJ0_length_8abf5_5 : decode cJ0_length_8abf5 5 = .ok (.aload_n 0, 1) := by decide +kernel
theorem dJ0_length_8abf5_6 : decode cJ0_length_8abf5 6 = .ok (.invokevirtual 335, 3) := by decide +kernel
theorem dJ0_length_8abf5_9 : decode cJ0_length_8abf5 9 = .ok (.ishr, 1) := by decide +kernel
theorem dJ0_length_8abf5_10 : decode cJ0_length_8abf5 10 = .ok (.ireturn, 1) := by decide +kernel
theorem dJ0_charAt_5068e_0 : decode cJ0_charAt_5068e 0 = .ok (.aload_n 0, 1) := by decide +kernel
theorem dJ0_charAt_5068e_1 : decode cJ0_charAt_5068e 1 = .ok (.invokevirtual 492, 3) := by decide +kernel
theorem dJ0_charAt_5068e_4 : decode cJ0_charAt_5068e 4 = .ok (.ifCond .eq 12, 3) := by decide +kernel
theorem dJ0_charAt_5068e_7 : decode cJ0_charAt_5068e 7 = .ok (.aload_n 0, 1) := by decide +kernel
theorem dJ0_charAt_5068e_8 : decode cJ0_charAt_5068e 8 = .ok (.getfield 9, 3) := by decide +kernel
theorem dJ0_charAt_5068e_11 : decode cJ0_charAt_5068e 11 = .ok (.iload_n 1, 1) := by decide +kernel
theorem dJ0_charAt_5068e_12 : decode cJ0_charAt_5068e 12 = .ok (.invokestatic 495, 3) := by decide +kernel
theorem dJ0_charAt_5068e_15 : decode cJ0_charAt_5068e 15 = .ok (.ireturn, 1) := by decide +kernel
theorem dJ0_charAt_5068e_16 : decode cJ0_charAt_5068e 16 = .ok (.aload_n 0, 1) := by decide +kernel
theorem dJ0_charAt_5068e_17 : decode cJ0_charAt_5068e 17 = .ok (.getfield 9, 3) := by decide +kernel
theorem dJ0_charAt_5068e_20 : decode cJ0_charAt_5068e 20 = .ok (.iload_n 1, 1) := by decide +kernel
theorem dJ0_charAt_5068e_21 : decode cJ0_charAt_5068e 21 = .ok (.invokestatic 498, 3) := by decide +kernel
theorem dJ0_charAt_5068e_24 : decode cJ0_charAt_5068e 24 = .ok (.ireturn, 1) := by decide +kernel
theorem dJ0_coder_7d493_0 : decode cJ0_coder_7d493 0 = .ok (.getstatic 38, 3) := by decide +kernel
theorem dJ0_coder_7d493_3 : decode cJ0_coder_7d493 3 = .ok (.ifCond .eq 10, 3) := by decide +kernel
theorem dJ0_coder_7d493_6 : decode cJ0_coder_7d493 6 = .ok (.aload_n 0, 1) := by decide +kernel
theorem dJ0_coder_7d493_7 : decode cJ0_coder_7d493 7 = .ok (.getfield 15, 3) := by decide +kernel
theorem dJ0_coder_7d493_10 : decode cJ0_coder_7d493 10 = .ok (.goto 4, 3) := by decide +kernel
theorem dJ0_coder_7d493_13 : decode cJ0_coder_7d493 13 = .ok (.iconst 1, 1) := by decide +kernel
theorem dJ0_coder_7d493_14 : decode cJ0_coder_7d493 14 = .ok (.ireturn, 1) := by decide +kernel
theorem dJ0_isLatin1_aae02_0 : decode cJ0_isLatin1_aae02 0 = .ok (.getstatic 38, 3) := by decide +kernel
theorem dJ0_isLatin1_aae02_3 : decode cJ0_isLatin1_aae02 3 = .ok (.ifCond .eq 14, 3) := by decide +kernel
theorem dJ0_isLatin1_aae02_6 : decode cJ0_isLatin1_aae02 6 = .ok (.aload_n 0, 1) := by decide +kernel
theorem dJ0_isLatin1_aae02_7 : decode cJ0_isLatin1_aae02 7 = .ok (.getfield 15, 3) := by decide +kernel
theorem dJ0_isLatin1_aae02_10 : decode cJ0_isLatin1_aae02 10 = .ok (.ifCond .ne 7, 3) := by decide +kernel
theorem dJ0_isLatin1_aae02_13 : decode cJ0_isLatin1_aae02 13 = .ok (.iconst 1, 1) := by decide +kernel
theorem dJ0_isLatin1_aae02_14 : decode cJ0_isLatin1_aae02 14 = .ok (.goto 4, 3) := by decide +kernel
theorem dJ0_isLatin1_aae02_17 : decode cJ0_isLatin1_aae02 17 = .ok (.iconst 0, 1) := by decide +kernel
theorem dJ0_isLatin1_aae02_18 : decode cJ0_isLatin1_aae02 18 = .ok (.ireturn, 1) := by decide +kernel
theorem dJ0_checkIndex_df160_0 : decode cJ0_checkIndex_df160 0 = .ok (.iload_n 0, 1) := by decide +kernel
theorem dJ0_checkIndex_df160_1 : decode cJ0_checkIndex_df160 1 = .ok (.iload_n 1, 1) := by decide +kernel
theorem dJ0_checkIndex_df160_2 : decode cJ0_checkIndex_df160 2 = .ok (.getstatic 1053, 3) := by decide +kernel
theorem dJ0_checkIndex_df160_5 : decode cJ0_checkIndex_df160 5 = .ok (.invokestatic 1059, 3) := by decide +kernel
theorem dJ0_checkIndex_df160_8 : decode cJ0_checkIndex_df160 8 = .ok (.pop, 1) := by decide +kernel
theorem dJ0_checkIndex_df160_9 : decode cJ0_checkIndex_df160 9 = .ok (.return_, 1) := by decide +kernel
theorem dJ1_charAt_3b067_0 : decode cJ1_charAt_3b067 0 = .ok (.iload_n 1, 1) := by decide +kernel
theorem dJ1_charAt_3b067_1 : decode cJ1_charAt_3b067 1 = .ok (.aload_n 0, 1) := by decide +kernel
theorem dJ1_charAt_3b067_2 : decode cJ1_charAt_3b067 2 = .ok (.arraylength, 1) := by decide +kernel
theorem dJ1_charAt_3b067_3 : decode cJ1_charAt_3b067 3 = .ok (.invokestatic 9, 3) := by decide +kernel
theorem dJ1_charAt_3b067_6 : decode cJ1_charAt_3b067 6 = .ok (.aload_n 0, 1) := by decide +kernel
theorem dJ1_charAt_3b067_7 : decode cJ1_charAt_3b067 7 = .ok (.iload_n 1, 1) := by decide +kernel
theorem dJ1_charAt_3b067_8 : decode cJ1_charAt_3b067 8 = .ok (.baload, 1) := by decide +kernel
theorem dJ1_charAt_3b067_9 : decode cJ1_charAt_3b067 9 = .ok (.sipush 255, 3) := by decide +kernel
theorem dJ1_charAt_3b067_12 : decode cJ1_charAt_3b067 12 = .ok (.iand, 1) := by decide +kernel
theorem dJ1_charAt_3b067_13 : decode cJ1_charAt_3b067 13 = .ok (.i2c, 1) := by decide +kernel
theorem dJ1_charAt_3b067_14 : decode cJ1_charAt_3b067 14 = .ok (.ireturn, 1) := by decide +kernel
theorem dJ2_getChar_3b067_0 : decode cJ2_getChar_3b067 0 = .ok (.getstatic 44, 3) := by decide +kernel
theorem dJ2_getChar_3b067_3 : decode cJ2_getChar_3b067 3 = .ok (.ifCond .ne 25, 3) := by decide +kernel
theorem dJ2_getChar_3b067_6 : decode cJ2_getChar_3b067 6 = .ok (.iload_n 1, 1) := by decide +kernel
theorem dJ2_getChar_3b067_7 : decode cJ2_getChar_3b067 7 = .ok (.ifCond .lt 11, 3) := by decide +kernel
theorem dJ2_getChar_3b067_10 : decode cJ2_getChar_3b067 10 = .ok (.iload_n 1, 1) := by decide +kernel
theorem dJ2_getChar_3b067_11 : decode cJ2_getChar_3b067 11 = .ok (.aload_n 0, 1) := by decide +kernel
theorem dJ2_getChar_3b067_12 : decode cJ2_getChar_3b067 12 = .ok (.invokestatic 48, 3) := by decide +kernel
theorem dJ2_getChar_3b067_15 : decode cJ2_getChar_3b067 15 = .ok (.if_icmp .lt 13, 3) := by decide +kernel
theorem dJ2_getChar_3b067_18 : decode cJ2_getChar_3b067 18 = .ok (.new 52, 3) := by decide +kernel
theorem dJ2_getChar_3b067_21 : decode cJ2_getChar_3b067 21 = .ok (.dup, 1) := by decide +kernel
theorem dJ2_getChar_3b067_22 : decode cJ2_getChar_3b067 22 = .ok (.ldc 54, 2) := by decide +kernel
theorem dJ2_getChar_3b067_24 : decode cJ2_getChar_3b067 24 = .ok (.invokespecial 56, 3) := by decide +kernel
theorem dJ2_getChar_3b067_27 : decode cJ2_getChar_3b067 27 = .ok (.athrow, 1) := by decide +kernel
theorem dJ2_getChar_3b067_28 : decode cJ2_getChar_3b067 28 = .ok (.iload_n 1, 1) := by decide +kernel
theorem dJ2_getChar_3b067_29 : decode cJ2_getChar_3b067 29 = .ok (.iconst 1, 1) := by decide +kernel
theorem dJ2_getChar_3b067_30 : decode cJ2_getChar_3b067 30 = .ok (.ishl, 1) := by decide +kernel
theorem dJ2_getChar_3b067_31 : decode cJ2_getChar_3b067 31 = .ok (.istore_n 1, 1) := by decide +kernel
theorem dJ2_getChar_3b067_32 : decode cJ2_getChar_3b067 32 = .ok (.aload_n 0, 1) := by decide +kernel
theorem dJ2_getChar_3b067_33 : decode cJ2_getChar_3b067 33 = .ok (.iload_n 1, 1) := by decide +kernel
theorem dJ2_getChar_3b067_34 : decode cJ2_getChar_3b067 34 = .ok (.iinc 1 1, 3) := by decide +kernel
theorem dJ2_getChar_3b067_37 : decode cJ2_getChar_3b067 37 = .ok (.baload, 1) := by decide +kernel
theorem dJ2_getChar_3b067_38 : decode cJ2_getChar_3b067 38 = .ok (.sipush 255, 3) := by decide +kernel
theorem dJ2_getChar_3b067_41 : decode cJ2_getChar_3b067 41 = .ok (.iand, 1) := by decide +kernel
theorem dJ2_getChar_3b067_42 : decode cJ2_getChar_3b067 42 = .ok (.getstatic 59, 3) := by decide +kernel
theorem dJ2_getChar_3b067_45 : decode cJ2_getChar_3b067 45 = .ok (.ishl, 1) := by decide +kernel
theorem dJ2_getChar_3b067_46 : decode cJ2_getChar_3b067 46 = .ok (.aload_n 0, 1) := by decide +kernel
theorem dJ2_getChar_3b067_47 : decode cJ2_getChar_3b067 47 = .ok (.iload_n 1, 1) := by decide +kernel
theorem dJ2_getChar_3b067_48 : decode cJ2_getChar_3b067 48 = .ok (.baload, 1) := by decide +kernel
theorem dJ2_getChar_3b067_49 : decode cJ2_getChar_3b067 49 = .ok (.sipush 255, 3) := by decide +kernel
theorem dJ2_getChar_3b067_52 : decode cJ2_getChar_3b067 52 = .ok (.iand, 1) := by decide +kernel
theorem dJ2_getChar_3b067_53 : decode cJ2_getChar_3b067 53 = .ok (.getstatic 63, 3) := by decide +kernel
theorem dJ2_getChar_3b067_56 : decode cJ2_getChar_3b067 56 = .ok (.ishl, 1) := by decide +kernel
theorem dJ2_getChar_3b067_57 : decode cJ2_getChar_3b067 57 = .ok (.ior, 1) := by decide +kernel
theorem dJ2_getChar_3b067_58 : decode cJ2_getChar_3b067 58 = .ok (.i2c, 1) := by decide +kernel
theorem dJ2_getChar_3b067_59 : decode cJ2_getChar_3b067 59 = .ok (.ireturn, 1) := by decide +kernel
theorem dJ2_length_9d52b_0 : decode cJ2_length_9d52b 0 = .ok (.aload_n 0, 1) := by decide +kernel
theorem dJ2_length_9d52b_1 : decode cJ2_length_9d52b 1 = .ok (.arraylength, 1) := by decide +kernel
theorem dJ2_length_9d52b_2 : decode cJ2_length_9d52b 2 = .ok (.iconst 1, 1) := by decide +kernel
theorem dJ2_length_9d52b_3 : decode cJ2_length_9d52b 3 = .ok (.ishr, 1) := by decide +kernel
theorem dJ2_length_9d52b_4 : decode cJ2_length_9d52b 4 = .ok (.ireturn, 1) := by decide +kernel
theorem dJ2_charAt_3b067_0 : decode cJ2_charAt_3b067 0 = .ok (.iload_n 1, 1) := by decide +kernel
theorem dJ2_charAt_3b067_1 : decode cJ2_charAt_3b067 1 = .ok (.aload_n 0, 1) := by decide +kernel
theorem dJ2_charAt_3b067_2 : decode cJ2_charAt_3b067 2 = .ok (.invokestatic 67, 3) := by decide +kernel
theorem dJ2_charAt_3b067_5 : decode cJ2_charAt_3b067 5 = .ok (.aload_n 0, 1) := by decide +kernel
theorem dJ2_charAt_3b067_6 : decode cJ2_charAt_3b067 6 = .ok (.iload_n 1, 1) := by decide +kernel
theorem dJ2_charAt_3b067_7 : decode cJ2_charAt_3b067 7 = .ok (.invokestatic 71, 3) := by decide +kernel
theorem dJ2_charAt_3b067_10 : decode cJ2_charAt_3b067 10 = .ok (.ireturn, 1) := by decide +kernel
theorem dJ2_checkIndex_2214a_0 : decode cJ2_checkIndex_2214a 0 = .ok (.iload_n 0, 1) := by decide +kernel
theorem dJ2_checkIndex_2214a_1 : decode cJ2_checkIndex_2214a 1 = .ok (.aload_n 1, 1) := by decide +kernel
theorem dJ2_checkIndex_2214a_2 : decode cJ2_checkIndex_2214a 2 = .ok (.invokestatic 48, 3) := by decide +kernel
theorem dJ2_checkIndex_2214a_5 : decode cJ2_checkIndex_2214a 5 = .ok (.invokestatic 414, 3) := by decide +kernel
theorem dJ2_checkIndex_2214a_8 : decode cJ2_checkIndex_2214a 8 = .ok (.return_, 1) := by decide +kernel
theorem dJ3_checkIndex_8e157_0 : decode cJ3_checkIndex_8e157 0 = .ok (.iload_n 0, 1) := by decide +kernel
theorem dJ3_checkIndex_8e157_1 : decode cJ3_checkIndex_8e157 1 = .ok (.ifCond .lt 8, 3) := by decide +kernel
theorem dJ3_checkIndex_8e157_4 : decode cJ3_checkIndex_8e157 4 = .ok (.iload_n 0, 1) := by decide +kernel
theorem dJ3_checkIndex_8e157_5 : decode cJ3_checkIndex_8e157 5 = .ok (.iload_n 1, 1) := by decide +kernel
theorem dJ3_checkIndex_8e157_6 : decode cJ3_checkIndex_8e157 6 = .ok (.if_icmp .lt 10, 3) := by decide +kernel
theorem dJ3_checkIndex_8e157_9 : decode cJ3_checkIndex_8e157 9 = .ok (.aload_n 2, 1) := by decide +kernel
theorem dJ3_checkIndex_8e157_10 : decode cJ3_checkIndex_8e157 10 = .ok (.iload_n 0, 1) := by decide +kernel
theorem dJ3_checkIndex_8e157_11 : decode cJ3_checkIndex_8e157 11 = .ok (.iload_n 1, 1) := by decide +kernel
theorem dJ3_checkIndex_8e157_12 : decode cJ3_checkIndex_8e157 12 = .ok (.invokestatic 95, 3) := by decide +kernel
theorem dJ3_checkIndex_8e157_15 : decode cJ3_checkIndex_8e157 15 = .ok (.athrow, 1) := by decide +kernel
theorem dJ3_checkIndex_8e157_16 : decode cJ3_checkIndex_8e157 16 = .ok (.iload_n 0, 1) := by decide +kernel
theorem dJ3_checkIndex_8e157_17 : decode cJ3_checkIndex_8e157 17 = .ok (.ireturn, 1) := by decide +kernel
end
section
/-! THE LAYER: the kit's judgement W over a heap of numbered cells (AH): references are the cells' numbers, α their addresses -/
abbrev AH : Type := Nat → va_E
def nC : Nat := 80
def cV (α : Nat → Nat) (v : Value) : Value := match v with
  | .ref i => .ref (α i)
  | v => v
def cE (α : Nat → Nat) (cA : Nat → ClassId) (z : va_E) : va_E := match z with
  | .inl (k, n, .inr (.inr (.inr (.inr f)))) => .inl (cA k, n, .inr (.inr (.inr (.inr (fun i => (f i).map α)))))
  | .inl (k, n, .inl f) => .inl (cA k, n, .inl f)
  | .inl (k, n, .inr (.inl f)) => .inl (cA k, n, .inr (.inl f))
  | .inl (k, x) => .inl (cA k, x)
  | .inr (ci, fs) => .inr (ci, fs.map (cV α))
def cW (α : Nat → Nat) (cA : Nat → ClassId) (h : AH) : va_W := (List.range nC).map (fun i => (α i, cE α cA (h i)))
def hset (h : AH) (i : Nat) (z : va_E) : AH := fun j => if j = i then z else h j
def wA (α : Nat → Nat) : Nat → Prop := fun q => ∃ i, i < nC ∧ q = α i
def ainj (α : Nat → Nat) : Prop := ∀ i j, i < nC → j < nC → α i = α j → i = j
abbrev tyC (cA : Nat → ClassId) : List (ClassId × FieldType) := [(cA 0, .int), (cA 1, .long), (cA 2, .boolean), (cA 3, .object "SproutCoins$Sheet")]
theorem cW_at {α : Nat → Nat} {cA : Nat → ClassId} {h : AH} {i : Nat} (hi : i < nC) : (cW α cA h)[i]? = some (α i, cE α cA (h i)) := by
  simp [cW, hi]
theorem cW_len {α : Nat → Nat} {cA : Nat → ClassId} {h : AH} : (cW α cA h).length = nC := by simp [cW]
theorem cW_set {α : Nat → Nat} {cA : Nat → ClassId} {h : AH} {i : Nat} {z : va_E} (hi : i < nC) : (cW α cA h).set i (α i, cE α cA z) = cW α cA (hset h i z) := by
  apply List.ext_getElem?
  intro j
  by_cases hj : j < nC
  · rw [cW_at hj, List.getElem?_set]
    by_cases hij : i = j
    · subst hij
      rw [if_pos rfl, if_pos (by rw [cW_len]; exact hi)]
      simp [hset]
    · rw [if_neg hij, cW_at hj]
      have hji : ¬ j = i := fun e => hij e.symm
      simp [hset, hji]
  · rw [List.getElem?_eq_none (by rw [List.length_set, cW_len]; omega), List.getElem?_eq_none (by rw [cW_len]; omega)]
theorem cW_D {α : Nat → Nat} {cA : Nat → ClassId} {h : AH} (hj : ainj α) : va_D (wA α) (cW α cA h) := by
  have key : ∀ (k : Nat) (q : Nat × va_E), (cW α cA h)[k]? = some q → k < nC ∧ q.1 = α k := by
    intro k q hk
    have hl : k < nC := by
      have := (List.getElem?_eq_some_iff.mp hk).1
      rwa [cW_len] at this
    rw [cW_at hl] at hk
    cases hk
    exact ⟨hl, rfl⟩
  refine ⟨fun i j p q hp hq he => ?_, fun k q hk => ?_⟩
  · obtain ⟨h1, e1⟩ := key i p hp
    obtain ⟨h2, e2⟩ := key j q hq
    exact hj i j h1 h2 (by rw [← e1, ← e2]; exact he)
  · obtain ⟨h1, e1⟩ := key k q hk
    exact ⟨k, h1, e1⟩
def tW : List Cond := lw_tbl.filter goodWord
/-! the strings of Tape -/
def nStr : Nat := 15
def strTx : List String := ["blue", "red", "seed", "boiled", "sky", "coin", "of", "size", "rotten", "planted", "soil", "price", "loan", "to", "in"]
def strIx : List Nat := [109, 111, 113, 115, 117, 119, 70, 79, 81, 83, 48, 57, 62, 95, 100]
def strLen : List Nat := [4, 3, 4, 6, 3, 4, 2, 4, 6, 7, 4, 5, 4, 2, 2]
def strByt : List (List Int32) := [[98, 108, 117, 101], [114, 101, 100], [115, 101, 101, 100], [98, 111, 105, 108, 101, 100], [115, 107, 121], [99, 111, 105, 110], [111, 102], [115, 105, 122, 101], [114, 111, 116, 116, 101, 110], [112, 108, 97, 110, 116, 101, 100], [115, 111, 105, 108], [112, 114, 105, 99, 101], [108, 111, 97, 110], [116, 111], [105, 110]]
def ST (α : Nat → Nat) (U : State) : Prop := (∃ adV : Nat → Nat, vk_S nStr strLen strByt (fun j => α (1000 + j)) adV (wA α) U U.heap) ∧ ∀ j, j < nStr → vk_R RX2 (strIx.getD j 0) (strTx.getD j "") (α (1000 + j)) U
def rmD (d : Nat) : Room := { frames := d, cells := 0, slots := 0, locals := 64 * d }
def Cx (own : String) (cc : ByteArray) (nL : Nat) (ret : Option FieldType) (p : Program) (s : State) (m : MethodId) (args : Array Value) (meth : Method) (c : Code) (α : Nat → Nat) (cA : Nat → ClassId) (D : va_G) : Prop :=
  p.tables.exec = Jvm.exec ∧ c.code = cc ∧ c.maxLocals = nL ∧ meth.sig.returnType = ret ∧ s.vm.findClass own = some m.cls ∧ (∀ w ∈ tW, w.before args s = true) ∧ meth.locks = false ∧ va_K D vwCl (tyC cA) s ∧ ainj α ∧ ST α s
def LO (α : Nat → Nat) (ls : Array Slot) (nL : Nat) (lo : List (Option Value)) : Prop := ls.size = nL ∧ lv_wf ls ∧ ∀ (i : Nat) (v : Value), lo[i]? = some (some v) → ls[i]? = some (.val (cV α v))
def Qx (α : Nat → Nat) (cA : Nat → ClassId) (D : va_G) (Q : Option Value → AH → Prop) : Array Value → State → Outcome → State → Prop := fun _ st o t =>
  (∃ (v : Option Value) (h' : AH), o = .returned (v.map (cV α)) ∧ Q v h' ∧ va_P D vwCl (cW α cA h') t.heap ∧ va_K D vwCl (tyC cA) t) ∧ va_F (wA α) st t
def Go (d : Nat) (own : String) (cc : ByteArray) (nL : Nat) (ret : Option FieldType) (pc : Nat) (lo : List (Option Value)) (st : List Value) (h : AH) (Q : Option Value → AH → Prop) : Prop :=
  ∀ (p : Program) (l : Launch) (e : Env) (s : State) (m : MethodId) (args : Array Value) (below : List Frame) (meth : Method) (c : Code) (α : Nat → Nat) (cA : Nat → ClassId) (D : va_G) (H : Heap) (locs : List Loc) (ls : Array Slot),
    Cx own cc nL ret p s m args meth c α cA D → va_P D vwCl (cW α cA h) H → va_S (wA α) s.heap H locs → LO α ls nL lo →
    W p l e (rmD d) s m args below meth c H locs 0 0 (MQ below (Qx α cA D Q) args s 0 0 (wA α)) (F0 m pc ls (st.map (cV α)))
/-- a method's contract: from the world h with these arguments it returns, and Q holds of its answer and the world then -/
def Cn (d : Nat) (y : MethodName) (cc : ByteArray) (nL : Nat) (ret : Option FieldType) (av : List Value) (h : AH) (Q : Option Value → AH → Prop) : Prop :=
  ∀ (l : Launch) (α : Nat → Nat) (cA : Nat → ClassId) (D : va_G), ainj α →
    Met l y (Cond.code y cc nL ret :: tW) (rmD d) (fun v U => v = (av.map (cV α)).toArray ∧ va_P D vwCl (cW α cA h) U.heap ∧ va_K D vwCl (tyC cA) U ∧ ST α U) (Qx α cA D Q) 0 0 (wA α)
/-- the locals at a method's entry -/
def loA : List Value → List (Option Value)
  | [] => []
  | v :: vs => match v with
    | .long x => some (.long x) :: none :: loA vs
    | .double x => some (.double x) :: none :: loA vs
    | w => some w :: loA vs
theorem cV_cat (α : Nat → Nat) (v : Value) : (cV α v).category = v.category := by cases v <;> rfl
theorem loA_args (α : Nat → Nat) : ∀ (vs : List Value) (b i : Nat) (v : Value), (loA vs)[i]? = some (some v) → (b + i, cV α v) ∈ lv_args b (vs.map (cV α)) := by
  intro vs
  induction vs with
  | nil => intro b i v h; simp [loA] at h
  | cons w vs ih =>
    intro b i v h
    have two : ∀ (h2 : w.category = 2), (some w :: none :: loA vs)[i]? = some (some v) → (b + i, cV α v) ∈ lv_args b ((w :: vs).map (cV α)) := by
      intro h2 h
      match i, h with
      | 0, h =>
        have e : w = v := by simpa using h
        subst e
        simp [lv_args]
      | 1, h => simp at h
      | j + 2, h =>
        have h' : (loA vs)[j]? = some (some v) := by simpa using h
        have := ih (b + 2) j v h'
        simp only [List.map_cons, lv_args, cV_cat, h2, if_true]
        refine List.mem_cons_of_mem _ ?_
        rwa [show b + 2 + j = b + (j + 2) by omega] at this
    have one : ∀ (h2 : w.category = 1), (some w :: loA vs)[i]? = some (some v) → (b + i, cV α v) ∈ lv_args b ((w :: vs).map (cV α)) := by
      intro h2 h
      match i, h with
      | 0, h =>
        have e : w = v := by simpa using h
        subst e
        simp [lv_args]
      | j + 1, h =>
        have h' : (loA vs)[j]? = some (some v) := by simpa using h
        have := ih (b + 1) j v h'
        simp only [List.map_cons, lv_args, cV_cat, h2]
        refine List.mem_cons_of_mem _ ?_
        rw [if_neg (by decide)]
        rwa [show b + 1 + j = b + (j + 1) by omega] at this
    cases w with
    | long x => exact two rfl h
    | double x => exact two rfl h
    | int x => exact one rfl h
    | float x => exact one rfl h
    | null => exact one rfl h
    | ref x => exact one rfl h
    | retAddr x => exact one rfl h
def slN : List Value → Nat
  | [] => 0
  | v :: vs => v.category + slN vs
theorem slN_len : ∀ (vs : List Value), (lg_sl vs).length = slN vs := by
  intro vs
  induction vs with
  | nil => rfl
  | cons v vs ih =>
    have e : (lg_sl (v :: vs)).length = v.category + (lg_sl vs).length := by
      simp only [lg_sl, List.flatMap_cons, List.length_append]
      cases v <;> rfl
    rw [e, ih]
    rfl
theorem slN_map (α : Nat → Nat) : ∀ (vs : List Value), slN (vs.map (cV α)) = slN vs := by
  intro vs
  induction vs with
  | nil => rfl
  | cons v vs ih => simp only [List.map_cons, slN, cV_cat, ih]
theorem LO.forget {α : Nat → Nat} {ls : Array Slot} {nL : Nat} {lo lo' : List (Option Value)} (h : LO α ls nL lo) (hk : ∀ (i : Nat) (v : Value), lo'[i]? = some (some v) → lo[i]? = some (some v)) : LO α ls nL lo' := ⟨h.1, h.2.1, fun i v q => h.2.2 i v (hk i v q)⟩
theorem good_tW {w : Cond} (h : w ∈ tW) : goodWord w = true := (List.mem_filter.mp h).2
theorem goodIn_tW {y : MethodName} {cc : ByteArray} {nL : Nat} {ret : Option FieldType} (h : Cond.code y cc nL ret ∈ tW) : GoodIn tW (Cond.code y cc nL ret :: tW) := fun w hw => by
  have hm : w ∈ tW := (List.mem_cons.mp hw).elim (fun q => q ▸ h) id
  exact ⟨hm, good_of_word (good_tW hm)⟩
theorem in_tW (i : Nat) {w : Cond} (h : lw_tbl[i]? = some w) (g : goodWord w = true) : w ∈ tW := List.mem_filter.mpr ⟨List.mem_of_getElem? h, g⟩
theorem go_iconst {d : Nat} {own : String} {cc : ByteArray} {nL : Nat} {ret : Option FieldType} {pc q : Nat} {lo : List (Option Value)} {st : List Value} {h : AH} {Q : Option Value → AH → Prop} {n : Int} (hd : decode cc pc = .ok (.iconst n, 1))  (hq : pc + 1 = q) (k : Go d own cc nL ret q lo (.int (Int32.ofInt n) :: st) h Q) : Go d own cc nL ret pc lo (st) h Q := by
  subst hq
  intro p l e s m args below meth c α cA D H locs ls C hP hS hl
  exact lv_iconst C.1 C.2.1 hd rfl (k p l e s m args below meth c α cA D H locs ls C hP hS hl)

theorem go_iconstN {d : Nat} {own : String} {cc : ByteArray} {nL : Nat} {ret : Option FieldType} {pc q : Nat} {lo : List (Option Value)} {st : List Value} {h : AH} {Q : Option Value → AH → Prop} {n : Nat} (hd : decode cc pc = .ok (.iconst (n : Nat), 1))  (hq : pc + 1 = q) (k : Go d own cc nL ret q lo (.int (nI n) :: st) h Q) : Go d own cc nL ret pc lo (st) h Q := by
  subst hq
  intro p l e s m args below meth c α cA D H locs ls C hP hS hl
  exact lv_iconst C.1 C.2.1 hd rfl (k p l e s m args below meth c α cA D H locs ls C hP hS hl)

theorem go_bipushN {d : Nat} {own : String} {cc : ByteArray} {nL : Nat} {ret : Option FieldType} {pc q : Nat} {lo : List (Option Value)} {st : List Value} {h : AH} {Q : Option Value → AH → Prop} {n : Int} {v : Nat} (hd : decode cc pc = .ok (.bipush n, 2)) (hv : (Int8.ofInt n).toInt32 = nI v) (hq : pc + 2 = q) (k : Go d own cc nL ret q lo (.int (nI v) :: st) h Q) : Go d own cc nL ret pc lo (st) h Q := by
  subst hq
  intro p l e s m args below meth c α cA D H locs ls C hP hS hl
  exact lv_bipush C.1 C.2.1 hd hv (k p l e s m args below meth c α cA D H locs ls C hP hS hl)

theorem go_bipush {d : Nat} {own : String} {cc : ByteArray} {nL : Nat} {ret : Option FieldType} {pc q : Nat} {lo : List (Option Value)} {st : List Value} {h : AH} {Q : Option Value → AH → Prop} {n : Int} {v : Int32} (hd : decode cc pc = .ok (.bipush n, 2)) (hv : (Int8.ofInt n).toInt32 = v) (hq : pc + 2 = q) (k : Go d own cc nL ret q lo (.int v :: st) h Q) : Go d own cc nL ret pc lo (st) h Q := by
  subst hq
  intro p l e s m args below meth c α cA D H locs ls C hP hS hl
  exact lv_bipush C.1 C.2.1 hd hv (k p l e s m args below meth c α cA D H locs ls C hP hS hl)

theorem go_sipushN {d : Nat} {own : String} {cc : ByteArray} {nL : Nat} {ret : Option FieldType} {pc q : Nat} {lo : List (Option Value)} {st : List Value} {h : AH} {Q : Option Value → AH → Prop} {n : Int} {v : Nat} (hd : decode cc pc = .ok (.sipush n, 3)) (hv : (Int16.ofInt n).toInt32 = nI v) (hq : pc + 3 = q) (k : Go d own cc nL ret q lo (.int (nI v) :: st) h Q) : Go d own cc nL ret pc lo (st) h Q := by
  subst hq
  intro p l e s m args below meth c α cA D H locs ls C hP hS hl
  exact lv_sipush C.1 C.2.1 hd hv (k p l e s m args below meth c α cA D H locs ls C hP hS hl)

theorem go_lconst {d : Nat} {own : String} {cc : ByteArray} {nL : Nat} {ret : Option FieldType} {pc q : Nat} {lo : List (Option Value)} {st : List Value} {h : AH} {Q : Option Value → AH → Prop} {n : Fin 2} (hd : decode cc pc = .ok (.lconst n, 1))  (hq : pc + 1 = q) (k : Go d own cc nL ret q lo (.long (Int64.ofNat (n : Nat)) :: st) h Q) : Go d own cc nL ret pc lo (st) h Q := by
  subst hq
  intro p l e s m args below meth c α cA D H locs ls C hP hS hl
  exact lv_lconst C.1 C.2.1 hd rfl (k p l e s m args below meth c α cA D H locs ls C hP hS hl)

theorem go_ldc {d : Nat} {own : String} {cc : ByteArray} {nL : Nat} {ret : Option FieldType} {pc q : Nat} {lo : List (Option Value)} {st : List Value} {h : AH} {Q : Option Value → AH → Prop} {ix : Nat} {v : Int32} (hd : decode cc pc = .ok (.ldc ix, 2)) (hw : Cond.constant own ix v ∈ tW) (hq : pc + 2 = q) (k : Go d own cc nL ret q lo (.int v :: st) h Q) : Go d own cc nL ret pc lo st h Q := by
  subst hq
  intro p l e s m args below meth c α cA D H locs ls C hP hS hl
  exact lv_ldc C.1 C.2.1 C.2.2.2.2.1 (C.2.2.2.2.2.1 _ hw) hd (k p l e s m args below meth c α cA D H locs ls C hP hS hl)

theorem go_ldcw {d : Nat} {own : String} {cc : ByteArray} {nL : Nat} {ret : Option FieldType} {pc q : Nat} {lo : List (Option Value)} {st : List Value} {h : AH} {Q : Option Value → AH → Prop} {ix : Nat} {v : Int32} (hd : decode cc pc = .ok (.ldc_w ix, 3)) (hw : Cond.constant own ix v ∈ tW) (hq : pc + 3 = q) (k : Go d own cc nL ret q lo (.int v :: st) h Q) : Go d own cc nL ret pc lo st h Q := by
  subst hq
  intro p l e s m args below meth c α cA D H locs ls C hP hS hl
  exact lv_ldcw C.1 C.2.1 C.2.2.2.2.1 (C.2.2.2.2.2.1 _ hw) hd (k p l e s m args below meth c α cA D H locs ls C hP hS hl)

theorem go_ldc2 {d : Nat} {own : String} {cc : ByteArray} {nL : Nat} {ret : Option FieldType} {pc q : Nat} {lo : List (Option Value)} {st : List Value} {h : AH} {Q : Option Value → AH → Prop} {ix : Nat} {v : Int64} (hd : decode cc pc = .ok (.ldc2_w ix, 3)) (hw : Cond.constantLong own ix v ∈ tW) (hq : pc + 3 = q) (k : Go d own cc nL ret q lo (.long v :: st) h Q) : Go d own cc nL ret pc lo st h Q := by
  subst hq
  intro p l e s m args below meth c α cA D H locs ls C hP hS hl
  exact lv_ldc2 C.1 C.2.1 C.2.2.2.2.1 (C.2.2.2.2.2.1 _ hw) hd (k p l e s m args below meth c α cA D H locs ls C hP hS hl)

theorem go_ldcS {d : Nat} {own : String} {cc : ByteArray} {nL : Nat} {ret : Option FieldType} {pc q : Nat} {lo : List (Option Value)} {st : List Value} {h : AH} {Q : Option Value → AH → Prop} (j : Nat) (hj : j < nStr) {ix : Nat} (hd : decode cc pc = .ok (.ldc ix, 2)) (hw : own = RX2 ∧ strIx.getD j 0 = ix) (hq : pc + 2 = q) (k : Go d own cc nL ret q lo (.ref (1000 + j) :: st) h Q) : Go d own cc nL ret pc lo st h Q := by
  subst hq
  obtain ⟨rfl, rfl⟩ := hw
  intro p l e s m args below meth c α cA D H locs ls C hP hS hl
  exact va_ldcS C.1 C.2.1 C.2.2.2.2.1 (C.2.2.2.2.2.2.2.2.2.2 j hj) hd (k p l e s m args below meth c α cA D H locs ls C hP hS hl)

theorem go_iload0 {d : Nat} {own : String} {cc : ByteArray} {nL : Nat} {ret : Option FieldType} {pc q : Nat} {st : List Value} {h : AH} {Q : Option Value → AH → Prop} {r : List (Option Value)} {x : Int32} (hd : decode cc pc = .ok (.iload 0, 2)) (hq : pc + 2 = q) (k : Go d own cc nL ret q (some (.int x) :: r) (.int x :: st) h Q) : Go d own cc nL ret pc (some (.int x) :: r) st h Q := by
  subst hq
  intro p l e s m args below meth c α cA D H locs ls C hP hS hl
  exact lv_iload C.1 C.2.1 hd (hl.2.2 0 (.int x) rfl) (k p l e s m args below meth c α cA D H locs ls C hP hS hl)

theorem go_iloadn0 {d : Nat} {own : String} {cc : ByteArray} {nL : Nat} {ret : Option FieldType} {pc q : Nat} {st : List Value} {h : AH} {Q : Option Value → AH → Prop} {r : List (Option Value)} {x : Int32} (hd : decode cc pc = .ok (.iload_n 0, 1)) (hq : pc + 1 = q) (k : Go d own cc nL ret q (some (.int x) :: r) (.int x :: st) h Q) : Go d own cc nL ret pc (some (.int x) :: r) st h Q := by
  subst hq
  intro p l e s m args below meth c α cA D H locs ls C hP hS hl
  exact lv_iload_n C.1 C.2.1 hd rfl (hl.2.2 0 (.int x) rfl) (k p l e s m args below meth c α cA D H locs ls C hP hS hl)

theorem go_aload0 {d : Nat} {own : String} {cc : ByteArray} {nL : Nat} {ret : Option FieldType} {pc q : Nat} {st : List Value} {h : AH} {Q : Option Value → AH → Prop} {r : List (Option Value)} {x : Nat} (hd : decode cc pc = .ok (.aload 0, 2)) (hq : pc + 2 = q) (k : Go d own cc nL ret q (some (.ref x) :: r) (.ref x :: st) h Q) : Go d own cc nL ret pc (some (.ref x) :: r) st h Q := by
  subst hq
  intro p l e s m args below meth c α cA D H locs ls C hP hS hl
  exact lv_aload C.1 C.2.1 hd (hl.2.2 0 (.ref x) rfl) (k p l e s m args below meth c α cA D H locs ls C hP hS hl)

theorem go_aloadn0 {d : Nat} {own : String} {cc : ByteArray} {nL : Nat} {ret : Option FieldType} {pc q : Nat} {st : List Value} {h : AH} {Q : Option Value → AH → Prop} {r : List (Option Value)} {x : Nat} (hd : decode cc pc = .ok (.aload_n 0, 1)) (hq : pc + 1 = q) (k : Go d own cc nL ret q (some (.ref x) :: r) (.ref x :: st) h Q) : Go d own cc nL ret pc (some (.ref x) :: r) st h Q := by
  subst hq
  intro p l e s m args below meth c α cA D H locs ls C hP hS hl
  exact lv_aload_n C.1 C.2.1 hd rfl (hl.2.2 0 (.ref x) rfl) (k p l e s m args below meth c α cA D H locs ls C hP hS hl)

theorem go_lload0 {d : Nat} {own : String} {cc : ByteArray} {nL : Nat} {ret : Option FieldType} {pc q : Nat} {st : List Value} {h : AH} {Q : Option Value → AH → Prop} {r : List (Option Value)} {x : Int64} (hd : decode cc pc = .ok (.lload 0, 2)) (hq : pc + 2 = q) (k : Go d own cc nL ret q (some (.long x) :: r) (.long x :: st) h Q) : Go d own cc nL ret pc (some (.long x) :: r) st h Q := by
  subst hq
  intro p l e s m args below meth c α cA D H locs ls C hP hS hl
  exact lv_lload C.1 C.2.1 hd (hl.2.2 0 (.long x) rfl) (k p l e s m args below meth c α cA D H locs ls C hP hS hl)

theorem go_lloadn0 {d : Nat} {own : String} {cc : ByteArray} {nL : Nat} {ret : Option FieldType} {pc q : Nat} {st : List Value} {h : AH} {Q : Option Value → AH → Prop} {r : List (Option Value)} {x : Int64} (hd : decode cc pc = .ok (.lload_n 0, 1)) (hq : pc + 1 = q) (k : Go d own cc nL ret q (some (.long x) :: r) (.long x :: st) h Q) : Go d own cc nL ret pc (some (.long x) :: r) st h Q := by
  subst hq
  intro p l e s m args below meth c α cA D H locs ls C hP hS hl
  exact lv_lload_n C.1 C.2.1 hd rfl (hl.2.2 0 (.long x) rfl) (k p l e s m args below meth c α cA D H locs ls C hP hS hl)

theorem go_iload1 {d : Nat} {own : String} {cc : ByteArray} {nL : Nat} {ret : Option FieldType} {pc q : Nat} {st : List Value} {h : AH} {Q : Option Value → AH → Prop} {a0 : Option Value} {r : List (Option Value)} {x : Int32} (hd : decode cc pc = .ok (.iload 1, 2)) (hq : pc + 2 = q) (k : Go d own cc nL ret q (a0 :: some (.int x) :: r) (.int x :: st) h Q) : Go d own cc nL ret pc (a0 :: some (.int x) :: r) st h Q := by
  subst hq
  intro p l e s m args below meth c α cA D H locs ls C hP hS hl
  exact lv_iload C.1 C.2.1 hd (hl.2.2 1 (.int x) rfl) (k p l e s m args below meth c α cA D H locs ls C hP hS hl)

theorem go_iloadn1 {d : Nat} {own : String} {cc : ByteArray} {nL : Nat} {ret : Option FieldType} {pc q : Nat} {st : List Value} {h : AH} {Q : Option Value → AH → Prop} {a0 : Option Value} {r : List (Option Value)} {x : Int32} (hd : decode cc pc = .ok (.iload_n 1, 1)) (hq : pc + 1 = q) (k : Go d own cc nL ret q (a0 :: some (.int x) :: r) (.int x :: st) h Q) : Go d own cc nL ret pc (a0 :: some (.int x) :: r) st h Q := by
  subst hq
  intro p l e s m args below meth c α cA D H locs ls C hP hS hl
  exact lv_iload_n C.1 C.2.1 hd rfl (hl.2.2 1 (.int x) rfl) (k p l e s m args below meth c α cA D H locs ls C hP hS hl)

theorem go_aload1 {d : Nat} {own : String} {cc : ByteArray} {nL : Nat} {ret : Option FieldType} {pc q : Nat} {st : List Value} {h : AH} {Q : Option Value → AH → Prop} {a0 : Option Value} {r : List (Option Value)} {x : Nat} (hd : decode cc pc = .ok (.aload 1, 2)) (hq : pc + 2 = q) (k : Go d own cc nL ret q (a0 :: some (.ref x) :: r) (.ref x :: st) h Q) : Go d own cc nL ret pc (a0 :: some (.ref x) :: r) st h Q := by
  subst hq
  intro p l e s m args below meth c α cA D H locs ls C hP hS hl
  exact lv_aload C.1 C.2.1 hd (hl.2.2 1 (.ref x) rfl) (k p l e s m args below meth c α cA D H locs ls C hP hS hl)

theorem go_aloadn1 {d : Nat} {own : String} {cc : ByteArray} {nL : Nat} {ret : Option FieldType} {pc q : Nat} {st : List Value} {h : AH} {Q : Option Value → AH → Prop} {a0 : Option Value} {r : List (Option Value)} {x : Nat} (hd : decode cc pc = .ok (.aload_n 1, 1)) (hq : pc + 1 = q) (k : Go d own cc nL ret q (a0 :: some (.ref x) :: r) (.ref x :: st) h Q) : Go d own cc nL ret pc (a0 :: some (.ref x) :: r) st h Q := by
  subst hq
  intro p l e s m args below meth c α cA D H locs ls C hP hS hl
  exact lv_aload_n C.1 C.2.1 hd rfl (hl.2.2 1 (.ref x) rfl) (k p l e s m args below meth c α cA D H locs ls C hP hS hl)

theorem go_lload1 {d : Nat} {own : String} {cc : ByteArray} {nL : Nat} {ret : Option FieldType} {pc q : Nat} {st : List Value} {h : AH} {Q : Option Value → AH → Prop} {a0 : Option Value} {r : List (Option Value)} {x : Int64} (hd : decode cc pc = .ok (.lload 1, 2)) (hq : pc + 2 = q) (k : Go d own cc nL ret q (a0 :: some (.long x) :: r) (.long x :: st) h Q) : Go d own cc nL ret pc (a0 :: some (.long x) :: r) st h Q := by
  subst hq
  intro p l e s m args below meth c α cA D H locs ls C hP hS hl
  exact lv_lload C.1 C.2.1 hd (hl.2.2 1 (.long x) rfl) (k p l e s m args below meth c α cA D H locs ls C hP hS hl)

theorem go_lloadn1 {d : Nat} {own : String} {cc : ByteArray} {nL : Nat} {ret : Option FieldType} {pc q : Nat} {st : List Value} {h : AH} {Q : Option Value → AH → Prop} {a0 : Option Value} {r : List (Option Value)} {x : Int64} (hd : decode cc pc = .ok (.lload_n 1, 1)) (hq : pc + 1 = q) (k : Go d own cc nL ret q (a0 :: some (.long x) :: r) (.long x :: st) h Q) : Go d own cc nL ret pc (a0 :: some (.long x) :: r) st h Q := by
  subst hq
  intro p l e s m args below meth c α cA D H locs ls C hP hS hl
  exact lv_lload_n C.1 C.2.1 hd rfl (hl.2.2 1 (.long x) rfl) (k p l e s m args below meth c α cA D H locs ls C hP hS hl)

theorem go_iload2 {d : Nat} {own : String} {cc : ByteArray} {nL : Nat} {ret : Option FieldType} {pc q : Nat} {st : List Value} {h : AH} {Q : Option Value → AH → Prop} {a0 a1 : Option Value} {r : List (Option Value)} {x : Int32} (hd : decode cc pc = .ok (.iload 2, 2)) (hq : pc + 2 = q) (k : Go d own cc nL ret q (a0 :: a1 :: some (.int x) :: r) (.int x :: st) h Q) : Go d own cc nL ret pc (a0 :: a1 :: some (.int x) :: r) st h Q := by
  subst hq
  intro p l e s m args below meth c α cA D H locs ls C hP hS hl
  exact lv_iload C.1 C.2.1 hd (hl.2.2 2 (.int x) rfl) (k p l e s m args below meth c α cA D H locs ls C hP hS hl)

theorem go_iloadn2 {d : Nat} {own : String} {cc : ByteArray} {nL : Nat} {ret : Option FieldType} {pc q : Nat} {st : List Value} {h : AH} {Q : Option Value → AH → Prop} {a0 a1 : Option Value} {r : List (Option Value)} {x : Int32} (hd : decode cc pc = .ok (.iload_n 2, 1)) (hq : pc + 1 = q) (k : Go d own cc nL ret q (a0 :: a1 :: some (.int x) :: r) (.int x :: st) h Q) : Go d own cc nL ret pc (a0 :: a1 :: some (.int x) :: r) st h Q := by
  subst hq
  intro p l e s m args below meth c α cA D H locs ls C hP hS hl
  exact lv_iload_n C.1 C.2.1 hd rfl (hl.2.2 2 (.int x) rfl) (k p l e s m args below meth c α cA D H locs ls C hP hS hl)

theorem go_aload2 {d : Nat} {own : String} {cc : ByteArray} {nL : Nat} {ret : Option FieldType} {pc q : Nat} {st : List Value} {h : AH} {Q : Option Value → AH → Prop} {a0 a1 : Option Value} {r : List (Option Value)} {x : Nat} (hd : decode cc pc = .ok (.aload 2, 2)) (hq : pc + 2 = q) (k : Go d own cc nL ret q (a0 :: a1 :: some (.ref x) :: r) (.ref x :: st) h Q) : Go d own cc nL ret pc (a0 :: a1 :: some (.ref x) :: r) st h Q := by
  subst hq
  intro p l e s m args below meth c α cA D H locs ls C hP hS hl
  exact lv_aload C.1 C.2.1 hd (hl.2.2 2 (.ref x) rfl) (k p l e s m args below meth c α cA D H locs ls C hP hS hl)

theorem go_aloadn2 {d : Nat} {own : String} {cc : ByteArray} {nL : Nat} {ret : Option FieldType} {pc q : Nat} {st : List Value} {h : AH} {Q : Option Value → AH → Prop} {a0 a1 : Option Value} {r : List (Option Value)} {x : Nat} (hd : decode cc pc = .ok (.aload_n 2, 1)) (hq : pc + 1 = q) (k : Go d own cc nL ret q (a0 :: a1 :: some (.ref x) :: r) (.ref x :: st) h Q) : Go d own cc nL ret pc (a0 :: a1 :: some (.ref x) :: r) st h Q := by
  subst hq
  intro p l e s m args below meth c α cA D H locs ls C hP hS hl
  exact lv_aload_n C.1 C.2.1 hd rfl (hl.2.2 2 (.ref x) rfl) (k p l e s m args below meth c α cA D H locs ls C hP hS hl)

theorem go_lload2 {d : Nat} {own : String} {cc : ByteArray} {nL : Nat} {ret : Option FieldType} {pc q : Nat} {st : List Value} {h : AH} {Q : Option Value → AH → Prop} {a0 a1 : Option Value} {r : List (Option Value)} {x : Int64} (hd : decode cc pc = .ok (.lload 2, 2)) (hq : pc + 2 = q) (k : Go d own cc nL ret q (a0 :: a1 :: some (.long x) :: r) (.long x :: st) h Q) : Go d own cc nL ret pc (a0 :: a1 :: some (.long x) :: r) st h Q := by
  subst hq
  intro p l e s m args below meth c α cA D H locs ls C hP hS hl
  exact lv_lload C.1 C.2.1 hd (hl.2.2 2 (.long x) rfl) (k p l e s m args below meth c α cA D H locs ls C hP hS hl)

theorem go_lloadn2 {d : Nat} {own : String} {cc : ByteArray} {nL : Nat} {ret : Option FieldType} {pc q : Nat} {st : List Value} {h : AH} {Q : Option Value → AH → Prop} {a0 a1 : Option Value} {r : List (Option Value)} {x : Int64} (hd : decode cc pc = .ok (.lload_n 2, 1)) (hq : pc + 1 = q) (k : Go d own cc nL ret q (a0 :: a1 :: some (.long x) :: r) (.long x :: st) h Q) : Go d own cc nL ret pc (a0 :: a1 :: some (.long x) :: r) st h Q := by
  subst hq
  intro p l e s m args below meth c α cA D H locs ls C hP hS hl
  exact lv_lload_n C.1 C.2.1 hd rfl (hl.2.2 2 (.long x) rfl) (k p l e s m args below meth c α cA D H locs ls C hP hS hl)

theorem go_iload3 {d : Nat} {own : String} {cc : ByteArray} {nL : Nat} {ret : Option FieldType} {pc q : Nat} {st : List Value} {h : AH} {Q : Option Value → AH → Prop} {a0 a1 a2 : Option Value} {r : List (Option Value)} {x : Int32} (hd : decode cc pc = .ok (.iload 3, 2)) (hq : pc + 2 = q) (k : Go d own cc nL ret q (a0 :: a1 :: a2 :: some (.int x) :: r) (.int x :: st) h Q) : Go d own cc nL ret pc (a0 :: a1 :: a2 :: some (.int x) :: r) st h Q := by
  subst hq
  intro p l e s m args below meth c α cA D H locs ls C hP hS hl
  exact lv_iload C.1 C.2.1 hd (hl.2.2 3 (.int x) rfl) (k p l e s m args below meth c α cA D H locs ls C hP hS hl)

theorem go_iloadn3 {d : Nat} {own : String} {cc : ByteArray} {nL : Nat} {ret : Option FieldType} {pc q : Nat} {st : List Value} {h : AH} {Q : Option Value → AH → Prop} {a0 a1 a2 : Option Value} {r : List (Option Value)} {x : Int32} (hd : decode cc pc = .ok (.iload_n 3, 1)) (hq : pc + 1 = q) (k : Go d own cc nL ret q (a0 :: a1 :: a2 :: some (.int x) :: r) (.int x :: st) h Q) : Go d own cc nL ret pc (a0 :: a1 :: a2 :: some (.int x) :: r) st h Q := by
  subst hq
  intro p l e s m args below meth c α cA D H locs ls C hP hS hl
  exact lv_iload_n C.1 C.2.1 hd rfl (hl.2.2 3 (.int x) rfl) (k p l e s m args below meth c α cA D H locs ls C hP hS hl)

theorem go_aload3 {d : Nat} {own : String} {cc : ByteArray} {nL : Nat} {ret : Option FieldType} {pc q : Nat} {st : List Value} {h : AH} {Q : Option Value → AH → Prop} {a0 a1 a2 : Option Value} {r : List (Option Value)} {x : Nat} (hd : decode cc pc = .ok (.aload 3, 2)) (hq : pc + 2 = q) (k : Go d own cc nL ret q (a0 :: a1 :: a2 :: some (.ref x) :: r) (.ref x :: st) h Q) : Go d own cc nL ret pc (a0 :: a1 :: a2 :: some (.ref x) :: r) st h Q := by
  subst hq
  intro p l e s m args below meth c α cA D H locs ls C hP hS hl
  exact lv_aload C.1 C.2.1 hd (hl.2.2 3 (.ref x) rfl) (k p l e s m args below meth c α cA D H locs ls C hP hS hl)

theorem go_aloadn3 {d : Nat} {own : String} {cc : ByteArray} {nL : Nat} {ret : Option FieldType} {pc q : Nat} {st : List Value} {h : AH} {Q : Option Value → AH → Prop} {a0 a1 a2 : Option Value} {r : List (Option Value)} {x : Nat} (hd : decode cc pc = .ok (.aload_n 3, 1)) (hq : pc + 1 = q) (k : Go d own cc nL ret q (a0 :: a1 :: a2 :: some (.ref x) :: r) (.ref x :: st) h Q) : Go d own cc nL ret pc (a0 :: a1 :: a2 :: some (.ref x) :: r) st h Q := by
  subst hq
  intro p l e s m args below meth c α cA D H locs ls C hP hS hl
  exact lv_aload_n C.1 C.2.1 hd rfl (hl.2.2 3 (.ref x) rfl) (k p l e s m args below meth c α cA D H locs ls C hP hS hl)

theorem go_lload3 {d : Nat} {own : String} {cc : ByteArray} {nL : Nat} {ret : Option FieldType} {pc q : Nat} {st : List Value} {h : AH} {Q : Option Value → AH → Prop} {a0 a1 a2 : Option Value} {r : List (Option Value)} {x : Int64} (hd : decode cc pc = .ok (.lload 3, 2)) (hq : pc + 2 = q) (k : Go d own cc nL ret q (a0 :: a1 :: a2 :: some (.long x) :: r) (.long x :: st) h Q) : Go d own cc nL ret pc (a0 :: a1 :: a2 :: some (.long x) :: r) st h Q := by
  subst hq
  intro p l e s m args below meth c α cA D H locs ls C hP hS hl
  exact lv_lload C.1 C.2.1 hd (hl.2.2 3 (.long x) rfl) (k p l e s m args below meth c α cA D H locs ls C hP hS hl)

theorem go_lloadn3 {d : Nat} {own : String} {cc : ByteArray} {nL : Nat} {ret : Option FieldType} {pc q : Nat} {st : List Value} {h : AH} {Q : Option Value → AH → Prop} {a0 a1 a2 : Option Value} {r : List (Option Value)} {x : Int64} (hd : decode cc pc = .ok (.lload_n 3, 1)) (hq : pc + 1 = q) (k : Go d own cc nL ret q (a0 :: a1 :: a2 :: some (.long x) :: r) (.long x :: st) h Q) : Go d own cc nL ret pc (a0 :: a1 :: a2 :: some (.long x) :: r) st h Q := by
  subst hq
  intro p l e s m args below meth c α cA D H locs ls C hP hS hl
  exact lv_lload_n C.1 C.2.1 hd rfl (hl.2.2 3 (.long x) rfl) (k p l e s m args below meth c α cA D H locs ls C hP hS hl)

theorem go_iload4 {d : Nat} {own : String} {cc : ByteArray} {nL : Nat} {ret : Option FieldType} {pc q : Nat} {st : List Value} {h : AH} {Q : Option Value → AH → Prop} {a0 a1 a2 a3 : Option Value} {r : List (Option Value)} {x : Int32} (hd : decode cc pc = .ok (.iload 4, 2)) (hq : pc + 2 = q) (k : Go d own cc nL ret q (a0 :: a1 :: a2 :: a3 :: some (.int x) :: r) (.int x :: st) h Q) : Go d own cc nL ret pc (a0 :: a1 :: a2 :: a3 :: some (.int x) :: r) st h Q := by
  subst hq
  intro p l e s m args below meth c α cA D H locs ls C hP hS hl
  exact lv_iload C.1 C.2.1 hd (hl.2.2 4 (.int x) rfl) (k p l e s m args below meth c α cA D H locs ls C hP hS hl)

theorem go_aload4 {d : Nat} {own : String} {cc : ByteArray} {nL : Nat} {ret : Option FieldType} {pc q : Nat} {st : List Value} {h : AH} {Q : Option Value → AH → Prop} {a0 a1 a2 a3 : Option Value} {r : List (Option Value)} {x : Nat} (hd : decode cc pc = .ok (.aload 4, 2)) (hq : pc + 2 = q) (k : Go d own cc nL ret q (a0 :: a1 :: a2 :: a3 :: some (.ref x) :: r) (.ref x :: st) h Q) : Go d own cc nL ret pc (a0 :: a1 :: a2 :: a3 :: some (.ref x) :: r) st h Q := by
  subst hq
  intro p l e s m args below meth c α cA D H locs ls C hP hS hl
  exact lv_aload C.1 C.2.1 hd (hl.2.2 4 (.ref x) rfl) (k p l e s m args below meth c α cA D H locs ls C hP hS hl)

theorem go_lload4 {d : Nat} {own : String} {cc : ByteArray} {nL : Nat} {ret : Option FieldType} {pc q : Nat} {st : List Value} {h : AH} {Q : Option Value → AH → Prop} {a0 a1 a2 a3 : Option Value} {r : List (Option Value)} {x : Int64} (hd : decode cc pc = .ok (.lload 4, 2)) (hq : pc + 2 = q) (k : Go d own cc nL ret q (a0 :: a1 :: a2 :: a3 :: some (.long x) :: r) (.long x :: st) h Q) : Go d own cc nL ret pc (a0 :: a1 :: a2 :: a3 :: some (.long x) :: r) st h Q := by
  subst hq
  intro p l e s m args below meth c α cA D H locs ls C hP hS hl
  exact lv_lload C.1 C.2.1 hd (hl.2.2 4 (.long x) rfl) (k p l e s m args below meth c α cA D H locs ls C hP hS hl)

theorem go_iload5 {d : Nat} {own : String} {cc : ByteArray} {nL : Nat} {ret : Option FieldType} {pc q : Nat} {st : List Value} {h : AH} {Q : Option Value → AH → Prop} {a0 a1 a2 a3 a4 : Option Value} {r : List (Option Value)} {x : Int32} (hd : decode cc pc = .ok (.iload 5, 2)) (hq : pc + 2 = q) (k : Go d own cc nL ret q (a0 :: a1 :: a2 :: a3 :: a4 :: some (.int x) :: r) (.int x :: st) h Q) : Go d own cc nL ret pc (a0 :: a1 :: a2 :: a3 :: a4 :: some (.int x) :: r) st h Q := by
  subst hq
  intro p l e s m args below meth c α cA D H locs ls C hP hS hl
  exact lv_iload C.1 C.2.1 hd (hl.2.2 5 (.int x) rfl) (k p l e s m args below meth c α cA D H locs ls C hP hS hl)

theorem go_aload5 {d : Nat} {own : String} {cc : ByteArray} {nL : Nat} {ret : Option FieldType} {pc q : Nat} {st : List Value} {h : AH} {Q : Option Value → AH → Prop} {a0 a1 a2 a3 a4 : Option Value} {r : List (Option Value)} {x : Nat} (hd : decode cc pc = .ok (.aload 5, 2)) (hq : pc + 2 = q) (k : Go d own cc nL ret q (a0 :: a1 :: a2 :: a3 :: a4 :: some (.ref x) :: r) (.ref x :: st) h Q) : Go d own cc nL ret pc (a0 :: a1 :: a2 :: a3 :: a4 :: some (.ref x) :: r) st h Q := by
  subst hq
  intro p l e s m args below meth c α cA D H locs ls C hP hS hl
  exact lv_aload C.1 C.2.1 hd (hl.2.2 5 (.ref x) rfl) (k p l e s m args below meth c α cA D H locs ls C hP hS hl)

theorem go_lload5 {d : Nat} {own : String} {cc : ByteArray} {nL : Nat} {ret : Option FieldType} {pc q : Nat} {st : List Value} {h : AH} {Q : Option Value → AH → Prop} {a0 a1 a2 a3 a4 : Option Value} {r : List (Option Value)} {x : Int64} (hd : decode cc pc = .ok (.lload 5, 2)) (hq : pc + 2 = q) (k : Go d own cc nL ret q (a0 :: a1 :: a2 :: a3 :: a4 :: some (.long x) :: r) (.long x :: st) h Q) : Go d own cc nL ret pc (a0 :: a1 :: a2 :: a3 :: a4 :: some (.long x) :: r) st h Q := by
  subst hq
  intro p l e s m args below meth c α cA D H locs ls C hP hS hl
  exact lv_lload C.1 C.2.1 hd (hl.2.2 5 (.long x) rfl) (k p l e s m args below meth c α cA D H locs ls C hP hS hl)

theorem go_iload6 {d : Nat} {own : String} {cc : ByteArray} {nL : Nat} {ret : Option FieldType} {pc q : Nat} {st : List Value} {h : AH} {Q : Option Value → AH → Prop} {a0 a1 a2 a3 a4 a5 : Option Value} {r : List (Option Value)} {x : Int32} (hd : decode cc pc = .ok (.iload 6, 2)) (hq : pc + 2 = q) (k : Go d own cc nL ret q (a0 :: a1 :: a2 :: a3 :: a4 :: a5 :: some (.int x) :: r) (.int x :: st) h Q) : Go d own cc nL ret pc (a0 :: a1 :: a2 :: a3 :: a4 :: a5 :: some (.int x) :: r) st h Q := by
  subst hq
  intro p l e s m args below meth c α cA D H locs ls C hP hS hl
  exact lv_iload C.1 C.2.1 hd (hl.2.2 6 (.int x) rfl) (k p l e s m args below meth c α cA D H locs ls C hP hS hl)

theorem go_aload6 {d : Nat} {own : String} {cc : ByteArray} {nL : Nat} {ret : Option FieldType} {pc q : Nat} {st : List Value} {h : AH} {Q : Option Value → AH → Prop} {a0 a1 a2 a3 a4 a5 : Option Value} {r : List (Option Value)} {x : Nat} (hd : decode cc pc = .ok (.aload 6, 2)) (hq : pc + 2 = q) (k : Go d own cc nL ret q (a0 :: a1 :: a2 :: a3 :: a4 :: a5 :: some (.ref x) :: r) (.ref x :: st) h Q) : Go d own cc nL ret pc (a0 :: a1 :: a2 :: a3 :: a4 :: a5 :: some (.ref x) :: r) st h Q := by
  subst hq
  intro p l e s m args below meth c α cA D H locs ls C hP hS hl
  exact lv_aload C.1 C.2.1 hd (hl.2.2 6 (.ref x) rfl) (k p l e s m args below meth c α cA D H locs ls C hP hS hl)

theorem go_lload6 {d : Nat} {own : String} {cc : ByteArray} {nL : Nat} {ret : Option FieldType} {pc q : Nat} {st : List Value} {h : AH} {Q : Option Value → AH → Prop} {a0 a1 a2 a3 a4 a5 : Option Value} {r : List (Option Value)} {x : Int64} (hd : decode cc pc = .ok (.lload 6, 2)) (hq : pc + 2 = q) (k : Go d own cc nL ret q (a0 :: a1 :: a2 :: a3 :: a4 :: a5 :: some (.long x) :: r) (.long x :: st) h Q) : Go d own cc nL ret pc (a0 :: a1 :: a2 :: a3 :: a4 :: a5 :: some (.long x) :: r) st h Q := by
  subst hq
  intro p l e s m args below meth c α cA D H locs ls C hP hS hl
  exact lv_lload C.1 C.2.1 hd (hl.2.2 6 (.long x) rfl) (k p l e s m args below meth c α cA D H locs ls C hP hS hl)

theorem go_iload7 {d : Nat} {own : String} {cc : ByteArray} {nL : Nat} {ret : Option FieldType} {pc q : Nat} {st : List Value} {h : AH} {Q : Option Value → AH → Prop} {a0 a1 a2 a3 a4 a5 a6 : Option Value} {r : List (Option Value)} {x : Int32} (hd : decode cc pc = .ok (.iload 7, 2)) (hq : pc + 2 = q) (k : Go d own cc nL ret q (a0 :: a1 :: a2 :: a3 :: a4 :: a5 :: a6 :: some (.int x) :: r) (.int x :: st) h Q) : Go d own cc nL ret pc (a0 :: a1 :: a2 :: a3 :: a4 :: a5 :: a6 :: some (.int x) :: r) st h Q := by
  subst hq
  intro p l e s m args below meth c α cA D H locs ls C hP hS hl
  exact lv_iload C.1 C.2.1 hd (hl.2.2 7 (.int x) rfl) (k p l e s m args below meth c α cA D H locs ls C hP hS hl)

theorem go_aload7 {d : Nat} {own : String} {cc : ByteArray} {nL : Nat} {ret : Option FieldType} {pc q : Nat} {st : List Value} {h : AH} {Q : Option Value → AH → Prop} {a0 a1 a2 a3 a4 a5 a6 : Option Value} {r : List (Option Value)} {x : Nat} (hd : decode cc pc = .ok (.aload 7, 2)) (hq : pc + 2 = q) (k : Go d own cc nL ret q (a0 :: a1 :: a2 :: a3 :: a4 :: a5 :: a6 :: some (.ref x) :: r) (.ref x :: st) h Q) : Go d own cc nL ret pc (a0 :: a1 :: a2 :: a3 :: a4 :: a5 :: a6 :: some (.ref x) :: r) st h Q := by
  subst hq
  intro p l e s m args below meth c α cA D H locs ls C hP hS hl
  exact lv_aload C.1 C.2.1 hd (hl.2.2 7 (.ref x) rfl) (k p l e s m args below meth c α cA D H locs ls C hP hS hl)

theorem go_lload7 {d : Nat} {own : String} {cc : ByteArray} {nL : Nat} {ret : Option FieldType} {pc q : Nat} {st : List Value} {h : AH} {Q : Option Value → AH → Prop} {a0 a1 a2 a3 a4 a5 a6 : Option Value} {r : List (Option Value)} {x : Int64} (hd : decode cc pc = .ok (.lload 7, 2)) (hq : pc + 2 = q) (k : Go d own cc nL ret q (a0 :: a1 :: a2 :: a3 :: a4 :: a5 :: a6 :: some (.long x) :: r) (.long x :: st) h Q) : Go d own cc nL ret pc (a0 :: a1 :: a2 :: a3 :: a4 :: a5 :: a6 :: some (.long x) :: r) st h Q := by
  subst hq
  intro p l e s m args below meth c α cA D H locs ls C hP hS hl
  exact lv_lload C.1 C.2.1 hd (hl.2.2 7 (.long x) rfl) (k p l e s m args below meth c α cA D H locs ls C hP hS hl)

theorem go_iload8 {d : Nat} {own : String} {cc : ByteArray} {nL : Nat} {ret : Option FieldType} {pc q : Nat} {st : List Value} {h : AH} {Q : Option Value → AH → Prop} {a0 a1 a2 a3 a4 a5 a6 a7 : Option Value} {r : List (Option Value)} {x : Int32} (hd : decode cc pc = .ok (.iload 8, 2)) (hq : pc + 2 = q) (k : Go d own cc nL ret q (a0 :: a1 :: a2 :: a3 :: a4 :: a5 :: a6 :: a7 :: some (.int x) :: r) (.int x :: st) h Q) : Go d own cc nL ret pc (a0 :: a1 :: a2 :: a3 :: a4 :: a5 :: a6 :: a7 :: some (.int x) :: r) st h Q := by
  subst hq
  intro p l e s m args below meth c α cA D H locs ls C hP hS hl
  exact lv_iload C.1 C.2.1 hd (hl.2.2 8 (.int x) rfl) (k p l e s m args below meth c α cA D H locs ls C hP hS hl)

theorem go_aload8 {d : Nat} {own : String} {cc : ByteArray} {nL : Nat} {ret : Option FieldType} {pc q : Nat} {st : List Value} {h : AH} {Q : Option Value → AH → Prop} {a0 a1 a2 a3 a4 a5 a6 a7 : Option Value} {r : List (Option Value)} {x : Nat} (hd : decode cc pc = .ok (.aload 8, 2)) (hq : pc + 2 = q) (k : Go d own cc nL ret q (a0 :: a1 :: a2 :: a3 :: a4 :: a5 :: a6 :: a7 :: some (.ref x) :: r) (.ref x :: st) h Q) : Go d own cc nL ret pc (a0 :: a1 :: a2 :: a3 :: a4 :: a5 :: a6 :: a7 :: some (.ref x) :: r) st h Q := by
  subst hq
  intro p l e s m args below meth c α cA D H locs ls C hP hS hl
  exact lv_aload C.1 C.2.1 hd (hl.2.2 8 (.ref x) rfl) (k p l e s m args below meth c α cA D H locs ls C hP hS hl)

theorem go_lload8 {d : Nat} {own : String} {cc : ByteArray} {nL : Nat} {ret : Option FieldType} {pc q : Nat} {st : List Value} {h : AH} {Q : Option Value → AH → Prop} {a0 a1 a2 a3 a4 a5 a6 a7 : Option Value} {r : List (Option Value)} {x : Int64} (hd : decode cc pc = .ok (.lload 8, 2)) (hq : pc + 2 = q) (k : Go d own cc nL ret q (a0 :: a1 :: a2 :: a3 :: a4 :: a5 :: a6 :: a7 :: some (.long x) :: r) (.long x :: st) h Q) : Go d own cc nL ret pc (a0 :: a1 :: a2 :: a3 :: a4 :: a5 :: a6 :: a7 :: some (.long x) :: r) st h Q := by
  subst hq
  intro p l e s m args below meth c α cA D H locs ls C hP hS hl
  exact lv_lload C.1 C.2.1 hd (hl.2.2 8 (.long x) rfl) (k p l e s m args below meth c α cA D H locs ls C hP hS hl)

theorem go_iload9 {d : Nat} {own : String} {cc : ByteArray} {nL : Nat} {ret : Option FieldType} {pc q : Nat} {st : List Value} {h : AH} {Q : Option Value → AH → Prop} {a0 a1 a2 a3 a4 a5 a6 a7 a8 : Option Value} {r : List (Option Value)} {x : Int32} (hd : decode cc pc = .ok (.iload 9, 2)) (hq : pc + 2 = q) (k : Go d own cc nL ret q (a0 :: a1 :: a2 :: a3 :: a4 :: a5 :: a6 :: a7 :: a8 :: some (.int x) :: r) (.int x :: st) h Q) : Go d own cc nL ret pc (a0 :: a1 :: a2 :: a3 :: a4 :: a5 :: a6 :: a7 :: a8 :: some (.int x) :: r) st h Q := by
  subst hq
  intro p l e s m args below meth c α cA D H locs ls C hP hS hl
  exact lv_iload C.1 C.2.1 hd (hl.2.2 9 (.int x) rfl) (k p l e s m args below meth c α cA D H locs ls C hP hS hl)

theorem go_aload9 {d : Nat} {own : String} {cc : ByteArray} {nL : Nat} {ret : Option FieldType} {pc q : Nat} {st : List Value} {h : AH} {Q : Option Value → AH → Prop} {a0 a1 a2 a3 a4 a5 a6 a7 a8 : Option Value} {r : List (Option Value)} {x : Nat} (hd : decode cc pc = .ok (.aload 9, 2)) (hq : pc + 2 = q) (k : Go d own cc nL ret q (a0 :: a1 :: a2 :: a3 :: a4 :: a5 :: a6 :: a7 :: a8 :: some (.ref x) :: r) (.ref x :: st) h Q) : Go d own cc nL ret pc (a0 :: a1 :: a2 :: a3 :: a4 :: a5 :: a6 :: a7 :: a8 :: some (.ref x) :: r) st h Q := by
  subst hq
  intro p l e s m args below meth c α cA D H locs ls C hP hS hl
  exact lv_aload C.1 C.2.1 hd (hl.2.2 9 (.ref x) rfl) (k p l e s m args below meth c α cA D H locs ls C hP hS hl)

theorem go_lload9 {d : Nat} {own : String} {cc : ByteArray} {nL : Nat} {ret : Option FieldType} {pc q : Nat} {st : List Value} {h : AH} {Q : Option Value → AH → Prop} {a0 a1 a2 a3 a4 a5 a6 a7 a8 : Option Value} {r : List (Option Value)} {x : Int64} (hd : decode cc pc = .ok (.lload 9, 2)) (hq : pc + 2 = q) (k : Go d own cc nL ret q (a0 :: a1 :: a2 :: a3 :: a4 :: a5 :: a6 :: a7 :: a8 :: some (.long x) :: r) (.long x :: st) h Q) : Go d own cc nL ret pc (a0 :: a1 :: a2 :: a3 :: a4 :: a5 :: a6 :: a7 :: a8 :: some (.long x) :: r) st h Q := by
  subst hq
  intro p l e s m args below meth c α cA D H locs ls C hP hS hl
  exact lv_lload C.1 C.2.1 hd (hl.2.2 9 (.long x) rfl) (k p l e s m args below meth c α cA D H locs ls C hP hS hl)

theorem go_iload10 {d : Nat} {own : String} {cc : ByteArray} {nL : Nat} {ret : Option FieldType} {pc q : Nat} {st : List Value} {h : AH} {Q : Option Value → AH → Prop} {a0 a1 a2 a3 a4 a5 a6 a7 a8 a9 : Option Value} {r : List (Option Value)} {x : Int32} (hd : decode cc pc = .ok (.iload 10, 2)) (hq : pc + 2 = q) (k : Go d own cc nL ret q (a0 :: a1 :: a2 :: a3 :: a4 :: a5 :: a6 :: a7 :: a8 :: a9 :: some (.int x) :: r) (.int x :: st) h Q) : Go d own cc nL ret pc (a0 :: a1 :: a2 :: a3 :: a4 :: a5 :: a6 :: a7 :: a8 :: a9 :: some (.int x) :: r) st h Q := by
  subst hq
  intro p l e s m args below meth c α cA D H locs ls C hP hS hl
  exact lv_iload C.1 C.2.1 hd (hl.2.2 10 (.int x) rfl) (k p l e s m args below meth c α cA D H locs ls C hP hS hl)

theorem go_aload10 {d : Nat} {own : String} {cc : ByteArray} {nL : Nat} {ret : Option FieldType} {pc q : Nat} {st : List Value} {h : AH} {Q : Option Value → AH → Prop} {a0 a1 a2 a3 a4 a5 a6 a7 a8 a9 : Option Value} {r : List (Option Value)} {x : Nat} (hd : decode cc pc = .ok (.aload 10, 2)) (hq : pc + 2 = q) (k : Go d own cc nL ret q (a0 :: a1 :: a2 :: a3 :: a4 :: a5 :: a6 :: a7 :: a8 :: a9 :: some (.ref x) :: r) (.ref x :: st) h Q) : Go d own cc nL ret pc (a0 :: a1 :: a2 :: a3 :: a4 :: a5 :: a6 :: a7 :: a8 :: a9 :: some (.ref x) :: r) st h Q := by
  subst hq
  intro p l e s m args below meth c α cA D H locs ls C hP hS hl
  exact lv_aload C.1 C.2.1 hd (hl.2.2 10 (.ref x) rfl) (k p l e s m args below meth c α cA D H locs ls C hP hS hl)

theorem go_lload10 {d : Nat} {own : String} {cc : ByteArray} {nL : Nat} {ret : Option FieldType} {pc q : Nat} {st : List Value} {h : AH} {Q : Option Value → AH → Prop} {a0 a1 a2 a3 a4 a5 a6 a7 a8 a9 : Option Value} {r : List (Option Value)} {x : Int64} (hd : decode cc pc = .ok (.lload 10, 2)) (hq : pc + 2 = q) (k : Go d own cc nL ret q (a0 :: a1 :: a2 :: a3 :: a4 :: a5 :: a6 :: a7 :: a8 :: a9 :: some (.long x) :: r) (.long x :: st) h Q) : Go d own cc nL ret pc (a0 :: a1 :: a2 :: a3 :: a4 :: a5 :: a6 :: a7 :: a8 :: a9 :: some (.long x) :: r) st h Q := by
  subst hq
  intro p l e s m args below meth c α cA D H locs ls C hP hS hl
  exact lv_lload C.1 C.2.1 hd (hl.2.2 10 (.long x) rfl) (k p l e s m args below meth c α cA D H locs ls C hP hS hl)

theorem go_iload11 {d : Nat} {own : String} {cc : ByteArray} {nL : Nat} {ret : Option FieldType} {pc q : Nat} {st : List Value} {h : AH} {Q : Option Value → AH → Prop} {a0 a1 a2 a3 a4 a5 a6 a7 a8 a9 a10 : Option Value} {r : List (Option Value)} {x : Int32} (hd : decode cc pc = .ok (.iload 11, 2)) (hq : pc + 2 = q) (k : Go d own cc nL ret q (a0 :: a1 :: a2 :: a3 :: a4 :: a5 :: a6 :: a7 :: a8 :: a9 :: a10 :: some (.int x) :: r) (.int x :: st) h Q) : Go d own cc nL ret pc (a0 :: a1 :: a2 :: a3 :: a4 :: a5 :: a6 :: a7 :: a8 :: a9 :: a10 :: some (.int x) :: r) st h Q := by
  subst hq
  intro p l e s m args below meth c α cA D H locs ls C hP hS hl
  exact lv_iload C.1 C.2.1 hd (hl.2.2 11 (.int x) rfl) (k p l e s m args below meth c α cA D H locs ls C hP hS hl)

theorem go_aload11 {d : Nat} {own : String} {cc : ByteArray} {nL : Nat} {ret : Option FieldType} {pc q : Nat} {st : List Value} {h : AH} {Q : Option Value → AH → Prop} {a0 a1 a2 a3 a4 a5 a6 a7 a8 a9 a10 : Option Value} {r : List (Option Value)} {x : Nat} (hd : decode cc pc = .ok (.aload 11, 2)) (hq : pc + 2 = q) (k : Go d own cc nL ret q (a0 :: a1 :: a2 :: a3 :: a4 :: a5 :: a6 :: a7 :: a8 :: a9 :: a10 :: some (.ref x) :: r) (.ref x :: st) h Q) : Go d own cc nL ret pc (a0 :: a1 :: a2 :: a3 :: a4 :: a5 :: a6 :: a7 :: a8 :: a9 :: a10 :: some (.ref x) :: r) st h Q := by
  subst hq
  intro p l e s m args below meth c α cA D H locs ls C hP hS hl
  exact lv_aload C.1 C.2.1 hd (hl.2.2 11 (.ref x) rfl) (k p l e s m args below meth c α cA D H locs ls C hP hS hl)

theorem go_lload11 {d : Nat} {own : String} {cc : ByteArray} {nL : Nat} {ret : Option FieldType} {pc q : Nat} {st : List Value} {h : AH} {Q : Option Value → AH → Prop} {a0 a1 a2 a3 a4 a5 a6 a7 a8 a9 a10 : Option Value} {r : List (Option Value)} {x : Int64} (hd : decode cc pc = .ok (.lload 11, 2)) (hq : pc + 2 = q) (k : Go d own cc nL ret q (a0 :: a1 :: a2 :: a3 :: a4 :: a5 :: a6 :: a7 :: a8 :: a9 :: a10 :: some (.long x) :: r) (.long x :: st) h Q) : Go d own cc nL ret pc (a0 :: a1 :: a2 :: a3 :: a4 :: a5 :: a6 :: a7 :: a8 :: a9 :: a10 :: some (.long x) :: r) st h Q := by
  subst hq
  intro p l e s m args below meth c α cA D H locs ls C hP hS hl
  exact lv_lload C.1 C.2.1 hd (hl.2.2 11 (.long x) rfl) (k p l e s m args below meth c α cA D H locs ls C hP hS hl)

def okp (o : Option Value) : Bool := match o with
  | some (.long _) => false
  | some (.double _) => false
  | _ => true
def lp (α : Nat → Nat) (lo : List (Option Value)) : List (Nat × Value) := (List.range lo.length).filterMap (fun j => match lo[j]? with | some (some w) => some (j, cV α w) | _ => none)
theorem lp_mem {α : Nat → Nat} {lo : List (Option Value)} {j : Nat} {w : Value} (hj : lo[j]? = some (some w)) : (j, cV α w) ∈ lp α lo :=
  List.mem_filterMap.mpr ⟨j, List.mem_range.mpr ((List.getElem?_eq_some_iff.mp hj).1), by rw [hj]⟩
theorem LO.pairs {α : Nat → Nat} {ls : Array Slot} {nL : Nat} {lo : List (Option Value)} (hl : LO α ls nL lo) : lv_has ls nL (lp α lo) := by
  refine ⟨hl.1, hl.2.1, fun q hq => ?_⟩
  obtain ⟨j, -, hj⟩ := List.mem_filterMap.mp hq
  split at hj
  next w hw => cases hj; exact hl.2.2 j w hw
  next => cases hj
theorem okp_cat {α : Nat → Nat} {w : Value} (h : okp (some w) = true) : (cV α w).category = 1 := by
  rw [cV_cat]
  cases w <;> first | rfl | (simp [okp] at h)
theorem LO.of1 {α : Nat → Nat} {ls : Array Slot} {nL i : Nat} {lo : List (Option Value)} {v : Value} (h2 : lv_has ls nL ((i, cV α v) :: (lp α lo).filter (fun q => !(q.1 == i) && !(q.1 + 1 == i && q.2.category == 2)))) (hp : ∀ (w : Value), 0 < i → lo[i - 1]? = some (some w) → okp (some w) = true) : LO α ls nL (lo.set i (some v)) := by
  refine ⟨h2.1, h2.2.1, fun j w hj => ?_⟩
  rw [List.getElem?_set] at hj
  by_cases hij : i = j
  · subst hij
    rw [if_pos rfl] at hj
    split at hj
    · cases hj
      exact h2.2.2 (i, cV α v) List.mem_cons_self
    · cases hj
  · rw [if_neg hij] at hj
    refine h2.2.2 (j, cV α w) (List.mem_cons_of_mem _ (List.mem_filter.mpr ⟨lp_mem hj, ?_⟩))
    simp only [Bool.and_eq_true, Bool.not_eq_true', beq_eq_false_iff_ne, ne_eq]
    refine ⟨fun q => hij q.symm, ?_⟩
    by_cases h3 : j + 1 = i
    · have := okp_cat (α := α) (hp w (by omega) (by rw [show i - 1 = j by omega]; exact hj))
      simp [this]
    · simp [h3]
theorem LO.of2 {α : Nat → Nat} {ls : Array Slot} {nL i : Nat} {lo : List (Option Value)} {v : Value} (h2 : lv_has ls nL ((i, cV α v) :: (lp α lo).filter (fun q => !(q.1 == i) && (!(q.1 == i + 1) && !(q.1 + 1 == i && q.2.category == 2))))) (hp : ∀ (w : Value), 0 < i → lo[i - 1]? = some (some w) → okp (some w) = true) : LO α ls nL ((lo.set i (some v)).set (i + 1) none) := by
  refine ⟨h2.1, h2.2.1, fun j w hj => ?_⟩
  rw [List.getElem?_set] at hj
  by_cases hij2 : i + 1 = j
  · rw [if_pos hij2] at hj
    split at hj <;> cases hj
  rw [if_neg hij2, List.getElem?_set] at hj
  by_cases hij : i = j
  · subst hij
    rw [if_pos rfl] at hj
    split at hj
    · cases hj
      exact h2.2.2 (i, cV α v) List.mem_cons_self
    · cases hj
  · rw [if_neg hij] at hj
    refine h2.2.2 (j, cV α w) (List.mem_cons_of_mem _ (List.mem_filter.mpr ⟨lp_mem hj, ?_⟩))
    simp only [Bool.and_eq_true, Bool.not_eq_true', beq_eq_false_iff_ne, ne_eq]
    refine ⟨fun q => hij q.symm, fun q => hij2 q.symm, ?_⟩
    by_cases h3 : j + 1 = i
    · have := okp_cat (α := α) (hp w (by omega) (by rw [show i - 1 = j by omega]; exact hj))
      simp [this]
    · simp [h3]

theorem go_istore0 {d : Nat} {own : String} {cc : ByteArray} {nL : Nat} {ret : Option FieldType} {pc q : Nat} {st : List Value} {h : AH} {Q : Option Value → AH → Prop} {a0 : Option Value} {r : List (Option Value)} {x : Int32} (hd : decode cc pc = .ok (.istore 0, 2)) (hn : 0 < nL) (hq : pc + 2 = q) (k : Go d own cc nL ret q (some (.int x) :: r) st h Q) : Go d own cc nL ret pc (a0 :: r) (.int x :: st) h Q := by
  subst hq
  intro p l e s m args below meth c α cA D H locs ls C hP hS hl
  exact lv_istore C.1 C.2.1 hd (LO.pairs hl) hn rfl (fun ls hl2 => k p l e s m args below meth c α cA D H locs ls C hP hS (LO.of1 (v := .int x) hl2 (fun w h0 _ => absurd h0 (Nat.lt_irrefl 0))))

theorem go_istoren0 {d : Nat} {own : String} {cc : ByteArray} {nL : Nat} {ret : Option FieldType} {pc q : Nat} {st : List Value} {h : AH} {Q : Option Value → AH → Prop} {a0 : Option Value} {r : List (Option Value)} {x : Int32} (hd : decode cc pc = .ok (.istore_n 0, 1)) (hn : 0 < nL) (hq : pc + 1 = q) (k : Go d own cc nL ret q (some (.int x) :: r) st h Q) : Go d own cc nL ret pc (a0 :: r) (.int x :: st) h Q := by
  subst hq
  intro p l e s m args below meth c α cA D H locs ls C hP hS hl
  exact lv_istore_n C.1 C.2.1 hd rfl (LO.pairs hl) hn rfl (fun ls hl2 => k p l e s m args below meth c α cA D H locs ls C hP hS (LO.of1 (v := .int x) hl2 (fun w h0 _ => absurd h0 (Nat.lt_irrefl 0))))

theorem go_astore0 {d : Nat} {own : String} {cc : ByteArray} {nL : Nat} {ret : Option FieldType} {pc q : Nat} {st : List Value} {h : AH} {Q : Option Value → AH → Prop} {a0 : Option Value} {r : List (Option Value)} {x : Nat} (hd : decode cc pc = .ok (.astore 0, 2)) (hn : 0 < nL) (hq : pc + 2 = q) (k : Go d own cc nL ret q (some (.ref x) :: r) st h Q) : Go d own cc nL ret pc (a0 :: r) (.ref x :: st) h Q := by
  subst hq
  intro p l e s m args below meth c α cA D H locs ls C hP hS hl
  exact lv_astore C.1 C.2.1 hd (LO.pairs hl) hn rfl (fun ls hl2 => k p l e s m args below meth c α cA D H locs ls C hP hS (LO.of1 (v := .ref x) hl2 (fun w h0 _ => absurd h0 (Nat.lt_irrefl 0))))

theorem go_astoren0 {d : Nat} {own : String} {cc : ByteArray} {nL : Nat} {ret : Option FieldType} {pc q : Nat} {st : List Value} {h : AH} {Q : Option Value → AH → Prop} {a0 : Option Value} {r : List (Option Value)} {x : Nat} (hd : decode cc pc = .ok (.astore_n 0, 1)) (hn : 0 < nL) (hq : pc + 1 = q) (k : Go d own cc nL ret q (some (.ref x) :: r) st h Q) : Go d own cc nL ret pc (a0 :: r) (.ref x :: st) h Q := by
  subst hq
  intro p l e s m args below meth c α cA D H locs ls C hP hS hl
  exact lv_astore_n C.1 C.2.1 hd rfl (LO.pairs hl) hn rfl (fun ls hl2 => k p l e s m args below meth c α cA D H locs ls C hP hS (LO.of1 (v := .ref x) hl2 (fun w h0 _ => absurd h0 (Nat.lt_irrefl 0))))

theorem go_lstore0 {d : Nat} {own : String} {cc : ByteArray} {nL : Nat} {ret : Option FieldType} {pc q : Nat} {st : List Value} {h : AH} {Q : Option Value → AH → Prop} {a0 : Option Value} {b : Option Value} {r : List (Option Value)} {x : Int64} (hd : decode cc pc = .ok (.lstore 0, 2)) (hn : 0 + 1 < nL) (hq : pc + 2 = q) (k : Go d own cc nL ret q (some (.long x) :: none :: r) st h Q) : Go d own cc nL ret pc (a0 :: b :: r) (.long x :: st) h Q := by
  subst hq
  intro p l e s m args below meth c α cA D H locs ls C hP hS hl
  exact lv_lstore C.1 C.2.1 hd (LO.pairs hl) hn rfl (fun ls hl2 => k p l e s m args below meth c α cA D H locs ls C hP hS (LO.of2 (v := .long x) hl2 (fun w h0 _ => absurd h0 (Nat.lt_irrefl 0))))

theorem go_lstoren0 {d : Nat} {own : String} {cc : ByteArray} {nL : Nat} {ret : Option FieldType} {pc q : Nat} {st : List Value} {h : AH} {Q : Option Value → AH → Prop} {a0 : Option Value} {b : Option Value} {r : List (Option Value)} {x : Int64} (hd : decode cc pc = .ok (.lstore_n 0, 1)) (hn : 0 + 1 < nL) (hq : pc + 1 = q) (k : Go d own cc nL ret q (some (.long x) :: none :: r) st h Q) : Go d own cc nL ret pc (a0 :: b :: r) (.long x :: st) h Q := by
  subst hq
  intro p l e s m args below meth c α cA D H locs ls C hP hS hl
  exact lv_lstore_n C.1 C.2.1 hd rfl (LO.pairs hl) hn rfl (fun ls hl2 => k p l e s m args below meth c α cA D H locs ls C hP hS (LO.of2 (v := .long x) hl2 (fun w h0 _ => absurd h0 (Nat.lt_irrefl 0))))

theorem go_iinc0 {d : Nat} {own : String} {cc : ByteArray} {nL : Nat} {ret : Option FieldType} {pc q : Nat} {st : List Value} {h : AH} {Q : Option Value → AH → Prop} {r : List (Option Value)} {x : Int32} {n : Int} (hd : decode cc pc = .ok (.iinc 0 n, 3)) (hn : 0 < nL) (hq : pc + 3 = q) (k : Go d own cc nL ret q (some (.int (x + Int32.ofInt n)) :: r) st h Q) : Go d own cc nL ret pc (some (.int x) :: r) st h Q := by
  subst hq
  intro p l e s m args below meth c α cA D H locs ls C hP hS hl
  obtain ⟨kk, hkk⟩ := List.getElem?_of_mem (lp_mem (lo := (some (.int x) :: r)) (α := α) (j := 0) (w := .int x) rfl)
  exact lv_iinc C.1 C.2.1 hd (LO.pairs hl) hkk rfl hn rfl (fun ls hl2 => k p l e s m args below meth c α cA D H locs ls C hP hS (LO.of1 (v := .int (x + Int32.ofInt n)) hl2 (fun w h0 _ => absurd h0 (Nat.lt_irrefl 0))))

theorem go_iincN0 {d : Nat} {own : String} {cc : ByteArray} {nL : Nat} {ret : Option FieldType} {pc q : Nat} {st : List Value} {h : AH} {Q : Option Value → AH → Prop} {r : List (Option Value)} {x : Nat} {n : Nat} (hd : decode cc pc = .ok (.iinc 0 (n : Nat), 3)) (hn : 0 < nL) (hq : pc + 3 = q) (k : Go d own cc nL ret q (some (.int (nI (x + n))) :: r) st h Q) : Go d own cc nL ret pc (some (.int (nI x)) :: r) st h Q := by
  subst hq
  intro p l e s m args below meth c α cA D H locs ls C hP hS hl
  obtain ⟨kk, hkk⟩ := List.getElem?_of_mem (lp_mem (lo := (some (.int (nI x)) :: r)) (α := α) (j := 0) (w := .int (nI x)) rfl)
  exact lv_iinc C.1 C.2.1 hd (LO.pairs hl) hkk (nI_add x n) hn rfl (fun ls hl2 => k p l e s m args below meth c α cA D H locs ls C hP hS (LO.of1 (v := .int (nI (x + n))) hl2 (fun w h0 _ => absurd h0 (Nat.lt_irrefl 0))))

theorem go_istore1 {d : Nat} {own : String} {cc : ByteArray} {nL : Nat} {ret : Option FieldType} {pc q : Nat} {st : List Value} {h : AH} {Q : Option Value → AH → Prop} {a0 a1 : Option Value} {r : List (Option Value)} {x : Int32} (hd : decode cc pc = .ok (.istore 1, 2)) (hp : okp a0 = true) (hn : 1 < nL) (hq : pc + 2 = q) (k : Go d own cc nL ret q (a0 :: some (.int x) :: r) st h Q) : Go d own cc nL ret pc (a0 :: a1 :: r) (.int x :: st) h Q := by
  subst hq
  intro p l e s m args below meth c α cA D H locs ls C hP hS hl
  exact lv_istore C.1 C.2.1 hd (LO.pairs hl) hn rfl (fun ls hl2 => k p l e s m args below meth c α cA D H locs ls C hP hS (LO.of1 (v := .int x) hl2 (fun w _ hw => by have hw2 : a0 = some w := Option.some.inj hw; rw [← hw2]; exact hp)))

theorem go_istoren1 {d : Nat} {own : String} {cc : ByteArray} {nL : Nat} {ret : Option FieldType} {pc q : Nat} {st : List Value} {h : AH} {Q : Option Value → AH → Prop} {a0 a1 : Option Value} {r : List (Option Value)} {x : Int32} (hd : decode cc pc = .ok (.istore_n 1, 1)) (hp : okp a0 = true) (hn : 1 < nL) (hq : pc + 1 = q) (k : Go d own cc nL ret q (a0 :: some (.int x) :: r) st h Q) : Go d own cc nL ret pc (a0 :: a1 :: r) (.int x :: st) h Q := by
  subst hq
  intro p l e s m args below meth c α cA D H locs ls C hP hS hl
  exact lv_istore_n C.1 C.2.1 hd rfl (LO.pairs hl) hn rfl (fun ls hl2 => k p l e s m args below meth c α cA D H locs ls C hP hS (LO.of1 (v := .int x) hl2 (fun w _ hw => by have hw2 : a0 = some w := Option.some.inj hw; rw [← hw2]; exact hp)))

theorem go_astore1 {d : Nat} {own : String} {cc : ByteArray} {nL : Nat} {ret : Option FieldType} {pc q : Nat} {st : List Value} {h : AH} {Q : Option Value → AH → Prop} {a0 a1 : Option Value} {r : List (Option Value)} {x : Nat} (hd : decode cc pc = .ok (.astore 1, 2)) (hp : okp a0 = true) (hn : 1 < nL) (hq : pc + 2 = q) (k : Go d own cc nL ret q (a0 :: some (.ref x) :: r) st h Q) : Go d own cc nL ret pc (a0 :: a1 :: r) (.ref x :: st) h Q := by
  subst hq
  intro p l e s m args below meth c α cA D H locs ls C hP hS hl
  exact lv_astore C.1 C.2.1 hd (LO.pairs hl) hn rfl (fun ls hl2 => k p l e s m args below meth c α cA D H locs ls C hP hS (LO.of1 (v := .ref x) hl2 (fun w _ hw => by have hw2 : a0 = some w := Option.some.inj hw; rw [← hw2]; exact hp)))

theorem go_astoren1 {d : Nat} {own : String} {cc : ByteArray} {nL : Nat} {ret : Option FieldType} {pc q : Nat} {st : List Value} {h : AH} {Q : Option Value → AH → Prop} {a0 a1 : Option Value} {r : List (Option Value)} {x : Nat} (hd : decode cc pc = .ok (.astore_n 1, 1)) (hp : okp a0 = true) (hn : 1 < nL) (hq : pc + 1 = q) (k : Go d own cc nL ret q (a0 :: some (.ref x) :: r) st h Q) : Go d own cc nL ret pc (a0 :: a1 :: r) (.ref x :: st) h Q := by
  subst hq
  intro p l e s m args below meth c α cA D H locs ls C hP hS hl
  exact lv_astore_n C.1 C.2.1 hd rfl (LO.pairs hl) hn rfl (fun ls hl2 => k p l e s m args below meth c α cA D H locs ls C hP hS (LO.of1 (v := .ref x) hl2 (fun w _ hw => by have hw2 : a0 = some w := Option.some.inj hw; rw [← hw2]; exact hp)))

theorem go_lstore1 {d : Nat} {own : String} {cc : ByteArray} {nL : Nat} {ret : Option FieldType} {pc q : Nat} {st : List Value} {h : AH} {Q : Option Value → AH → Prop} {a0 a1 : Option Value} {b : Option Value} {r : List (Option Value)} {x : Int64} (hd : decode cc pc = .ok (.lstore 1, 2)) (hp : okp a0 = true) (hn : 1 + 1 < nL) (hq : pc + 2 = q) (k : Go d own cc nL ret q (a0 :: some (.long x) :: none :: r) st h Q) : Go d own cc nL ret pc (a0 :: a1 :: b :: r) (.long x :: st) h Q := by
  subst hq
  intro p l e s m args below meth c α cA D H locs ls C hP hS hl
  exact lv_lstore C.1 C.2.1 hd (LO.pairs hl) hn rfl (fun ls hl2 => k p l e s m args below meth c α cA D H locs ls C hP hS (LO.of2 (v := .long x) hl2 (fun w _ hw => by have hw2 : a0 = some w := Option.some.inj hw; rw [← hw2]; exact hp)))

theorem go_lstoren1 {d : Nat} {own : String} {cc : ByteArray} {nL : Nat} {ret : Option FieldType} {pc q : Nat} {st : List Value} {h : AH} {Q : Option Value → AH → Prop} {a0 a1 : Option Value} {b : Option Value} {r : List (Option Value)} {x : Int64} (hd : decode cc pc = .ok (.lstore_n 1, 1)) (hp : okp a0 = true) (hn : 1 + 1 < nL) (hq : pc + 1 = q) (k : Go d own cc nL ret q (a0 :: some (.long x) :: none :: r) st h Q) : Go d own cc nL ret pc (a0 :: a1 :: b :: r) (.long x :: st) h Q := by
  subst hq
  intro p l e s m args below meth c α cA D H locs ls C hP hS hl
  exact lv_lstore_n C.1 C.2.1 hd rfl (LO.pairs hl) hn rfl (fun ls hl2 => k p l e s m args below meth c α cA D H locs ls C hP hS (LO.of2 (v := .long x) hl2 (fun w _ hw => by have hw2 : a0 = some w := Option.some.inj hw; rw [← hw2]; exact hp)))

theorem go_iinc1 {d : Nat} {own : String} {cc : ByteArray} {nL : Nat} {ret : Option FieldType} {pc q : Nat} {st : List Value} {h : AH} {Q : Option Value → AH → Prop} {a0 : Option Value} {r : List (Option Value)} {x : Int32} {n : Int} (hd : decode cc pc = .ok (.iinc 1 n, 3)) (hp : okp a0 = true) (hn : 1 < nL) (hq : pc + 3 = q) (k : Go d own cc nL ret q (a0 :: some (.int (x + Int32.ofInt n)) :: r) st h Q) : Go d own cc nL ret pc (a0 :: some (.int x) :: r) st h Q := by
  subst hq
  intro p l e s m args below meth c α cA D H locs ls C hP hS hl
  obtain ⟨kk, hkk⟩ := List.getElem?_of_mem (lp_mem (lo := (a0 :: some (.int x) :: r)) (α := α) (j := 1) (w := .int x) rfl)
  exact lv_iinc C.1 C.2.1 hd (LO.pairs hl) hkk rfl hn rfl (fun ls hl2 => k p l e s m args below meth c α cA D H locs ls C hP hS (LO.of1 (v := .int (x + Int32.ofInt n)) hl2 (fun w _ hw => by have hw2 : a0 = some w := Option.some.inj hw; rw [← hw2]; exact hp)))

theorem go_iincN1 {d : Nat} {own : String} {cc : ByteArray} {nL : Nat} {ret : Option FieldType} {pc q : Nat} {st : List Value} {h : AH} {Q : Option Value → AH → Prop} {a0 : Option Value} {r : List (Option Value)} {x : Nat} {n : Nat} (hd : decode cc pc = .ok (.iinc 1 (n : Nat), 3)) (hp : okp a0 = true) (hn : 1 < nL) (hq : pc + 3 = q) (k : Go d own cc nL ret q (a0 :: some (.int (nI (x + n))) :: r) st h Q) : Go d own cc nL ret pc (a0 :: some (.int (nI x)) :: r) st h Q := by
  subst hq
  intro p l e s m args below meth c α cA D H locs ls C hP hS hl
  obtain ⟨kk, hkk⟩ := List.getElem?_of_mem (lp_mem (lo := (a0 :: some (.int (nI x)) :: r)) (α := α) (j := 1) (w := .int (nI x)) rfl)
  exact lv_iinc C.1 C.2.1 hd (LO.pairs hl) hkk (nI_add x n) hn rfl (fun ls hl2 => k p l e s m args below meth c α cA D H locs ls C hP hS (LO.of1 (v := .int (nI (x + n))) hl2 (fun w _ hw => by have hw2 : a0 = some w := Option.some.inj hw; rw [← hw2]; exact hp)))

theorem go_istore2 {d : Nat} {own : String} {cc : ByteArray} {nL : Nat} {ret : Option FieldType} {pc q : Nat} {st : List Value} {h : AH} {Q : Option Value → AH → Prop} {a0 a1 a2 : Option Value} {r : List (Option Value)} {x : Int32} (hd : decode cc pc = .ok (.istore 2, 2)) (hp : okp a1 = true) (hn : 2 < nL) (hq : pc + 2 = q) (k : Go d own cc nL ret q (a0 :: a1 :: some (.int x) :: r) st h Q) : Go d own cc nL ret pc (a0 :: a1 :: a2 :: r) (.int x :: st) h Q := by
  subst hq
  intro p l e s m args below meth c α cA D H locs ls C hP hS hl
  exact lv_istore C.1 C.2.1 hd (LO.pairs hl) hn rfl (fun ls hl2 => k p l e s m args below meth c α cA D H locs ls C hP hS (LO.of1 (v := .int x) hl2 (fun w _ hw => by have hw2 : a1 = some w := Option.some.inj hw; rw [← hw2]; exact hp)))

theorem go_istoren2 {d : Nat} {own : String} {cc : ByteArray} {nL : Nat} {ret : Option FieldType} {pc q : Nat} {st : List Value} {h : AH} {Q : Option Value → AH → Prop} {a0 a1 a2 : Option Value} {r : List (Option Value)} {x : Int32} (hd : decode cc pc = .ok (.istore_n 2, 1)) (hp : okp a1 = true) (hn : 2 < nL) (hq : pc + 1 = q) (k : Go d own cc nL ret q (a0 :: a1 :: some (.int x) :: r) st h Q) : Go d own cc nL ret pc (a0 :: a1 :: a2 :: r) (.int x :: st) h Q := by
  subst hq
  intro p l e s m args below meth c α cA D H locs ls C hP hS hl
  exact lv_istore_n C.1 C.2.1 hd rfl (LO.pairs hl) hn rfl (fun ls hl2 => k p l e s m args below meth c α cA D H locs ls C hP hS (LO.of1 (v := .int x) hl2 (fun w _ hw => by have hw2 : a1 = some w := Option.some.inj hw; rw [← hw2]; exact hp)))

theorem go_astore2 {d : Nat} {own : String} {cc : ByteArray} {nL : Nat} {ret : Option FieldType} {pc q : Nat} {st : List Value} {h : AH} {Q : Option Value → AH → Prop} {a0 a1 a2 : Option Value} {r : List (Option Value)} {x : Nat} (hd : decode cc pc = .ok (.astore 2, 2)) (hp : okp a1 = true) (hn : 2 < nL) (hq : pc + 2 = q) (k : Go d own cc nL ret q (a0 :: a1 :: some (.ref x) :: r) st h Q) : Go d own cc nL ret pc (a0 :: a1 :: a2 :: r) (.ref x :: st) h Q := by
  subst hq
  intro p l e s m args below meth c α cA D H locs ls C hP hS hl
  exact lv_astore C.1 C.2.1 hd (LO.pairs hl) hn rfl (fun ls hl2 => k p l e s m args below meth c α cA D H locs ls C hP hS (LO.of1 (v := .ref x) hl2 (fun w _ hw => by have hw2 : a1 = some w := Option.some.inj hw; rw [← hw2]; exact hp)))

theorem go_astoren2 {d : Nat} {own : String} {cc : ByteArray} {nL : Nat} {ret : Option FieldType} {pc q : Nat} {st : List Value} {h : AH} {Q : Option Value → AH → Prop} {a0 a1 a2 : Option Value} {r : List (Option Value)} {x : Nat} (hd : decode cc pc = .ok (.astore_n 2, 1)) (hp : okp a1 = true) (hn : 2 < nL) (hq : pc + 1 = q) (k : Go d own cc nL ret q (a0 :: a1 :: some (.ref x) :: r) st h Q) : Go d own cc nL ret pc (a0 :: a1 :: a2 :: r) (.ref x :: st) h Q := by
  subst hq
  intro p l e s m args below meth c α cA D H locs ls C hP hS hl
  exact lv_astore_n C.1 C.2.1 hd rfl (LO.pairs hl) hn rfl (fun ls hl2 => k p l e s m args below meth c α cA D H locs ls C hP hS (LO.of1 (v := .ref x) hl2 (fun w _ hw => by have hw2 : a1 = some w := Option.some.inj hw; rw [← hw2]; exact hp)))

theorem go_lstore2 {d : Nat} {own : String} {cc : ByteArray} {nL : Nat} {ret : Option FieldType} {pc q : Nat} {st : List Value} {h : AH} {Q : Option Value → AH → Prop} {a0 a1 a2 : Option Value} {b : Option Value} {r : List (Option Value)} {x : Int64} (hd : decode cc pc = .ok (.lstore 2, 2)) (hp : okp a1 = true) (hn : 2 + 1 < nL) (hq : pc + 2 = q) (k : Go d own cc nL ret q (a0 :: a1 :: some (.long x) :: none :: r) st h Q) : Go d own cc nL ret pc (a0 :: a1 :: a2 :: b :: r) (.long x :: st) h Q := by
  subst hq
  intro p l e s m args below meth c α cA D H locs ls C hP hS hl
  exact lv_lstore C.1 C.2.1 hd (LO.pairs hl) hn rfl (fun ls hl2 => k p l e s m args below meth c α cA D H locs ls C hP hS (LO.of2 (v := .long x) hl2 (fun w _ hw => by have hw2 : a1 = some w := Option.some.inj hw; rw [← hw2]; exact hp)))

theorem go_lstoren2 {d : Nat} {own : String} {cc : ByteArray} {nL : Nat} {ret : Option FieldType} {pc q : Nat} {st : List Value} {h : AH} {Q : Option Value → AH → Prop} {a0 a1 a2 : Option Value} {b : Option Value} {r : List (Option Value)} {x : Int64} (hd : decode cc pc = .ok (.lstore_n 2, 1)) (hp : okp a1 = true) (hn : 2 + 1 < nL) (hq : pc + 1 = q) (k : Go d own cc nL ret q (a0 :: a1 :: some (.long x) :: none :: r) st h Q) : Go d own cc nL ret pc (a0 :: a1 :: a2 :: b :: r) (.long x :: st) h Q := by
  subst hq
  intro p l e s m args below meth c α cA D H locs ls C hP hS hl
  exact lv_lstore_n C.1 C.2.1 hd rfl (LO.pairs hl) hn rfl (fun ls hl2 => k p l e s m args below meth c α cA D H locs ls C hP hS (LO.of2 (v := .long x) hl2 (fun w _ hw => by have hw2 : a1 = some w := Option.some.inj hw; rw [← hw2]; exact hp)))

theorem go_iinc2 {d : Nat} {own : String} {cc : ByteArray} {nL : Nat} {ret : Option FieldType} {pc q : Nat} {st : List Value} {h : AH} {Q : Option Value → AH → Prop} {a0 a1 : Option Value} {r : List (Option Value)} {x : Int32} {n : Int} (hd : decode cc pc = .ok (.iinc 2 n, 3)) (hp : okp a1 = true) (hn : 2 < nL) (hq : pc + 3 = q) (k : Go d own cc nL ret q (a0 :: a1 :: some (.int (x + Int32.ofInt n)) :: r) st h Q) : Go d own cc nL ret pc (a0 :: a1 :: some (.int x) :: r) st h Q := by
  subst hq
  intro p l e s m args below meth c α cA D H locs ls C hP hS hl
  obtain ⟨kk, hkk⟩ := List.getElem?_of_mem (lp_mem (lo := (a0 :: a1 :: some (.int x) :: r)) (α := α) (j := 2) (w := .int x) rfl)
  exact lv_iinc C.1 C.2.1 hd (LO.pairs hl) hkk rfl hn rfl (fun ls hl2 => k p l e s m args below meth c α cA D H locs ls C hP hS (LO.of1 (v := .int (x + Int32.ofInt n)) hl2 (fun w _ hw => by have hw2 : a1 = some w := Option.some.inj hw; rw [← hw2]; exact hp)))

theorem go_iincN2 {d : Nat} {own : String} {cc : ByteArray} {nL : Nat} {ret : Option FieldType} {pc q : Nat} {st : List Value} {h : AH} {Q : Option Value → AH → Prop} {a0 a1 : Option Value} {r : List (Option Value)} {x : Nat} {n : Nat} (hd : decode cc pc = .ok (.iinc 2 (n : Nat), 3)) (hp : okp a1 = true) (hn : 2 < nL) (hq : pc + 3 = q) (k : Go d own cc nL ret q (a0 :: a1 :: some (.int (nI (x + n))) :: r) st h Q) : Go d own cc nL ret pc (a0 :: a1 :: some (.int (nI x)) :: r) st h Q := by
  subst hq
  intro p l e s m args below meth c α cA D H locs ls C hP hS hl
  obtain ⟨kk, hkk⟩ := List.getElem?_of_mem (lp_mem (lo := (a0 :: a1 :: some (.int (nI x)) :: r)) (α := α) (j := 2) (w := .int (nI x)) rfl)
  exact lv_iinc C.1 C.2.1 hd (LO.pairs hl) hkk (nI_add x n) hn rfl (fun ls hl2 => k p l e s m args below meth c α cA D H locs ls C hP hS (LO.of1 (v := .int (nI (x + n))) hl2 (fun w _ hw => by have hw2 : a1 = some w := Option.some.inj hw; rw [← hw2]; exact hp)))

theorem go_istore3 {d : Nat} {own : String} {cc : ByteArray} {nL : Nat} {ret : Option FieldType} {pc q : Nat} {st : List Value} {h : AH} {Q : Option Value → AH → Prop} {a0 a1 a2 a3 : Option Value} {r : List (Option Value)} {x : Int32} (hd : decode cc pc = .ok (.istore 3, 2)) (hp : okp a2 = true) (hn : 3 < nL) (hq : pc + 2 = q) (k : Go d own cc nL ret q (a0 :: a1 :: a2 :: some (.int x) :: r) st h Q) : Go d own cc nL ret pc (a0 :: a1 :: a2 :: a3 :: r) (.int x :: st) h Q := by
  subst hq
  intro p l e s m args below meth c α cA D H locs ls C hP hS hl
  exact lv_istore C.1 C.2.1 hd (LO.pairs hl) hn rfl (fun ls hl2 => k p l e s m args below meth c α cA D H locs ls C hP hS (LO.of1 (v := .int x) hl2 (fun w _ hw => by have hw2 : a2 = some w := Option.some.inj hw; rw [← hw2]; exact hp)))

theorem go_istoren3 {d : Nat} {own : String} {cc : ByteArray} {nL : Nat} {ret : Option FieldType} {pc q : Nat} {st : List Value} {h : AH} {Q : Option Value → AH → Prop} {a0 a1 a2 a3 : Option Value} {r : List (Option Value)} {x : Int32} (hd : decode cc pc = .ok (.istore_n 3, 1)) (hp : okp a2 = true) (hn : 3 < nL) (hq : pc + 1 = q) (k : Go d own cc nL ret q (a0 :: a1 :: a2 :: some (.int x) :: r) st h Q) : Go d own cc nL ret pc (a0 :: a1 :: a2 :: a3 :: r) (.int x :: st) h Q := by
  subst hq
  intro p l e s m args below meth c α cA D H locs ls C hP hS hl
  exact lv_istore_n C.1 C.2.1 hd rfl (LO.pairs hl) hn rfl (fun ls hl2 => k p l e s m args below meth c α cA D H locs ls C hP hS (LO.of1 (v := .int x) hl2 (fun w _ hw => by have hw2 : a2 = some w := Option.some.inj hw; rw [← hw2]; exact hp)))

theorem go_astore3 {d : Nat} {own : String} {cc : ByteArray} {nL : Nat} {ret : Option FieldType} {pc q : Nat} {st : List Value} {h : AH} {Q : Option Value → AH → Prop} {a0 a1 a2 a3 : Option Value} {r : List (Option Value)} {x : Nat} (hd : decode cc pc = .ok (.astore 3, 2)) (hp : okp a2 = true) (hn : 3 < nL) (hq : pc + 2 = q) (k : Go d own cc nL ret q (a0 :: a1 :: a2 :: some (.ref x) :: r) st h Q) : Go d own cc nL ret pc (a0 :: a1 :: a2 :: a3 :: r) (.ref x :: st) h Q := by
  subst hq
  intro p l e s m args below meth c α cA D H locs ls C hP hS hl
  exact lv_astore C.1 C.2.1 hd (LO.pairs hl) hn rfl (fun ls hl2 => k p l e s m args below meth c α cA D H locs ls C hP hS (LO.of1 (v := .ref x) hl2 (fun w _ hw => by have hw2 : a2 = some w := Option.some.inj hw; rw [← hw2]; exact hp)))

theorem go_astoren3 {d : Nat} {own : String} {cc : ByteArray} {nL : Nat} {ret : Option FieldType} {pc q : Nat} {st : List Value} {h : AH} {Q : Option Value → AH → Prop} {a0 a1 a2 a3 : Option Value} {r : List (Option Value)} {x : Nat} (hd : decode cc pc = .ok (.astore_n 3, 1)) (hp : okp a2 = true) (hn : 3 < nL) (hq : pc + 1 = q) (k : Go d own cc nL ret q (a0 :: a1 :: a2 :: some (.ref x) :: r) st h Q) : Go d own cc nL ret pc (a0 :: a1 :: a2 :: a3 :: r) (.ref x :: st) h Q := by
  subst hq
  intro p l e s m args below meth c α cA D H locs ls C hP hS hl
  exact lv_astore_n C.1 C.2.1 hd rfl (LO.pairs hl) hn rfl (fun ls hl2 => k p l e s m args below meth c α cA D H locs ls C hP hS (LO.of1 (v := .ref x) hl2 (fun w _ hw => by have hw2 : a2 = some w := Option.some.inj hw; rw [← hw2]; exact hp)))

theorem go_lstore3 {d : Nat} {own : String} {cc : ByteArray} {nL : Nat} {ret : Option FieldType} {pc q : Nat} {st : List Value} {h : AH} {Q : Option Value → AH → Prop} {a0 a1 a2 a3 : Option Value} {b : Option Value} {r : List (Option Value)} {x : Int64} (hd : decode cc pc = .ok (.lstore 3, 2)) (hp : okp a2 = true) (hn : 3 + 1 < nL) (hq : pc + 2 = q) (k : Go d own cc nL ret q (a0 :: a1 :: a2 :: some (.long x) :: none :: r) st h Q) : Go d own cc nL ret pc (a0 :: a1 :: a2 :: a3 :: b :: r) (.long x :: st) h Q := by
  subst hq
  intro p l e s m args below meth c α cA D H locs ls C hP hS hl
  exact lv_lstore C.1 C.2.1 hd (LO.pairs hl) hn rfl (fun ls hl2 => k p l e s m args below meth c α cA D H locs ls C hP hS (LO.of2 (v := .long x) hl2 (fun w _ hw => by have hw2 : a2 = some w := Option.some.inj hw; rw [← hw2]; exact hp)))

theorem go_lstoren3 {d : Nat} {own : String} {cc : ByteArray} {nL : Nat} {ret : Option FieldType} {pc q : Nat} {st : List Value} {h : AH} {Q : Option Value → AH → Prop} {a0 a1 a2 a3 : Option Value} {b : Option Value} {r : List (Option Value)} {x : Int64} (hd : decode cc pc = .ok (.lstore_n 3, 1)) (hp : okp a2 = true) (hn : 3 + 1 < nL) (hq : pc + 1 = q) (k : Go d own cc nL ret q (a0 :: a1 :: a2 :: some (.long x) :: none :: r) st h Q) : Go d own cc nL ret pc (a0 :: a1 :: a2 :: a3 :: b :: r) (.long x :: st) h Q := by
  subst hq
  intro p l e s m args below meth c α cA D H locs ls C hP hS hl
  exact lv_lstore_n C.1 C.2.1 hd rfl (LO.pairs hl) hn rfl (fun ls hl2 => k p l e s m args below meth c α cA D H locs ls C hP hS (LO.of2 (v := .long x) hl2 (fun w _ hw => by have hw2 : a2 = some w := Option.some.inj hw; rw [← hw2]; exact hp)))

theorem go_iinc3 {d : Nat} {own : String} {cc : ByteArray} {nL : Nat} {ret : Option FieldType} {pc q : Nat} {st : List Value} {h : AH} {Q : Option Value → AH → Prop} {a0 a1 a2 : Option Value} {r : List (Option Value)} {x : Int32} {n : Int} (hd : decode cc pc = .ok (.iinc 3 n, 3)) (hp : okp a2 = true) (hn : 3 < nL) (hq : pc + 3 = q) (k : Go d own cc nL ret q (a0 :: a1 :: a2 :: some (.int (x + Int32.ofInt n)) :: r) st h Q) : Go d own cc nL ret pc (a0 :: a1 :: a2 :: some (.int x) :: r) st h Q := by
  subst hq
  intro p l e s m args below meth c α cA D H locs ls C hP hS hl
  obtain ⟨kk, hkk⟩ := List.getElem?_of_mem (lp_mem (lo := (a0 :: a1 :: a2 :: some (.int x) :: r)) (α := α) (j := 3) (w := .int x) rfl)
  exact lv_iinc C.1 C.2.1 hd (LO.pairs hl) hkk rfl hn rfl (fun ls hl2 => k p l e s m args below meth c α cA D H locs ls C hP hS (LO.of1 (v := .int (x + Int32.ofInt n)) hl2 (fun w _ hw => by have hw2 : a2 = some w := Option.some.inj hw; rw [← hw2]; exact hp)))

theorem go_iincN3 {d : Nat} {own : String} {cc : ByteArray} {nL : Nat} {ret : Option FieldType} {pc q : Nat} {st : List Value} {h : AH} {Q : Option Value → AH → Prop} {a0 a1 a2 : Option Value} {r : List (Option Value)} {x : Nat} {n : Nat} (hd : decode cc pc = .ok (.iinc 3 (n : Nat), 3)) (hp : okp a2 = true) (hn : 3 < nL) (hq : pc + 3 = q) (k : Go d own cc nL ret q (a0 :: a1 :: a2 :: some (.int (nI (x + n))) :: r) st h Q) : Go d own cc nL ret pc (a0 :: a1 :: a2 :: some (.int (nI x)) :: r) st h Q := by
  subst hq
  intro p l e s m args below meth c α cA D H locs ls C hP hS hl
  obtain ⟨kk, hkk⟩ := List.getElem?_of_mem (lp_mem (lo := (a0 :: a1 :: a2 :: some (.int (nI x)) :: r)) (α := α) (j := 3) (w := .int (nI x)) rfl)
  exact lv_iinc C.1 C.2.1 hd (LO.pairs hl) hkk (nI_add x n) hn rfl (fun ls hl2 => k p l e s m args below meth c α cA D H locs ls C hP hS (LO.of1 (v := .int (nI (x + n))) hl2 (fun w _ hw => by have hw2 : a2 = some w := Option.some.inj hw; rw [← hw2]; exact hp)))

theorem go_istore4 {d : Nat} {own : String} {cc : ByteArray} {nL : Nat} {ret : Option FieldType} {pc q : Nat} {st : List Value} {h : AH} {Q : Option Value → AH → Prop} {a0 a1 a2 a3 a4 : Option Value} {r : List (Option Value)} {x : Int32} (hd : decode cc pc = .ok (.istore 4, 2)) (hp : okp a3 = true) (hn : 4 < nL) (hq : pc + 2 = q) (k : Go d own cc nL ret q (a0 :: a1 :: a2 :: a3 :: some (.int x) :: r) st h Q) : Go d own cc nL ret pc (a0 :: a1 :: a2 :: a3 :: a4 :: r) (.int x :: st) h Q := by
  subst hq
  intro p l e s m args below meth c α cA D H locs ls C hP hS hl
  exact lv_istore C.1 C.2.1 hd (LO.pairs hl) hn rfl (fun ls hl2 => k p l e s m args below meth c α cA D H locs ls C hP hS (LO.of1 (v := .int x) hl2 (fun w _ hw => by have hw2 : a3 = some w := Option.some.inj hw; rw [← hw2]; exact hp)))

theorem go_astore4 {d : Nat} {own : String} {cc : ByteArray} {nL : Nat} {ret : Option FieldType} {pc q : Nat} {st : List Value} {h : AH} {Q : Option Value → AH → Prop} {a0 a1 a2 a3 a4 : Option Value} {r : List (Option Value)} {x : Nat} (hd : decode cc pc = .ok (.astore 4, 2)) (hp : okp a3 = true) (hn : 4 < nL) (hq : pc + 2 = q) (k : Go d own cc nL ret q (a0 :: a1 :: a2 :: a3 :: some (.ref x) :: r) st h Q) : Go d own cc nL ret pc (a0 :: a1 :: a2 :: a3 :: a4 :: r) (.ref x :: st) h Q := by
  subst hq
  intro p l e s m args below meth c α cA D H locs ls C hP hS hl
  exact lv_astore C.1 C.2.1 hd (LO.pairs hl) hn rfl (fun ls hl2 => k p l e s m args below meth c α cA D H locs ls C hP hS (LO.of1 (v := .ref x) hl2 (fun w _ hw => by have hw2 : a3 = some w := Option.some.inj hw; rw [← hw2]; exact hp)))

theorem go_lstore4 {d : Nat} {own : String} {cc : ByteArray} {nL : Nat} {ret : Option FieldType} {pc q : Nat} {st : List Value} {h : AH} {Q : Option Value → AH → Prop} {a0 a1 a2 a3 a4 : Option Value} {b : Option Value} {r : List (Option Value)} {x : Int64} (hd : decode cc pc = .ok (.lstore 4, 2)) (hp : okp a3 = true) (hn : 4 + 1 < nL) (hq : pc + 2 = q) (k : Go d own cc nL ret q (a0 :: a1 :: a2 :: a3 :: some (.long x) :: none :: r) st h Q) : Go d own cc nL ret pc (a0 :: a1 :: a2 :: a3 :: a4 :: b :: r) (.long x :: st) h Q := by
  subst hq
  intro p l e s m args below meth c α cA D H locs ls C hP hS hl
  exact lv_lstore C.1 C.2.1 hd (LO.pairs hl) hn rfl (fun ls hl2 => k p l e s m args below meth c α cA D H locs ls C hP hS (LO.of2 (v := .long x) hl2 (fun w _ hw => by have hw2 : a3 = some w := Option.some.inj hw; rw [← hw2]; exact hp)))

theorem go_iinc4 {d : Nat} {own : String} {cc : ByteArray} {nL : Nat} {ret : Option FieldType} {pc q : Nat} {st : List Value} {h : AH} {Q : Option Value → AH → Prop} {a0 a1 a2 a3 : Option Value} {r : List (Option Value)} {x : Int32} {n : Int} (hd : decode cc pc = .ok (.iinc 4 n, 3)) (hp : okp a3 = true) (hn : 4 < nL) (hq : pc + 3 = q) (k : Go d own cc nL ret q (a0 :: a1 :: a2 :: a3 :: some (.int (x + Int32.ofInt n)) :: r) st h Q) : Go d own cc nL ret pc (a0 :: a1 :: a2 :: a3 :: some (.int x) :: r) st h Q := by
  subst hq
  intro p l e s m args below meth c α cA D H locs ls C hP hS hl
  obtain ⟨kk, hkk⟩ := List.getElem?_of_mem (lp_mem (lo := (a0 :: a1 :: a2 :: a3 :: some (.int x) :: r)) (α := α) (j := 4) (w := .int x) rfl)
  exact lv_iinc C.1 C.2.1 hd (LO.pairs hl) hkk rfl hn rfl (fun ls hl2 => k p l e s m args below meth c α cA D H locs ls C hP hS (LO.of1 (v := .int (x + Int32.ofInt n)) hl2 (fun w _ hw => by have hw2 : a3 = some w := Option.some.inj hw; rw [← hw2]; exact hp)))

theorem go_iincN4 {d : Nat} {own : String} {cc : ByteArray} {nL : Nat} {ret : Option FieldType} {pc q : Nat} {st : List Value} {h : AH} {Q : Option Value → AH → Prop} {a0 a1 a2 a3 : Option Value} {r : List (Option Value)} {x : Nat} {n : Nat} (hd : decode cc pc = .ok (.iinc 4 (n : Nat), 3)) (hp : okp a3 = true) (hn : 4 < nL) (hq : pc + 3 = q) (k : Go d own cc nL ret q (a0 :: a1 :: a2 :: a3 :: some (.int (nI (x + n))) :: r) st h Q) : Go d own cc nL ret pc (a0 :: a1 :: a2 :: a3 :: some (.int (nI x)) :: r) st h Q := by
  subst hq
  intro p l e s m args below meth c α cA D H locs ls C hP hS hl
  obtain ⟨kk, hkk⟩ := List.getElem?_of_mem (lp_mem (lo := (a0 :: a1 :: a2 :: a3 :: some (.int (nI x)) :: r)) (α := α) (j := 4) (w := .int (nI x)) rfl)
  exact lv_iinc C.1 C.2.1 hd (LO.pairs hl) hkk (nI_add x n) hn rfl (fun ls hl2 => k p l e s m args below meth c α cA D H locs ls C hP hS (LO.of1 (v := .int (nI (x + n))) hl2 (fun w _ hw => by have hw2 : a3 = some w := Option.some.inj hw; rw [← hw2]; exact hp)))

theorem go_istore5 {d : Nat} {own : String} {cc : ByteArray} {nL : Nat} {ret : Option FieldType} {pc q : Nat} {st : List Value} {h : AH} {Q : Option Value → AH → Prop} {a0 a1 a2 a3 a4 a5 : Option Value} {r : List (Option Value)} {x : Int32} (hd : decode cc pc = .ok (.istore 5, 2)) (hp : okp a4 = true) (hn : 5 < nL) (hq : pc + 2 = q) (k : Go d own cc nL ret q (a0 :: a1 :: a2 :: a3 :: a4 :: some (.int x) :: r) st h Q) : Go d own cc nL ret pc (a0 :: a1 :: a2 :: a3 :: a4 :: a5 :: r) (.int x :: st) h Q := by
  subst hq
  intro p l e s m args below meth c α cA D H locs ls C hP hS hl
  exact lv_istore C.1 C.2.1 hd (LO.pairs hl) hn rfl (fun ls hl2 => k p l e s m args below meth c α cA D H locs ls C hP hS (LO.of1 (v := .int x) hl2 (fun w _ hw => by have hw2 : a4 = some w := Option.some.inj hw; rw [← hw2]; exact hp)))

theorem go_astore5 {d : Nat} {own : String} {cc : ByteArray} {nL : Nat} {ret : Option FieldType} {pc q : Nat} {st : List Value} {h : AH} {Q : Option Value → AH → Prop} {a0 a1 a2 a3 a4 a5 : Option Value} {r : List (Option Value)} {x : Nat} (hd : decode cc pc = .ok (.astore 5, 2)) (hp : okp a4 = true) (hn : 5 < nL) (hq : pc + 2 = q) (k : Go d own cc nL ret q (a0 :: a1 :: a2 :: a3 :: a4 :: some (.ref x) :: r) st h Q) : Go d own cc nL ret pc (a0 :: a1 :: a2 :: a3 :: a4 :: a5 :: r) (.ref x :: st) h Q := by
  subst hq
  intro p l e s m args below meth c α cA D H locs ls C hP hS hl
  exact lv_astore C.1 C.2.1 hd (LO.pairs hl) hn rfl (fun ls hl2 => k p l e s m args below meth c α cA D H locs ls C hP hS (LO.of1 (v := .ref x) hl2 (fun w _ hw => by have hw2 : a4 = some w := Option.some.inj hw; rw [← hw2]; exact hp)))

theorem go_lstore5 {d : Nat} {own : String} {cc : ByteArray} {nL : Nat} {ret : Option FieldType} {pc q : Nat} {st : List Value} {h : AH} {Q : Option Value → AH → Prop} {a0 a1 a2 a3 a4 a5 : Option Value} {b : Option Value} {r : List (Option Value)} {x : Int64} (hd : decode cc pc = .ok (.lstore 5, 2)) (hp : okp a4 = true) (hn : 5 + 1 < nL) (hq : pc + 2 = q) (k : Go d own cc nL ret q (a0 :: a1 :: a2 :: a3 :: a4 :: some (.long x) :: none :: r) st h Q) : Go d own cc nL ret pc (a0 :: a1 :: a2 :: a3 :: a4 :: a5 :: b :: r) (.long x :: st) h Q := by
  subst hq
  intro p l e s m args below meth c α cA D H locs ls C hP hS hl
  exact lv_lstore C.1 C.2.1 hd (LO.pairs hl) hn rfl (fun ls hl2 => k p l e s m args below meth c α cA D H locs ls C hP hS (LO.of2 (v := .long x) hl2 (fun w _ hw => by have hw2 : a4 = some w := Option.some.inj hw; rw [← hw2]; exact hp)))

theorem go_iinc5 {d : Nat} {own : String} {cc : ByteArray} {nL : Nat} {ret : Option FieldType} {pc q : Nat} {st : List Value} {h : AH} {Q : Option Value → AH → Prop} {a0 a1 a2 a3 a4 : Option Value} {r : List (Option Value)} {x : Int32} {n : Int} (hd : decode cc pc = .ok (.iinc 5 n, 3)) (hp : okp a4 = true) (hn : 5 < nL) (hq : pc + 3 = q) (k : Go d own cc nL ret q (a0 :: a1 :: a2 :: a3 :: a4 :: some (.int (x + Int32.ofInt n)) :: r) st h Q) : Go d own cc nL ret pc (a0 :: a1 :: a2 :: a3 :: a4 :: some (.int x) :: r) st h Q := by
  subst hq
  intro p l e s m args below meth c α cA D H locs ls C hP hS hl
  obtain ⟨kk, hkk⟩ := List.getElem?_of_mem (lp_mem (lo := (a0 :: a1 :: a2 :: a3 :: a4 :: some (.int x) :: r)) (α := α) (j := 5) (w := .int x) rfl)
  exact lv_iinc C.1 C.2.1 hd (LO.pairs hl) hkk rfl hn rfl (fun ls hl2 => k p l e s m args below meth c α cA D H locs ls C hP hS (LO.of1 (v := .int (x + Int32.ofInt n)) hl2 (fun w _ hw => by have hw2 : a4 = some w := Option.some.inj hw; rw [← hw2]; exact hp)))

theorem go_iincN5 {d : Nat} {own : String} {cc : ByteArray} {nL : Nat} {ret : Option FieldType} {pc q : Nat} {st : List Value} {h : AH} {Q : Option Value → AH → Prop} {a0 a1 a2 a3 a4 : Option Value} {r : List (Option Value)} {x : Nat} {n : Nat} (hd : decode cc pc = .ok (.iinc 5 (n : Nat), 3)) (hp : okp a4 = true) (hn : 5 < nL) (hq : pc + 3 = q) (k : Go d own cc nL ret q (a0 :: a1 :: a2 :: a3 :: a4 :: some (.int (nI (x + n))) :: r) st h Q) : Go d own cc nL ret pc (a0 :: a1 :: a2 :: a3 :: a4 :: some (.int (nI x)) :: r) st h Q := by
  subst hq
  intro p l e s m args below meth c α cA D H locs ls C hP hS hl
  obtain ⟨kk, hkk⟩ := List.getElem?_of_mem (lp_mem (lo := (a0 :: a1 :: a2 :: a3 :: a4 :: some (.int (nI x)) :: r)) (α := α) (j := 5) (w := .int (nI x)) rfl)
  exact lv_iinc C.1 C.2.1 hd (LO.pairs hl) hkk (nI_add x n) hn rfl (fun ls hl2 => k p l e s m args below meth c α cA D H locs ls C hP hS (LO.of1 (v := .int (nI (x + n))) hl2 (fun w _ hw => by have hw2 : a4 = some w := Option.some.inj hw; rw [← hw2]; exact hp)))

theorem go_istore6 {d : Nat} {own : String} {cc : ByteArray} {nL : Nat} {ret : Option FieldType} {pc q : Nat} {st : List Value} {h : AH} {Q : Option Value → AH → Prop} {a0 a1 a2 a3 a4 a5 a6 : Option Value} {r : List (Option Value)} {x : Int32} (hd : decode cc pc = .ok (.istore 6, 2)) (hp : okp a5 = true) (hn : 6 < nL) (hq : pc + 2 = q) (k : Go d own cc nL ret q (a0 :: a1 :: a2 :: a3 :: a4 :: a5 :: some (.int x) :: r) st h Q) : Go d own cc nL ret pc (a0 :: a1 :: a2 :: a3 :: a4 :: a5 :: a6 :: r) (.int x :: st) h Q := by
  subst hq
  intro p l e s m args below meth c α cA D H locs ls C hP hS hl
  exact lv_istore C.1 C.2.1 hd (LO.pairs hl) hn rfl (fun ls hl2 => k p l e s m args below meth c α cA D H locs ls C hP hS (LO.of1 (v := .int x) hl2 (fun w _ hw => by have hw2 : a5 = some w := Option.some.inj hw; rw [← hw2]; exact hp)))

theorem go_astore6 {d : Nat} {own : String} {cc : ByteArray} {nL : Nat} {ret : Option FieldType} {pc q : Nat} {st : List Value} {h : AH} {Q : Option Value → AH → Prop} {a0 a1 a2 a3 a4 a5 a6 : Option Value} {r : List (Option Value)} {x : Nat} (hd : decode cc pc = .ok (.astore 6, 2)) (hp : okp a5 = true) (hn : 6 < nL) (hq : pc + 2 = q) (k : Go d own cc nL ret q (a0 :: a1 :: a2 :: a3 :: a4 :: a5 :: some (.ref x) :: r) st h Q) : Go d own cc nL ret pc (a0 :: a1 :: a2 :: a3 :: a4 :: a5 :: a6 :: r) (.ref x :: st) h Q := by
  subst hq
  intro p l e s m args below meth c α cA D H locs ls C hP hS hl
  exact lv_astore C.1 C.2.1 hd (LO.pairs hl) hn rfl (fun ls hl2 => k p l e s m args below meth c α cA D H locs ls C hP hS (LO.of1 (v := .ref x) hl2 (fun w _ hw => by have hw2 : a5 = some w := Option.some.inj hw; rw [← hw2]; exact hp)))

theorem go_lstore6 {d : Nat} {own : String} {cc : ByteArray} {nL : Nat} {ret : Option FieldType} {pc q : Nat} {st : List Value} {h : AH} {Q : Option Value → AH → Prop} {a0 a1 a2 a3 a4 a5 a6 : Option Value} {b : Option Value} {r : List (Option Value)} {x : Int64} (hd : decode cc pc = .ok (.lstore 6, 2)) (hp : okp a5 = true) (hn : 6 + 1 < nL) (hq : pc + 2 = q) (k : Go d own cc nL ret q (a0 :: a1 :: a2 :: a3 :: a4 :: a5 :: some (.long x) :: none :: r) st h Q) : Go d own cc nL ret pc (a0 :: a1 :: a2 :: a3 :: a4 :: a5 :: a6 :: b :: r) (.long x :: st) h Q := by
  subst hq
  intro p l e s m args below meth c α cA D H locs ls C hP hS hl
  exact lv_lstore C.1 C.2.1 hd (LO.pairs hl) hn rfl (fun ls hl2 => k p l e s m args below meth c α cA D H locs ls C hP hS (LO.of2 (v := .long x) hl2 (fun w _ hw => by have hw2 : a5 = some w := Option.some.inj hw; rw [← hw2]; exact hp)))

theorem go_iinc6 {d : Nat} {own : String} {cc : ByteArray} {nL : Nat} {ret : Option FieldType} {pc q : Nat} {st : List Value} {h : AH} {Q : Option Value → AH → Prop} {a0 a1 a2 a3 a4 a5 : Option Value} {r : List (Option Value)} {x : Int32} {n : Int} (hd : decode cc pc = .ok (.iinc 6 n, 3)) (hp : okp a5 = true) (hn : 6 < nL) (hq : pc + 3 = q) (k : Go d own cc nL ret q (a0 :: a1 :: a2 :: a3 :: a4 :: a5 :: some (.int (x + Int32.ofInt n)) :: r) st h Q) : Go d own cc nL ret pc (a0 :: a1 :: a2 :: a3 :: a4 :: a5 :: some (.int x) :: r) st h Q := by
  subst hq
  intro p l e s m args below meth c α cA D H locs ls C hP hS hl
  obtain ⟨kk, hkk⟩ := List.getElem?_of_mem (lp_mem (lo := (a0 :: a1 :: a2 :: a3 :: a4 :: a5 :: some (.int x) :: r)) (α := α) (j := 6) (w := .int x) rfl)
  exact lv_iinc C.1 C.2.1 hd (LO.pairs hl) hkk rfl hn rfl (fun ls hl2 => k p l e s m args below meth c α cA D H locs ls C hP hS (LO.of1 (v := .int (x + Int32.ofInt n)) hl2 (fun w _ hw => by have hw2 : a5 = some w := Option.some.inj hw; rw [← hw2]; exact hp)))

theorem go_iincN6 {d : Nat} {own : String} {cc : ByteArray} {nL : Nat} {ret : Option FieldType} {pc q : Nat} {st : List Value} {h : AH} {Q : Option Value → AH → Prop} {a0 a1 a2 a3 a4 a5 : Option Value} {r : List (Option Value)} {x : Nat} {n : Nat} (hd : decode cc pc = .ok (.iinc 6 (n : Nat), 3)) (hp : okp a5 = true) (hn : 6 < nL) (hq : pc + 3 = q) (k : Go d own cc nL ret q (a0 :: a1 :: a2 :: a3 :: a4 :: a5 :: some (.int (nI (x + n))) :: r) st h Q) : Go d own cc nL ret pc (a0 :: a1 :: a2 :: a3 :: a4 :: a5 :: some (.int (nI x)) :: r) st h Q := by
  subst hq
  intro p l e s m args below meth c α cA D H locs ls C hP hS hl
  obtain ⟨kk, hkk⟩ := List.getElem?_of_mem (lp_mem (lo := (a0 :: a1 :: a2 :: a3 :: a4 :: a5 :: some (.int (nI x)) :: r)) (α := α) (j := 6) (w := .int (nI x)) rfl)
  exact lv_iinc C.1 C.2.1 hd (LO.pairs hl) hkk (nI_add x n) hn rfl (fun ls hl2 => k p l e s m args below meth c α cA D H locs ls C hP hS (LO.of1 (v := .int (nI (x + n))) hl2 (fun w _ hw => by have hw2 : a5 = some w := Option.some.inj hw; rw [← hw2]; exact hp)))

theorem go_istore7 {d : Nat} {own : String} {cc : ByteArray} {nL : Nat} {ret : Option FieldType} {pc q : Nat} {st : List Value} {h : AH} {Q : Option Value → AH → Prop} {a0 a1 a2 a3 a4 a5 a6 a7 : Option Value} {r : List (Option Value)} {x : Int32} (hd : decode cc pc = .ok (.istore 7, 2)) (hp : okp a6 = true) (hn : 7 < nL) (hq : pc + 2 = q) (k : Go d own cc nL ret q (a0 :: a1 :: a2 :: a3 :: a4 :: a5 :: a6 :: some (.int x) :: r) st h Q) : Go d own cc nL ret pc (a0 :: a1 :: a2 :: a3 :: a4 :: a5 :: a6 :: a7 :: r) (.int x :: st) h Q := by
  subst hq
  intro p l e s m args below meth c α cA D H locs ls C hP hS hl
  exact lv_istore C.1 C.2.1 hd (LO.pairs hl) hn rfl (fun ls hl2 => k p l e s m args below meth c α cA D H locs ls C hP hS (LO.of1 (v := .int x) hl2 (fun w _ hw => by have hw2 : a6 = some w := Option.some.inj hw; rw [← hw2]; exact hp)))

theorem go_astore7 {d : Nat} {own : String} {cc : ByteArray} {nL : Nat} {ret : Option FieldType} {pc q : Nat} {st : List Value} {h : AH} {Q : Option Value → AH → Prop} {a0 a1 a2 a3 a4 a5 a6 a7 : Option Value} {r : List (Option Value)} {x : Nat} (hd : decode cc pc = .ok (.astore 7, 2)) (hp : okp a6 = true) (hn : 7 < nL) (hq : pc + 2 = q) (k : Go d own cc nL ret q (a0 :: a1 :: a2 :: a3 :: a4 :: a5 :: a6 :: some (.ref x) :: r) st h Q) : Go d own cc nL ret pc (a0 :: a1 :: a2 :: a3 :: a4 :: a5 :: a6 :: a7 :: r) (.ref x :: st) h Q := by
  subst hq
  intro p l e s m args below meth c α cA D H locs ls C hP hS hl
  exact lv_astore C.1 C.2.1 hd (LO.pairs hl) hn rfl (fun ls hl2 => k p l e s m args below meth c α cA D H locs ls C hP hS (LO.of1 (v := .ref x) hl2 (fun w _ hw => by have hw2 : a6 = some w := Option.some.inj hw; rw [← hw2]; exact hp)))

theorem go_lstore7 {d : Nat} {own : String} {cc : ByteArray} {nL : Nat} {ret : Option FieldType} {pc q : Nat} {st : List Value} {h : AH} {Q : Option Value → AH → Prop} {a0 a1 a2 a3 a4 a5 a6 a7 : Option Value} {b : Option Value} {r : List (Option Value)} {x : Int64} (hd : decode cc pc = .ok (.lstore 7, 2)) (hp : okp a6 = true) (hn : 7 + 1 < nL) (hq : pc + 2 = q) (k : Go d own cc nL ret q (a0 :: a1 :: a2 :: a3 :: a4 :: a5 :: a6 :: some (.long x) :: none :: r) st h Q) : Go d own cc nL ret pc (a0 :: a1 :: a2 :: a3 :: a4 :: a5 :: a6 :: a7 :: b :: r) (.long x :: st) h Q := by
  subst hq
  intro p l e s m args below meth c α cA D H locs ls C hP hS hl
  exact lv_lstore C.1 C.2.1 hd (LO.pairs hl) hn rfl (fun ls hl2 => k p l e s m args below meth c α cA D H locs ls C hP hS (LO.of2 (v := .long x) hl2 (fun w _ hw => by have hw2 : a6 = some w := Option.some.inj hw; rw [← hw2]; exact hp)))

theorem go_iinc7 {d : Nat} {own : String} {cc : ByteArray} {nL : Nat} {ret : Option FieldType} {pc q : Nat} {st : List Value} {h : AH} {Q : Option Value → AH → Prop} {a0 a1 a2 a3 a4 a5 a6 : Option Value} {r : List (Option Value)} {x : Int32} {n : Int} (hd : decode cc pc = .ok (.iinc 7 n, 3)) (hp : okp a6 = true) (hn : 7 < nL) (hq : pc + 3 = q) (k : Go d own cc nL ret q (a0 :: a1 :: a2 :: a3 :: a4 :: a5 :: a6 :: some (.int (x + Int32.ofInt n)) :: r) st h Q) : Go d own cc nL ret pc (a0 :: a1 :: a2 :: a3 :: a4 :: a5 :: a6 :: some (.int x) :: r) st h Q := by
  subst hq
  intro p l e s m args below meth c α cA D H locs ls C hP hS hl
  obtain ⟨kk, hkk⟩ := List.getElem?_of_mem (lp_mem (lo := (a0 :: a1 :: a2 :: a3 :: a4 :: a5 :: a6 :: some (.int x) :: r)) (α := α) (j := 7) (w := .int x) rfl)
  exact lv_iinc C.1 C.2.1 hd (LO.pairs hl) hkk rfl hn rfl (fun ls hl2 => k p l e s m args below meth c α cA D H locs ls C hP hS (LO.of1 (v := .int (x + Int32.ofInt n)) hl2 (fun w _ hw => by have hw2 : a6 = some w := Option.some.inj hw; rw [← hw2]; exact hp)))

theorem go_iincN7 {d : Nat} {own : String} {cc : ByteArray} {nL : Nat} {ret : Option FieldType} {pc q : Nat} {st : List Value} {h : AH} {Q : Option Value → AH → Prop} {a0 a1 a2 a3 a4 a5 a6 : Option Value} {r : List (Option Value)} {x : Nat} {n : Nat} (hd : decode cc pc = .ok (.iinc 7 (n : Nat), 3)) (hp : okp a6 = true) (hn : 7 < nL) (hq : pc + 3 = q) (k : Go d own cc nL ret q (a0 :: a1 :: a2 :: a3 :: a4 :: a5 :: a6 :: some (.int (nI (x + n))) :: r) st h Q) : Go d own cc nL ret pc (a0 :: a1 :: a2 :: a3 :: a4 :: a5 :: a6 :: some (.int (nI x)) :: r) st h Q := by
  subst hq
  intro p l e s m args below meth c α cA D H locs ls C hP hS hl
  obtain ⟨kk, hkk⟩ := List.getElem?_of_mem (lp_mem (lo := (a0 :: a1 :: a2 :: a3 :: a4 :: a5 :: a6 :: some (.int (nI x)) :: r)) (α := α) (j := 7) (w := .int (nI x)) rfl)
  exact lv_iinc C.1 C.2.1 hd (LO.pairs hl) hkk (nI_add x n) hn rfl (fun ls hl2 => k p l e s m args below meth c α cA D H locs ls C hP hS (LO.of1 (v := .int (nI (x + n))) hl2 (fun w _ hw => by have hw2 : a6 = some w := Option.some.inj hw; rw [← hw2]; exact hp)))

theorem go_istore8 {d : Nat} {own : String} {cc : ByteArray} {nL : Nat} {ret : Option FieldType} {pc q : Nat} {st : List Value} {h : AH} {Q : Option Value → AH → Prop} {a0 a1 a2 a3 a4 a5 a6 a7 a8 : Option Value} {r : List (Option Value)} {x : Int32} (hd : decode cc pc = .ok (.istore 8, 2)) (hp : okp a7 = true) (hn : 8 < nL) (hq : pc + 2 = q) (k : Go d own cc nL ret q (a0 :: a1 :: a2 :: a3 :: a4 :: a5 :: a6 :: a7 :: some (.int x) :: r) st h Q) : Go d own cc nL ret pc (a0 :: a1 :: a2 :: a3 :: a4 :: a5 :: a6 :: a7 :: a8 :: r) (.int x :: st) h Q := by
  subst hq
  intro p l e s m args below meth c α cA D H locs ls C hP hS hl
  exact lv_istore C.1 C.2.1 hd (LO.pairs hl) hn rfl (fun ls hl2 => k p l e s m args below meth c α cA D H locs ls C hP hS (LO.of1 (v := .int x) hl2 (fun w _ hw => by have hw2 : a7 = some w := Option.some.inj hw; rw [← hw2]; exact hp)))

theorem go_astore8 {d : Nat} {own : String} {cc : ByteArray} {nL : Nat} {ret : Option FieldType} {pc q : Nat} {st : List Value} {h : AH} {Q : Option Value → AH → Prop} {a0 a1 a2 a3 a4 a5 a6 a7 a8 : Option Value} {r : List (Option Value)} {x : Nat} (hd : decode cc pc = .ok (.astore 8, 2)) (hp : okp a7 = true) (hn : 8 < nL) (hq : pc + 2 = q) (k : Go d own cc nL ret q (a0 :: a1 :: a2 :: a3 :: a4 :: a5 :: a6 :: a7 :: some (.ref x) :: r) st h Q) : Go d own cc nL ret pc (a0 :: a1 :: a2 :: a3 :: a4 :: a5 :: a6 :: a7 :: a8 :: r) (.ref x :: st) h Q := by
  subst hq
  intro p l e s m args below meth c α cA D H locs ls C hP hS hl
  exact lv_astore C.1 C.2.1 hd (LO.pairs hl) hn rfl (fun ls hl2 => k p l e s m args below meth c α cA D H locs ls C hP hS (LO.of1 (v := .ref x) hl2 (fun w _ hw => by have hw2 : a7 = some w := Option.some.inj hw; rw [← hw2]; exact hp)))

theorem go_lstore8 {d : Nat} {own : String} {cc : ByteArray} {nL : Nat} {ret : Option FieldType} {pc q : Nat} {st : List Value} {h : AH} {Q : Option Value → AH → Prop} {a0 a1 a2 a3 a4 a5 a6 a7 a8 : Option Value} {b : Option Value} {r : List (Option Value)} {x : Int64} (hd : decode cc pc = .ok (.lstore 8, 2)) (hp : okp a7 = true) (hn : 8 + 1 < nL) (hq : pc + 2 = q) (k : Go d own cc nL ret q (a0 :: a1 :: a2 :: a3 :: a4 :: a5 :: a6 :: a7 :: some (.long x) :: none :: r) st h Q) : Go d own cc nL ret pc (a0 :: a1 :: a2 :: a3 :: a4 :: a5 :: a6 :: a7 :: a8 :: b :: r) (.long x :: st) h Q := by
  subst hq
  intro p l e s m args below meth c α cA D H locs ls C hP hS hl
  exact lv_lstore C.1 C.2.1 hd (LO.pairs hl) hn rfl (fun ls hl2 => k p l e s m args below meth c α cA D H locs ls C hP hS (LO.of2 (v := .long x) hl2 (fun w _ hw => by have hw2 : a7 = some w := Option.some.inj hw; rw [← hw2]; exact hp)))

theorem go_iinc8 {d : Nat} {own : String} {cc : ByteArray} {nL : Nat} {ret : Option FieldType} {pc q : Nat} {st : List Value} {h : AH} {Q : Option Value → AH → Prop} {a0 a1 a2 a3 a4 a5 a6 a7 : Option Value} {r : List (Option Value)} {x : Int32} {n : Int} (hd : decode cc pc = .ok (.iinc 8 n, 3)) (hp : okp a7 = true) (hn : 8 < nL) (hq : pc + 3 = q) (k : Go d own cc nL ret q (a0 :: a1 :: a2 :: a3 :: a4 :: a5 :: a6 :: a7 :: some (.int (x + Int32.ofInt n)) :: r) st h Q) : Go d own cc nL ret pc (a0 :: a1 :: a2 :: a3 :: a4 :: a5 :: a6 :: a7 :: some (.int x) :: r) st h Q := by
  subst hq
  intro p l e s m args below meth c α cA D H locs ls C hP hS hl
  obtain ⟨kk, hkk⟩ := List.getElem?_of_mem (lp_mem (lo := (a0 :: a1 :: a2 :: a3 :: a4 :: a5 :: a6 :: a7 :: some (.int x) :: r)) (α := α) (j := 8) (w := .int x) rfl)
  exact lv_iinc C.1 C.2.1 hd (LO.pairs hl) hkk rfl hn rfl (fun ls hl2 => k p l e s m args below meth c α cA D H locs ls C hP hS (LO.of1 (v := .int (x + Int32.ofInt n)) hl2 (fun w _ hw => by have hw2 : a7 = some w := Option.some.inj hw; rw [← hw2]; exact hp)))

theorem go_iincN8 {d : Nat} {own : String} {cc : ByteArray} {nL : Nat} {ret : Option FieldType} {pc q : Nat} {st : List Value} {h : AH} {Q : Option Value → AH → Prop} {a0 a1 a2 a3 a4 a5 a6 a7 : Option Value} {r : List (Option Value)} {x : Nat} {n : Nat} (hd : decode cc pc = .ok (.iinc 8 (n : Nat), 3)) (hp : okp a7 = true) (hn : 8 < nL) (hq : pc + 3 = q) (k : Go d own cc nL ret q (a0 :: a1 :: a2 :: a3 :: a4 :: a5 :: a6 :: a7 :: some (.int (nI (x + n))) :: r) st h Q) : Go d own cc nL ret pc (a0 :: a1 :: a2 :: a3 :: a4 :: a5 :: a6 :: a7 :: some (.int (nI x)) :: r) st h Q := by
  subst hq
  intro p l e s m args below meth c α cA D H locs ls C hP hS hl
  obtain ⟨kk, hkk⟩ := List.getElem?_of_mem (lp_mem (lo := (a0 :: a1 :: a2 :: a3 :: a4 :: a5 :: a6 :: a7 :: some (.int (nI x)) :: r)) (α := α) (j := 8) (w := .int (nI x)) rfl)
  exact lv_iinc C.1 C.2.1 hd (LO.pairs hl) hkk (nI_add x n) hn rfl (fun ls hl2 => k p l e s m args below meth c α cA D H locs ls C hP hS (LO.of1 (v := .int (nI (x + n))) hl2 (fun w _ hw => by have hw2 : a7 = some w := Option.some.inj hw; rw [← hw2]; exact hp)))

theorem go_istore9 {d : Nat} {own : String} {cc : ByteArray} {nL : Nat} {ret : Option FieldType} {pc q : Nat} {st : List Value} {h : AH} {Q : Option Value → AH → Prop} {a0 a1 a2 a3 a4 a5 a6 a7 a8 a9 : Option Value} {r : List (Option Value)} {x : Int32} (hd : decode cc pc = .ok (.istore 9, 2)) (hp : okp a8 = true) (hn : 9 < nL) (hq : pc + 2 = q) (k : Go d own cc nL ret q (a0 :: a1 :: a2 :: a3 :: a4 :: a5 :: a6 :: a7 :: a8 :: some (.int x) :: r) st h Q) : Go d own cc nL ret pc (a0 :: a1 :: a2 :: a3 :: a4 :: a5 :: a6 :: a7 :: a8 :: a9 :: r) (.int x :: st) h Q := by
  subst hq
  intro p l e s m args below meth c α cA D H locs ls C hP hS hl
  exact lv_istore C.1 C.2.1 hd (LO.pairs hl) hn rfl (fun ls hl2 => k p l e s m args below meth c α cA D H locs ls C hP hS (LO.of1 (v := .int x) hl2 (fun w _ hw => by have hw2 : a8 = some w := Option.some.inj hw; rw [← hw2]; exact hp)))

theorem go_astore9 {d : Nat} {own : String} {cc : ByteArray} {nL : Nat} {ret : Option FieldType} {pc q : Nat} {st : List Value} {h : AH} {Q : Option Value → AH → Prop} {a0 a1 a2 a3 a4 a5 a6 a7 a8 a9 : Option Value} {r : List (Option Value)} {x : Nat} (hd : decode cc pc = .ok (.astore 9, 2)) (hp : okp a8 = true) (hn : 9 < nL) (hq : pc + 2 = q) (k : Go d own cc nL ret q (a0 :: a1 :: a2 :: a3 :: a4 :: a5 :: a6 :: a7 :: a8 :: some (.ref x) :: r) st h Q) : Go d own cc nL ret pc (a0 :: a1 :: a2 :: a3 :: a4 :: a5 :: a6 :: a7 :: a8 :: a9 :: r) (.ref x :: st) h Q := by
  subst hq
  intro p l e s m args below meth c α cA D H locs ls C hP hS hl
  exact lv_astore C.1 C.2.1 hd (LO.pairs hl) hn rfl (fun ls hl2 => k p l e s m args below meth c α cA D H locs ls C hP hS (LO.of1 (v := .ref x) hl2 (fun w _ hw => by have hw2 : a8 = some w := Option.some.inj hw; rw [← hw2]; exact hp)))

theorem go_lstore9 {d : Nat} {own : String} {cc : ByteArray} {nL : Nat} {ret : Option FieldType} {pc q : Nat} {st : List Value} {h : AH} {Q : Option Value → AH → Prop} {a0 a1 a2 a3 a4 a5 a6 a7 a8 a9 : Option Value} {b : Option Value} {r : List (Option Value)} {x : Int64} (hd : decode cc pc = .ok (.lstore 9, 2)) (hp : okp a8 = true) (hn : 9 + 1 < nL) (hq : pc + 2 = q) (k : Go d own cc nL ret q (a0 :: a1 :: a2 :: a3 :: a4 :: a5 :: a6 :: a7 :: a8 :: some (.long x) :: none :: r) st h Q) : Go d own cc nL ret pc (a0 :: a1 :: a2 :: a3 :: a4 :: a5 :: a6 :: a7 :: a8 :: a9 :: b :: r) (.long x :: st) h Q := by
  subst hq
  intro p l e s m args below meth c α cA D H locs ls C hP hS hl
  exact lv_lstore C.1 C.2.1 hd (LO.pairs hl) hn rfl (fun ls hl2 => k p l e s m args below meth c α cA D H locs ls C hP hS (LO.of2 (v := .long x) hl2 (fun w _ hw => by have hw2 : a8 = some w := Option.some.inj hw; rw [← hw2]; exact hp)))

theorem go_iinc9 {d : Nat} {own : String} {cc : ByteArray} {nL : Nat} {ret : Option FieldType} {pc q : Nat} {st : List Value} {h : AH} {Q : Option Value → AH → Prop} {a0 a1 a2 a3 a4 a5 a6 a7 a8 : Option Value} {r : List (Option Value)} {x : Int32} {n : Int} (hd : decode cc pc = .ok (.iinc 9 n, 3)) (hp : okp a8 = true) (hn : 9 < nL) (hq : pc + 3 = q) (k : Go d own cc nL ret q (a0 :: a1 :: a2 :: a3 :: a4 :: a5 :: a6 :: a7 :: a8 :: some (.int (x + Int32.ofInt n)) :: r) st h Q) : Go d own cc nL ret pc (a0 :: a1 :: a2 :: a3 :: a4 :: a5 :: a6 :: a7 :: a8 :: some (.int x) :: r) st h Q := by
  subst hq
  intro p l e s m args below meth c α cA D H locs ls C hP hS hl
  obtain ⟨kk, hkk⟩ := List.getElem?_of_mem (lp_mem (lo := (a0 :: a1 :: a2 :: a3 :: a4 :: a5 :: a6 :: a7 :: a8 :: some (.int x) :: r)) (α := α) (j := 9) (w := .int x) rfl)
  exact lv_iinc C.1 C.2.1 hd (LO.pairs hl) hkk rfl hn rfl (fun ls hl2 => k p l e s m args below meth c α cA D H locs ls C hP hS (LO.of1 (v := .int (x + Int32.ofInt n)) hl2 (fun w _ hw => by have hw2 : a8 = some w := Option.some.inj hw; rw [← hw2]; exact hp)))

theorem go_iincN9 {d : Nat} {own : String} {cc : ByteArray} {nL : Nat} {ret : Option FieldType} {pc q : Nat} {st : List Value} {h : AH} {Q : Option Value → AH → Prop} {a0 a1 a2 a3 a4 a5 a6 a7 a8 : Option Value} {r : List (Option Value)} {x : Nat} {n : Nat} (hd : decode cc pc = .ok (.iinc 9 (n : Nat), 3)) (hp : okp a8 = true) (hn : 9 < nL) (hq : pc + 3 = q) (k : Go d own cc nL ret q (a0 :: a1 :: a2 :: a3 :: a4 :: a5 :: a6 :: a7 :: a8 :: some (.int (nI (x + n))) :: r) st h Q) : Go d own cc nL ret pc (a0 :: a1 :: a2 :: a3 :: a4 :: a5 :: a6 :: a7 :: a8 :: some (.int (nI x)) :: r) st h Q := by
  subst hq
  intro p l e s m args below meth c α cA D H locs ls C hP hS hl
  obtain ⟨kk, hkk⟩ := List.getElem?_of_mem (lp_mem (lo := (a0 :: a1 :: a2 :: a3 :: a4 :: a5 :: a6 :: a7 :: a8 :: some (.int (nI x)) :: r)) (α := α) (j := 9) (w := .int (nI x)) rfl)
  exact lv_iinc C.1 C.2.1 hd (LO.pairs hl) hkk (nI_add x n) hn rfl (fun ls hl2 => k p l e s m args below meth c α cA D H locs ls C hP hS (LO.of1 (v := .int (nI (x + n))) hl2 (fun w _ hw => by have hw2 : a8 = some w := Option.some.inj hw; rw [← hw2]; exact hp)))

theorem go_istore10 {d : Nat} {own : String} {cc : ByteArray} {nL : Nat} {ret : Option FieldType} {pc q : Nat} {st : List Value} {h : AH} {Q : Option Value → AH → Prop} {a0 a1 a2 a3 a4 a5 a6 a7 a8 a9 a10 : Option Value} {r : List (Option Value)} {x : Int32} (hd : decode cc pc = .ok (.istore 10, 2)) (hp : okp a9 = true) (hn : 10 < nL) (hq : pc + 2 = q) (k : Go d own cc nL ret q (a0 :: a1 :: a2 :: a3 :: a4 :: a5 :: a6 :: a7 :: a8 :: a9 :: some (.int x) :: r) st h Q) : Go d own cc nL ret pc (a0 :: a1 :: a2 :: a3 :: a4 :: a5 :: a6 :: a7 :: a8 :: a9 :: a10 :: r) (.int x :: st) h Q := by
  subst hq
  intro p l e s m args below meth c α cA D H locs ls C hP hS hl
  exact lv_istore C.1 C.2.1 hd (LO.pairs hl) hn rfl (fun ls hl2 => k p l e s m args below meth c α cA D H locs ls C hP hS (LO.of1 (v := .int x) hl2 (fun w _ hw => by have hw2 : a9 = some w := Option.some.inj hw; rw [← hw2]; exact hp)))

theorem go_astore10 {d : Nat} {own : String} {cc : ByteArray} {nL : Nat} {ret : Option FieldType} {pc q : Nat} {st : List Value} {h : AH} {Q : Option Value → AH → Prop} {a0 a1 a2 a3 a4 a5 a6 a7 a8 a9 a10 : Option Value} {r : List (Option Value)} {x : Nat} (hd : decode cc pc = .ok (.astore 10, 2)) (hp : okp a9 = true) (hn : 10 < nL) (hq : pc + 2 = q) (k : Go d own cc nL ret q (a0 :: a1 :: a2 :: a3 :: a4 :: a5 :: a6 :: a7 :: a8 :: a9 :: some (.ref x) :: r) st h Q) : Go d own cc nL ret pc (a0 :: a1 :: a2 :: a3 :: a4 :: a5 :: a6 :: a7 :: a8 :: a9 :: a10 :: r) (.ref x :: st) h Q := by
  subst hq
  intro p l e s m args below meth c α cA D H locs ls C hP hS hl
  exact lv_astore C.1 C.2.1 hd (LO.pairs hl) hn rfl (fun ls hl2 => k p l e s m args below meth c α cA D H locs ls C hP hS (LO.of1 (v := .ref x) hl2 (fun w _ hw => by have hw2 : a9 = some w := Option.some.inj hw; rw [← hw2]; exact hp)))

theorem go_lstore10 {d : Nat} {own : String} {cc : ByteArray} {nL : Nat} {ret : Option FieldType} {pc q : Nat} {st : List Value} {h : AH} {Q : Option Value → AH → Prop} {a0 a1 a2 a3 a4 a5 a6 a7 a8 a9 a10 : Option Value} {b : Option Value} {r : List (Option Value)} {x : Int64} (hd : decode cc pc = .ok (.lstore 10, 2)) (hp : okp a9 = true) (hn : 10 + 1 < nL) (hq : pc + 2 = q) (k : Go d own cc nL ret q (a0 :: a1 :: a2 :: a3 :: a4 :: a5 :: a6 :: a7 :: a8 :: a9 :: some (.long x) :: none :: r) st h Q) : Go d own cc nL ret pc (a0 :: a1 :: a2 :: a3 :: a4 :: a5 :: a6 :: a7 :: a8 :: a9 :: a10 :: b :: r) (.long x :: st) h Q := by
  subst hq
  intro p l e s m args below meth c α cA D H locs ls C hP hS hl
  exact lv_lstore C.1 C.2.1 hd (LO.pairs hl) hn rfl (fun ls hl2 => k p l e s m args below meth c α cA D H locs ls C hP hS (LO.of2 (v := .long x) hl2 (fun w _ hw => by have hw2 : a9 = some w := Option.some.inj hw; rw [← hw2]; exact hp)))

theorem go_iinc10 {d : Nat} {own : String} {cc : ByteArray} {nL : Nat} {ret : Option FieldType} {pc q : Nat} {st : List Value} {h : AH} {Q : Option Value → AH → Prop} {a0 a1 a2 a3 a4 a5 a6 a7 a8 a9 : Option Value} {r : List (Option Value)} {x : Int32} {n : Int} (hd : decode cc pc = .ok (.iinc 10 n, 3)) (hp : okp a9 = true) (hn : 10 < nL) (hq : pc + 3 = q) (k : Go d own cc nL ret q (a0 :: a1 :: a2 :: a3 :: a4 :: a5 :: a6 :: a7 :: a8 :: a9 :: some (.int (x + Int32.ofInt n)) :: r) st h Q) : Go d own cc nL ret pc (a0 :: a1 :: a2 :: a3 :: a4 :: a5 :: a6 :: a7 :: a8 :: a9 :: some (.int x) :: r) st h Q := by
  subst hq
  intro p l e s m args below meth c α cA D H locs ls C hP hS hl
  obtain ⟨kk, hkk⟩ := List.getElem?_of_mem (lp_mem (lo := (a0 :: a1 :: a2 :: a3 :: a4 :: a5 :: a6 :: a7 :: a8 :: a9 :: some (.int x) :: r)) (α := α) (j := 10) (w := .int x) rfl)
  exact lv_iinc C.1 C.2.1 hd (LO.pairs hl) hkk rfl hn rfl (fun ls hl2 => k p l e s m args below meth c α cA D H locs ls C hP hS (LO.of1 (v := .int (x + Int32.ofInt n)) hl2 (fun w _ hw => by have hw2 : a9 = some w := Option.some.inj hw; rw [← hw2]; exact hp)))

theorem go_iincN10 {d : Nat} {own : String} {cc : ByteArray} {nL : Nat} {ret : Option FieldType} {pc q : Nat} {st : List Value} {h : AH} {Q : Option Value → AH → Prop} {a0 a1 a2 a3 a4 a5 a6 a7 a8 a9 : Option Value} {r : List (Option Value)} {x : Nat} {n : Nat} (hd : decode cc pc = .ok (.iinc 10 (n : Nat), 3)) (hp : okp a9 = true) (hn : 10 < nL) (hq : pc + 3 = q) (k : Go d own cc nL ret q (a0 :: a1 :: a2 :: a3 :: a4 :: a5 :: a6 :: a7 :: a8 :: a9 :: some (.int (nI (x + n))) :: r) st h Q) : Go d own cc nL ret pc (a0 :: a1 :: a2 :: a3 :: a4 :: a5 :: a6 :: a7 :: a8 :: a9 :: some (.int (nI x)) :: r) st h Q := by
  subst hq
  intro p l e s m args below meth c α cA D H locs ls C hP hS hl
  obtain ⟨kk, hkk⟩ := List.getElem?_of_mem (lp_mem (lo := (a0 :: a1 :: a2 :: a3 :: a4 :: a5 :: a6 :: a7 :: a8 :: a9 :: some (.int (nI x)) :: r)) (α := α) (j := 10) (w := .int (nI x)) rfl)
  exact lv_iinc C.1 C.2.1 hd (LO.pairs hl) hkk (nI_add x n) hn rfl (fun ls hl2 => k p l e s m args below meth c α cA D H locs ls C hP hS (LO.of1 (v := .int (nI (x + n))) hl2 (fun w _ hw => by have hw2 : a9 = some w := Option.some.inj hw; rw [← hw2]; exact hp)))

theorem go_istore11 {d : Nat} {own : String} {cc : ByteArray} {nL : Nat} {ret : Option FieldType} {pc q : Nat} {st : List Value} {h : AH} {Q : Option Value → AH → Prop} {a0 a1 a2 a3 a4 a5 a6 a7 a8 a9 a10 a11 : Option Value} {r : List (Option Value)} {x : Int32} (hd : decode cc pc = .ok (.istore 11, 2)) (hp : okp a10 = true) (hn : 11 < nL) (hq : pc + 2 = q) (k : Go d own cc nL ret q (a0 :: a1 :: a2 :: a3 :: a4 :: a5 :: a6 :: a7 :: a8 :: a9 :: a10 :: some (.int x) :: r) st h Q) : Go d own cc nL ret pc (a0 :: a1 :: a2 :: a3 :: a4 :: a5 :: a6 :: a7 :: a8 :: a9 :: a10 :: a11 :: r) (.int x :: st) h Q := by
  subst hq
  intro p l e s m args below meth c α cA D H locs ls C hP hS hl
  exact lv_istore C.1 C.2.1 hd (LO.pairs hl) hn rfl (fun ls hl2 => k p l e s m args below meth c α cA D H locs ls C hP hS (LO.of1 (v := .int x) hl2 (fun w _ hw => by have hw2 : a10 = some w := Option.some.inj hw; rw [← hw2]; exact hp)))

theorem go_astore11 {d : Nat} {own : String} {cc : ByteArray} {nL : Nat} {ret : Option FieldType} {pc q : Nat} {st : List Value} {h : AH} {Q : Option Value → AH → Prop} {a0 a1 a2 a3 a4 a5 a6 a7 a8 a9 a10 a11 : Option Value} {r : List (Option Value)} {x : Nat} (hd : decode cc pc = .ok (.astore 11, 2)) (hp : okp a10 = true) (hn : 11 < nL) (hq : pc + 2 = q) (k : Go d own cc nL ret q (a0 :: a1 :: a2 :: a3 :: a4 :: a5 :: a6 :: a7 :: a8 :: a9 :: a10 :: some (.ref x) :: r) st h Q) : Go d own cc nL ret pc (a0 :: a1 :: a2 :: a3 :: a4 :: a5 :: a6 :: a7 :: a8 :: a9 :: a10 :: a11 :: r) (.ref x :: st) h Q := by
  subst hq
  intro p l e s m args below meth c α cA D H locs ls C hP hS hl
  exact lv_astore C.1 C.2.1 hd (LO.pairs hl) hn rfl (fun ls hl2 => k p l e s m args below meth c α cA D H locs ls C hP hS (LO.of1 (v := .ref x) hl2 (fun w _ hw => by have hw2 : a10 = some w := Option.some.inj hw; rw [← hw2]; exact hp)))

theorem go_lstore11 {d : Nat} {own : String} {cc : ByteArray} {nL : Nat} {ret : Option FieldType} {pc q : Nat} {st : List Value} {h : AH} {Q : Option Value → AH → Prop} {a0 a1 a2 a3 a4 a5 a6 a7 a8 a9 a10 a11 : Option Value} {b : Option Value} {r : List (Option Value)} {x : Int64} (hd : decode cc pc = .ok (.lstore 11, 2)) (hp : okp a10 = true) (hn : 11 + 1 < nL) (hq : pc + 2 = q) (k : Go d own cc nL ret q (a0 :: a1 :: a2 :: a3 :: a4 :: a5 :: a6 :: a7 :: a8 :: a9 :: a10 :: some (.long x) :: none :: r) st h Q) : Go d own cc nL ret pc (a0 :: a1 :: a2 :: a3 :: a4 :: a5 :: a6 :: a7 :: a8 :: a9 :: a10 :: a11 :: b :: r) (.long x :: st) h Q := by
  subst hq
  intro p l e s m args below meth c α cA D H locs ls C hP hS hl
  exact lv_lstore C.1 C.2.1 hd (LO.pairs hl) hn rfl (fun ls hl2 => k p l e s m args below meth c α cA D H locs ls C hP hS (LO.of2 (v := .long x) hl2 (fun w _ hw => by have hw2 : a10 = some w := Option.some.inj hw; rw [← hw2]; exact hp)))

theorem go_iinc11 {d : Nat} {own : String} {cc : ByteArray} {nL : Nat} {ret : Option FieldType} {pc q : Nat} {st : List Value} {h : AH} {Q : Option Value → AH → Prop} {a0 a1 a2 a3 a4 a5 a6 a7 a8 a9 a10 : Option Value} {r : List (Option Value)} {x : Int32} {n : Int} (hd : decode cc pc = .ok (.iinc 11 n, 3)) (hp : okp a10 = true) (hn : 11 < nL) (hq : pc + 3 = q) (k : Go d own cc nL ret q (a0 :: a1 :: a2 :: a3 :: a4 :: a5 :: a6 :: a7 :: a8 :: a9 :: a10 :: some (.int (x + Int32.ofInt n)) :: r) st h Q) : Go d own cc nL ret pc (a0 :: a1 :: a2 :: a3 :: a4 :: a5 :: a6 :: a7 :: a8 :: a9 :: a10 :: some (.int x) :: r) st h Q := by
  subst hq
  intro p l e s m args below meth c α cA D H locs ls C hP hS hl
  obtain ⟨kk, hkk⟩ := List.getElem?_of_mem (lp_mem (lo := (a0 :: a1 :: a2 :: a3 :: a4 :: a5 :: a6 :: a7 :: a8 :: a9 :: a10 :: some (.int x) :: r)) (α := α) (j := 11) (w := .int x) rfl)
  exact lv_iinc C.1 C.2.1 hd (LO.pairs hl) hkk rfl hn rfl (fun ls hl2 => k p l e s m args below meth c α cA D H locs ls C hP hS (LO.of1 (v := .int (x + Int32.ofInt n)) hl2 (fun w _ hw => by have hw2 : a10 = some w := Option.some.inj hw; rw [← hw2]; exact hp)))

theorem go_iincN11 {d : Nat} {own : String} {cc : ByteArray} {nL : Nat} {ret : Option FieldType} {pc q : Nat} {st : List Value} {h : AH} {Q : Option Value → AH → Prop} {a0 a1 a2 a3 a4 a5 a6 a7 a8 a9 a10 : Option Value} {r : List (Option Value)} {x : Nat} {n : Nat} (hd : decode cc pc = .ok (.iinc 11 (n : Nat), 3)) (hp : okp a10 = true) (hn : 11 < nL) (hq : pc + 3 = q) (k : Go d own cc nL ret q (a0 :: a1 :: a2 :: a3 :: a4 :: a5 :: a6 :: a7 :: a8 :: a9 :: a10 :: some (.int (nI (x + n))) :: r) st h Q) : Go d own cc nL ret pc (a0 :: a1 :: a2 :: a3 :: a4 :: a5 :: a6 :: a7 :: a8 :: a9 :: a10 :: some (.int (nI x)) :: r) st h Q := by
  subst hq
  intro p l e s m args below meth c α cA D H locs ls C hP hS hl
  obtain ⟨kk, hkk⟩ := List.getElem?_of_mem (lp_mem (lo := (a0 :: a1 :: a2 :: a3 :: a4 :: a5 :: a6 :: a7 :: a8 :: a9 :: a10 :: some (.int (nI x)) :: r)) (α := α) (j := 11) (w := .int (nI x)) rfl)
  exact lv_iinc C.1 C.2.1 hd (LO.pairs hl) hkk (nI_add x n) hn rfl (fun ls hl2 => k p l e s m args below meth c α cA D H locs ls C hP hS (LO.of1 (v := .int (nI (x + n))) hl2 (fun w _ hw => by have hw2 : a10 = some w := Option.some.inj hw; rw [← hw2]; exact hp)))

theorem go_iadd {d : Nat} {own : String} {cc : ByteArray} {nL : Nat} {ret : Option FieldType} {pc q : Nat} {lo : List (Option Value)} {st : List Value} {h : AH} {Q : Option Value → AH → Prop} {x y : Int32} (hd : decode cc pc = .ok (.iadd, 1))  (hq : pc + 1 = q) (k : Go d own cc nL ret q lo (.int (x + y) :: st) h Q) : Go d own cc nL ret pc lo (.int y :: .int x :: st) h Q := by
  subst hq
  intro p l e s m args below meth c α cA D H locs ls C hP hS hl
  exact lv_iadd C.1 C.2.1 hd (k p l e s m args below meth c α cA D H locs ls C hP hS hl)

theorem go_isub {d : Nat} {own : String} {cc : ByteArray} {nL : Nat} {ret : Option FieldType} {pc q : Nat} {lo : List (Option Value)} {st : List Value} {h : AH} {Q : Option Value → AH → Prop} {x y : Int32} (hd : decode cc pc = .ok (.isub, 1))  (hq : pc + 1 = q) (k : Go d own cc nL ret q lo (.int (x - y) :: st) h Q) : Go d own cc nL ret pc lo (.int y :: .int x :: st) h Q := by
  subst hq
  intro p l e s m args below meth c α cA D H locs ls C hP hS hl
  exact lv_isub C.1 C.2.1 hd (k p l e s m args below meth c α cA D H locs ls C hP hS hl)

theorem go_imul {d : Nat} {own : String} {cc : ByteArray} {nL : Nat} {ret : Option FieldType} {pc q : Nat} {lo : List (Option Value)} {st : List Value} {h : AH} {Q : Option Value → AH → Prop} {x y : Int32} (hd : decode cc pc = .ok (.imul, 1))  (hq : pc + 1 = q) (k : Go d own cc nL ret q lo (.int (x * y) :: st) h Q) : Go d own cc nL ret pc lo (.int y :: .int x :: st) h Q := by
  subst hq
  intro p l e s m args below meth c α cA D H locs ls C hP hS hl
  exact lv_imul C.1 C.2.1 hd (k p l e s m args below meth c α cA D H locs ls C hP hS hl)

theorem go_iand {d : Nat} {own : String} {cc : ByteArray} {nL : Nat} {ret : Option FieldType} {pc q : Nat} {lo : List (Option Value)} {st : List Value} {h : AH} {Q : Option Value → AH → Prop} {x y : Int32} (hd : decode cc pc = .ok (.iand, 1))  (hq : pc + 1 = q) (k : Go d own cc nL ret q lo (.int (x &&& y) :: st) h Q) : Go d own cc nL ret pc lo (.int y :: .int x :: st) h Q := by
  subst hq
  intro p l e s m args below meth c α cA D H locs ls C hP hS hl
  exact lv_iand C.1 C.2.1 hd (k p l e s m args below meth c α cA D H locs ls C hP hS hl)

theorem go_ior {d : Nat} {own : String} {cc : ByteArray} {nL : Nat} {ret : Option FieldType} {pc q : Nat} {lo : List (Option Value)} {st : List Value} {h : AH} {Q : Option Value → AH → Prop} {x y : Int32} (hd : decode cc pc = .ok (.ior, 1))  (hq : pc + 1 = q) (k : Go d own cc nL ret q lo (.int (x ||| y) :: st) h Q) : Go d own cc nL ret pc lo (.int y :: .int x :: st) h Q := by
  subst hq
  intro p l e s m args below meth c α cA D H locs ls C hP hS hl
  exact lv_ior C.1 C.2.1 hd (k p l e s m args below meth c α cA D H locs ls C hP hS hl)

theorem go_ixor {d : Nat} {own : String} {cc : ByteArray} {nL : Nat} {ret : Option FieldType} {pc q : Nat} {lo : List (Option Value)} {st : List Value} {h : AH} {Q : Option Value → AH → Prop} {x y : Int32} (hd : decode cc pc = .ok (.ixor, 1))  (hq : pc + 1 = q) (k : Go d own cc nL ret q lo (.int (x ^^^ y) :: st) h Q) : Go d own cc nL ret pc lo (.int y :: .int x :: st) h Q := by
  subst hq
  intro p l e s m args below meth c α cA D H locs ls C hP hS hl
  exact lv_ixor C.1 C.2.1 hd (k p l e s m args below meth c α cA D H locs ls C hP hS hl)

theorem go_ishl {d : Nat} {own : String} {cc : ByteArray} {nL : Nat} {ret : Option FieldType} {pc q : Nat} {lo : List (Option Value)} {st : List Value} {h : AH} {Q : Option Value → AH → Prop} {x y : Int32} (hd : decode cc pc = .ok (.ishl, 1))  (hq : pc + 1 = q) (k : Go d own cc nL ret q lo (.int (x <<< (y &&& 31)) :: st) h Q) : Go d own cc nL ret pc lo (.int y :: .int x :: st) h Q := by
  subst hq
  intro p l e s m args below meth c α cA D H locs ls C hP hS hl
  exact lv_ishl C.1 C.2.1 hd (k p l e s m args below meth c α cA D H locs ls C hP hS hl)

theorem go_ishr {d : Nat} {own : String} {cc : ByteArray} {nL : Nat} {ret : Option FieldType} {pc q : Nat} {lo : List (Option Value)} {st : List Value} {h : AH} {Q : Option Value → AH → Prop} {x y : Int32} (hd : decode cc pc = .ok (.ishr, 1))  (hq : pc + 1 = q) (k : Go d own cc nL ret q lo (.int (x >>> (y &&& 31)) :: st) h Q) : Go d own cc nL ret pc lo (.int y :: .int x :: st) h Q := by
  subst hq
  intro p l e s m args below meth c α cA D H locs ls C hP hS hl
  exact lv_ishr C.1 C.2.1 hd (k p l e s m args below meth c α cA D H locs ls C hP hS hl)

theorem go_iushr {d : Nat} {own : String} {cc : ByteArray} {nL : Nat} {ret : Option FieldType} {pc q : Nat} {lo : List (Option Value)} {st : List Value} {h : AH} {Q : Option Value → AH → Prop} {x y : Int32} (hd : decode cc pc = .ok (.iushr, 1))  (hq : pc + 1 = q) (k : Go d own cc nL ret q lo (.int ((x.toUInt32 >>> (y.toUInt32 &&& Int32.toUInt32 31)).toInt32) :: st) h Q) : Go d own cc nL ret pc lo (.int y :: .int x :: st) h Q := by
  subst hq
  intro p l e s m args below meth c α cA D H locs ls C hP hS hl
  exact lv_iushr C.1 C.2.1 hd rfl (k p l e s m args below meth c α cA D H locs ls C hP hS hl)

theorem go_idiv {d : Nat} {own : String} {cc : ByteArray} {nL : Nat} {ret : Option FieldType} {pc q : Nat} {lo : List (Option Value)} {st : List Value} {h : AH} {Q : Option Value → AH → Prop} {x y : Int32} (hd : decode cc pc = .ok (.idiv, 1)) (hne : ¬ y = 0) (hq : pc + 1 = q) (k : Go d own cc nL ret q lo (.int (x / y) :: st) h Q) : Go d own cc nL ret pc lo (.int y :: .int x :: st) h Q := by
  subst hq
  intro p l e s m args below meth c α cA D H locs ls C hP hS hl
  exact lv_idiv C.1 C.2.1 hd hne (k p l e s m args below meth c α cA D H locs ls C hP hS hl)

theorem go_irem {d : Nat} {own : String} {cc : ByteArray} {nL : Nat} {ret : Option FieldType} {pc q : Nat} {lo : List (Option Value)} {st : List Value} {h : AH} {Q : Option Value → AH → Prop} {x y : Int32} (hd : decode cc pc = .ok (.irem, 1)) (hne : ¬ y = 0) (hq : pc + 1 = q) (k : Go d own cc nL ret q lo (.int (x - x / y * y) :: st) h Q) : Go d own cc nL ret pc lo (.int y :: .int x :: st) h Q := by
  subst hq
  intro p l e s m args below meth c α cA D H locs ls C hP hS hl
  exact lv_irem C.1 C.2.1 hd hne (k p l e s m args below meth c α cA D H locs ls C hP hS hl)

theorem go_i2l {d : Nat} {own : String} {cc : ByteArray} {nL : Nat} {ret : Option FieldType} {pc q : Nat} {lo : List (Option Value)} {st : List Value} {h : AH} {Q : Option Value → AH → Prop} {x : Int32} (hd : decode cc pc = .ok (.i2l, 1))  (hq : pc + 1 = q) (k : Go d own cc nL ret q lo (.long x.toInt64 :: st) h Q) : Go d own cc nL ret pc lo (.int x :: st) h Q := by
  subst hq
  intro p l e s m args below meth c α cA D H locs ls C hP hS hl
  exact lv_i2l C.1 C.2.1 hd rfl (k p l e s m args below meth c α cA D H locs ls C hP hS hl)

theorem go_l2i {d : Nat} {own : String} {cc : ByteArray} {nL : Nat} {ret : Option FieldType} {pc q : Nat} {lo : List (Option Value)} {st : List Value} {h : AH} {Q : Option Value → AH → Prop} {x : Int64} (hd : decode cc pc = .ok (.l2i, 1))  (hq : pc + 1 = q) (k : Go d own cc nL ret q lo (.int x.toInt32 :: st) h Q) : Go d own cc nL ret pc lo (.long x :: st) h Q := by
  subst hq
  intro p l e s m args below meth c α cA D H locs ls C hP hS hl
  exact lv_l2i C.1 C.2.1 hd rfl (k p l e s m args below meth c α cA D H locs ls C hP hS hl)

theorem go_i2b {d : Nat} {own : String} {cc : ByteArray} {nL : Nat} {ret : Option FieldType} {pc q : Nat} {lo : List (Option Value)} {st : List Value} {h : AH} {Q : Option Value → AH → Prop} {x : Int32} (hd : decode cc pc = .ok (.i2b, 1))  (hq : pc + 1 = q) (k : Go d own cc nL ret q lo (.int x.toInt8.toInt32 :: st) h Q) : Go d own cc nL ret pc lo (.int x :: st) h Q := by
  subst hq
  intro p l e s m args below meth c α cA D H locs ls C hP hS hl
  exact lv_i2b C.1 C.2.1 hd rfl (k p l e s m args below meth c α cA D H locs ls C hP hS hl)

theorem go_i2s {d : Nat} {own : String} {cc : ByteArray} {nL : Nat} {ret : Option FieldType} {pc q : Nat} {lo : List (Option Value)} {st : List Value} {h : AH} {Q : Option Value → AH → Prop} {x : Int32} (hd : decode cc pc = .ok (.i2s, 1))  (hq : pc + 1 = q) (k : Go d own cc nL ret q lo (.int x.toInt16.toInt32 :: st) h Q) : Go d own cc nL ret pc lo (.int x :: st) h Q := by
  subst hq
  intro p l e s m args below meth c α cA D H locs ls C hP hS hl
  exact lv_i2s C.1 C.2.1 hd rfl (k p l e s m args below meth c α cA D H locs ls C hP hS hl)

theorem go_lcmp {d : Nat} {own : String} {cc : ByteArray} {nL : Nat} {ret : Option FieldType} {pc q : Nat} {lo : List (Option Value)} {st : List Value} {h : AH} {Q : Option Value → AH → Prop} {x y : Int64} (hd : decode cc pc = .ok (.lcmp, 1))  (hq : pc + 1 = q) (k : Go d own cc nL ret q lo (.int (lg_cmp x y) :: st) h Q) : Go d own cc nL ret pc lo (.long y :: .long x :: st) h Q := by
  subst hq
  intro p l e s m args below meth c α cA D H locs ls C hP hS hl
  exact W.lcmp C.1 C.2.1 hd (k p l e s m args below meth c α cA D H locs ls C hP hS hl)

theorem go_dup {d : Nat} {own : String} {cc : ByteArray} {nL : Nat} {ret : Option FieldType} {pc q : Nat} {lo : List (Option Value)} {st : List Value} {h : AH} {Q : Option Value → AH → Prop} {v : Value} (hd : decode cc pc = .ok (.dup, 1)) (hv : v.category = 1) (hq : pc + 1 = q) (k : Go d own cc nL ret q lo (v :: v :: st) h Q) : Go d own cc nL ret pc lo (v :: st) h Q := by
  subst hq
  intro p l e s m args below meth c α cA D H locs ls C hP hS hl
  exact lv_dup C.1 C.2.1 hd (by rw [cV_cat]; exact hv) (k p l e s m args below meth c α cA D H locs ls C hP hS hl)

theorem go_pop {d : Nat} {own : String} {cc : ByteArray} {nL : Nat} {ret : Option FieldType} {pc q : Nat} {lo : List (Option Value)} {st : List Value} {h : AH} {Q : Option Value → AH → Prop} {v : Value} (hd : decode cc pc = .ok (.pop, 1)) (hv : v.category = 1) (hq : pc + 1 = q) (k : Go d own cc nL ret q lo (st) h Q) : Go d own cc nL ret pc lo (v :: st) h Q := by
  subst hq
  intro p l e s m args below meth c α cA D H locs ls C hP hS hl
  exact lv_pop C.1 C.2.1 hd (by rw [cV_cat]; exact hv) (k p l e s m args below meth c α cA D H locs ls C hP hS hl)

theorem go_dup2 {d : Nat} {own : String} {cc : ByteArray} {nL : Nat} {ret : Option FieldType} {pc q : Nat} {lo : List (Option Value)} {st : List Value} {h : AH} {Q : Option Value → AH → Prop} {v w : Value} (hd : decode cc pc = .ok (.dup2, 1)) (hv : v.category = 1) (hw : w.category = 1) (hq : pc + 1 = q) (k : Go d own cc nL ret q lo (v :: w :: v :: w :: st) h Q) : Go d own cc nL ret pc lo (v :: w :: st) h Q := by
  subst hq
  intro p l e s m args below meth c α cA D H locs ls C hP hS hl
  exact lv_dup2_11 C.1 C.2.1 hd (by rw [cV_cat]; exact hv) (by rw [cV_cat]; exact hw) (k p l e s m args below meth c α cA D H locs ls C hP hS hl)

theorem go_iaddN {d : Nat} {own : String} {cc : ByteArray} {nL : Nat} {ret : Option FieldType} {pc q : Nat} {lo : List (Option Value)} {st : List Value} {h : AH} {Q : Option Value → AH → Prop} {x y : Nat} (hd : decode cc pc = .ok (.iadd, 1))  (hq : pc + 1 = q) (k : Go d own cc nL ret q lo (.int (nI (x + y)) :: st) h Q) : Go d own cc nL ret pc lo (.int (nI y) :: .int (nI x) :: st) h Q := by
  refine go_iadd hd hq ?_
  rw [nI_add]
  exact k

theorem go_isubN {d : Nat} {own : String} {cc : ByteArray} {nL : Nat} {ret : Option FieldType} {pc q : Nat} {lo : List (Option Value)} {st : List Value} {h : AH} {Q : Option Value → AH → Prop} {x y : Nat} (hd : decode cc pc = .ok (.isub, 1)) (hle : y ≤ x) (hq : pc + 1 = q) (k : Go d own cc nL ret q lo (.int (nI (x - y)) :: st) h Q) : Go d own cc nL ret pc lo (.int (nI y) :: .int (nI x) :: st) h Q := by
  refine go_isub hd hq ?_
  rw [pk_sub hle]
  exact k

theorem go_imulN {d : Nat} {own : String} {cc : ByteArray} {nL : Nat} {ret : Option FieldType} {pc q : Nat} {lo : List (Option Value)} {st : List Value} {h : AH} {Q : Option Value → AH → Prop} {x y : Nat} (hd : decode cc pc = .ok (.imul, 1))  (hq : pc + 1 = q) (k : Go d own cc nL ret q lo (.int (nI (x * y)) :: st) h Q) : Go d own cc nL ret pc lo (.int (nI y) :: .int (nI x) :: st) h Q := by
  refine go_imul hd hq ?_
  rw [pk_mul]
  exact k

theorem go_idivN {d : Nat} {own : String} {cc : ByteArray} {nL : Nat} {ret : Option FieldType} {pc q : Nat} {lo : List (Option Value)} {st : List Value} {h : AH} {Q : Option Value → AH → Prop} {x y : Nat} (hd : decode cc pc = .ok (.idiv, 1)) (h0 : 0 < y) (hx : x < 2 ^ 31) (hy : y < 2 ^ 31) (hq : pc + 1 = q) (k : Go d own cc nL ret q lo (.int (nI (x / y)) :: st) h Q) : Go d own cc nL ret pc lo (.int (nI y) :: .int (nI x) :: st) h Q := by
  refine go_idiv hd (nI_ne0 h0 hy) hq ?_
  rw [pk_div hx h0 hy]
  exact k

theorem go_iremN {d : Nat} {own : String} {cc : ByteArray} {nL : Nat} {ret : Option FieldType} {pc q : Nat} {lo : List (Option Value)} {st : List Value} {h : AH} {Q : Option Value → AH → Prop} {x y : Nat} (hd : decode cc pc = .ok (.irem, 1)) (h0 : 0 < y) (hx : x < 2 ^ 31) (hy : y < 2 ^ 31) (hq : pc + 1 = q) (k : Go d own cc nL ret q lo (.int (nI (x % y)) :: st) h Q) : Go d own cc nL ret pc lo (.int (nI y) :: .int (nI x) :: st) h Q := by
  refine go_irem hd (nI_ne0 h0 hy) hq ?_
  rw [pk_rem hx h0 hy]
  exact k

theorem go_icmp_eq {d : Nat} {own : String} {cc : ByteArray} {nL : Nat} {ret : Option FieldType} {pc q : Nat} {lo : List (Option Value)} {st : List Value} {h : AH} {Q : Option Value → AH → Prop} {x y : Int32} {off : Int} {tgt : Nat} (hd : decode cc pc = .ok (.if_icmp .eq off, 3)) (ht : (pc : Int) + off = (tgt : Int)) (hq : pc + 3 = q) (kt : x = y → Go d own cc nL ret tgt lo st h Q) (kf : ¬ x = y → Go d own cc nL ret q lo st h Q) : Go d own cc nL ret pc lo (.int y :: .int x :: st) h Q := by
  subst hq
  intro p l e s m args below meth c α cA D H locs ls C hP hS hl
  exact lv_icmp_eq C.1 C.2.1 hd ht (fun z => kt z p l e s m args below meth c α cA D H locs ls C hP hS hl) (fun z => kf z p l e s m args below meth c α cA D H locs ls C hP hS hl)

theorem go_icmp_eqN {d : Nat} {own : String} {cc : ByteArray} {nL : Nat} {ret : Option FieldType} {pc q : Nat} {lo : List (Option Value)} {st : List Value} {h : AH} {Q : Option Value → AH → Prop} {x y : Nat} {off : Int} {tgt : Nat} (hd : decode cc pc = .ok (.if_icmp .eq off, 3)) (ht : (pc : Int) + off = (tgt : Int)) (hq : pc + 3 = q) (hx : x < 2 ^ 31) (hy : y < 2 ^ 31) (kt : x = y → Go d own cc nL ret tgt lo st h Q) (kf : ¬ (x = y) → Go d own cc nL ret q lo st h Q) : Go d own cc nL ret pc lo (.int (nI y) :: .int (nI x) :: st) h Q := go_icmp_eq hd ht hq (fun z => kt ((nI_eq hx hy).mp z)) (fun z => kf (fun w => z ((nI_eq hx hy).mpr w)))

theorem go_if_eq {d : Nat} {own : String} {cc : ByteArray} {nL : Nat} {ret : Option FieldType} {pc q : Nat} {lo : List (Option Value)} {st : List Value} {h : AH} {Q : Option Value → AH → Prop} {x : Int32} {off : Int} {tgt : Nat} (hd : decode cc pc = .ok (.ifCond .eq off, 3)) (ht : (pc : Int) + off = (tgt : Int)) (hq : pc + 3 = q) (kt : x = 0 → Go d own cc nL ret tgt lo st h Q) (kf : ¬ x = 0 → Go d own cc nL ret q lo st h Q) : Go d own cc nL ret pc lo (.int x :: st) h Q := by
  subst hq
  intro p l e s m args below meth c α cA D H locs ls C hP hS hl
  exact lv_if_eq C.1 C.2.1 hd ht (fun z => kt z p l e s m args below meth c α cA D H locs ls C hP hS hl) (fun z => kf z p l e s m args below meth c α cA D H locs ls C hP hS hl)

theorem go_if_eqN {d : Nat} {own : String} {cc : ByteArray} {nL : Nat} {ret : Option FieldType} {pc q : Nat} {lo : List (Option Value)} {st : List Value} {h : AH} {Q : Option Value → AH → Prop} {x : Nat} {off : Int} {tgt : Nat} (hd : decode cc pc = .ok (.ifCond .eq off, 3)) (ht : (pc : Int) + off = (tgt : Int)) (hq : pc + 3 = q) (hx : x < 2 ^ 31) (kt : x = 0 → Go d own cc nL ret tgt lo st h Q) (kf : ¬ (x = 0) → Go d own cc nL ret q lo st h Q) : Go d own cc nL ret pc lo (.int (nI x) :: st) h Q := go_if_eq hd ht hq (fun z => kt ((show nI x = 0 ↔ x = 0 from nI_eq (a := x) (b := 0) hx (by decide)).mp z)) (fun z => kf (fun w => z ((show nI x = 0 ↔ x = 0 from nI_eq (a := x) (b := 0) hx (by decide)).mpr w)))

theorem go_icmp_ne {d : Nat} {own : String} {cc : ByteArray} {nL : Nat} {ret : Option FieldType} {pc q : Nat} {lo : List (Option Value)} {st : List Value} {h : AH} {Q : Option Value → AH → Prop} {x y : Int32} {off : Int} {tgt : Nat} (hd : decode cc pc = .ok (.if_icmp .ne off, 3)) (ht : (pc : Int) + off = (tgt : Int)) (hq : pc + 3 = q) (kt : ¬ x = y → Go d own cc nL ret tgt lo st h Q) (kf : x = y → Go d own cc nL ret q lo st h Q) : Go d own cc nL ret pc lo (.int y :: .int x :: st) h Q := by
  subst hq
  intro p l e s m args below meth c α cA D H locs ls C hP hS hl
  exact lv_icmp_ne C.1 C.2.1 hd ht (fun z => kt z p l e s m args below meth c α cA D H locs ls C hP hS hl) (fun z => kf z p l e s m args below meth c α cA D H locs ls C hP hS hl)

theorem go_icmp_neN {d : Nat} {own : String} {cc : ByteArray} {nL : Nat} {ret : Option FieldType} {pc q : Nat} {lo : List (Option Value)} {st : List Value} {h : AH} {Q : Option Value → AH → Prop} {x y : Nat} {off : Int} {tgt : Nat} (hd : decode cc pc = .ok (.if_icmp .ne off, 3)) (ht : (pc : Int) + off = (tgt : Int)) (hq : pc + 3 = q) (hx : x < 2 ^ 31) (hy : y < 2 ^ 31) (kt : ¬ x = y → Go d own cc nL ret tgt lo st h Q) (kf : x = y → Go d own cc nL ret q lo st h Q) : Go d own cc nL ret pc lo (.int (nI y) :: .int (nI x) :: st) h Q := go_icmp_ne hd ht hq (fun z => kt ((not_congr (nI_eq hx hy)).mp z)) (fun z => kf ((nI_eq hx hy).mp z))

theorem go_if_ne {d : Nat} {own : String} {cc : ByteArray} {nL : Nat} {ret : Option FieldType} {pc q : Nat} {lo : List (Option Value)} {st : List Value} {h : AH} {Q : Option Value → AH → Prop} {x : Int32} {off : Int} {tgt : Nat} (hd : decode cc pc = .ok (.ifCond .ne off, 3)) (ht : (pc : Int) + off = (tgt : Int)) (hq : pc + 3 = q) (kt : ¬ x = 0 → Go d own cc nL ret tgt lo st h Q) (kf : x = 0 → Go d own cc nL ret q lo st h Q) : Go d own cc nL ret pc lo (.int x :: st) h Q := by
  subst hq
  intro p l e s m args below meth c α cA D H locs ls C hP hS hl
  exact lv_if_ne C.1 C.2.1 hd ht (fun z => kt z p l e s m args below meth c α cA D H locs ls C hP hS hl) (fun z => kf z p l e s m args below meth c α cA D H locs ls C hP hS hl)

theorem go_if_neN {d : Nat} {own : String} {cc : ByteArray} {nL : Nat} {ret : Option FieldType} {pc q : Nat} {lo : List (Option Value)} {st : List Value} {h : AH} {Q : Option Value → AH → Prop} {x : Nat} {off : Int} {tgt : Nat} (hd : decode cc pc = .ok (.ifCond .ne off, 3)) (ht : (pc : Int) + off = (tgt : Int)) (hq : pc + 3 = q) (hx : x < 2 ^ 31) (kt : ¬ x = 0 → Go d own cc nL ret tgt lo st h Q) (kf : x = 0 → Go d own cc nL ret q lo st h Q) : Go d own cc nL ret pc lo (.int (nI x) :: st) h Q := go_if_ne hd ht hq (fun z => kt ((not_congr (show nI x = 0 ↔ x = 0 from nI_eq (a := x) (b := 0) hx (by decide))).mp z)) (fun z => kf ((show nI x = 0 ↔ x = 0 from nI_eq (a := x) (b := 0) hx (by decide)).mp z))

theorem go_icmp_lt {d : Nat} {own : String} {cc : ByteArray} {nL : Nat} {ret : Option FieldType} {pc q : Nat} {lo : List (Option Value)} {st : List Value} {h : AH} {Q : Option Value → AH → Prop} {x y : Int32} {off : Int} {tgt : Nat} (hd : decode cc pc = .ok (.if_icmp .lt off, 3)) (ht : (pc : Int) + off = (tgt : Int)) (hq : pc + 3 = q) (kt : x < y → Go d own cc nL ret tgt lo st h Q) (kf : ¬ x < y → Go d own cc nL ret q lo st h Q) : Go d own cc nL ret pc lo (.int y :: .int x :: st) h Q := by
  subst hq
  intro p l e s m args below meth c α cA D H locs ls C hP hS hl
  exact lv_icmp_lt C.1 C.2.1 hd ht (fun z => kt z p l e s m args below meth c α cA D H locs ls C hP hS hl) (fun z => kf z p l e s m args below meth c α cA D H locs ls C hP hS hl)

theorem go_icmp_ltN {d : Nat} {own : String} {cc : ByteArray} {nL : Nat} {ret : Option FieldType} {pc q : Nat} {lo : List (Option Value)} {st : List Value} {h : AH} {Q : Option Value → AH → Prop} {x y : Nat} {off : Int} {tgt : Nat} (hd : decode cc pc = .ok (.if_icmp .lt off, 3)) (ht : (pc : Int) + off = (tgt : Int)) (hq : pc + 3 = q) (hx : x < 2 ^ 31) (hy : y < 2 ^ 31) (kt : x < y → Go d own cc nL ret tgt lo st h Q) (kf : ¬ (x < y) → Go d own cc nL ret q lo st h Q) : Go d own cc nL ret pc lo (.int (nI y) :: .int (nI x) :: st) h Q := go_icmp_lt hd ht hq (fun z => kt ((nI_ltI hx hy).mp z)) (fun z => kf (fun w => z ((nI_ltI hx hy).mpr w)))

theorem go_if_lt {d : Nat} {own : String} {cc : ByteArray} {nL : Nat} {ret : Option FieldType} {pc q : Nat} {lo : List (Option Value)} {st : List Value} {h : AH} {Q : Option Value → AH → Prop} {x : Int32} {off : Int} {tgt : Nat} (hd : decode cc pc = .ok (.ifCond .lt off, 3)) (ht : (pc : Int) + off = (tgt : Int)) (hq : pc + 3 = q) (kt : x < 0 → Go d own cc nL ret tgt lo st h Q) (kf : ¬ x < 0 → Go d own cc nL ret q lo st h Q) : Go d own cc nL ret pc lo (.int x :: st) h Q := by
  subst hq
  intro p l e s m args below meth c α cA D H locs ls C hP hS hl
  exact lv_if_lt C.1 C.2.1 hd ht (fun z => kt z p l e s m args below meth c α cA D H locs ls C hP hS hl) (fun z => kf z p l e s m args below meth c α cA D H locs ls C hP hS hl)

theorem go_if_ltN {d : Nat} {own : String} {cc : ByteArray} {nL : Nat} {ret : Option FieldType} {pc q : Nat} {lo : List (Option Value)} {st : List Value} {h : AH} {Q : Option Value → AH → Prop} {x : Nat} {off : Int} {tgt : Nat} (hd : decode cc pc = .ok (.ifCond .lt off, 3)) (ht : (pc : Int) + off = (tgt : Int)) (hq : pc + 3 = q) (hx : x < 2 ^ 31) (kt : False → Go d own cc nL ret tgt lo st h Q) (kf : ¬ (False) → Go d own cc nL ret q lo st h Q) : Go d own cc nL ret pc lo (.int (nI x) :: st) h Q := go_if_lt hd ht hq (fun z => kt ((show nI x < 0 ↔ False from ⟨fun z => nI_pos hx z, False.elim⟩).mp z)) (fun z => kf (fun w => z ((show nI x < 0 ↔ False from ⟨fun z => nI_pos hx z, False.elim⟩).mpr w)))

theorem go_icmp_ge {d : Nat} {own : String} {cc : ByteArray} {nL : Nat} {ret : Option FieldType} {pc q : Nat} {lo : List (Option Value)} {st : List Value} {h : AH} {Q : Option Value → AH → Prop} {x y : Int32} {off : Int} {tgt : Nat} (hd : decode cc pc = .ok (.if_icmp .ge off, 3)) (ht : (pc : Int) + off = (tgt : Int)) (hq : pc + 3 = q) (kt : y ≤ x → Go d own cc nL ret tgt lo st h Q) (kf : ¬ y ≤ x → Go d own cc nL ret q lo st h Q) : Go d own cc nL ret pc lo (.int y :: .int x :: st) h Q := by
  subst hq
  intro p l e s m args below meth c α cA D H locs ls C hP hS hl
  exact lv_icmp_ge C.1 C.2.1 hd ht (fun z => kt z p l e s m args below meth c α cA D H locs ls C hP hS hl) (fun z => kf z p l e s m args below meth c α cA D H locs ls C hP hS hl)

theorem go_icmp_geN {d : Nat} {own : String} {cc : ByteArray} {nL : Nat} {ret : Option FieldType} {pc q : Nat} {lo : List (Option Value)} {st : List Value} {h : AH} {Q : Option Value → AH → Prop} {x y : Nat} {off : Int} {tgt : Nat} (hd : decode cc pc = .ok (.if_icmp .ge off, 3)) (ht : (pc : Int) + off = (tgt : Int)) (hq : pc + 3 = q) (hx : x < 2 ^ 31) (hy : y < 2 ^ 31) (kt : y ≤ x → Go d own cc nL ret tgt lo st h Q) (kf : ¬ (y ≤ x) → Go d own cc nL ret q lo st h Q) : Go d own cc nL ret pc lo (.int (nI y) :: .int (nI x) :: st) h Q := go_icmp_ge hd ht hq (fun z => kt ((nI_leI hy hx).mp z)) (fun z => kf (fun w => z ((nI_leI hy hx).mpr w)))

theorem go_if_ge {d : Nat} {own : String} {cc : ByteArray} {nL : Nat} {ret : Option FieldType} {pc q : Nat} {lo : List (Option Value)} {st : List Value} {h : AH} {Q : Option Value → AH → Prop} {x : Int32} {off : Int} {tgt : Nat} (hd : decode cc pc = .ok (.ifCond .ge off, 3)) (ht : (pc : Int) + off = (tgt : Int)) (hq : pc + 3 = q) (kt : 0 ≤ x → Go d own cc nL ret tgt lo st h Q) (kf : ¬ 0 ≤ x → Go d own cc nL ret q lo st h Q) : Go d own cc nL ret pc lo (.int x :: st) h Q := by
  subst hq
  intro p l e s m args below meth c α cA D H locs ls C hP hS hl
  exact lv_if_ge C.1 C.2.1 hd ht (fun z => kt z p l e s m args below meth c α cA D H locs ls C hP hS hl) (fun z => kf z p l e s m args below meth c α cA D H locs ls C hP hS hl)

theorem go_if_geN {d : Nat} {own : String} {cc : ByteArray} {nL : Nat} {ret : Option FieldType} {pc q : Nat} {lo : List (Option Value)} {st : List Value} {h : AH} {Q : Option Value → AH → Prop} {x : Nat} {off : Int} {tgt : Nat} (hd : decode cc pc = .ok (.ifCond .ge off, 3)) (ht : (pc : Int) + off = (tgt : Int)) (hq : pc + 3 = q) (hx : x < 2 ^ 31) (kt : True → Go d own cc nL ret tgt lo st h Q) (kf : ¬ (True) → Go d own cc nL ret q lo st h Q) : Go d own cc nL ret pc lo (.int (nI x) :: st) h Q := go_if_ge hd ht hq (fun z => kt ((show 0 ≤ nI x ↔ True from ⟨fun _ => trivial, fun _ => nI_pos' hx⟩).mp z)) (fun z => kf (fun w => z ((show 0 ≤ nI x ↔ True from ⟨fun _ => trivial, fun _ => nI_pos' hx⟩).mpr w)))

theorem go_icmp_gt {d : Nat} {own : String} {cc : ByteArray} {nL : Nat} {ret : Option FieldType} {pc q : Nat} {lo : List (Option Value)} {st : List Value} {h : AH} {Q : Option Value → AH → Prop} {x y : Int32} {off : Int} {tgt : Nat} (hd : decode cc pc = .ok (.if_icmp .gt off, 3)) (ht : (pc : Int) + off = (tgt : Int)) (hq : pc + 3 = q) (kt : y < x → Go d own cc nL ret tgt lo st h Q) (kf : ¬ y < x → Go d own cc nL ret q lo st h Q) : Go d own cc nL ret pc lo (.int y :: .int x :: st) h Q := by
  subst hq
  intro p l e s m args below meth c α cA D H locs ls C hP hS hl
  exact lv_icmp_gt C.1 C.2.1 hd ht (fun z => kt z p l e s m args below meth c α cA D H locs ls C hP hS hl) (fun z => kf z p l e s m args below meth c α cA D H locs ls C hP hS hl)

theorem go_icmp_gtN {d : Nat} {own : String} {cc : ByteArray} {nL : Nat} {ret : Option FieldType} {pc q : Nat} {lo : List (Option Value)} {st : List Value} {h : AH} {Q : Option Value → AH → Prop} {x y : Nat} {off : Int} {tgt : Nat} (hd : decode cc pc = .ok (.if_icmp .gt off, 3)) (ht : (pc : Int) + off = (tgt : Int)) (hq : pc + 3 = q) (hx : x < 2 ^ 31) (hy : y < 2 ^ 31) (kt : y < x → Go d own cc nL ret tgt lo st h Q) (kf : ¬ (y < x) → Go d own cc nL ret q lo st h Q) : Go d own cc nL ret pc lo (.int (nI y) :: .int (nI x) :: st) h Q := go_icmp_gt hd ht hq (fun z => kt ((nI_ltI hy hx).mp z)) (fun z => kf (fun w => z ((nI_ltI hy hx).mpr w)))

theorem go_if_gt {d : Nat} {own : String} {cc : ByteArray} {nL : Nat} {ret : Option FieldType} {pc q : Nat} {lo : List (Option Value)} {st : List Value} {h : AH} {Q : Option Value → AH → Prop} {x : Int32} {off : Int} {tgt : Nat} (hd : decode cc pc = .ok (.ifCond .gt off, 3)) (ht : (pc : Int) + off = (tgt : Int)) (hq : pc + 3 = q) (kt : 0 < x → Go d own cc nL ret tgt lo st h Q) (kf : ¬ 0 < x → Go d own cc nL ret q lo st h Q) : Go d own cc nL ret pc lo (.int x :: st) h Q := by
  subst hq
  intro p l e s m args below meth c α cA D H locs ls C hP hS hl
  exact lv_if_gt C.1 C.2.1 hd ht (fun z => kt z p l e s m args below meth c α cA D H locs ls C hP hS hl) (fun z => kf z p l e s m args below meth c α cA D H locs ls C hP hS hl)

theorem go_if_gtN {d : Nat} {own : String} {cc : ByteArray} {nL : Nat} {ret : Option FieldType} {pc q : Nat} {lo : List (Option Value)} {st : List Value} {h : AH} {Q : Option Value → AH → Prop} {x : Nat} {off : Int} {tgt : Nat} (hd : decode cc pc = .ok (.ifCond .gt off, 3)) (ht : (pc : Int) + off = (tgt : Int)) (hq : pc + 3 = q) (hx : x < 2 ^ 31) (kt : 0 < x → Go d own cc nL ret tgt lo st h Q) (kf : ¬ (0 < x) → Go d own cc nL ret q lo st h Q) : Go d own cc nL ret pc lo (.int (nI x) :: st) h Q := go_if_gt hd ht hq (fun z => kt ((show 0 < nI x ↔ 0 < x from nI_ltI (a := 0) (b := x) (by decide) hx).mp z)) (fun z => kf (fun w => z ((show 0 < nI x ↔ 0 < x from nI_ltI (a := 0) (b := x) (by decide) hx).mpr w)))

theorem go_icmp_le {d : Nat} {own : String} {cc : ByteArray} {nL : Nat} {ret : Option FieldType} {pc q : Nat} {lo : List (Option Value)} {st : List Value} {h : AH} {Q : Option Value → AH → Prop} {x y : Int32} {off : Int} {tgt : Nat} (hd : decode cc pc = .ok (.if_icmp .le off, 3)) (ht : (pc : Int) + off = (tgt : Int)) (hq : pc + 3 = q) (kt : x ≤ y → Go d own cc nL ret tgt lo st h Q) (kf : ¬ x ≤ y → Go d own cc nL ret q lo st h Q) : Go d own cc nL ret pc lo (.int y :: .int x :: st) h Q := by
  subst hq
  intro p l e s m args below meth c α cA D H locs ls C hP hS hl
  exact lv_icmp_le C.1 C.2.1 hd ht (fun z => kt z p l e s m args below meth c α cA D H locs ls C hP hS hl) (fun z => kf z p l e s m args below meth c α cA D H locs ls C hP hS hl)

theorem go_icmp_leN {d : Nat} {own : String} {cc : ByteArray} {nL : Nat} {ret : Option FieldType} {pc q : Nat} {lo : List (Option Value)} {st : List Value} {h : AH} {Q : Option Value → AH → Prop} {x y : Nat} {off : Int} {tgt : Nat} (hd : decode cc pc = .ok (.if_icmp .le off, 3)) (ht : (pc : Int) + off = (tgt : Int)) (hq : pc + 3 = q) (hx : x < 2 ^ 31) (hy : y < 2 ^ 31) (kt : x ≤ y → Go d own cc nL ret tgt lo st h Q) (kf : ¬ (x ≤ y) → Go d own cc nL ret q lo st h Q) : Go d own cc nL ret pc lo (.int (nI y) :: .int (nI x) :: st) h Q := go_icmp_le hd ht hq (fun z => kt ((nI_leI hx hy).mp z)) (fun z => kf (fun w => z ((nI_leI hx hy).mpr w)))

theorem go_if_le {d : Nat} {own : String} {cc : ByteArray} {nL : Nat} {ret : Option FieldType} {pc q : Nat} {lo : List (Option Value)} {st : List Value} {h : AH} {Q : Option Value → AH → Prop} {x : Int32} {off : Int} {tgt : Nat} (hd : decode cc pc = .ok (.ifCond .le off, 3)) (ht : (pc : Int) + off = (tgt : Int)) (hq : pc + 3 = q) (kt : x ≤ 0 → Go d own cc nL ret tgt lo st h Q) (kf : ¬ x ≤ 0 → Go d own cc nL ret q lo st h Q) : Go d own cc nL ret pc lo (.int x :: st) h Q := by
  subst hq
  intro p l e s m args below meth c α cA D H locs ls C hP hS hl
  exact lv_if_le C.1 C.2.1 hd ht (fun z => kt z p l e s m args below meth c α cA D H locs ls C hP hS hl) (fun z => kf z p l e s m args below meth c α cA D H locs ls C hP hS hl)

theorem go_if_leN {d : Nat} {own : String} {cc : ByteArray} {nL : Nat} {ret : Option FieldType} {pc q : Nat} {lo : List (Option Value)} {st : List Value} {h : AH} {Q : Option Value → AH → Prop} {x : Nat} {off : Int} {tgt : Nat} (hd : decode cc pc = .ok (.ifCond .le off, 3)) (ht : (pc : Int) + off = (tgt : Int)) (hq : pc + 3 = q) (hx : x < 2 ^ 31) (kt : x = 0 → Go d own cc nL ret tgt lo st h Q) (kf : ¬ (x = 0) → Go d own cc nL ret q lo st h Q) : Go d own cc nL ret pc lo (.int (nI x) :: st) h Q := go_if_le hd ht hq (fun z => kt ((show nI x ≤ 0 ↔ x = 0 from (nI_leI (a := x) (b := 0) hx (by decide)).trans ⟨fun z => by omega, fun z => by omega⟩).mp z)) (fun z => kf (fun w => z ((show nI x ≤ 0 ↔ x = 0 from (nI_leI (a := x) (b := 0) hx (by decide)).trans ⟨fun z => by omega, fun z => by omega⟩).mpr w)))

def bI (P : Prop) [Decidable P] : Int32 := if P then 1 else 0

theorem bI_t {P : Prop} [Decidable P] (h : P) : bI P = 1 := if_pos h
theorem bI_f {P : Prop} [Decidable P] (h : ¬ P) : bI P = 0 := if_neg h

theorem go_ifeqB {d : Nat} {own : String} {cc : ByteArray} {nL : Nat} {ret : Option FieldType} {pc q : Nat} {lo : List (Option Value)} {st : List Value} {h : AH} {Q : Option Value → AH → Prop} {P : Prop} [Decidable P] {off : Int} {tgt : Nat} (hd : decode cc pc = .ok (.ifCond .eq off, 3)) (ht : (pc : Int) + off = (tgt : Int)) (hq : pc + 3 = q) (kt : ¬ P → Go d own cc nL ret tgt lo st h Q) (kf : P → Go d own cc nL ret q lo st h Q) : Go d own cc nL ret pc lo (.int (bI P) :: st) h Q := go_if_eq hd ht hq (fun z => kt (fun w => by rw [bI_t w] at z; exact absurd z (by decide))) (fun z => kf (Decidable.byContradiction fun w => z (bI_f w)))

theorem go_ifneB {d : Nat} {own : String} {cc : ByteArray} {nL : Nat} {ret : Option FieldType} {pc q : Nat} {lo : List (Option Value)} {st : List Value} {h : AH} {Q : Option Value → AH → Prop} {P : Prop} [Decidable P] {off : Int} {tgt : Nat} (hd : decode cc pc = .ok (.ifCond .ne off, 3)) (ht : (pc : Int) + off = (tgt : Int)) (hq : pc + 3 = q) (kt : P → Go d own cc nL ret tgt lo st h Q) (kf : ¬ P → Go d own cc nL ret q lo st h Q) : Go d own cc nL ret pc lo (.int (bI P) :: st) h Q := go_if_ne hd ht hq (fun z => kt (Decidable.byContradiction fun w => z (bI_f w))) (fun z => kf (fun w => by rw [bI_t w] at z; exact absurd z (by decide)))

theorem go_goto {d : Nat} {own : String} {cc : ByteArray} {nL : Nat} {ret : Option FieldType} {pc q : Nat} {lo : List (Option Value)} {st : List Value} {h : AH} {Q : Option Value → AH → Prop} {off : Int} {tgt : Nat} (hd : decode cc pc = .ok (.goto off, 3)) (ht : (pc : Int) + off = (tgt : Int)) (k : Go d own cc nL ret tgt lo st h Q) : Go d own cc nL ret pc lo st h Q := by
  intro p l e s m args below meth c α cA D H locs ls C hP hS hl
  exact lv_goto C.1 C.2.1 hd ht (k p l e s m args below meth c α cA D H locs ls C hP hS hl)

theorem go_tableOut {d : Nat} {own : String} {cc : ByteArray} {nL : Nat} {ret : Option FieldType} {pc q : Nat} {lo : List (Option Value)} {st : List Value} {h : AH} {Q : Option Value → AH → Prop} {dflt lo1 hi1 : Int} {offs : Array Int} {len : Nat} {x : Int32} {tgt : Nat} (hd : decode cc pc = .ok (.tableswitch dflt lo1 hi1 offs, len)) (hz : x.toInt < lo1 ∨ hi1 < x.toInt) (ht : (pc : Int) + dflt = (tgt : Int)) (k : Go d own cc nL ret tgt lo st h Q) : Go d own cc nL ret pc lo (.int x :: st) h Q := by
  intro p l e s m args below meth c α cA D H locs ls C hP hS hl
  exact lv_tableOut C.1 C.2.1 hd hz ht (k p l e s m args below meth c α cA D H locs ls C hP hS hl)

theorem go_tableIn {d : Nat} {own : String} {cc : ByteArray} {nL : Nat} {ret : Option FieldType} {pc q : Nat} {lo : List (Option Value)} {st : List Value} {h : AH} {Q : Option Value → AH → Prop} {dflt lo1 hi1 : Int} {offs : Array Int} {len : Nat} {x : Int32} {off : Int} {tgt : Nat} (hd : decode cc pc = .ok (.tableswitch dflt lo1 hi1 offs, len)) (h1 : ¬ x.toInt < lo1) (h2 : ¬ hi1 < x.toInt) (ho : offs[(x.toInt - lo1).toNat]? = some off) (ht : (pc : Int) + off = (tgt : Int)) (k : Go d own cc nL ret tgt lo st h Q) : Go d own cc nL ret pc lo (.int x :: st) h Q := by
  intro p l e s m args below meth c α cA D H locs ls C hP hS hl
  exact lv_tableIn C.1 C.2.1 hd h1 h2 ho ht (k p l e s m args below meth c α cA D H locs ls C hP hS hl)

theorem go_lookup {d : Nat} {own : String} {cc : ByteArray} {nL : Nat} {ret : Option FieldType} {pc q : Nat} {lo : List (Option Value)} {st : List Value} {h : AH} {Q : Option Value → AH → Prop} {dflt : Int} {ps : Array (Int × Int)} {len : Nat} {x : Int32} {off : Int} {tgt : Nat} (hd : decode cc pc = .ok (.lookupswitch dflt ps, len)) (hp : (ps.toList.zip (ps.toList.drop 1)).all (fun (a, next) => a.1 < next.1) = true) (ho : Op.lookupswitch.offset ps.toList dflt x.toInt = off) (ht : (pc : Int) + off = (tgt : Int)) (k : Go d own cc nL ret tgt lo st h Q) : Go d own cc nL ret pc lo (.int x :: st) h Q := by
  intro p l e s m args below meth c α cA D H locs ls C hP hS hl
  exact lv_lookup C.1 C.2.1 hd hp ho ht (k p l e s m args below meth c α cA D H locs ls C hP hS hl)
end
section
/-! fields, arrays, calls, returns -/
abbrev rv (v : Option Value) (st : List Value) : List Value := match v with
  | some x => x :: st
  | none => st
theorem rv_map (α : Nat → Nat) (v : Option Value) (st : List Value) : (v.map (cV α)).toList ++ st.map (cV α) = (rv v st).map (cV α) := by cases v <;> rfl
def FL (own : String) (ix ci k : Nat) : Prop := ∃ (C : String) (T : u_T) (N : Nat), vwCl[ci]? = some (C, T, N) ∧ k < N ∧ Cond.fieldLink own ix (T k).1 (T k).2.1 (T k).2.2.1 ∈ tW ∧ ∀ w ∈ u_ws C T N, w ∈ tW
def FP (own : String) (ix ci k : Nat) (ty : FieldType) : Prop := ∃ (C : String) (T : u_T) (N : Nat), vwCl[ci]? = some (C, T, N) ∧ k < N ∧ Cond.fieldLink own ix (T k).1 (T k).2.1 (T k).2.2.1 ∈ tW ∧ (∀ w ∈ u_ws C T N, w ∈ tW) ∧
  (∃ ty0 : Nat → FieldType, ∀ k, k < N → parseFieldDescriptor (T k).2.2.1 = some (ty0 k)) ∧ (∀ a, a < N → ∀ b, b < N → a ≠ b → (T a).2.1 ≠ (T b).2.1) ∧ (T k).2.2.2 = false ∧ parseFieldDescriptor (T k).2.2.1 = some ty
section RU
variable {d : Nat} {own : String} {cc : ByteArray} {nL : Nat} {ret : Option FieldType} {pc q : Nat} {lo : List (Option Value)} {st : List Value} {h : AH} {Q : Option Value → AH → Prop}
theorem go_getf {a ci ix k : Nat} {fs : List Value} {v : Value} (hd : decode cc pc = .ok (.getfield ix, 3)) (hf : FL own ix ci k) (ha : a < nC) (hc : h a = .inr (ci, fs)) (hv : fs[k]? = some v) (hq : pc + 3 = q) (kk : Go d own cc nL ret q lo (v :: st) h Q) : Go d own cc nL ret pc lo (.ref a :: st) h Q := by
  subst hq
  obtain ⟨C, T, N, hcl, hk, hlink, hin⟩ := hf
  intro p l e s m args below meth c α cA D H locs ls C0 hP hS hl
  have ha2 := cW_at (α := α) (cA := cA) (h := h) ha
  rw [hc] at ha2
  exact va_get C0.1 C0.2.1 C0.2.2.2.2.2.1 hin C0.2.2.2.2.1 C0.2.2.2.2.2.2.2.1 hP a (fs := fs.map (cV α)) ha2 hcl k hk (C0.2.2.2.2.2.1 _ hlink) (fun _ z => z) (v := cV α v) (by rw [List.getElem?_map, hv]; rfl) hd (kk p l e s m args below meth c α cA D H locs ls C0 hP hS hl)
theorem go_putf {a ci ix k : Nat} {ty : FieldType} {fs : List Value} {v : Value} (hd : decode cc pc = .ok (.putfield ix, 3)) (hf : FP own ix ci k ty) (ha : a < nC) (hc : h a = .inr (ci, fs)) (hn : ∀ α, narrow ty (cV α v) = cV α v) (hfit : ∀ α, fits ty (cV α v) = true) (hlen : k < fs.length) (hq : pc + 3 = q)
    (kk : Go d own cc nL ret q lo st (hset h a (.inr (ci, fs.set k v))) Q) : Go d own cc nL ret pc lo (v :: .ref a :: st) h Q := by
  subst hq
  obtain ⟨C, T, N, hcl, hk, hlink, hin, ⟨ty0, hty⟩, hnm, hfin, hpd⟩ := hf
  intro p l e s m args below meth c α cA D H locs ls C0 hP hS hl
  have ha2 := cW_at (α := α) (cA := cA) (h := h) ha
  rw [hc] at ha2
  have hj := C0.2.2.2.2.2.2.2.2.1
  refine va_put C0.1 C0.2.1 C0.2.2.2.2.2.1 hin ty0 hty hnm C0.2.2.2.2.1 C0.2.2.2.2.2.2.2.1 hP (cW_D hj) hS a (fs := fs.map (cV α)) ha2 hcl k hk (C0.2.2.2.2.2.1 _ hlink) (fun _ z => z) hfin hpd (hn α) (hfit α) (by rw [List.length_map]; exact hlen) hd (fun H1 locs1 hP1 hD1 hS1 => ?_)
  have e1 : (cW α cA h).set a (α a, .inr (ci, (fs.map (cV α)).set k (cV α v))) = cW α cA (hset h a (.inr (ci, fs.set k v))) := by
    rw [← cW_set ha]
    simp [cE, List.map_set]
  rw [e1] at hP1
  exact kk p l e s m args below meth c α cA D H1 locs1 ls C0 hP1 hS1 hl
theorem go_iald {a n i : Nat} {f : Nat → Int32} (hd : decode cc pc = .ok (.iaload, 1)) (ha : a < nC) (hc : h a = .inl (0, n, .inl f)) (hn : n < 2 ^ 31) (hi : i < n) (hq : pc + 1 = q) (kk : Go d own cc nL ret q lo (.int (f i) :: st) h Q) : Go d own cc nL ret pc lo (.int (nI i) :: .ref a :: st) h Q := by
  subst hq
  intro p l e s m args below meth c α cA D H locs ls C0 hP hS hl
  have ha2 := cW_at (α := α) (cA := cA) (h := h) ha
  rw [hc] at ha2
  refine va_iald C0.1 C0.2.1 C0.2.2.2.2.2.2.2.1 hP a 0 (cA := cA 0) (n := n) (f := f) ha2 rfl (vp_in_nI hi hn) hd ?_
  rw [nI_clamp (by omega)]
  exact kk p l e s m args below meth c α cA D H locs ls C0 hP hS hl
theorem go_iast {a n i : Nat} {f : Nat → Int32} {x : Int32} (hd : decode cc pc = .ok (.iastore, 1)) (ha : a < nC) (hc : h a = .inl (0, n, .inl f)) (hn : n < 2 ^ 31) (hi : i < n) (hq : pc + 1 = q) (kk : Go d own cc nL ret q lo st (hset h a (.inl (0, n, .inl (upd f i x)))) Q) : Go d own cc nL ret pc lo (.int x :: .int (nI i) :: .ref a :: st) h Q := by
  subst hq
  intro p l e s m args below meth c α cA D H locs ls C0 hP hS hl
  have ha2 := cW_at (α := α) (cA := cA) (h := h) ha
  rw [hc] at ha2
  refine va_iast C0.1 C0.2.1 C0.2.2.2.2.2.2.2.1 hP (cW_D C0.2.2.2.2.2.2.2.2.1) hS a 0 (cA := cA 0) (n := n) (f := f) ha2 rfl (vp_in_nI hi hn) hd (fun H1 locs1 hP1 hD1 hS1 => ?_)
  have e1 : (cW α cA h).set a (α a, .inl (cA 0, n, .inl (upd f (nI i).toNatClampNeg x))) = cW α cA (hset h a (.inl (0, n, .inl (upd f i x)))) := by
    rw [← cW_set ha, nI_clamp (by omega)]
    rfl
  rw [e1] at hP1
  exact kk p l e s m args below meth c α cA D H1 locs1 ls C0 hP1 hS1 hl
theorem go_lald {a n i : Nat} {f : Nat → Int64} (hd : decode cc pc = .ok (.laload, 1)) (ha : a < nC) (hc : h a = .inl (1, n, .inr (.inl f))) (hn : n < 2 ^ 31) (hi : i < n) (hq : pc + 1 = q) (kk : Go d own cc nL ret q lo (.long (f i) :: st) h Q) : Go d own cc nL ret pc lo (.int (nI i) :: .ref a :: st) h Q := by
  subst hq
  intro p l e s m args below meth c α cA D H locs ls C0 hP hS hl
  have ha2 := cW_at (α := α) (cA := cA) (h := h) ha
  rw [hc] at ha2
  refine va_lald C0.1 C0.2.1 C0.2.2.2.2.2.2.2.1 hP a 1 (cA := cA 1) (n := n) (f := f) ha2 rfl (vp_in_nI hi hn) hd ?_
  rw [nI_clamp (by omega)]
  exact kk p l e s m args below meth c α cA D H locs ls C0 hP hS hl
theorem go_last {a n i : Nat} {f : Nat → Int64} {x : Int64} (hd : decode cc pc = .ok (.lastore, 1)) (ha : a < nC) (hc : h a = .inl (1, n, .inr (.inl f))) (hn : n < 2 ^ 31) (hi : i < n) (hq : pc + 1 = q) (kk : Go d own cc nL ret q lo st (hset h a (.inl (1, n, .inr (.inl (vp_updL f i x))))) Q) : Go d own cc nL ret pc lo (.long x :: .int (nI i) :: .ref a :: st) h Q := by
  subst hq
  intro p l e s m args below meth c α cA D H locs ls C0 hP hS hl
  have ha2 := cW_at (α := α) (cA := cA) (h := h) ha
  rw [hc] at ha2
  refine va_last C0.1 C0.2.1 C0.2.2.2.2.2.2.2.1 hP (cW_D C0.2.2.2.2.2.2.2.2.1) hS a 1 (cA := cA 1) (n := n) (f := f) ha2 rfl (vp_in_nI hi hn) hd (fun H1 locs1 hP1 hD1 hS1 => ?_)
  have e1 : (cW α cA h).set a (α a, .inl (cA 1, n, .inr (.inl (vp_updL f (nI i).toNatClampNeg x)))) = cW α cA (hset h a (.inl (1, n, .inr (.inl (vp_updL f i x))))) := by
    rw [← cW_set ha, nI_clamp (by omega)]
    rfl
  rw [e1] at hP1
  exact kk p l e s m args below meth c α cA D H1 locs1 ls C0 hP1 hS1 hl
theorem go_zald {a n i : Nat} {f : Nat → Int32} (hd : decode cc pc = .ok (.baload, 1)) (ha : a < nC) (hc : h a = .inl (2, n, .inl f)) (hn : n < 2 ^ 31) (hi : i < n) (hq : pc + 1 = q) (kk : Go d own cc nL ret q lo (.int (f i) :: st) h Q) : Go d own cc nL ret pc lo (.int (nI i) :: .ref a :: st) h Q := by
  subst hq
  intro p l e s m args below meth c α cA D H locs ls C0 hP hS hl
  have ha2 := cW_at (α := α) (cA := cA) (h := h) ha
  rw [hc] at ha2
  refine va_zald C0.1 C0.2.1 C0.2.2.2.2.2.2.2.1 hP a 2 (cA := cA 2) (n := n) (f := f) ha2 rfl (vp_in_nI hi hn) hd ?_
  rw [nI_clamp (by omega)]
  exact kk p l e s m args below meth c α cA D H locs ls C0 hP hS hl
theorem go_zast {a n i : Nat} {f : Nat → Int32} {x : Int32} (hd : decode cc pc = .ok (.bastore, 1)) (ha : a < nC) (hc : h a = .inl (2, n, .inl f)) (hn : n < 2 ^ 31) (hi : i < n) (hx : vp_nar .boolean x = x) (hq : pc + 1 = q) (kk : Go d own cc nL ret q lo st (hset h a (.inl (2, n, .inl (upd f i x)))) Q) : Go d own cc nL ret pc lo (.int x :: .int (nI i) :: .ref a :: st) h Q := by
  subst hq
  intro p l e s m args below meth c α cA D H locs ls C0 hP hS hl
  have ha2 := cW_at (α := α) (cA := cA) (h := h) ha
  rw [hc] at ha2
  refine va_zast C0.1 C0.2.1 C0.2.2.2.2.2.2.2.1 hP (cW_D C0.2.2.2.2.2.2.2.2.1) hS a 2 (cA := cA 2) (n := n) (f := f) ha2 rfl (vp_in_nI hi hn) hd (fun H1 locs1 hP1 hD1 hS1 => ?_)
  have e1 : (cW α cA h).set a (α a, .inl (cA 2, n, .inl (upd f (nI i).toNatClampNeg (vp_nar .boolean x)))) = cW α cA (hset h a (.inl (2, n, .inl (upd f i x)))) := by
    rw [← cW_set ha, nI_clamp (by omega), hx]
    rfl
  rw [e1] at hP1
  exact kk p l e s m args below meth c α cA D H1 locs1 ls C0 hP1 hS1 hl
theorem go_aald {a n i b : Nat} {f : Nat → Option Nat} (hd : decode cc pc = .ok (.aaload, 1)) (ha : a < nC) (hc : h a = .inl (3, n, .inr (.inr (.inr (.inr f))))) (hn : n < 2 ^ 31) (hi : i < n) (hf : f i = some b) (hq : pc + 1 = q) (kk : Go d own cc nL ret q lo (.ref b :: st) h Q) : Go d own cc nL ret pc lo (.int (nI i) :: .ref a :: st) h Q := by
  subst hq
  intro p l e s m args below meth c α cA D H locs ls C0 hP hS hl
  have ha2 := cW_at (α := α) (cA := cA) (h := h) ha
  rw [hc] at ha2
  refine va_aldq C0.1 C0.2.1 C0.2.2.2.2.2.2.2.1 hP a 3 (cA := cA 3) (n := n) (f := fun i => (f i).map α) ha2 rfl (vp_in_nI hi hn) hd ?_
  rw [nI_clamp (by omega), hf]
  exact kk p l e s m args below meth c α cA D H locs ls C0 hP hS hl
/-! returns -/
theorem go_ret0 (hd : decode cc pc = .ok (.return_, 1)) (hr : ret = none) (kk : Q none h) : Go d own cc nL ret pc lo [] h Q := by
  intro p l e s m args below meth c α cA D H locs ls C0 hP hS hl
  exact W.vret C0.1 C0.2.1 (C0.2.2.2.1.trans hr) (fun t ht hW => ⟨⟨none, h, rfl, kk, by rw [ht]; exact hP, va_K.moved hW.alike C0.2.2.2.2.2.2.2.1⟩, hS.F ht⟩) hS.2.2 hd C0.2.2.2.2.2.2.1
theorem go_iret {x : Int32} (hd : decode cc pc = .ok (.ireturn, 1)) (hr : ret = some .int) (kk : Q (some (.int x)) h) : Go d own cc nL ret pc lo [.int x] h Q := by
  intro p l e s m args below meth c α cA D H locs ls C0 hP hS hl
  exact W.iret C0.1 C0.2.1 (C0.2.2.2.1.trans hr) (fun t ht hW => ⟨⟨some (.int x), h, rfl, kk, by rw [ht]; exact hP, va_K.moved hW.alike C0.2.2.2.2.2.2.2.1⟩, hS.F ht⟩) hS.2.2 hd C0.2.2.2.2.2.2.1
theorem go_zret {x : Int32} {ty : FieldType} (hd : decode cc pc = .ok (.ireturn, 1)) (hr : ret = some ty) (hx : narrow ty (.int x) = .int x) (kk : Q (some (.int x)) h) : Go d own cc nL ret pc lo [.int x] h Q := by
  intro p l e s m args below meth c α cA D H locs ls C0 hP hS hl
  exact W.zret C0.1 C0.2.1 (C0.2.2.2.1.trans hr) hx (fun t ht hW => ⟨⟨some (.int x), h, rfl, kk, by rw [ht]; exact hP, va_K.moved hW.alike C0.2.2.2.2.2.2.2.1⟩, hS.F ht⟩) hS.2.2 hd C0.2.2.2.2.2.2.1
theorem go_lret {x : Int64} (hd : decode cc pc = .ok (.lreturn, 1)) (hr : ret = some .long) (kk : Q (some (.long x)) h) : Go d own cc nL ret pc lo [.long x] h Q := by
  intro p l e s m args below meth c α cA D H locs ls C0 hP hS hl
  exact W.lret C0.1 C0.2.1 (C0.2.2.2.1.trans hr) (fun t ht hW => ⟨⟨some (.long x), h, rfl, kk, by rw [ht]; exact hP, va_K.moved hW.alike C0.2.2.2.2.2.2.2.1⟩, hS.F ht⟩) hS.2.2 hd C0.2.2.2.2.2.2.1
theorem go_aret {x : Nat} {n : String} (hd : decode cc pc = .ok (.areturn, 1)) (hr : ret = some (.object n)) (kk : Q (some (.ref x)) h) : Go d own cc nL ret pc lo [.ref x] h Q := by
  intro p l e s m args below meth c α cA D H locs ls C0 hP hS hl
  exact W.aret C0.1 C0.2.1 (C0.2.2.2.1.trans hr) (Or.inl ⟨n, rfl⟩) (Or.inr ⟨α x, rfl⟩) (fun t ht hW => ⟨⟨some (.ref x), h, rfl, kk, by rw [ht]; exact hP, va_K.moved hW.alike C0.2.2.2.2.2.2.2.1⟩, hS.F ht⟩) hS.2.2 hd C0.2.2.2.2.2.2.1
theorem go_forget {lo' : List (Option Value)} (hk : ∀ (i : Nat) (v : Value), lo'[i]? = some (some v) → lo[i]? = some (some v)) (kk : Go d own cc nL ret pc lo' st h Q) : Go d own cc nL ret pc lo st h Q := by
  intro p l e s m args below meth c α cA D H locs ls C0 hP hS hl
  exact kk p l e s m args below meth c α cA D H locs ls C0 hP hS (hl.forget hk)
end RU
/-! a method's contract out of its walk -/
theorem ST.call {α : Nat → Nat} {s U : State} {H : Heap} {locs : List Loc} (h : ST α s) (hS : va_S (wA α) s.heap H locs) (hU : U.heap = H) (hW : s.WarmedH U.vm) : ST α U := by
  obtain ⟨⟨adV, h1⟩, h2⟩ := h
  refine ⟨⟨adV, ?_⟩, fun j hj => vk_R.warm hW (h2 j hj)⟩
  rw [hU]
  exact (h1.kept hS.2.1).moved hW.alike
theorem ST.blind {α : Nat → Nat} {U : State} (g : JFrame) (mk : MethodId) (a : Array Value) (h : ST α U) : ST α (U.calling g mk a) := by
  obtain ⟨⟨adV, h1⟩, h2⟩ := h
  exact ⟨⟨adV, h1.moved (u := U) (U := U.calling g mk a) (Vm.Alike.refl U.vm)⟩, fun j hj => vk_R.same (u := U) (U := U.calling g mk a) rfl (h2 j hj)⟩
set_option maxHeartbeats 1000000 in
theorem cn_of {d : Nat} {y : MethodName} {own : String} {cc : ByteArray} {nL : Nat} {ret : Option FieldType} {av : List Value} {h : AH} {Q : Option Value → AH → Prop} {lo : List (Option Value)} (k : Nat) (hlo : loA av ++ List.replicate k none = lo) (hy : plainName y.cls = true) (ho : y.cls = own) (hk : slN av ≤ nL)
    (G : Go d own cc nL ret 0 lo [] h Q) : Cn d y cc nL ret av h Q := by
  subst ho
  intro l α cA D hj
  refine Met.ofW (cc := cc) (maxL := nL) (ret := ret) hy rfl ?_
  intro p e s m args below meth c s₁ B hml hv
  obtain ⟨rfl, hP, hK, hS⟩ := hv
  have hts := atoms_spec (ws := Cond.code y cc nL ret :: tW) B.pre
  have hown : s.vm.findClass y.cls = some m.cls := findClass_of_methodNamed B.named
  have hen := lv_entry (av.map (cV α)) (n := nL) (by rw [slN_len, slN_map]; exact hk)
  rw [lg_entry_eq]
  generalize (lg_sl (av.map (cV α)) ++ List.replicate (nL - (lg_sl (av.map (cV α))).length) Slot.unset).toArray = ls at hen ⊢
  refine G p l e s m _ below meth c α cA D s.heap [] ls ⟨B.exec, B.bytes, hml, B.returns, hown, fun w hw => hts w (List.mem_cons_of_mem _ hw), B.notSynchronized, hK, hj, hS⟩ hP va_S.rf ⟨hen.1, hen.2.1, fun i v hi => ?_⟩
  refine hen.2.2 (i, cV α v) ?_
  rw [← hlo] at hi
  have hi2 : (loA av)[i]? = some (some v) := by
    rw [List.getElem?_append] at hi
    split at hi
    · exact hi
    · rw [List.getElem?_replicate] at hi
      split at hi <;> cases hi
  have := loA_args α av 0 i v hi2
  rwa [Nat.zero_add] at this
/-! calls -/
def LkB (own : String) (ix : Nat) (y : MethodName) (cc : ByteArray) (nL : Nat) (ret : Option FieldType) (np : Nat) : Prop := Cond.methodLink own ix y ∈ tW ∧ Cond.code y cc nL ret ∈ tW ∧ Cond.initialized y.cls ∈ tW ∧ (y.cls ≠ "java/lang/invoke/MethodHandle" ∧ y.cls ≠ "java/lang/invoke/VarHandle" ∧ (parseMethodDescriptor y.desc).map (fun d => d.parameters.length) = some np)
def LkV (own : String) (ix : Nat) (y : MethodName) (cc : ByteArray) (nL : Nat) (ret : Option FieldType) (np ci : Nat) : Prop := LkB own ix y cc nL ret np ∧ Cond.instanceMethod y ∈ tW ∧ Cond.selects y.cls y y ∈ tW ∧ ∃ (T : u_T) (N : Nat), vwCl[ci]? = some (y.cls, T, N)
def LkS (own : String) (ix : Nat) (y : MethodName) (cc : ByteArray) (nL : Nat) (ret : Option FieldType) (np : Nat) : Prop := LkB own ix y cc nL ret np ∧ Cond.static y ∈ tW
theorem map_cat (α : Nat → Nat) (st : List Value) : ((st.map (cV α)).map fun v => v.category) = st.map fun v => v.category := by
  rw [List.map_map]
  exact List.map_congr_left (fun v _ => cV_cat α v)
theorem callB_tW {R : Room} {s : State} {args : Array Value} {own : String} {ix : Nat} {y : MethodName} {cc : ByteArray} {nL : Nat} {ret : Option FieldType} {np d d' : Nat} (hR : R = rmD d) (ht : ∀ w ∈ tW, w.before args s = true) (lk : LkB own ix y cc nL ret np) (hlt : d' < d) (hL : nL ≤ 40) :
    CallB R s args own ix y cc nL ret (Cond.code y cc nL ret :: tW) (rmD d') 0 0 np :=
  callB_of np ht (goodIn_tW lk.2.1) rfl rfl rfl (ht _ lk.2.2.1) (ht _ lk.1) lk.2.2.2 (by rw [hR]; exact ⟨hlt, by show 8 + (nL + 11) + 64 * d' ≤ 64 * d; omega⟩)
theorem go_run {p : Program} {l : Launch} {e : Env} {s : State} {m : MethodId} {args : Array Value} {below : List Frame} {meth : Method} {c : Code} {α : Nat → Nat} {cA : Nat → ClassId} {D : va_G} {H : Heap} {locs : List Loc} {ls : Array Slot} {R : Room} {Qz : State → Prop} {pc : Nat} {st0 rest : List Value} {a : Array Value} {Q' : Option Value → AH → Prop}
    (hr : va_Run p l e R s m args below meth c H locs 0 0 0 0 (F0 m pc ls st0) rest (Qx α cA D Q' a) (wA α)) (hS : va_S (wA α) s.heap H locs)
    (kk : ∀ (v : Option Value) (h' : AH) (H1 : Heap) (locs1 : List Loc), Q' v h' → va_P D vwCl (cW α cA h') H1 → va_S (wA α) s.heap H1 locs1 → W p l e R s m args below meth c H1 locs1 0 0 Qz (F0 m (pc + 3) ls ((v.map (cV α)).toList ++ rest))) : W p l e R s m args below meth c H locs 0 0 Qz (F0 m pc ls st0) := by
  intro T hT X
  obtain ⟨v, st₀, t, T', L, h0, X', hL, e1, e2, ⟨⟨v', h', hv, hq, hp, hk⟩, hz, hkp⟩, stp⟩ := hr T hT X
  cases hv
  rw [h0] at hz hkp
  obtain ⟨t2, a1, b1⟩ := kk v' h' T'.heap (locs ++ L) hq (by rw [e1]; exact hp)
    ⟨Nat.le_trans hS.1 (by rw [e1]; exact hz), fun q h1 h2 => by rw [e1, hkp q (Nat.lt_of_lt_of_le h1 hS.1) h2]; exact hS.2.1 q h1 h2, fun q hq => by
      rcases List.mem_append.mp hq with h | h
      · exact hS.2.2 q h
      · exact hL q h⟩ T' rfl X'
  exact ⟨t2, stp t2 a1, b1⟩
set_option maxHeartbeats 1000000 in
theorem go_invV {d : Nat} {own : String} {cc : ByteArray} {nL : Nat} {ret : Option FieldType} {pc q : Nat} {lo : List (Option Value)} {st : List Value} {h : AH} {Q : Option Value → AH → Prop} {d' ix np ci b nL' : Nat} {y : MethodName} {cc' : ByteArray} {ret' : Option FieldType} {As fs : List Value}
    (hd : decode cc pc = .ok (.invokevirtual ix, 3)) (lk : LkV own ix y cc' nL' ret' np ci) (hlt : d' < d) (hL : nL' ≤ 40) (hst : (st.map fun v => v.category).sum ≤ 8) (hb : b < nC) (hc : h b = .inr (ci, fs)) (hn : As.length = np) (hq : pc + 3 = q)
    (kk : Cn d' y cc' nL' ret' (.ref b :: As) h (fun v h' => Go d own cc nL ret q lo (rv v st) h' Q)) : Go d own cc nL ret pc lo (As.reverse ++ .ref b :: st) h Q := by
  subst hq
  intro p l e s m args below meth c α cA D H locs ls C0 hP hS hl
  obtain ⟨lk0, hin, hse, T, N, hcl⟩ := lk
  have ha2 := cW_at (α := α) (cA := cA) (h := h) hb
  rw [hc] at ha2
  have hK := C0.2.2.2.2.2.2.2.1
  have hM := kk l α cA D C0.2.2.2.2.2.2.2.2.1
  have es : (As.reverse ++ .ref b :: st).map (cV α) = (As.map (cV α)).reverse ++ .ref (α b) :: st.map (cV α) := by simp [cV]
  rw [es]
  refine go_run (va_runV (C := y.cls) (b := α b) (As := As.map (cV α)) (rest := st.map (cV α)) ⟨C0.1, C0.2.1, C0.2.2.1, C0.2.2.2.2.1, C0.2.2.2.2.2.1⟩ hM ⟨callB_tW rfl C0.2.2.2.2.2.1 lk0 hlt hL, C0.2.2.2.2.2.1 _ hin, C0.2.2.2.2.2.1 _ hse⟩
    ⟨fun a U g mk z => ⟨z.1, z.2.1, va_K.moved (u := U) (U := U.calling g mk a) (Vm.Alike.refl U.vm) z.2.2.1, z.2.2.2.blind g mk a⟩, va_recv hK hP hcl ha2, fun U hU hW => ⟨rfl, by rw [hU]; exact hP, va_K.moved hW.alike hK, C0.2.2.2.2.2.2.2.2.2.call hS hU hW⟩⟩
    rfl (by rw [List.length_map]; exact hn) hl.1 rfl (lv_room (by rw [map_cat]; exact hst)) hd ⟨Nat.le_refl _, Nat.le_refl _⟩) hS (fun v h' H1 locs1 hQ hP1 hS1 => ?_)
  rw [rv_map]
  exact hQ p l e s m args below meth c α cA D H1 locs1 ls C0 hP1 hS1 hl
set_option maxHeartbeats 1000000 in
theorem go_invS {d : Nat} {own : String} {cc : ByteArray} {nL : Nat} {ret : Option FieldType} {pc q : Nat} {lo : List (Option Value)} {st : List Value} {h : AH} {Q : Option Value → AH → Prop} {d' ix np nL' : Nat} {y : MethodName} {cc' : ByteArray} {ret' : Option FieldType} {As : List Value}
    (hd : decode cc pc = .ok (.invokestatic ix, 3)) (lk : LkS own ix y cc' nL' ret' np) (hlt : d' < d) (hL : nL' ≤ 40) (hst : (st.map fun v => v.category).sum ≤ 8) (hn : As.length = np) (hq : pc + 3 = q)
    (kk : Cn d' y cc' nL' ret' As h (fun v h' => Go d own cc nL ret q lo (rv v st) h' Q)) : Go d own cc nL ret pc lo (As.reverse ++ st) h Q := by
  subst hq
  intro p l e s m args below meth c α cA D H locs ls C0 hP hS hl
  obtain ⟨lk0, hstt⟩ := lk
  have hK := C0.2.2.2.2.2.2.2.1
  have hM := kk l α cA D C0.2.2.2.2.2.2.2.2.1
  have es : (As.reverse ++ st).map (cV α) = (As.map (cV α)).reverse ++ st.map (cV α) := by simp
  rw [es]
  refine go_run (va_runS (As := As.map (cV α)) (rest := st.map (cV α)) ⟨C0.1, C0.2.1, C0.2.2.1, C0.2.2.2.2.1, C0.2.2.2.2.2.1⟩ hM ⟨callB_tW rfl C0.2.2.2.2.2.1 lk0 hlt hL, C0.2.2.2.2.2.1 _ hstt⟩
    ⟨fun a U g mk z => ⟨z.1, z.2.1, va_K.moved (u := U) (U := U.calling g mk a) (Vm.Alike.refl U.vm) z.2.2.1, z.2.2.2.blind g mk a⟩, fun U hU hW => ⟨rfl, by rw [hU]; exact hP, va_K.moved hW.alike hK, C0.2.2.2.2.2.2.2.2.2.call hS hU hW⟩⟩
    rfl (by rw [List.length_map]; exact hn) hl.1 rfl (lv_room (by rw [map_cat]; exact hst)) hd ⟨Nat.le_refl _, Nat.le_refl _⟩) hS (fun v h' H1 locs1 hQ hP1 hS1 => ?_)
  rw [rv_map]
  exact hQ p l e s m args below meth c α cA D H1 locs1 ls C0 hP1 hS1 hl
end
