section
-- ===== PART A: goes FIRST, ahead of the names: the tables' words, and 'selects' of the private methods out of them =====
/-- a private method of a class that the tables say can be made, by its rows of tables_1 -/
def lw_okq (q : MethodName × Nat) : Prop := (q.1.cls ≠ "java/lang/invoke/MethodHandle" ∧ q.1.cls ≠ "java/lang/invoke/VarHandle") ∧ Cond.instantiable q.1.cls q.2 ∈ tables_1 ∧ Cond.privateMethod q.1 ∈ tables_1 ∧ Cond.instanceMethod q.1 ∈ tables_1
theorem lw_p0 : lw_okq (⟨"BlueHue", "found", "(I)I"⟩, 16) := ⟨⟨by decide +kernel, by decide +kernel⟩, List.mem_of_getElem? (i := 12) (by decide +kernel), List.mem_of_getElem? (i := 255) (by decide +kernel), List.mem_of_getElem? (i := 256) (by decide +kernel)⟩
theorem lw_p1 : lw_okq (⟨"BlueHue", "fine", "(I)I"⟩, 16) := ⟨⟨by decide +kernel, by decide +kernel⟩, List.mem_of_getElem? (i := 12) (by decide +kernel), List.mem_of_getElem? (i := 264) (by decide +kernel), List.mem_of_getElem? (i := 265) (by decide +kernel)⟩
theorem lw_p2 : lw_okq (⟨"BlueHue", "readText", "()V"⟩, 16) := ⟨⟨by decide +kernel, by decide +kernel⟩, List.mem_of_getElem? (i := 12) (by decide +kernel), List.mem_of_getElem? (i := 305) (by decide +kernel), List.mem_of_getElem? (i := 306) (by decide +kernel)⟩
theorem lw_p3 : lw_okq (⟨"BlueHue", "readLaw", "()V"⟩, 16) := ⟨⟨by decide +kernel, by decide +kernel⟩, List.mem_of_getElem? (i := 12) (by decide +kernel), List.mem_of_getElem? (i := 317) (by decide +kernel), List.mem_of_getElem? (i := 318) (by decide +kernel)⟩
theorem lw_p4 : lw_okq (⟨"BlueHue", "readRoad", "()V"⟩, 16) := ⟨⟨by decide +kernel, by decide +kernel⟩, List.mem_of_getElem? (i := 12) (by decide +kernel), List.mem_of_getElem? (i := 355) (by decide +kernel), List.mem_of_getElem? (i := 356) (by decide +kernel)⟩
theorem lw_p5 : lw_okq (⟨"BlueHue", "readWisher", "(I)V"⟩, 16) := ⟨⟨by decide +kernel, by decide +kernel⟩, List.mem_of_getElem? (i := 12) (by decide +kernel), List.mem_of_getElem? (i := 370) (by decide +kernel), List.mem_of_getElem? (i := 371) (by decide +kernel)⟩
theorem lw_p6 : lw_okq (⟨"BlueHue", "hasLand", "()Z"⟩, 16) := ⟨⟨by decide +kernel, by decide +kernel⟩, List.mem_of_getElem? (i := 12) (by decide +kernel), List.mem_of_getElem? (i := 418) (by decide +kernel), List.mem_of_getElem? (i := 419) (by decide +kernel)⟩
theorem lw_p7 : lw_okq (⟨"BlueHue", "isWisher", "(I)Z"⟩, 16) := ⟨⟨by decide +kernel, by decide +kernel⟩, List.mem_of_getElem? (i := 12) (by decide +kernel), List.mem_of_getElem? (i := 461) (by decide +kernel), List.mem_of_getElem? (i := 462) (by decide +kernel)⟩
theorem lw_p8 : lw_okq (⟨"BlueHue", "isPlace", "(I)Z"⟩, 16) := ⟨⟨by decide +kernel, by decide +kernel⟩, List.mem_of_getElem? (i := 12) (by decide +kernel), List.mem_of_getElem? (i := 465) (by decide +kernel), List.mem_of_getElem? (i := 466) (by decide +kernel)⟩
theorem lw_p9 : lw_okq (⟨"BlueHue", "isThereBy", "(III)Z"⟩, 16) := ⟨⟨by decide +kernel, by decide +kernel⟩, List.mem_of_getElem? (i := 12) (by decide +kernel), List.mem_of_getElem? (i := 522) (by decide +kernel), List.mem_of_getElem? (i := 523) (by decide +kernel)⟩
theorem lw_p10 : lw_okq (⟨"BlueHue", "comesAsTold", "(III)Z"⟩, 16) := ⟨⟨by decide +kernel, by decide +kernel⟩, List.mem_of_getElem? (i := 12) (by decide +kernel), List.mem_of_getElem? (i := 542) (by decide +kernel), List.mem_of_getElem? (i := 543) (by decide +kernel)⟩
theorem lw_p11 : lw_okq (⟨"BlueHue", "goesBy", "(I)Z"⟩, 16) := ⟨⟨by decide +kernel, by decide +kernel⟩, List.mem_of_getElem? (i := 12) (by decide +kernel), List.mem_of_getElem? (i := 577) (by decide +kernel), List.mem_of_getElem? (i := 578) (by decide +kernel)⟩
theorem lw_p12 : lw_okq (⟨"BlueHue", "grownSize", "(I)I"⟩, 16) := ⟨⟨by decide +kernel, by decide +kernel⟩, List.mem_of_getElem? (i := 12) (by decide +kernel), List.mem_of_getElem? (i := 617) (by decide +kernel), List.mem_of_getElem? (i := 618) (by decide +kernel)⟩
theorem lw_p13 : lw_okq (⟨"BlueHue", "leave", "(I)V"⟩, 16) := ⟨⟨by decide +kernel, by decide +kernel⟩, List.mem_of_getElem? (i := 12) (by decide +kernel), List.mem_of_getElem? (i := 621) (by decide +kernel), List.mem_of_getElem? (i := 622) (by decide +kernel)⟩
theorem lw_p14 : lw_okq (⟨"BlueHue", "sizeOfGrown", "(I)I"⟩, 16) := ⟨⟨by decide +kernel, by decide +kernel⟩, List.mem_of_getElem? (i := 12) (by decide +kernel), List.mem_of_getElem? (i := 625) (by decide +kernel), List.mem_of_getElem? (i := 626) (by decide +kernel)⟩
theorem lw_p15 : lw_okq (⟨"BlueHue", "lentSize", "(I)I"⟩, 16) := ⟨⟨by decide +kernel, by decide +kernel⟩, List.mem_of_getElem? (i := 12) (by decide +kernel), List.mem_of_getElem? (i := 629) (by decide +kernel), List.mem_of_getElem? (i := 630) (by decide +kernel)⟩
def lw_privs_1 : List (MethodName × Nat) := [(⟨"BlueHue", "found", "(I)I"⟩, 16), (⟨"BlueHue", "fine", "(I)I"⟩, 16), (⟨"BlueHue", "readText", "()V"⟩, 16), (⟨"BlueHue", "readLaw", "()V"⟩, 16), (⟨"BlueHue", "readRoad", "()V"⟩, 16), (⟨"BlueHue", "readWisher", "(I)V"⟩, 16), (⟨"BlueHue", "hasLand", "()Z"⟩, 16), (⟨"BlueHue", "isWisher", "(I)Z"⟩, 16), (⟨"BlueHue", "isPlace", "(I)Z"⟩, 16), (⟨"BlueHue", "isThereBy", "(III)Z"⟩, 16), (⟨"BlueHue", "comesAsTold", "(III)Z"⟩, 16), (⟨"BlueHue", "goesBy", "(I)Z"⟩, 16), (⟨"BlueHue", "grownSize", "(I)I"⟩, 16), (⟨"BlueHue", "leave", "(I)V"⟩, 16), (⟨"BlueHue", "sizeOfGrown", "(I)I"⟩, 16), (⟨"BlueHue", "lentSize", "(I)I"⟩, 16)]
theorem lw_r1 : ∀ q ∈ lw_privs_1, lw_okq q := List.forall_mem_cons.mpr ⟨lw_p0, List.forall_mem_cons.mpr ⟨lw_p1, List.forall_mem_cons.mpr ⟨lw_p2, List.forall_mem_cons.mpr ⟨lw_p3, List.forall_mem_cons.mpr ⟨lw_p4, List.forall_mem_cons.mpr ⟨lw_p5, List.forall_mem_cons.mpr ⟨lw_p6, List.forall_mem_cons.mpr ⟨lw_p7, List.forall_mem_cons.mpr ⟨lw_p8, List.forall_mem_cons.mpr ⟨lw_p9, List.forall_mem_cons.mpr ⟨lw_p10, List.forall_mem_cons.mpr ⟨lw_p11, List.forall_mem_cons.mpr ⟨lw_p12, List.forall_mem_cons.mpr ⟨lw_p13, List.forall_mem_cons.mpr ⟨lw_p14, List.forall_mem_cons.mpr ⟨lw_p15, fun _ h => absurd h List.not_mem_nil⟩⟩⟩⟩⟩⟩⟩⟩⟩⟩⟩⟩⟩⟩⟩⟩
theorem lw_p16 : lw_okq (⟨"BlueHue", "grownMark", "(I)I"⟩, 16) := ⟨⟨by decide +kernel, by decide +kernel⟩, List.mem_of_getElem? (i := 12) (by decide +kernel), List.mem_of_getElem? (i := 633) (by decide +kernel), List.mem_of_getElem? (i := 634) (by decide +kernel)⟩
theorem lw_p17 : lw_okq (⟨"BlueHue", "markOfGrown", "(I)I"⟩, 16) := ⟨⟨by decide +kernel, by decide +kernel⟩, List.mem_of_getElem? (i := 12) (by decide +kernel), List.mem_of_getElem? (i := 637) (by decide +kernel), List.mem_of_getElem? (i := 638) (by decide +kernel)⟩
theorem lw_p18 : lw_okq (⟨"BlueHue", "lentMark", "(I)I"⟩, 16) := ⟨⟨by decide +kernel, by decide +kernel⟩, List.mem_of_getElem? (i := 12) (by decide +kernel), List.mem_of_getElem? (i := 641) (by decide +kernel), List.mem_of_getElem? (i := 642) (by decide +kernel)⟩
theorem lw_p19 : lw_okq (⟨"BlueHue", "childSize", "(I)I"⟩, 16) := ⟨⟨by decide +kernel, by decide +kernel⟩, List.mem_of_getElem? (i := 12) (by decide +kernel), List.mem_of_getElem? (i := 645) (by decide +kernel), List.mem_of_getElem? (i := 646) (by decide +kernel)⟩
theorem lw_p20 : lw_okq (⟨"BlueHue", "sizeOfChild", "(I)I"⟩, 16) := ⟨⟨by decide +kernel, by decide +kernel⟩, List.mem_of_getElem? (i := 12) (by decide +kernel), List.mem_of_getElem? (i := 649) (by decide +kernel), List.mem_of_getElem? (i := 650) (by decide +kernel)⟩
theorem lw_p21 : lw_okq (⟨"BlueHue", "childMark", "(I)I"⟩, 16) := ⟨⟨by decide +kernel, by decide +kernel⟩, List.mem_of_getElem? (i := 12) (by decide +kernel), List.mem_of_getElem? (i := 653) (by decide +kernel), List.mem_of_getElem? (i := 654) (by decide +kernel)⟩
theorem lw_p22 : lw_okq (⟨"BlueHueModel", "finding", "(I)I"⟩, 26) := ⟨⟨by decide +kernel, by decide +kernel⟩, List.mem_of_getElem? (i := 673) (by decide +kernel), List.mem_of_getElem? (i := 772) (by decide +kernel), List.mem_of_getElem? (i := 773) (by decide +kernel)⟩
theorem lw_p23 : lw_okq (⟨"BlueHueModel", "begin", "()V"⟩, 26) := ⟨⟨by decide +kernel, by decide +kernel⟩, List.mem_of_getElem? (i := 673) (by decide +kernel), List.mem_of_getElem? (i := 803) (by decide +kernel), List.mem_of_getElem? (i := 804) (by decide +kernel)⟩
theorem lw_p24 : lw_okq (⟨"BlueHueModel", "nextToken", "()V"⟩, 26) := ⟨⟨by decide +kernel, by decide +kernel⟩, List.mem_of_getElem? (i := 673) (by decide +kernel), List.mem_of_getElem? (i := 807) (by decide +kernel), List.mem_of_getElem? (i := 808) (by decide +kernel)⟩
theorem lw_p25 : lw_okq (⟨"BlueHueModel", "isLetter", "(I)Z"⟩, 26) := ⟨⟨by decide +kernel, by decide +kernel⟩, List.mem_of_getElem? (i := 673) (by decide +kernel), List.mem_of_getElem? (i := 816) (by decide +kernel), List.mem_of_getElem? (i := 817) (by decide +kernel)⟩
theorem lw_p26 : lw_okq (⟨"BlueHueModel", "must", "(Z)V"⟩, 26) := ⟨⟨by decide +kernel, by decide +kernel⟩, List.mem_of_getElem? (i := 673) (by decide +kernel), List.mem_of_getElem? (i := 820) (by decide +kernel), List.mem_of_getElem? (i := 821) (by decide +kernel)⟩
theorem lw_p27 : lw_okq (⟨"BlueHueModel", "bad", "(I)V"⟩, 26) := ⟨⟨by decide +kernel, by decide +kernel⟩, List.mem_of_getElem? (i := 673) (by decide +kernel), List.mem_of_getElem? (i := 824) (by decide +kernel), List.mem_of_getElem? (i := 825) (by decide +kernel)⟩
theorem lw_p28 : lw_okq (⟨"BlueHueModel", "number", "(II)I"⟩, 26) := ⟨⟨by decide +kernel, by decide +kernel⟩, List.mem_of_getElem? (i := 673) (by decide +kernel), List.mem_of_getElem? (i := 828) (by decide +kernel), List.mem_of_getElem? (i := 829) (by decide +kernel)⟩
theorem lw_p29 : lw_okq (⟨"BlueHueModel", "mustSign", "(I)V"⟩, 26) := ⟨⟨by decide +kernel, by decide +kernel⟩, List.mem_of_getElem? (i := 673) (by decide +kernel), List.mem_of_getElem? (i := 832) (by decide +kernel), List.mem_of_getElem? (i := 833) (by decide +kernel)⟩
theorem lw_p30 : lw_okq (⟨"BlueHueModel", "readRoad", "()V"⟩, 26) := ⟨⟨by decide +kernel, by decide +kernel⟩, List.mem_of_getElem? (i := 673) (by decide +kernel), List.mem_of_getElem? (i := 836) (by decide +kernel), List.mem_of_getElem? (i := 837) (by decide +kernel)⟩
theorem lw_p31 : lw_okq (⟨"BlueHueModel", "readWisher", "()V"⟩, 26) := ⟨⟨by decide +kernel, by decide +kernel⟩, List.mem_of_getElem? (i := 673) (by decide +kernel), List.mem_of_getElem? (i := 843) (by decide +kernel), List.mem_of_getElem? (i := 844) (by decide +kernel)⟩
def lw_privs_2 : List (MethodName × Nat) := [(⟨"BlueHue", "grownMark", "(I)I"⟩, 16), (⟨"BlueHue", "markOfGrown", "(I)I"⟩, 16), (⟨"BlueHue", "lentMark", "(I)I"⟩, 16), (⟨"BlueHue", "childSize", "(I)I"⟩, 16), (⟨"BlueHue", "sizeOfChild", "(I)I"⟩, 16), (⟨"BlueHue", "childMark", "(I)I"⟩, 16), (⟨"BlueHueModel", "finding", "(I)I"⟩, 26), (⟨"BlueHueModel", "begin", "()V"⟩, 26), (⟨"BlueHueModel", "nextToken", "()V"⟩, 26), (⟨"BlueHueModel", "isLetter", "(I)Z"⟩, 26), (⟨"BlueHueModel", "must", "(Z)V"⟩, 26), (⟨"BlueHueModel", "bad", "(I)V"⟩, 26), (⟨"BlueHueModel", "number", "(II)I"⟩, 26), (⟨"BlueHueModel", "mustSign", "(I)V"⟩, 26), (⟨"BlueHueModel", "readRoad", "()V"⟩, 26), (⟨"BlueHueModel", "readWisher", "()V"⟩, 26)]
theorem lw_r2 : ∀ q ∈ lw_privs_2, lw_okq q := List.forall_mem_cons.mpr ⟨lw_p16, List.forall_mem_cons.mpr ⟨lw_p17, List.forall_mem_cons.mpr ⟨lw_p18, List.forall_mem_cons.mpr ⟨lw_p19, List.forall_mem_cons.mpr ⟨lw_p20, List.forall_mem_cons.mpr ⟨lw_p21, List.forall_mem_cons.mpr ⟨lw_p22, List.forall_mem_cons.mpr ⟨lw_p23, List.forall_mem_cons.mpr ⟨lw_p24, List.forall_mem_cons.mpr ⟨lw_p25, List.forall_mem_cons.mpr ⟨lw_p26, List.forall_mem_cons.mpr ⟨lw_p27, List.forall_mem_cons.mpr ⟨lw_p28, List.forall_mem_cons.mpr ⟨lw_p29, List.forall_mem_cons.mpr ⟨lw_p30, List.forall_mem_cons.mpr ⟨lw_p31, fun _ h => absurd h List.not_mem_nil⟩⟩⟩⟩⟩⟩⟩⟩⟩⟩⟩⟩⟩⟩⟩⟩
theorem lw_p32 : lw_okq (⟨"BlueHueModel", "failed", "()Z"⟩, 26) := ⟨⟨by decide +kernel, by decide +kernel⟩, List.mem_of_getElem? (i := 673) (by decide +kernel), List.mem_of_getElem? (i := 847) (by decide +kernel), List.mem_of_getElem? (i := 848) (by decide +kernel)⟩
theorem lw_p33 : lw_okq (⟨"BlueHueModel", "layFar", "()V"⟩, 26) := ⟨⟨by decide +kernel, by decide +kernel⟩, List.mem_of_getElem? (i := 673) (by decide +kernel), List.mem_of_getElem? (i := 852) (by decide +kernel), List.mem_of_getElem? (i := 853) (by decide +kernel)⟩
theorem lw_p34 : lw_okq (⟨"BlueHueModel", "isThere", "()Z"⟩, 26) := ⟨⟨by decide +kernel, by decide +kernel⟩, List.mem_of_getElem? (i := 673) (by decide +kernel), List.mem_of_getElem? (i := 860) (by decide +kernel), List.mem_of_getElem? (i := 861) (by decide +kernel)⟩
theorem lw_p35 : lw_okq (⟨"BlueHueModel", "keep", "()V"⟩, 26) := ⟨⟨by decide +kernel, by decide +kernel⟩, List.mem_of_getElem? (i := 673) (by decide +kernel), List.mem_of_getElem? (i := 866) (by decide +kernel), List.mem_of_getElem? (i := 867) (by decide +kernel)⟩
theorem lw_p36 : lw_okq (⟨"BlueHueModel", "hour", "([III)V"⟩, 26) := ⟨⟨by decide +kernel, by decide +kernel⟩, List.mem_of_getElem? (i := 673) (by decide +kernel), List.mem_of_getElem? (i := 870) (by decide +kernel), List.mem_of_getElem? (i := 871) (by decide +kernel)⟩
theorem lw_p37 : lw_okq (⟨"BlueHueModel", "layPulls", "([IIII)V"⟩, 26) := ⟨⟨by decide +kernel, by decide +kernel⟩, List.mem_of_getElem? (i := 673) (by decide +kernel), List.mem_of_getElem? (i := 874) (by decide +kernel), List.mem_of_getElem? (i := 875) (by decide +kernel)⟩
theorem lw_p38 : lw_okq (⟨"BlueHueModel", "farBy", "(II)I"⟩, 26) := ⟨⟨by decide +kernel, by decide +kernel⟩, List.mem_of_getElem? (i := 673) (by decide +kernel), List.mem_of_getElem? (i := 878) (by decide +kernel), List.mem_of_getElem? (i := 879) (by decide +kernel)⟩
theorem lw_p39 : lw_okq (⟨"BlueHueModel", "wishBy", "([II)I"⟩, 26) := ⟨⟨by decide +kernel, by decide +kernel⟩, List.mem_of_getElem? (i := 673) (by decide +kernel), List.mem_of_getElem? (i := 888) (by decide +kernel), List.mem_of_getElem? (i := 889) (by decide +kernel)⟩
theorem lw_p40 : lw_okq (⟨"BlueHueModel", "goesTo", "([I)I"⟩, 26) := ⟨⟨by decide +kernel, by decide +kernel⟩, List.mem_of_getElem? (i := 673) (by decide +kernel), List.mem_of_getElem? (i := 895) (by decide +kernel), List.mem_of_getElem? (i := 896) (by decide +kernel)⟩
theorem lw_p41 : lw_okq (⟨"BlueHueModel", "isWisher", "(I)Z"⟩, 26) := ⟨⟨by decide +kernel, by decide +kernel⟩, List.mem_of_getElem? (i := 673) (by decide +kernel), List.mem_of_getElem? (i := 903) (by decide +kernel), List.mem_of_getElem? (i := 904) (by decide +kernel)⟩
theorem lw_p42 : lw_okq (⟨"BlueHueModel", "isPlace", "(I)Z"⟩, 26) := ⟨⟨by decide +kernel, by decide +kernel⟩, List.mem_of_getElem? (i := 673) (by decide +kernel), List.mem_of_getElem? (i := 907) (by decide +kernel), List.mem_of_getElem? (i := 908) (by decide +kernel)⟩
theorem lw_p43 : lw_okq (⟨"BlueHueModel", "layThen", "()V"⟩, 26) := ⟨⟨by decide +kernel, by decide +kernel⟩, List.mem_of_getElem? (i := 673) (by decide +kernel), List.mem_of_getElem? (i := 937) (by decide +kernel), List.mem_of_getElem? (i := 938) (by decide +kernel)⟩
theorem lw_p44 : lw_okq (⟨"BlueHueModel", "atBehind", "(I)I"⟩, 26) := ⟨⟨by decide +kernel, by decide +kernel⟩, List.mem_of_getElem? (i := 673) (by decide +kernel), List.mem_of_getElem? (i := 941) (by decide +kernel), List.mem_of_getElem? (i := 942) (by decide +kernel)⟩
theorem lw_p45 : lw_okq (⟨"BlueHueModel", "hoursOf", "([II)V"⟩, 26) := ⟨⟨by decide +kernel, by decide +kernel⟩, List.mem_of_getElem? (i := 673) (by decide +kernel), List.mem_of_getElem? (i := 945) (by decide +kernel), List.mem_of_getElem? (i := 946) (by decide +kernel)⟩
theorem lw_p46 : lw_okq (⟨"BlueHueModel", "comesSo", "(II)Z"⟩, 26) := ⟨⟨by decide +kernel, by decide +kernel⟩, List.mem_of_getElem? (i := 673) (by decide +kernel), List.mem_of_getElem? (i := 977) (by decide +kernel), List.mem_of_getElem? (i := 978) (by decide +kernel)⟩
theorem lw_p47 : lw_okq (⟨"BlueHueModel", "soNow", "()J"⟩, 26) := ⟨⟨by decide +kernel, by decide +kernel⟩, List.mem_of_getElem? (i := 673) (by decide +kernel), List.mem_of_getElem? (i := 989) (by decide +kernel), List.mem_of_getElem? (i := 990) (by decide +kernel)⟩
def lw_privs_3 : List (MethodName × Nat) := [(⟨"BlueHueModel", "failed", "()Z"⟩, 26), (⟨"BlueHueModel", "layFar", "()V"⟩, 26), (⟨"BlueHueModel", "isThere", "()Z"⟩, 26), (⟨"BlueHueModel", "keep", "()V"⟩, 26), (⟨"BlueHueModel", "hour", "([III)V"⟩, 26), (⟨"BlueHueModel", "layPulls", "([IIII)V"⟩, 26), (⟨"BlueHueModel", "farBy", "(II)I"⟩, 26), (⟨"BlueHueModel", "wishBy", "([II)I"⟩, 26), (⟨"BlueHueModel", "goesTo", "([I)I"⟩, 26), (⟨"BlueHueModel", "isWisher", "(I)Z"⟩, 26), (⟨"BlueHueModel", "isPlace", "(I)Z"⟩, 26), (⟨"BlueHueModel", "layThen", "()V"⟩, 26), (⟨"BlueHueModel", "atBehind", "(I)I"⟩, 26), (⟨"BlueHueModel", "hoursOf", "([II)V"⟩, 26), (⟨"BlueHueModel", "comesSo", "(II)Z"⟩, 26), (⟨"BlueHueModel", "soNow", "()J"⟩, 26)]
theorem lw_r3 : ∀ q ∈ lw_privs_3, lw_okq q := List.forall_mem_cons.mpr ⟨lw_p32, List.forall_mem_cons.mpr ⟨lw_p33, List.forall_mem_cons.mpr ⟨lw_p34, List.forall_mem_cons.mpr ⟨lw_p35, List.forall_mem_cons.mpr ⟨lw_p36, List.forall_mem_cons.mpr ⟨lw_p37, List.forall_mem_cons.mpr ⟨lw_p38, List.forall_mem_cons.mpr ⟨lw_p39, List.forall_mem_cons.mpr ⟨lw_p40, List.forall_mem_cons.mpr ⟨lw_p41, List.forall_mem_cons.mpr ⟨lw_p42, List.forall_mem_cons.mpr ⟨lw_p43, List.forall_mem_cons.mpr ⟨lw_p44, List.forall_mem_cons.mpr ⟨lw_p45, List.forall_mem_cons.mpr ⟨lw_p46, List.forall_mem_cons.mpr ⟨lw_p47, fun _ h => absurd h List.not_mem_nil⟩⟩⟩⟩⟩⟩⟩⟩⟩⟩⟩⟩⟩⟩⟩⟩
theorem lw_p48 : lw_okq (⟨"BlueHueModel", "sizeOf", "(I)I"⟩, 26) := ⟨⟨by decide +kernel, by decide +kernel⟩, List.mem_of_getElem? (i := 673) (by decide +kernel), List.mem_of_getElem? (i := 1037) (by decide +kernel), List.mem_of_getElem? (i := 1038) (by decide +kernel)⟩
theorem lw_p49 : lw_okq (⟨"BlueHueModel", "childSize", "(I)I"⟩, 26) := ⟨⟨by decide +kernel, by decide +kernel⟩, List.mem_of_getElem? (i := 673) (by decide +kernel), List.mem_of_getElem? (i := 1041) (by decide +kernel), List.mem_of_getElem? (i := 1042) (by decide +kernel)⟩
theorem lw_p50 : lw_okq (⟨"BlueHueModel", "began", "(I)V"⟩, 26) := ⟨⟨by decide +kernel, by decide +kernel⟩, List.mem_of_getElem? (i := 673) (by decide +kernel), List.mem_of_getElem? (i := 1045) (by decide +kernel), List.mem_of_getElem? (i := 1046) (by decide +kernel)⟩
theorem lw_p51 : lw_okq (⟨"BlueHueModel", "plainSize", "(I)I"⟩, 26) := ⟨⟨by decide +kernel, by decide +kernel⟩, List.mem_of_getElem? (i := 673) (by decide +kernel), List.mem_of_getElem? (i := 1049) (by decide +kernel), List.mem_of_getElem? (i := 1050) (by decide +kernel)⟩
theorem lw_p52 : lw_okq (⟨"BlueHueModel", "markOf", "(I)I"⟩, 26) := ⟨⟨by decide +kernel, by decide +kernel⟩, List.mem_of_getElem? (i := 673) (by decide +kernel), List.mem_of_getElem? (i := 1053) (by decide +kernel), List.mem_of_getElem? (i := 1054) (by decide +kernel)⟩
def lw_privs_4 : List (MethodName × Nat) := [(⟨"BlueHueModel", "sizeOf", "(I)I"⟩, 26), (⟨"BlueHueModel", "childSize", "(I)I"⟩, 26), (⟨"BlueHueModel", "began", "(I)V"⟩, 26), (⟨"BlueHueModel", "plainSize", "(I)I"⟩, 26), (⟨"BlueHueModel", "markOf", "(I)I"⟩, 26)]
theorem lw_r4 : ∀ q ∈ lw_privs_4, lw_okq q := List.forall_mem_cons.mpr ⟨lw_p48, List.forall_mem_cons.mpr ⟨lw_p49, List.forall_mem_cons.mpr ⟨lw_p50, List.forall_mem_cons.mpr ⟨lw_p51, List.forall_mem_cons.mpr ⟨lw_p52, fun _ h => absurd h List.not_mem_nil⟩⟩⟩⟩⟩
def lw_privs : List (MethodName × Nat) := lw_privs_1 ++ (lw_privs_2 ++ (lw_privs_3 ++ (lw_privs_4)))
def lw_tbl : List Cond := k2_sels lw_privs ++ tables_1
theorem lw_privs_ok : ∀ q ∈ lw_privs, lw_okq q := by
  show ∀ q ∈ lw_privs_1 ++ (lw_privs_2 ++ (lw_privs_3 ++ (lw_privs_4))), lw_okq q
  exact List.forall_mem_append.mpr ⟨lw_r1, List.forall_mem_append.mpr ⟨lw_r2, List.forall_mem_append.mpr ⟨lw_r3, lw_r4⟩⟩⟩
end
section
def RX0 : String := "BlueHue$Course"
def TX0 : u_T := fun k => match k with
  | 0 => ("BlueHue$Course", "hour", "I", false)
  | 1 => ("BlueHue$Course", "hue", "I", false)
  | 2 => ("BlueHue$Course", "went", "I", false)
  | 3 => ("BlueHue$Course", "halved", "I", false)
  | 4 => ("BlueHue$Course", "milk", "I", false)
  | 5 => ("BlueHue$Course", "rests", "I", false)
  | 6 => ("BlueHue$Course", "kind", "[I", true)
  | 7 => ("BlueHue$Course", "aim", "[I", true)
  | 8 => ("BlueHue$Course", "strength", "[I", true)
  | 9 => ("BlueHue$Course", "tired", "[I", true)
  | _ => ("BlueHue$Course", "pull", "[I", true)
def tyX0 : Nat → FieldType := fun k => match k with
  | 0 => .int
  | 1 => .int
  | 2 => .int
  | 3 => .int
  | 4 => .int
  | 5 => .int
  | 6 => .array .int
  | 7 => .array .int
  | 8 => .array .int
  | 9 => .array .int
  | _ => .array .int
theorem nmX0 : ∀ a, a < 11 → ∀ b, b < 11 → a ≠ b → (TX0 a).2.1 ≠ (TX0 b).2.1 := by decide +kernel
theorem tyX0_ok : ∀ k, k < 11 → parseFieldDescriptor (TX0 k).2.2.1 = some (tyX0 k) := by decide +kernel
abbrev cX0_init : ByteArray := prog_2_method_1_code
def yX0_init : MethodName := ⟨RX0, "<init>", "()V"⟩
abbrev cX0_begin : ByteArray := prog_2_method_2_code
def yX0_begin : MethodName := ⟨RX0, "begin", "(I)V"⟩
abbrev cX0_take : ByteArray := prog_2_method_3_code
def yX0_take : MethodName := ⟨RX0, "take", "(LBlueHue$Course;)V"⟩
abbrev cX0_become : ByteArray := prog_2_method_4_code
def yX0_become : MethodName := ⟨RX0, "become", "(II)V"⟩
abbrev cX0_wishes : ByteArray := prog_2_method_5_code
def yX0_wishes : MethodName := ⟨RX0, "wishes", "(LBlueHue$Land;I)Z"⟩
abbrev cX0_wishing : ByteArray := prog_2_method_6_code
def yX0_wishing : MethodName := ⟨RX0, "wishing", "(LBlueHue$Land;)I"⟩
abbrev cX0_force : ByteArray := prog_2_method_7_code
def yX0_force : MethodName := ⟨RX0, "force", "(LBlueHue$Land;I)I"⟩
abbrev cX0_weigh : ByteArray := prog_2_method_8_code
def yX0_weigh : MethodName := ⟨RX0, "weigh", "(LBlueHue$Land;)V"⟩
abbrev cX0_decide : ByteArray := prog_2_method_9_code
def yX0_decide : MethodName := ⟨RX0, "decide", "(LBlueHue$Land;)I"⟩
abbrev cX0_goesTo : ByteArray := prog_2_method_10_code
def yX0_goesTo : MethodName := ⟨RX0, "goesTo", "(LBlueHue$Land;)I"⟩
abbrev cX0_pass : ByteArray := prog_2_method_11_code
def yX0_pass : MethodName := ⟨RX0, "pass", "(LBlueHue$Land;)V"⟩
abbrev cX0_passMany : ByteArray := prog_2_method_12_code
def yX0_passMany : MethodName := ⟨RX0, "passMany", "(LBlueHue$Land;I)V"⟩
abbrev cX0_tire : ByteArray := prog_2_method_13_code
def yX0_tire : MethodName := ⟨RX0, "tire", "(LBlueHue$Land;)V"⟩
abbrev cX0_code : ByteArray := prog_2_method_14_code
def yX0_code : MethodName := ⟨RX0, "code", "()J"⟩
def RX1 : String := "BlueHue$Land"
def TX1 : u_T := fun k => match k with
  | 0 => ("BlueHue$Land", "places", "I", false)
  | 1 => ("BlueHue$Land", "hold", "I", false)
  | 2 => ("BlueHue$Land", "tires", "I", false)
  | 3 => ("BlueHue$Land", "roads", "I", false)
  | 4 => ("BlueHue$Land", "wishers", "I", false)
  | 5 => ("BlueHue$Land", "roadsFrom", "[I", true)
  | 6 => ("BlueHue$Land", "ways", "[I", true)
  | 7 => ("BlueHue$Land", "home", "[I", true)
  | 8 => ("BlueHue$Land", "from", "[I", true)
  | _ => ("BlueHue$Land", "span", "[I", true)
def tyX1 : Nat → FieldType := fun k => match k with
  | 0 => .int
  | 1 => .int
  | 2 => .int
  | 3 => .int
  | 4 => .int
  | 5 => .array .int
  | 6 => .array .int
  | 7 => .array .int
  | 8 => .array .int
  | _ => .array .int
theorem nmX1 : ∀ a, a < 10 → ∀ b, b < 10 → a ≠ b → (TX1 a).2.1 ≠ (TX1 b).2.1 := by decide +kernel
theorem tyX1_ok : ∀ k, k < 10 → parseFieldDescriptor (TX1 k).2.2.1 = some (tyX1 k) := by decide +kernel
abbrev cX1_init : ByteArray := prog_3_method_1_code
def yX1_init : MethodName := ⟨RX1, "<init>", "()V"⟩
abbrev cX1_clear : ByteArray := prog_3_method_2_code
def yX1_clear : MethodName := ⟨RX1, "clear", "()V"⟩
abbrev cX1_take : ByteArray := prog_3_method_3_code
def yX1_take : MethodName := ⟨RX1, "take", "(LBlueHue$Land;)V"⟩
abbrev cX1_everyone : ByteArray := prog_3_method_4_code
def yX1_everyone : MethodName := ⟨RX1, "everyone", "()I"⟩
abbrev cX1_way : ByteArray := prog_3_method_5_code
def yX1_way : MethodName := ⟨RX1, "way", "(II)I"⟩
abbrev cX1_joins : ByteArray := prog_3_method_6_code
def yX1_joins : MethodName := ⟨RX1, "joins", "(II)Z"⟩
abbrev cX1_measure : ByteArray := prog_3_method_7_code
def yX1_measure : MethodName := ⟨RX1, "measure", "()V"⟩
def RX2 : String := "BlueHue$Past"
def TX2 : u_T := fun k => match k with
  | 0 => ("BlueHue$Past", "ring", "[LBlueHue$Course;", true)
  | 1 => ("BlueHue$Past", "next", "I", false)
  | _ => ("BlueHue$Past", "kept", "I", false)
def tyX2 : Nat → FieldType := fun k => match k with
  | 0 => .array (.object "BlueHue$Course")
  | 1 => .int
  | _ => .int
theorem nmX2 : ∀ a, a < 3 → ∀ b, b < 3 → a ≠ b → (TX2 a).2.1 ≠ (TX2 b).2.1 := by decide +kernel
theorem tyX2_ok : ∀ k, k < 3 → parseFieldDescriptor (TX2 k).2.2.1 = some (tyX2 k) := by decide +kernel
abbrev cX2_init : ByteArray := prog_4_method_1_code
def yX2_init : MethodName := ⟨RX2, "<init>", "()V"⟩
abbrev cX2_forget : ByteArray := prog_4_method_2_code
def yX2_forget : MethodName := ⟨RX2, "forget", "()V"⟩
abbrev cX2_keep : ByteArray := prog_4_method_3_code
def yX2_keep : MethodName := ⟨RX2, "keep", "(LBlueHue$Course;)V"⟩
abbrev cX2_goBack : ByteArray := prog_4_method_4_code
def yX2_goBack : MethodName := ⟨RX2, "goBack", "(LBlueHue$Course;)V"⟩
def RX3 : String := "BlueHue$Rows"
def TX3 : u_T := fun k => match k with
  | 0 => ("BlueHue$Rows", "lane", "[I", true)
  | 1 => ("BlueHue$Rows", "size", "[I", true)
  | _ => ("BlueHue$Rows", "items", "[[I", true)
def tyX3 : Nat → FieldType := fun k => match k with
  | 0 => .array .int
  | 1 => .array .int
  | _ => .array (.array .int)
theorem nmX3 : ∀ a, a < 3 → ∀ b, b < 3 → a ≠ b → (TX3 a).2.1 ≠ (TX3 b).2.1 := by decide +kernel
theorem tyX3_ok : ∀ k, k < 3 → parseFieldDescriptor (TX3 k).2.2.1 = some (tyX3 k) := by decide +kernel
abbrev cX3_init : ByteArray := prog_5_method_1_code
def yX3_init : MethodName := ⟨RX3, "<init>", "()V"⟩
abbrev cX3_isMissing : ByteArray := prog_5_method_2_code
def yX3_isMissing : MethodName := ⟨RX3, "isMissing", "(I)Z"⟩
abbrev cX3_many : ByteArray := prog_5_method_3_code
def yX3_many : MethodName := ⟨RX3, "many", "()I"⟩
abbrev cX3_make : ByteArray := prog_5_method_4_code
def yX3_make : MethodName := ⟨RX3, "make", "(III)V"⟩
abbrev cX3_look : ByteArray := prog_5_method_5_code
def yX3_look : MethodName := ⟨RX3, "look", "(III)I"⟩
abbrev cX3_put : ByteArray := prog_5_method_6_code
def yX3_put : MethodName := ⟨RX3, "put", "(III)I"⟩
def RX4 : String := "BlueHue$Tape"
def TX4 : u_T := fun k => match k with
  | 0 => ("BlueHue$Tape", "bytes", "[I", true)
  | 1 => ("BlueHue$Tape", "length", "I", false)
  | 2 => ("BlueHue$Tape", "at", "I", false)
  | 3 => ("BlueHue$Tape", "fault", "I", false)
  | _ => ("BlueHue$Tape", "faultAt", "I", false)
def tyX4 : Nat → FieldType := fun k => match k with
  | 0 => .array .int
  | 1 => .int
  | 2 => .int
  | 3 => .int
  | _ => .int
theorem nmX4 : ∀ a, a < 5 → ∀ b, b < 5 → a ≠ b → (TX4 a).2.1 ≠ (TX4 b).2.1 := by decide +kernel
theorem tyX4_ok : ∀ k, k < 5 → parseFieldDescriptor (TX4 k).2.2.1 = some (tyX4 k) := by decide +kernel
abbrev cX4_init : ByteArray := prog_6_method_1_code
def yX4_init : MethodName := ⟨RX4, "<init>", "()V"⟩
abbrev cX4_begin : ByteArray := prog_6_method_2_code
def yX4_begin : MethodName := ⟨RX4, "begin", "()V"⟩
abbrev cX4_goesOn : ByteArray := prog_6_method_3_code
def yX4_goesOn : MethodName := ⟨RX4, "goesOn", "()Z"⟩
abbrev cX4_fail : ByteArray := prog_6_method_4_code
def yX4_fail : MethodName := ⟨RX4, "fail", "(II)V"⟩
abbrev cX4_byteAt : ByteArray := prog_6_method_5_code
def yX4_byteAt : MethodName := ⟨RX4, "byteAt", "(I)I"⟩
abbrev cX4_next : ByteArray := prog_6_method_6_code
def yX4_next : MethodName := ⟨RX4, "next", "()I"⟩
abbrev cX4_isFigure : ByteArray := prog_6_method_7_code
def yX4_isFigure : MethodName := ⟨RX4, "isFigure", "(I)Z"⟩
abbrev cX4_expect : ByteArray := prog_6_method_8_code
def yX4_expect : MethodName := ⟨RX4, "expect", "(I)V"⟩
abbrev cX4_number : ByteArray := prog_6_method_9_code
def yX4_number : MethodName := ⟨RX4, "number", "(II)I"⟩
def RX5 : String := "BlueHue"
def TX5 : u_T := fun k => match k with
  | 0 => ("BlueHue", "rows", "LBlueHue$Rows;", true)
  | 1 => ("BlueHue", "tape", "LBlueHue$Tape;", true)
  | 2 => ("BlueHue", "land", "LBlueHue$Land;", true)
  | 3 => ("BlueHue", "now", "LBlueHue$Course;", true)
  | 4 => ("BlueHue", "past", "LBlueHue$Past;", true)
  | 5 => ("BlueHue", "probe", "LBlueHue$Course;", true)
  | 6 => ("BlueHue", "draftLand", "LBlueHue$Land;", true)
  | 7 => ("BlueHue", "draft", "LBlueHue$Course;", true)
  | 8 => ("BlueHue", "imageLands", "[LBlueHue$Land;", true)
  | 9 => ("BlueHue", "imageCourses", "[LBlueHue$Course;", true)
  | 10 => ("BlueHue", "imagesKept", "I", false)
  | 11 => ("BlueHue", "codes", "[J", true)
  | 12 => ("BlueHue", "bodies", "[I", true)
  | 13 => ("BlueHue", "bodiesBegun", "I", false)
  | 14 => ("BlueHue", "latestFault", "I", false)
  | _ => ("BlueHue", "latestFinding", "I", false)
def tyX5 : Nat → FieldType := fun k => match k with
  | 0 => .object "BlueHue$Rows"
  | 1 => .object "BlueHue$Tape"
  | 2 => .object "BlueHue$Land"
  | 3 => .object "BlueHue$Course"
  | 4 => .object "BlueHue$Past"
  | 5 => .object "BlueHue$Course"
  | 6 => .object "BlueHue$Land"
  | 7 => .object "BlueHue$Course"
  | 8 => .array (.object "BlueHue$Land")
  | 9 => .array (.object "BlueHue$Course")
  | 10 => .int
  | 11 => .array .long
  | 12 => .array .int
  | 13 => .int
  | 14 => .int
  | _ => .int
theorem nmX5 : ∀ a, a < 16 → ∀ b, b < 16 → a ≠ b → (TX5 a).2.1 ≠ (TX5 b).2.1 := by decide +kernel
theorem tyX5_ok : ∀ k, k < 16 → parseFieldDescriptor (TX5 k).2.2.1 = some (tyX5 k) := by decide +kernel
abbrev cX5_init : ByteArray := prog_1_method_1_code
def yX5_init : MethodName := ⟨RX5, "<init>", "()V"⟩
abbrev cX5_row : ByteArray := prog_1_method_2_code
def yX5_row : MethodName := ⟨RX5, "row", "(III)I"⟩
abbrev cX5_set : ByteArray := prog_1_method_3_code
def yX5_set : MethodName := ⟨RX5, "set", "(III)I"⟩
abbrev cX5_copy : ByteArray := prog_1_method_4_code
def yX5_copy : MethodName := ⟨RX5, "copy", "(IIIII)I"⟩
abbrev cX5_drop : ByteArray := prog_1_method_5_code
def yX5_drop : MethodName := ⟨RX5, "drop", "(I)I"⟩
abbrev cX5_feed : ByteArray := prog_1_method_6_code
def yX5_feed : MethodName := ⟨RX5, "feed", "(I)I"⟩
abbrev cX5_land : ByteArray := prog_1_method_7_code
def yX5_land : MethodName := ⟨RX5, "land", "()I"⟩
abbrev cX5_fault : ByteArray := prog_1_method_8_code
def yX5_fault : MethodName := ⟨RX5, "fault", "()I"⟩
abbrev cX5_undo : ByteArray := prog_1_method_9_code
def yX5_undo : MethodName := ⟨RX5, "undo", "()I"⟩
abbrev cX5_hours : ByteArray := prog_1_method_10_code
def yX5_hours : MethodName := ⟨RX5, "hours", "(I)I"⟩
abbrev cX5_wish : ByteArray := prog_1_method_11_code
def yX5_wish : MethodName := ⟨RX5, "wish", "(III)I"⟩
abbrev cX5_rest : ByteArray := prog_1_method_12_code
def yX5_rest : MethodName := ⟨RX5, "rest", "(II)I"⟩
abbrev cX5_wisher : ByteArray := prog_1_method_13_code
def yX5_wisher : MethodName := ⟨RX5, "wisher", "(II)I"⟩
abbrev cX5_place : ByteArray := prog_1_method_14_code
def yX5_place : MethodName := ⟨RX5, "place", "(II)I"⟩
abbrev cX5_far : ByteArray := prog_1_method_15_code
def yX5_far : MethodName := ⟨RX5, "far", "(II)I"⟩
abbrev cX5_ahead : ByteArray := prog_1_method_16_code
def yX5_ahead : MethodName := ⟨RX5, "ahead", "(II)I"⟩
abbrev cX5_comes : ByteArray := prog_1_method_17_code
def yX5_comes : MethodName := ⟨RX5, "comes", "(II)I"⟩
abbrev cX5_visits : ByteArray := prog_1_method_18_code
def yX5_visits : MethodName := ⟨RX5, "visits", "(I)I"⟩
abbrev cX5_fewest : ByteArray := prog_1_method_19_code
def yX5_fewest : MethodName := ⟨RX5, "fewest", "(III)I"⟩
abbrev cX5_hard : ByteArray := prog_1_method_20_code
def yX5_hard : MethodName := ⟨RX5, "hard", "(II)I"⟩
abbrev cX5_stolen : ByteArray := prog_1_method_21_code
def yX5_stolen : MethodName := ⟨RX5, "stolen", "(III)I"⟩
abbrev cX5_seen : ByteArray := prog_1_method_22_code
def yX5_seen : MethodName := ⟨RX5, "seen", "(IIII)I"⟩
abbrev cX5_who : ByteArray := prog_1_method_23_code
def yX5_who : MethodName := ⟨RX5, "who", "(IIII)I"⟩
abbrev cX5_round : ByteArray := prog_1_method_24_code
def yX5_round : MethodName := ⟨RX5, "round", "(I)I"⟩
abbrev cX5_half : ByteArray := prog_1_method_25_code
def yX5_half : MethodName := ⟨RX5, "half", "(I)I"⟩
abbrev cX5_awake : ByteArray := prog_1_method_26_code
def yX5_awake : MethodName := ⟨RX5, "awake", "(II)J"⟩
abbrev cX5_drawn : ByteArray := prog_1_method_27_code
def yX5_drawn : MethodName := ⟨RX5, "drawn", "(III)I"⟩
abbrev cX5_image : ByteArray := prog_1_method_28_code
def yX5_image : MethodName := ⟨RX5, "image", "(I)I"⟩
abbrev cX5_restore : ByteArray := prog_1_method_29_code
def yX5_restore : MethodName := ⟨RX5, "restore", "(I)I"⟩
abbrev cX5_kind : ByteArray := prog_1_method_30_code
def yX5_kind : MethodName := ⟨RX5, "kind", "(I)I"⟩
abbrev cX5_as : ByteArray := prog_1_method_31_code
def yX5_as : MethodName := ⟨RX5, "as", "(II)I"⟩
abbrev cX5_ask : ByteArray := prog_1_method_32_code
def yX5_ask : MethodName := ⟨RX5, "ask", "(II)I"⟩
abbrev cX5_trace : ByteArray := prog_1_method_33_code
def yX5_trace : MethodName := ⟨RX5, "trace", "(I)I"⟩
abbrev cX5_count : ByteArray := prog_1_method_34_code
def yX5_count : MethodName := ⟨RX5, "count", "(I)I"⟩
abbrev cX5_status : ByteArray := prog_1_method_35_code
def yX5_status : MethodName := ⟨RX5, "status", "()I"⟩
abbrev cX5_within : ByteArray := prog_1_method_36_code
def yX5_within : MethodName := ⟨RX5, "within", "(III)Z"⟩
abbrev cX5_bit : ByteArray := prog_1_method_37_code
def yX5_bit : MethodName := ⟨RX5, "bit", "(II)I"⟩
abbrev cX5_isRow : ByteArray := prog_1_method_38_code
def yX5_isRow : MethodName := ⟨RX5, "isRow", "(I)Z"⟩
abbrev cX5_hasLand : ByteArray := prog_1_method_39_code
def yX5_hasLand : MethodName := ⟨RX5, "hasLand", "()Z"⟩
abbrev cX5_isPlace : ByteArray := prog_1_method_40_code
def yX5_isPlace : MethodName := ⟨RX5, "isPlace", "(I)Z"⟩
abbrev cX5_isWisher : ByteArray := prog_1_method_41_code
def yX5_isWisher : MethodName := ⟨RX5, "isWisher", "(I)Z"⟩
abbrev cX5_found : ByteArray := prog_1_method_42_code
def yX5_found : MethodName := ⟨RX5, "found", "(I)I"⟩
abbrev cX5_fine : ByteArray := prog_1_method_43_code
def yX5_fine : MethodName := ⟨RX5, "fine", "(I)I"⟩
abbrev cX5_isThereBy : ByteArray := prog_1_method_44_code
def yX5_isThereBy : MethodName := ⟨RX5, "isThereBy", "(III)Z"⟩
abbrev cX5_comesAsTold : ByteArray := prog_1_method_45_code
def yX5_comesAsTold : MethodName := ⟨RX5, "comesAsTold", "(III)Z"⟩
abbrev cX5_goesBy : ByteArray := prog_1_method_46_code
def yX5_goesBy : MethodName := ⟨RX5, "goesBy", "(I)Z"⟩
abbrev cX5_power : ByteArray := prog_1_method_47_code
def yX5_power : MethodName := ⟨RX5, "power", "(II)J"⟩
abbrev cX5_commonDivisor : ByteArray := prog_1_method_48_code
def yX5_commonDivisor : MethodName := ⟨RX5, "commonDivisor", "(JJ)J"⟩
abbrev cX5_readText : ByteArray := prog_1_method_49_code
def yX5_readText : MethodName := ⟨RX5, "readText", "()V"⟩
abbrev cX5_readLaw : ByteArray := prog_1_method_50_code
def yX5_readLaw : MethodName := ⟨RX5, "readLaw", "()V"⟩
abbrev cX5_readRoad : ByteArray := prog_1_method_51_code
def yX5_readRoad : MethodName := ⟨RX5, "readRoad", "()V"⟩
abbrev cX5_readWisher : ByteArray := prog_1_method_52_code
def yX5_readWisher : MethodName := ⟨RX5, "readWisher", "(I)V"⟩
abbrev cX5_sortOf : ByteArray := prog_1_method_53_code
def yX5_sortOf : MethodName := ⟨RX5, "sortOf", "(I)I"⟩
abbrev cX5_isA : ByteArray := prog_1_method_54_code
def yX5_isA : MethodName := ⟨RX5, "isA", "(II)Z"⟩
abbrev cX5_leave : ByteArray := prog_1_method_55_code
def yX5_leave : MethodName := ⟨RX5, "leave", "(I)V"⟩
abbrev cX5_grownSize : ByteArray := prog_1_method_56_code
def yX5_grownSize : MethodName := ⟨RX5, "grownSize", "(I)I"⟩
abbrev cX5_sizeOfGrown : ByteArray := prog_1_method_57_code
def yX5_sizeOfGrown : MethodName := ⟨RX5, "sizeOfGrown", "(I)I"⟩
abbrev cX5_childSize : ByteArray := prog_1_method_58_code
def yX5_childSize : MethodName := ⟨RX5, "childSize", "(I)I"⟩
abbrev cX5_sizeOfChild : ByteArray := prog_1_method_59_code
def yX5_sizeOfChild : MethodName := ⟨RX5, "sizeOfChild", "(I)I"⟩
abbrev cX5_lentSize : ByteArray := prog_1_method_60_code
def yX5_lentSize : MethodName := ⟨RX5, "lentSize", "(I)I"⟩
abbrev cX5_grownMark : ByteArray := prog_1_method_61_code
def yX5_grownMark : MethodName := ⟨RX5, "grownMark", "(I)I"⟩
abbrev cX5_markOfGrown : ByteArray := prog_1_method_62_code
def yX5_markOfGrown : MethodName := ⟨RX5, "markOfGrown", "(I)I"⟩
abbrev cX5_childMark : ByteArray := prog_1_method_63_code
def yX5_childMark : MethodName := ⟨RX5, "childMark", "(I)I"⟩
abbrev cX5_lentMark : ByteArray := prog_1_method_64_code
def yX5_lentMark : MethodName := ⟨RX5, "lentMark", "(I)I"⟩
def RX6 : String := "BlueHueModel"
def TX6 : u_T := fun k => match k with
  | 0 => ("BlueHueModel", "thrown", "I", false)
  | 1 => ("BlueHueModel", "status", "I", false)
  | 2 => ("BlueHueModel", "lane", "[I", true)
  | 3 => ("BlueHueModel", "many", "[I", true)
  | 4 => ("BlueHueModel", "item", "[I", true)
  | 5 => ("BlueHueModel", "land", "[I", true)
  | 6 => ("BlueHueModel", "fresh", "[I", true)
  | 7 => ("BlueHueModel", "then", "[I", true)
  | 8 => ("BlueHueModel", "was", "[I", true)
  | 9 => ("BlueHueModel", "acts", "I", false)
  | 10 => ("BlueHueModel", "tape", "[I", true)
  | 11 => ("BlueHueModel", "taped", "I", false)
  | 12 => ("BlueHueModel", "cursor", "I", false)
  | 13 => ("BlueHueModel", "start", "I", false)
  | 14 => ("BlueHueModel", "token", "I", false)
  | 15 => ("BlueHueModel", "value", "I", false)
  | 16 => ("BlueHueModel", "fault", "I", false)
  | 17 => ("BlueHueModel", "faultAt", "I", false)
  | 18 => ("BlueHueModel", "latest", "I", false)
  | 19 => ("BlueHueModel", "ways", "[I", true)
  | 20 => ("BlueHueModel", "pulls", "[I", true)
  | 21 => ("BlueHueModel", "seenSo", "[J", true)
  | 22 => ("BlueHueModel", "isKept", "[Z", true)
  | 23 => ("BlueHueModel", "kept", "[I", true)
  | 24 => ("BlueHueModel", "trace", "[I", true)
  | _ => ("BlueHueModel", "traced", "I", false)
def tyX6 : Nat → FieldType := fun k => match k with
  | 0 => .int
  | 1 => .int
  | 2 => .array .int
  | 3 => .array .int
  | 4 => .array .int
  | 5 => .array .int
  | 6 => .array .int
  | 7 => .array .int
  | 8 => .array .int
  | 9 => .int
  | 10 => .array .int
  | 11 => .int
  | 12 => .int
  | 13 => .int
  | 14 => .int
  | 15 => .int
  | 16 => .int
  | 17 => .int
  | 18 => .int
  | 19 => .array .int
  | 20 => .array .int
  | 21 => .array .long
  | 22 => .array .boolean
  | 23 => .array .int
  | 24 => .array .int
  | _ => .int
theorem nmX6 : ∀ a, a < 26 → ∀ b, b < 26 → a ≠ b → (TX6 a).2.1 ≠ (TX6 b).2.1 := by decide +kernel
theorem tyX6_ok : ∀ k, k < 26 → parseFieldDescriptor (TX6 k).2.2.1 = some (tyX6 k) := by decide +kernel
abbrev cX6_init : ByteArray := prog_8_method_1_code
def yX6_init : MethodName := ⟨RX6, "<init>", "()V"⟩
abbrev cX6_in : ByteArray := prog_8_method_3_code
def yX6_in : MethodName := ⟨RX6, "in", "(JJJ)Z"⟩
abbrev cX6_finding : ByteArray := prog_8_method_4_code
def yX6_finding : MethodName := ⟨RX6, "finding", "(I)I"⟩
abbrev cX6_isRow : ByteArray := prog_8_method_5_code
def yX6_isRow : MethodName := ⟨RX6, "isRow", "(I)Z"⟩
abbrev cX6_row : ByteArray := prog_8_method_6_code
def yX6_row : MethodName := ⟨RX6, "row", "(III)I"⟩
abbrev cX6_set : ByteArray := prog_8_method_7_code
def yX6_set : MethodName := ⟨RX6, "set", "(III)I"⟩
abbrev cX6_copy : ByteArray := prog_8_method_8_code
def yX6_copy : MethodName := ⟨RX6, "copy", "(IIIII)I"⟩
abbrev cX6_drop : ByteArray := prog_8_method_9_code
def yX6_drop : MethodName := ⟨RX6, "drop", "(I)I"⟩
abbrev cX6_feed : ByteArray := prog_8_method_10_code
def yX6_feed : MethodName := ⟨RX6, "feed", "(I)I"⟩
abbrev cX6_bad : ByteArray := prog_8_method_11_code
def yX6_bad : MethodName := ⟨RX6, "bad", "(I)V"⟩
abbrev cX6_nextToken : ByteArray := prog_8_method_12_code
def yX6_nextToken : MethodName := ⟨RX6, "nextToken", "()V"⟩
abbrev cX6_must : ByteArray := prog_8_method_13_code
def yX6_must : MethodName := ⟨RX6, "must", "(Z)V"⟩
abbrev cX6_isLetter : ByteArray := prog_8_method_14_code
def yX6_isLetter : MethodName := ⟨RX6, "isLetter", "(I)Z"⟩
abbrev cX6_number : ByteArray := prog_8_method_15_code
def yX6_number : MethodName := ⟨RX6, "number", "(II)I"⟩
abbrev cX6_mustSign : ByteArray := prog_8_method_16_code
def yX6_mustSign : MethodName := ⟨RX6, "mustSign", "(I)V"⟩
abbrev cX6_begin : ByteArray := prog_8_method_17_code
def yX6_begin : MethodName := ⟨RX6, "begin", "()V"⟩
abbrev cX6_failed : ByteArray := prog_8_method_18_code
def yX6_failed : MethodName := ⟨RX6, "failed", "()Z"⟩
abbrev cX6_fault : ByteArray := prog_8_method_19_code
def yX6_fault : MethodName := ⟨RX6, "fault", "()I"⟩
abbrev cX6_kindBy : ByteArray := prog_8_method_20_code
def yX6_kindBy : MethodName := ⟨RX6, "kindBy", "(I)I"⟩
abbrev cX6_readRoad : ByteArray := prog_8_method_21_code
def yX6_readRoad : MethodName := ⟨RX6, "readRoad", "()V"⟩
abbrev cX6_readWisher : ByteArray := prog_8_method_22_code
def yX6_readWisher : MethodName := ⟨RX6, "readWisher", "()V"⟩
abbrev cX6_land : ByteArray := prog_8_method_23_code
def yX6_land : MethodName := ⟨RX6, "land", "()I"⟩
abbrev cX6_isThere : ByteArray := prog_8_method_24_code
def yX6_isThere : MethodName := ⟨RX6, "isThere", "()Z"⟩
abbrev cX6_isPlace : ByteArray := prog_8_method_25_code
def yX6_isPlace : MethodName := ⟨RX6, "isPlace", "(I)Z"⟩
abbrev cX6_isWisher : ByteArray := prog_8_method_26_code
def yX6_isWisher : MethodName := ⟨RX6, "isWisher", "(I)Z"⟩
abbrev cX6_of : ByteArray := prog_8_method_27_code
def yX6_of : MethodName := ⟨RX6, "of", "([III)I"⟩
abbrev cX6_layFar : ByteArray := prog_8_method_28_code
def yX6_layFar : MethodName := ⟨RX6, "layFar", "()V"⟩
abbrev cX6_farBy : ByteArray := prog_8_method_29_code
def yX6_farBy : MethodName := ⟨RX6, "farBy", "(II)I"⟩
abbrev cX6_wishes : ByteArray := prog_8_method_30_code
def yX6_wishes : MethodName := ⟨RX6, "wishes", "([II)Z"⟩
abbrev cX6_atLeastNone : ByteArray := prog_8_method_31_code
def yX6_atLeastNone : MethodName := ⟨RX6, "atLeastNone", "(I)I"⟩
abbrev cX6_wishBy : ByteArray := prog_8_method_32_code
def yX6_wishBy : MethodName := ⟨RX6, "wishBy", "([II)I"⟩
abbrev cX6_layPulls : ByteArray := prog_8_method_33_code
def yX6_layPulls : MethodName := ⟨RX6, "layPulls", "([IIII)V"⟩
abbrev cX6_goesTo : ByteArray := prog_8_method_34_code
def yX6_goesTo : MethodName := ⟨RX6, "goesTo", "([I)I"⟩
abbrev cX6_hour : ByteArray := prog_8_method_35_code
def yX6_hour : MethodName := ⟨RX6, "hour", "([III)V"⟩
abbrev cX6_hoursOf : ByteArray := prog_8_method_36_code
def yX6_hoursOf : MethodName := ⟨RX6, "hoursOf", "([II)V"⟩
abbrev cX6_layThen : ByteArray := prog_8_method_37_code
def yX6_layThen : MethodName := ⟨RX6, "layThen", "()V"⟩
abbrev cX6_atBehind : ByteArray := prog_8_method_38_code
def yX6_atBehind : MethodName := ⟨RX6, "atBehind", "(I)I"⟩
abbrev cX6_keep : ByteArray := prog_8_method_39_code
def yX6_keep : MethodName := ⟨RX6, "keep", "()V"⟩
abbrev cX6_hours : ByteArray := prog_8_method_40_code
def yX6_hours : MethodName := ⟨RX6, "hours", "(I)I"⟩
abbrev cX6_wish : ByteArray := prog_8_method_41_code
def yX6_wish : MethodName := ⟨RX6, "wish", "(III)I"⟩
abbrev cX6_rest : ByteArray := prog_8_method_42_code
def yX6_rest : MethodName := ⟨RX6, "rest", "(II)I"⟩
abbrev cX6_undo : ByteArray := prog_8_method_43_code
def yX6_undo : MethodName := ⟨RX6, "undo", "()I"⟩
abbrev cX6_wisher : ByteArray := prog_8_method_44_code
def yX6_wisher : MethodName := ⟨RX6, "wisher", "(II)I"⟩
abbrev cX6_place : ByteArray := prog_8_method_45_code
def yX6_place : MethodName := ⟨RX6, "place", "(II)I"⟩
abbrev cX6_far : ByteArray := prog_8_method_46_code
def yX6_far : MethodName := ⟨RX6, "far", "(II)I"⟩
abbrev cX6_ahead : ByteArray := prog_8_method_47_code
def yX6_ahead : MethodName := ⟨RX6, "ahead", "(II)I"⟩
abbrev cX6_comes : ByteArray := prog_8_method_48_code
def yX6_comes : MethodName := ⟨RX6, "comes", "(II)I"⟩
abbrev cX6_visits : ByteArray := prog_8_method_49_code
def yX6_visits : MethodName := ⟨RX6, "visits", "(I)I"⟩
abbrev cX6_bits : ByteArray := prog_8_method_50_code
def yX6_bits : MethodName := ⟨RX6, "bits", "(I)I"⟩
abbrev cX6_fewest : ByteArray := prog_8_method_51_code
def yX6_fewest : MethodName := ⟨RX6, "fewest", "(III)I"⟩
abbrev cX6_hard : ByteArray := prog_8_method_52_code
def yX6_hard : MethodName := ⟨RX6, "hard", "(II)I"⟩
abbrev cX6_stolen : ByteArray := prog_8_method_53_code
def yX6_stolen : MethodName := ⟨RX6, "stolen", "(III)I"⟩
abbrev cX6_comesSo : ByteArray := prog_8_method_54_code
def yX6_comesSo : MethodName := ⟨RX6, "comesSo", "(II)Z"⟩
abbrev cX6_seen : ByteArray := prog_8_method_55_code
def yX6_seen : MethodName := ⟨RX6, "seen", "(IIII)I"⟩
abbrev cX6_who : ByteArray := prog_8_method_56_code
def yX6_who : MethodName := ⟨RX6, "who", "(IIII)I"⟩
abbrev cX6_soNow : ByteArray := prog_8_method_57_code
def yX6_soNow : MethodName := ⟨RX6, "soNow", "()J"⟩
abbrev cX6_round : ByteArray := prog_8_method_58_code
def yX6_round : MethodName := ⟨RX6, "round", "(I)I"⟩
abbrev cX6_half : ByteArray := prog_8_method_59_code
def yX6_half : MethodName := ⟨RX6, "half", "(I)I"⟩
abbrev cX6_awake : ByteArray := prog_8_method_60_code
def yX6_awake : MethodName := ⟨RX6, "awake", "(II)J"⟩
abbrev cX6_drawn : ByteArray := prog_8_method_61_code
def yX6_drawn : MethodName := ⟨RX6, "drawn", "(III)I"⟩
abbrev cX6_image : ByteArray := prog_8_method_62_code
def yX6_image : MethodName := ⟨RX6, "image", "(I)I"⟩
abbrev cX6_restore : ByteArray := prog_8_method_63_code
def yX6_restore : MethodName := ⟨RX6, "restore", "(I)I"⟩
abbrev cX6_isOf : ByteArray := prog_8_method_64_code
def yX6_isOf : MethodName := ⟨RX6, "isOf", "(II)Z"⟩
abbrev cX6_kind : ByteArray := prog_8_method_65_code
def yX6_kind : MethodName := ⟨RX6, "kind", "(I)I"⟩
abbrev cX6_as : ByteArray := prog_8_method_66_code
def yX6_as : MethodName := ⟨RX6, "as", "(II)I"⟩
abbrev cX6_began : ByteArray := prog_8_method_67_code
def yX6_began : MethodName := ⟨RX6, "began", "(I)V"⟩
abbrev cX6_plainSize : ByteArray := prog_8_method_68_code
def yX6_plainSize : MethodName := ⟨RX6, "plainSize", "(I)I"⟩
abbrev cX6_childSize : ByteArray := prog_8_method_69_code
def yX6_childSize : MethodName := ⟨RX6, "childSize", "(I)I"⟩
abbrev cX6_markOf : ByteArray := prog_8_method_70_code
def yX6_markOf : MethodName := ⟨RX6, "markOf", "(I)I"⟩
abbrev cX6_sizeOf : ByteArray := prog_8_method_71_code
def yX6_sizeOf : MethodName := ⟨RX6, "sizeOf", "(I)I"⟩
abbrev cX6_ask : ByteArray := prog_8_method_72_code
def yX6_ask : MethodName := ⟨RX6, "ask", "(II)I"⟩
abbrev cX6_trace : ByteArray := prog_8_method_73_code
def yX6_trace : MethodName := ⟨RX6, "trace", "(I)I"⟩
abbrev cX6_count : ByteArray := prog_8_method_74_code
def yX6_count : MethodName := ⟨RX6, "count", "(I)I"⟩
abbrev cX6_status : ByteArray := prog_8_method_75_code
def yX6_status : MethodName := ⟨RX6, "status", "()I"⟩
def RJ6 : String := "java/lang/Integer"
def TJ6 : u_T := fun k => match k with
  | _ => ("", "", "", false)
def tyJ6 : Nat → FieldType := fun k => match k with
  | _ => .int
abbrev cJ6_bitCount_0f7a4 : ByteArray := prog_9_method_49_code
def yJ6_bitCount_0f7a4 : MethodName := ⟨RJ6, "bitCount", "(I)I"⟩
def RJ9 : String := "java/lang/Math"
def TJ9 : u_T := fun k => match k with
  | _ => ("", "", "", false)
def tyJ9 : Nat → FieldType := fun k => match k with
  | _ => .int
abbrev cJ9_max_7cf53 : ByteArray := prog_10_method_65_code
def yJ9_max_7cf53 : MethodName := ⟨RJ9, "max", "(II)I"⟩
abbrev cJ9_min_7cf53 : ByteArray := prog_10_method_69_code
def yJ9_min_7cf53 : MethodName := ⟨RJ9, "min", "(II)I"⟩
def RJ10 : String := "java/lang/System"
def TJ10 : u_T := fun k => match k with
  | _ => ("", "", "", false)
def tyJ10 : Nat → FieldType := fun k => match k with
  | _ => .int
def RL : String := "BlueHueLaw"
abbrev cL_law : ByteArray := code
def yL_law : MethodName := ⟨RL, "law", "([I)Z"⟩
abbrev vwCl : List vw_C := [(RX0, TX0, 11), (RX1, TX1, 10), (RX2, TX2, 3), (RX3, TX3, 3), (RX4, TX4, 5), (RX5, TX5, 16), (RX6, TX6, 26)]
end
section
def BW : List Cond := lw_tbl.filter goodWord
theorem bw_t {w : Cond} (h : w ∈ tables_1) (g : goodWord w = true) : w ∈ BW := List.mem_filter.mpr ⟨List.mem_append_right _ h, g⟩
theorem bw_s {y : MethodName} {n : Nat} (h : (y, n) ∈ lw_privs) (g : goodWord (.selects y.cls y y) = true) : Cond.selects y.cls y y ∈ BW := List.mem_filter.mpr ⟨List.mem_append_left _ (List.mem_map.mpr ⟨(y, n), h, rfl⟩), g⟩
theorem bw_1 {w : Cond} (h : w ∈ tables_1_1) : w ∈ tables_1 := List.mem_append_left _ h
theorem bw_2 {w : Cond} (h : w ∈ tables_1_2) : w ∈ tables_1 := List.mem_append_right _ (List.mem_append_left _ h)
theorem bw_3 {w : Cond} (h : w ∈ tables_1_3) : w ∈ tables_1 := List.mem_append_right _ (List.mem_append_right _ (List.mem_append_left _ h))
theorem bw_4 {w : Cond} (h : w ∈ tables_1_4) : w ∈ tables_1 := List.mem_append_right _ (List.mem_append_right _ (List.mem_append_right _ (List.mem_append_left _ h)))
theorem bw_5 {w : Cond} (h : w ∈ tables_1_5) : w ∈ tables_1 := List.mem_append_right _ (List.mem_append_right _ (List.mem_append_right _ (List.mem_append_right _ h)))
theorem inlX0 : ∀ w ∈ u_ws RX0 TX0 11, w ∈ BW := by
  show ∀ w ∈ [u_lay RX0 TX0 0, u_lay RX0 TX0 1, u_lay RX0 TX0 2, u_lay RX0 TX0 3, u_lay RX0 TX0 4, u_lay RX0 TX0 5, u_lay RX0 TX0 6, u_lay RX0 TX0 7, u_lay RX0 TX0 8, u_lay RX0 TX0 9, u_lay RX0 TX0 10], w ∈ BW
  exact List.forall_mem_cons.mpr ⟨bw_t (bw_1 (List.mem_of_getElem? (i := 149) rfl)) rfl, List.forall_mem_cons.mpr ⟨bw_t (bw_1 (List.mem_of_getElem? (i := 151) rfl)) rfl, List.forall_mem_cons.mpr ⟨bw_t (bw_1 (List.mem_of_getElem? (i := 153) rfl)) rfl, List.forall_mem_cons.mpr ⟨bw_t (bw_1 (List.mem_of_getElem? (i := 155) rfl)) rfl, List.forall_mem_cons.mpr ⟨bw_t (bw_1 (List.mem_of_getElem? (i := 157) rfl)) rfl, List.forall_mem_cons.mpr ⟨bw_t (bw_1 (List.mem_of_getElem? (i := 159) rfl)) rfl, List.forall_mem_cons.mpr ⟨bw_t (bw_1 (List.mem_of_getElem? (i := 161) rfl)) rfl, List.forall_mem_cons.mpr ⟨bw_t (bw_1 (List.mem_of_getElem? (i := 163) rfl)) rfl, List.forall_mem_cons.mpr ⟨bw_t (bw_1 (List.mem_of_getElem? (i := 165) rfl)) rfl, List.forall_mem_cons.mpr ⟨bw_t (bw_1 (List.mem_of_getElem? (i := 167) rfl)) rfl, List.forall_mem_cons.mpr ⟨bw_t (bw_1 (List.mem_of_getElem? (i := 169) rfl)) rfl, fun _ h => absurd h List.not_mem_nil⟩⟩⟩⟩⟩⟩⟩⟩⟩⟩⟩
theorem inlX1 : ∀ w ∈ u_ws RX1 TX1 10, w ∈ BW := by
  show ∀ w ∈ [u_lay RX1 TX1 0, u_lay RX1 TX1 1, u_lay RX1 TX1 2, u_lay RX1 TX1 3, u_lay RX1 TX1 4, u_lay RX1 TX1 5, u_lay RX1 TX1 6, u_lay RX1 TX1 7, u_lay RX1 TX1 8, u_lay RX1 TX1 9], w ∈ BW
  exact List.forall_mem_cons.mpr ⟨bw_t (bw_1 (List.mem_of_getElem? (i := 100) rfl)) rfl, List.forall_mem_cons.mpr ⟨bw_t (bw_1 (List.mem_of_getElem? (i := 102) rfl)) rfl, List.forall_mem_cons.mpr ⟨bw_t (bw_1 (List.mem_of_getElem? (i := 104) rfl)) rfl, List.forall_mem_cons.mpr ⟨bw_t (bw_1 (List.mem_of_getElem? (i := 106) rfl)) rfl, List.forall_mem_cons.mpr ⟨bw_t (bw_1 (List.mem_of_getElem? (i := 108) rfl)) rfl, List.forall_mem_cons.mpr ⟨bw_t (bw_1 (List.mem_of_getElem? (i := 110) rfl)) rfl, List.forall_mem_cons.mpr ⟨bw_t (bw_1 (List.mem_of_getElem? (i := 112) rfl)) rfl, List.forall_mem_cons.mpr ⟨bw_t (bw_1 (List.mem_of_getElem? (i := 114) rfl)) rfl, List.forall_mem_cons.mpr ⟨bw_t (bw_1 (List.mem_of_getElem? (i := 116) rfl)) rfl, List.forall_mem_cons.mpr ⟨bw_t (bw_1 (List.mem_of_getElem? (i := 118) rfl)) rfl, fun _ h => absurd h List.not_mem_nil⟩⟩⟩⟩⟩⟩⟩⟩⟩⟩
theorem inlX2 : ∀ w ∈ u_ws RX2 TX2 3, w ∈ BW := by
  show ∀ w ∈ [u_lay RX2 TX2 0, u_lay RX2 TX2 1, u_lay RX2 TX2 2], w ∈ BW
  exact List.forall_mem_cons.mpr ⟨bw_t (bw_1 (List.mem_of_getElem? (i := 185) rfl)) rfl, List.forall_mem_cons.mpr ⟨bw_t (bw_1 (List.mem_of_getElem? (i := 187) rfl)) rfl, List.forall_mem_cons.mpr ⟨bw_t (bw_1 (List.mem_of_getElem? (i := 189) rfl)) rfl, fun _ h => absurd h List.not_mem_nil⟩⟩⟩
theorem inlX3 : ∀ w ∈ u_ws RX3 TX3 3, w ∈ BW := by
  show ∀ w ∈ [u_lay RX3 TX3 0, u_lay RX3 TX3 1, u_lay RX3 TX3 2], w ∈ BW
  exact List.forall_mem_cons.mpr ⟨bw_t (bw_1 (List.mem_of_getElem? (i := 33) rfl)) rfl, List.forall_mem_cons.mpr ⟨bw_t (bw_1 (List.mem_of_getElem? (i := 35) rfl)) rfl, List.forall_mem_cons.mpr ⟨bw_t (bw_1 (List.mem_of_getElem? (i := 37) rfl)) rfl, fun _ h => absurd h List.not_mem_nil⟩⟩⟩
theorem inlX4 : ∀ w ∈ u_ws RX4 TX4 5, w ∈ BW := by
  show ∀ w ∈ [u_lay RX4 TX4 0, u_lay RX4 TX4 1, u_lay RX4 TX4 2, u_lay RX4 TX4 3, u_lay RX4 TX4 4], w ∈ BW
  exact List.forall_mem_cons.mpr ⟨bw_t (bw_1 (List.mem_of_getElem? (i := 57) rfl)) rfl, List.forall_mem_cons.mpr ⟨bw_t (bw_1 (List.mem_of_getElem? (i := 59) rfl)) rfl, List.forall_mem_cons.mpr ⟨bw_t (bw_1 (List.mem_of_getElem? (i := 61) rfl)) rfl, List.forall_mem_cons.mpr ⟨bw_t (bw_1 (List.mem_of_getElem? (i := 63) rfl)) rfl, List.forall_mem_cons.mpr ⟨bw_t (bw_1 (List.mem_of_getElem? (i := 65) rfl)) rfl, fun _ h => absurd h List.not_mem_nil⟩⟩⟩⟩⟩
theorem inlX5 : ∀ w ∈ u_ws RX5 TX5 16, w ∈ BW := by
  show ∀ w ∈ [u_lay RX5 TX5 0, u_lay RX5 TX5 1, u_lay RX5 TX5 2, u_lay RX5 TX5 3, u_lay RX5 TX5 4, u_lay RX5 TX5 5, u_lay RX5 TX5 6, u_lay RX5 TX5 7, u_lay RX5 TX5 8, u_lay RX5 TX5 9, u_lay RX5 TX5 10, u_lay RX5 TX5 11, u_lay RX5 TX5 12, u_lay RX5 TX5 13, u_lay RX5 TX5 14, u_lay RX5 TX5 15], w ∈ BW
  exact List.forall_mem_cons.mpr ⟨bw_t (bw_1 (List.mem_of_getElem? (i := 209) rfl)) rfl, List.forall_mem_cons.mpr ⟨bw_t (bw_1 (List.mem_of_getElem? (i := 211) rfl)) rfl, List.forall_mem_cons.mpr ⟨bw_t (bw_1 (List.mem_of_getElem? (i := 213) rfl)) rfl, List.forall_mem_cons.mpr ⟨bw_t (bw_1 (List.mem_of_getElem? (i := 215) rfl)) rfl, List.forall_mem_cons.mpr ⟨bw_t (bw_1 (List.mem_of_getElem? (i := 217) rfl)) rfl, List.forall_mem_cons.mpr ⟨bw_t (bw_1 (List.mem_of_getElem? (i := 219) rfl)) rfl, List.forall_mem_cons.mpr ⟨bw_t (bw_1 (List.mem_of_getElem? (i := 221) rfl)) rfl, List.forall_mem_cons.mpr ⟨bw_t (bw_1 (List.mem_of_getElem? (i := 223) rfl)) rfl, List.forall_mem_cons.mpr ⟨bw_t (bw_1 (List.mem_of_getElem? (i := 225) rfl)) rfl, List.forall_mem_cons.mpr ⟨bw_t (bw_1 (List.mem_of_getElem? (i := 227) rfl)) rfl, List.forall_mem_cons.mpr ⟨bw_t (bw_1 (List.mem_of_getElem? (i := 229) rfl)) rfl, List.forall_mem_cons.mpr ⟨bw_t (bw_1 (List.mem_of_getElem? (i := 231) rfl)) rfl, List.forall_mem_cons.mpr ⟨bw_t (bw_1 (List.mem_of_getElem? (i := 233) rfl)) rfl, List.forall_mem_cons.mpr ⟨bw_t (bw_1 (List.mem_of_getElem? (i := 235) rfl)) rfl, List.forall_mem_cons.mpr ⟨bw_t (bw_1 (List.mem_of_getElem? (i := 237) rfl)) rfl, List.forall_mem_cons.mpr ⟨bw_t (bw_1 (List.mem_of_getElem? (i := 239) rfl)) rfl, fun _ h => absurd h List.not_mem_nil⟩⟩⟩⟩⟩⟩⟩⟩⟩⟩⟩⟩⟩⟩⟩⟩
theorem inlX6 : ∀ w ∈ u_ws RX6 TX6 26, w ∈ BW := by
  show ∀ w ∈ [u_lay RX6 TX6 0, u_lay RX6 TX6 1, u_lay RX6 TX6 2, u_lay RX6 TX6 3, u_lay RX6 TX6 4, u_lay RX6 TX6 5, u_lay RX6 TX6 6, u_lay RX6 TX6 7, u_lay RX6 TX6 8, u_lay RX6 TX6 9, u_lay RX6 TX6 10, u_lay RX6 TX6 11, u_lay RX6 TX6 12, u_lay RX6 TX6 13, u_lay RX6 TX6 14, u_lay RX6 TX6 15, u_lay RX6 TX6 16, u_lay RX6 TX6 17, u_lay RX6 TX6 18, u_lay RX6 TX6 19, u_lay RX6 TX6 20, u_lay RX6 TX6 21, u_lay RX6 TX6 22, u_lay RX6 TX6 23, u_lay RX6 TX6 24, u_lay RX6 TX6 25], w ∈ BW
  exact List.forall_mem_cons.mpr ⟨bw_t (bw_3 (List.mem_of_getElem? (i := 224) rfl)) rfl, List.forall_mem_cons.mpr ⟨bw_t (bw_3 (List.mem_of_getElem? (i := 226) rfl)) rfl, List.forall_mem_cons.mpr ⟨bw_t (bw_3 (List.mem_of_getElem? (i := 228) rfl)) rfl, List.forall_mem_cons.mpr ⟨bw_t (bw_3 (List.mem_of_getElem? (i := 230) rfl)) rfl, List.forall_mem_cons.mpr ⟨bw_t (bw_3 (List.mem_of_getElem? (i := 232) rfl)) rfl, List.forall_mem_cons.mpr ⟨bw_t (bw_3 (List.mem_of_getElem? (i := 234) rfl)) rfl, List.forall_mem_cons.mpr ⟨bw_t (bw_3 (List.mem_of_getElem? (i := 236) rfl)) rfl, List.forall_mem_cons.mpr ⟨bw_t (bw_3 (List.mem_of_getElem? (i := 238) rfl)) rfl, List.forall_mem_cons.mpr ⟨bw_t (bw_4 (List.mem_of_getElem? (i := 0) rfl)) rfl, List.forall_mem_cons.mpr ⟨bw_t (bw_4 (List.mem_of_getElem? (i := 2) rfl)) rfl, List.forall_mem_cons.mpr ⟨bw_t (bw_4 (List.mem_of_getElem? (i := 4) rfl)) rfl, List.forall_mem_cons.mpr ⟨bw_t (bw_4 (List.mem_of_getElem? (i := 6) rfl)) rfl, List.forall_mem_cons.mpr ⟨bw_t (bw_4 (List.mem_of_getElem? (i := 8) rfl)) rfl, List.forall_mem_cons.mpr ⟨bw_t (bw_4 (List.mem_of_getElem? (i := 10) rfl)) rfl, List.forall_mem_cons.mpr ⟨bw_t (bw_4 (List.mem_of_getElem? (i := 12) rfl)) rfl, List.forall_mem_cons.mpr ⟨bw_t (bw_4 (List.mem_of_getElem? (i := 14) rfl)) rfl, List.forall_mem_cons.mpr ⟨bw_t (bw_4 (List.mem_of_getElem? (i := 16) rfl)) rfl, List.forall_mem_cons.mpr ⟨bw_t (bw_4 (List.mem_of_getElem? (i := 18) rfl)) rfl, List.forall_mem_cons.mpr ⟨bw_t (bw_4 (List.mem_of_getElem? (i := 20) rfl)) rfl, List.forall_mem_cons.mpr ⟨bw_t (bw_4 (List.mem_of_getElem? (i := 22) rfl)) rfl, List.forall_mem_cons.mpr ⟨bw_t (bw_4 (List.mem_of_getElem? (i := 24) rfl)) rfl, List.forall_mem_cons.mpr ⟨bw_t (bw_4 (List.mem_of_getElem? (i := 26) rfl)) rfl, List.forall_mem_cons.mpr ⟨bw_t (bw_4 (List.mem_of_getElem? (i := 28) rfl)) rfl, List.forall_mem_cons.mpr ⟨bw_t (bw_4 (List.mem_of_getElem? (i := 30) rfl)) rfl, List.forall_mem_cons.mpr ⟨bw_t (bw_4 (List.mem_of_getElem? (i := 32) rfl)) rfl, List.forall_mem_cons.mpr ⟨bw_t (bw_4 (List.mem_of_getElem? (i := 34) rfl)) rfl, fun _ h => absurd h List.not_mem_nil⟩⟩⟩⟩⟩⟩⟩⟩⟩⟩⟩⟩⟩⟩⟩⟩⟩⟩⟩⟩⟩⟩⟩⟩⟩⟩
theorem wf_X5_10 : Cond.fieldLink RX5 10 (TX5 0).1 (TX5 0).2.1 (TX5 0).2.2.1 ∈ BW := bw_t (bw_1 (List.mem_of_getElem? (i := 193) rfl)) rfl
theorem wf_X5_19 : Cond.fieldLink RX5 19 (TX5 1).1 (TX5 1).2.1 (TX5 1).2.2.1 ∈ BW := bw_t (bw_1 (List.mem_of_getElem? (i := 194) rfl)) rfl
theorem wf_X5_26 : Cond.fieldLink RX5 26 (TX5 2).1 (TX5 2).2.1 (TX5 2).2.2.1 ∈ BW := bw_t (bw_1 (List.mem_of_getElem? (i := 195) rfl)) rfl
theorem wf_X5_33 : Cond.fieldLink RX5 33 (TX5 3).1 (TX5 3).2.1 (TX5 3).2.2.1 ∈ BW := bw_t (bw_1 (List.mem_of_getElem? (i := 196) rfl)) rfl
theorem wf_X5_40 : Cond.fieldLink RX5 40 (TX5 4).1 (TX5 4).2.1 (TX5 4).2.2.1 ∈ BW := bw_t (bw_1 (List.mem_of_getElem? (i := 197) rfl)) rfl
theorem wf_X5_44 : Cond.fieldLink RX5 44 (TX5 5).1 (TX5 5).2.1 (TX5 5).2.2.1 ∈ BW := bw_t (bw_1 (List.mem_of_getElem? (i := 198) rfl)) rfl
theorem wf_X5_47 : Cond.fieldLink RX5 47 (TX5 6).1 (TX5 6).2.1 (TX5 6).2.2.1 ∈ BW := bw_t (bw_1 (List.mem_of_getElem? (i := 199) rfl)) rfl
theorem wf_X5_50 : Cond.fieldLink RX5 50 (TX5 7).1 (TX5 7).2.1 (TX5 7).2.2.1 ∈ BW := bw_t (bw_1 (List.mem_of_getElem? (i := 200) rfl)) rfl
theorem wf_X5_53 : Cond.fieldLink RX5 53 (TX5 8).1 (TX5 8).2.1 (TX5 8).2.2.1 ∈ BW := bw_t (bw_1 (List.mem_of_getElem? (i := 201) rfl)) rfl
theorem wf_X5_57 : Cond.fieldLink RX5 57 (TX5 9).1 (TX5 9).2.1 (TX5 9).2.2.1 ∈ BW := bw_t (bw_1 (List.mem_of_getElem? (i := 202) rfl)) rfl
theorem wf_X5_61 : Cond.fieldLink RX5 61 (TX5 11).1 (TX5 11).2.1 (TX5 11).2.2.1 ∈ BW := bw_t (bw_1 (List.mem_of_getElem? (i := 204) rfl)) rfl
theorem wf_X5_65 : Cond.fieldLink RX5 65 (TX5 12).1 (TX5 12).2.1 (TX5 12).2.2.1 ∈ BW := bw_t (bw_1 (List.mem_of_getElem? (i := 205) rfl)) rfl
theorem wf_X5_99 : Cond.fieldLink RX5 99 (TX3 0).1 (TX3 0).2.1 (TX3 0).2.2.1 ∈ BW := bw_t (bw_1 (List.mem_of_getElem? (i := 28) rfl)) rfl
theorem wf_X5_102 : Cond.fieldLink RX5 102 (TX3 2).1 (TX3 2).2.1 (TX3 2).2.2.1 ∈ BW := bw_t (bw_1 (List.mem_of_getElem? (i := 32) rfl)) rfl
theorem wf_X5_112 : Cond.fieldLink RX5 112 (TX3 1).1 (TX3 1).2.1 (TX3 1).2.2.1 ∈ BW := bw_t (bw_1 (List.mem_of_getElem? (i := 30) rfl)) rfl
theorem wf_X5_115 : Cond.fieldLink RX5 115 (TX4 1).1 (TX4 1).2.1 (TX4 1).2.2.1 ∈ BW := bw_t (bw_1 (List.mem_of_getElem? (i := 50) rfl)) rfl
theorem wf_X5_120 : Cond.fieldLink RX5 120 (TX4 0).1 (TX4 0).2.1 (TX4 0).2.2.1 ∈ BW := bw_t (bw_1 (List.mem_of_getElem? (i := 48) rfl)) rfl
theorem wf_X5_126 : Cond.fieldLink RX5 126 (TX4 3).1 (TX4 3).2.1 (TX4 3).2.2.1 ∈ BW := bw_t (bw_1 (List.mem_of_getElem? (i := 54) rfl)) rfl
theorem wf_X5_129 : Cond.fieldLink RX5 129 (TX5 14).1 (TX5 14).2.1 (TX5 14).2.2.1 ∈ BW := bw_t (bw_1 (List.mem_of_getElem? (i := 207) rfl)) rfl
theorem wf_X5_133 : Cond.fieldLink RX5 133 (TX4 4).1 (TX4 4).2.1 (TX4 4).2.2.1 ∈ BW := bw_t (bw_1 (List.mem_of_getElem? (i := 56) rfl)) rfl
theorem wf_X5_146 : Cond.fieldLink RX5 146 (TX1 4).1 (TX1 4).2.1 (TX1 4).2.2.1 ∈ BW := bw_t (bw_1 (List.mem_of_getElem? (i := 87) rfl)) rfl
theorem wf_X5_149 : Cond.fieldLink RX5 149 (TX2 2).1 (TX2 2).2.1 (TX2 2).2.2.1 ∈ BW := bw_t (bw_1 (List.mem_of_getElem? (i := 184) rfl)) rfl
theorem wf_X5_160 : Cond.fieldLink RX5 160 (TX0 0).1 (TX0 0).2.1 (TX0 0).2.2.1 ∈ BW := bw_t (bw_1 (List.mem_of_getElem? (i := 128) rfl)) rfl
theorem wf_X5_169 : Cond.fieldLink RX5 169 (TX0 1).1 (TX0 1).2.1 (TX0 1).2.2.1 ∈ BW := bw_t (bw_1 (List.mem_of_getElem? (i := 130) rfl)) rfl
theorem wf_X5_178 : Cond.fieldLink RX5 178 (TX0 7).1 (TX0 7).2.1 (TX0 7).2.2.1 ∈ BW := bw_t (bw_1 (List.mem_of_getElem? (i := 142) rfl)) rfl
theorem wf_X5_181 : Cond.fieldLink RX5 181 (TX0 8).1 (TX0 8).2.1 (TX0 8).2.2.1 ∈ BW := bw_t (bw_1 (List.mem_of_getElem? (i := 144) rfl)) rfl
theorem wf_X5_184 : Cond.fieldLink RX5 184 (TX0 5).1 (TX0 5).2.1 (TX0 5).2.2.1 ∈ BW := bw_t (bw_1 (List.mem_of_getElem? (i := 138) rfl)) rfl
theorem wf_X5_196 : Cond.fieldLink RX5 196 (TX1 7).1 (TX1 7).2.1 (TX1 7).2.2.1 ∈ BW := bw_t (bw_1 (List.mem_of_getElem? (i := 93) rfl)) rfl
theorem wf_X5_199 : Cond.fieldLink RX5 199 (TX0 9).1 (TX0 9).2.1 (TX0 9).2.2.1 ∈ BW := bw_t (bw_1 (List.mem_of_getElem? (i := 146) rfl)) rfl
theorem wf_X5_213 : Cond.fieldLink RX5 213 (TX0 10).1 (TX0 10).2.1 (TX0 10).2.2.1 ∈ BW := bw_t (bw_1 (List.mem_of_getElem? (i := 148) rfl)) rfl
theorem wf_X5_216 : Cond.fieldLink RX5 216 (TX0 4).1 (TX0 4).2.1 (TX0 4).2.2.1 ∈ BW := bw_t (bw_1 (List.mem_of_getElem? (i := 136) rfl)) rfl
theorem wf_X5_219 : Cond.fieldLink RX5 219 (TX1 5).1 (TX1 5).2.1 (TX1 5).2.2.1 ∈ BW := bw_t (bw_1 (List.mem_of_getElem? (i := 89) rfl)) rfl
theorem wf_X5_229 : Cond.fieldLink RX5 229 (TX0 2).1 (TX0 2).2.1 (TX0 2).2.2.1 ∈ BW := bw_t (bw_1 (List.mem_of_getElem? (i := 132) rfl)) rfl
theorem wf_X5_244 : Cond.fieldLink RX5 244 (TX1 0).1 (TX1 0).2.1 (TX1 0).2.2.1 ∈ BW := bw_t (bw_1 (List.mem_of_getElem? (i := 76) rfl)) rfl
theorem wf_X5_258 : Cond.fieldLink RX5 258 (TX0 3).1 (TX0 3).2.1 (TX0 3).2.2.1 ∈ BW := bw_t (bw_1 (List.mem_of_getElem? (i := 134) rfl)) rfl
theorem wf_X5_284 : Cond.fieldLink RX5 284 (TX5 10).1 (TX5 10).2.1 (TX5 10).2.2.1 ∈ BW := bw_t (bw_1 (List.mem_of_getElem? (i := 203) rfl)) rfl
theorem wf_X5_287 : Cond.fieldLink RX5 287 (TX0 6).1 (TX0 6).2.1 (TX0 6).2.2.1 ∈ BW := bw_t (bw_1 (List.mem_of_getElem? (i := 140) rfl)) rfl
theorem wf_X5_294 : Cond.fieldLink RX5 294 (TX5 13).1 (TX5 13).2.1 (TX5 13).2.2.1 ∈ BW := bw_t (bw_1 (List.mem_of_getElem? (i := 206) rfl)) rfl
theorem wf_X5_312 : Cond.fieldLink RX5 312 (TX1 3).1 (TX1 3).2.1 (TX1 3).2.2.1 ∈ BW := bw_t (bw_1 (List.mem_of_getElem? (i := 84) rfl)) rfl
theorem wf_X5_315 : Cond.fieldLink RX5 315 (TX5 15).1 (TX5 15).2.1 (TX5 15).2.2.1 ∈ BW := bw_t (bw_1 (List.mem_of_getElem? (i := 208) rfl)) rfl
theorem wf_X5_355 : Cond.fieldLink RX5 355 (TX1 1).1 (TX1 1).2.1 (TX1 1).2.2.1 ∈ BW := bw_t (bw_1 (List.mem_of_getElem? (i := 79) rfl)) rfl
theorem wf_X5_358 : Cond.fieldLink RX5 358 (TX1 2).1 (TX1 2).2.1 (TX1 2).2.2.1 ∈ BW := bw_t (bw_1 (List.mem_of_getElem? (i := 82) rfl)) rfl
theorem wf_X5_361 : Cond.fieldLink RX5 361 (TX4 2).1 (TX4 2).2.1 (TX4 2).2.2.1 ∈ BW := bw_t (bw_1 (List.mem_of_getElem? (i := 52) rfl)) rfl
theorem wf_X5_370 : Cond.fieldLink RX5 370 (TX1 8).1 (TX1 8).2.1 (TX1 8).2.2.1 ∈ BW := bw_t (bw_1 (List.mem_of_getElem? (i := 96) rfl)) rfl
theorem wf_X5_373 : Cond.fieldLink RX5 373 (TX1 9).1 (TX1 9).2.1 (TX1 9).2.2.1 ∈ BW := bw_t (bw_1 (List.mem_of_getElem? (i := 99) rfl)) rfl
theorem wf_X0_9 : Cond.fieldLink RX0 9 (TX0 6).1 (TX0 6).2.1 (TX0 6).2.2.1 ∈ BW := bw_t (bw_1 (List.mem_of_getElem? (i := 139) rfl)) rfl
theorem wf_X0_15 : Cond.fieldLink RX0 15 (TX0 7).1 (TX0 7).2.1 (TX0 7).2.2.1 ∈ BW := bw_t (bw_1 (List.mem_of_getElem? (i := 141) rfl)) rfl
theorem wf_X0_18 : Cond.fieldLink RX0 18 (TX0 8).1 (TX0 8).2.1 (TX0 8).2.2.1 ∈ BW := bw_t (bw_1 (List.mem_of_getElem? (i := 143) rfl)) rfl
theorem wf_X0_21 : Cond.fieldLink RX0 21 (TX0 9).1 (TX0 9).2.1 (TX0 9).2.2.1 ∈ BW := bw_t (bw_1 (List.mem_of_getElem? (i := 145) rfl)) rfl
theorem wf_X0_24 : Cond.fieldLink RX0 24 (TX0 10).1 (TX0 10).2.1 (TX0 10).2.2.1 ∈ BW := bw_t (bw_1 (List.mem_of_getElem? (i := 147) rfl)) rfl
theorem wf_X0_27 : Cond.fieldLink RX0 27 (TX0 0).1 (TX0 0).2.1 (TX0 0).2.2.1 ∈ BW := bw_t (bw_1 (List.mem_of_getElem? (i := 127) rfl)) rfl
theorem wf_X0_31 : Cond.fieldLink RX0 31 (TX0 1).1 (TX0 1).2.1 (TX0 1).2.2.1 ∈ BW := bw_t (bw_1 (List.mem_of_getElem? (i := 129) rfl)) rfl
theorem wf_X0_34 : Cond.fieldLink RX0 34 (TX0 2).1 (TX0 2).2.1 (TX0 2).2.2.1 ∈ BW := bw_t (bw_1 (List.mem_of_getElem? (i := 131) rfl)) rfl
theorem wf_X0_37 : Cond.fieldLink RX0 37 (TX0 3).1 (TX0 3).2.1 (TX0 3).2.2.1 ∈ BW := bw_t (bw_1 (List.mem_of_getElem? (i := 133) rfl)) rfl
theorem wf_X0_40 : Cond.fieldLink RX0 40 (TX0 4).1 (TX0 4).2.1 (TX0 4).2.2.1 ∈ BW := bw_t (bw_1 (List.mem_of_getElem? (i := 135) rfl)) rfl
theorem wf_X0_43 : Cond.fieldLink RX0 43 (TX0 5).1 (TX0 5).2.1 (TX0 5).2.2.1 ∈ BW := bw_t (bw_1 (List.mem_of_getElem? (i := 137) rfl)) rfl
theorem wf_X0_52 : Cond.fieldLink RX0 52 (TX1 8).1 (TX1 8).2.1 (TX1 8).2.2.1 ∈ BW := bw_t (bw_1 (List.mem_of_getElem? (i := 95) rfl)) rfl
theorem wf_X0_57 : Cond.fieldLink RX0 57 (TX1 9).1 (TX1 9).2.1 (TX1 9).2.2.1 ∈ BW := bw_t (bw_1 (List.mem_of_getElem? (i := 98) rfl)) rfl
theorem wf_X0_64 : Cond.fieldLink RX0 64 (TX1 4).1 (TX1 4).2.1 (TX1 4).2.2.1 ∈ BW := bw_t (bw_1 (List.mem_of_getElem? (i := 86) rfl)) rfl
theorem wf_X0_76 : Cond.fieldLink RX0 76 (TX1 7).1 (TX1 7).2.1 (TX1 7).2.2.1 ∈ BW := bw_t (bw_1 (List.mem_of_getElem? (i := 92) rfl)) rfl
theorem wf_X0_82 : Cond.fieldLink RX0 82 (TX1 0).1 (TX1 0).2.1 (TX1 0).2.2.1 ∈ BW := bw_t (bw_1 (List.mem_of_getElem? (i := 75) rfl)) rfl
theorem wf_X0_85 : Cond.fieldLink RX0 85 (TX1 1).1 (TX1 1).2.1 (TX1 1).2.2.1 ∈ BW := bw_t (bw_1 (List.mem_of_getElem? (i := 78) rfl)) rfl
theorem wf_X0_106 : Cond.fieldLink RX0 106 (TX1 2).1 (TX1 2).2.1 (TX1 2).2.2.1 ∈ BW := bw_t (bw_1 (List.mem_of_getElem? (i := 81) rfl)) rfl
theorem wf_X1_9 : Cond.fieldLink RX1 9 (TX1 5).1 (TX1 5).2.1 (TX1 5).2.2.1 ∈ BW := bw_t (bw_1 (List.mem_of_getElem? (i := 88) rfl)) rfl
theorem wf_X1_15 : Cond.fieldLink RX1 15 (TX1 6).1 (TX1 6).2.1 (TX1 6).2.2.1 ∈ BW := bw_t (bw_1 (List.mem_of_getElem? (i := 90) rfl)) rfl
theorem wf_X1_18 : Cond.fieldLink RX1 18 (TX1 7).1 (TX1 7).2.1 (TX1 7).2.2.1 ∈ BW := bw_t (bw_1 (List.mem_of_getElem? (i := 91) rfl)) rfl
theorem wf_X1_21 : Cond.fieldLink RX1 21 (TX1 8).1 (TX1 8).2.1 (TX1 8).2.2.1 ∈ BW := bw_t (bw_1 (List.mem_of_getElem? (i := 94) rfl)) rfl
theorem wf_X1_24 : Cond.fieldLink RX1 24 (TX1 9).1 (TX1 9).2.1 (TX1 9).2.2.1 ∈ BW := bw_t (bw_1 (List.mem_of_getElem? (i := 97) rfl)) rfl
theorem wf_X1_27 : Cond.fieldLink RX1 27 (TX1 3).1 (TX1 3).2.1 (TX1 3).2.2.1 ∈ BW := bw_t (bw_1 (List.mem_of_getElem? (i := 83) rfl)) rfl
theorem wf_X1_31 : Cond.fieldLink RX1 31 (TX1 4).1 (TX1 4).2.1 (TX1 4).2.2.1 ∈ BW := bw_t (bw_1 (List.mem_of_getElem? (i := 85) rfl)) rfl
theorem wf_X1_34 : Cond.fieldLink RX1 34 (TX1 0).1 (TX1 0).2.1 (TX1 0).2.2.1 ∈ BW := bw_t (bw_1 (List.mem_of_getElem? (i := 74) rfl)) rfl
theorem wf_X1_37 : Cond.fieldLink RX1 37 (TX1 1).1 (TX1 1).2.1 (TX1 1).2.2.1 ∈ BW := bw_t (bw_1 (List.mem_of_getElem? (i := 77) rfl)) rfl
theorem wf_X1_40 : Cond.fieldLink RX1 40 (TX1 2).1 (TX1 2).2.1 (TX1 2).2.2.1 ∈ BW := bw_t (bw_1 (List.mem_of_getElem? (i := 80) rfl)) rfl
theorem wf_X2_11 : Cond.fieldLink RX2 11 (TX2 0).1 (TX2 0).2.1 (TX2 0).2.2.1 ∈ BW := bw_t (bw_1 (List.mem_of_getElem? (i := 181) rfl)) rfl
theorem wf_X2_18 : Cond.fieldLink RX2 18 (TX2 1).1 (TX2 1).2.1 (TX2 1).2.2.1 ∈ BW := bw_t (bw_1 (List.mem_of_getElem? (i := 182) rfl)) rfl
theorem wf_X2_22 : Cond.fieldLink RX2 22 (TX2 2).1 (TX2 2).2.1 (TX2 2).2.2.1 ∈ BW := bw_t (bw_1 (List.mem_of_getElem? (i := 183) rfl)) rfl
theorem wf_X3_9 : Cond.fieldLink RX3 9 (TX3 0).1 (TX3 0).2.1 (TX3 0).2.2.1 ∈ BW := bw_t (bw_1 (List.mem_of_getElem? (i := 27) rfl)) rfl
theorem wf_X3_15 : Cond.fieldLink RX3 15 (TX3 1).1 (TX3 1).2.1 (TX3 1).2.2.1 ∈ BW := bw_t (bw_1 (List.mem_of_getElem? (i := 29) rfl)) rfl
theorem wf_X3_20 : Cond.fieldLink RX3 20 (TX3 2).1 (TX3 2).2.1 (TX3 2).2.2.1 ∈ BW := bw_t (bw_1 (List.mem_of_getElem? (i := 31) rfl)) rfl
theorem wf_X4_9 : Cond.fieldLink RX4 9 (TX4 0).1 (TX4 0).2.1 (TX4 0).2.2.1 ∈ BW := bw_t (bw_1 (List.mem_of_getElem? (i := 47) rfl)) rfl
theorem wf_X4_15 : Cond.fieldLink RX4 15 (TX4 2).1 (TX4 2).2.1 (TX4 2).2.2.1 ∈ BW := bw_t (bw_1 (List.mem_of_getElem? (i := 51) rfl)) rfl
theorem wf_X4_19 : Cond.fieldLink RX4 19 (TX4 3).1 (TX4 3).2.1 (TX4 3).2.2.1 ∈ BW := bw_t (bw_1 (List.mem_of_getElem? (i := 53) rfl)) rfl
theorem wf_X4_22 : Cond.fieldLink RX4 22 (TX4 4).1 (TX4 4).2.1 (TX4 4).2.2.1 ∈ BW := bw_t (bw_1 (List.mem_of_getElem? (i := 55) rfl)) rfl
theorem wf_X4_25 : Cond.fieldLink RX4 25 (TX4 1).1 (TX4 1).2.1 (TX4 1).2.2.1 ∈ BW := bw_t (bw_1 (List.mem_of_getElem? (i := 49) rfl)) rfl
theorem wf_X6_7 : Cond.fieldLink RX6 7 (TX6 2).1 (TX6 2).2.1 (TX6 2).2.2.1 ∈ BW := bw_t (bw_3 (List.mem_of_getElem? (i := 200) rfl)) rfl
theorem wf_X6_13 : Cond.fieldLink RX6 13 (TX6 3).1 (TX6 3).2.1 (TX6 3).2.2.1 ∈ BW := bw_t (bw_3 (List.mem_of_getElem? (i := 201) rfl)) rfl
theorem wf_X6_16 : Cond.fieldLink RX6 16 (TX6 4).1 (TX6 4).2.1 (TX6 4).2.2.1 ∈ BW := bw_t (bw_3 (List.mem_of_getElem? (i := 202) rfl)) rfl
theorem wf_X6_19 : Cond.fieldLink RX6 19 (TX6 5).1 (TX6 5).2.1 (TX6 5).2.2.1 ∈ BW := bw_t (bw_3 (List.mem_of_getElem? (i := 203) rfl)) rfl
theorem wf_X6_22 : Cond.fieldLink RX6 22 (TX6 6).1 (TX6 6).2.1 (TX6 6).2.2.1 ∈ BW := bw_t (bw_3 (List.mem_of_getElem? (i := 204) rfl)) rfl
theorem wf_X6_25 : Cond.fieldLink RX6 25 (TX6 7).1 (TX6 7).2.1 (TX6 7).2.2.1 ∈ BW := bw_t (bw_3 (List.mem_of_getElem? (i := 205) rfl)) rfl
theorem wf_X6_28 : Cond.fieldLink RX6 28 (TX6 8).1 (TX6 8).2.1 (TX6 8).2.2.1 ∈ BW := bw_t (bw_3 (List.mem_of_getElem? (i := 206) rfl)) rfl
theorem wf_X6_31 : Cond.fieldLink RX6 31 (TX6 10).1 (TX6 10).2.1 (TX6 10).2.2.1 ∈ BW := bw_t (bw_3 (List.mem_of_getElem? (i := 208) rfl)) rfl
theorem wf_X6_34 : Cond.fieldLink RX6 34 (TX6 19).1 (TX6 19).2.1 (TX6 19).2.2.1 ∈ BW := bw_t (bw_3 (List.mem_of_getElem? (i := 217) rfl)) rfl
theorem wf_X6_37 : Cond.fieldLink RX6 37 (TX6 20).1 (TX6 20).2.1 (TX6 20).2.2.1 ∈ BW := bw_t (bw_3 (List.mem_of_getElem? (i := 218) rfl)) rfl
theorem wf_X6_40 : Cond.fieldLink RX6 40 (TX6 21).1 (TX6 21).2.1 (TX6 21).2.2.1 ∈ BW := bw_t (bw_3 (List.mem_of_getElem? (i := 219) rfl)) rfl
theorem wf_X6_44 : Cond.fieldLink RX6 44 (TX6 22).1 (TX6 22).2.1 (TX6 22).2.2.1 ∈ BW := bw_t (bw_3 (List.mem_of_getElem? (i := 220) rfl)) rfl
theorem wf_X6_48 : Cond.fieldLink RX6 48 (TX6 23).1 (TX6 23).2.1 (TX6 23).2.2.1 ∈ BW := bw_t (bw_3 (List.mem_of_getElem? (i := 221) rfl)) rfl
theorem wf_X6_51 : Cond.fieldLink RX6 51 (TX6 24).1 (TX6 24).2.1 (TX6 24).2.2.1 ∈ BW := bw_t (bw_3 (List.mem_of_getElem? (i := 222) rfl)) rfl
theorem wf_X6_54 : Cond.fieldLink RX6 54 (TX6 0).1 (TX6 0).2.1 (TX6 0).2.2.1 ∈ BW := bw_t (bw_3 (List.mem_of_getElem? (i := 198) rfl)) rfl
theorem wf_X6_58 : Cond.fieldLink RX6 58 (TX6 1).1 (TX6 1).2.1 (TX6 1).2.2.1 ∈ BW := bw_t (bw_3 (List.mem_of_getElem? (i := 199) rfl)) rfl
theorem wf_X6_81 : Cond.fieldLink RX6 81 (TX6 11).1 (TX6 11).2.1 (TX6 11).2.2.1 ∈ BW := bw_t (bw_3 (List.mem_of_getElem? (i := 209) rfl)) rfl
theorem wf_X6_85 : Cond.fieldLink RX6 85 (TX6 16).1 (TX6 16).2.1 (TX6 16).2.2.1 ∈ BW := bw_t (bw_3 (List.mem_of_getElem? (i := 214) rfl)) rfl
theorem wf_X6_88 : Cond.fieldLink RX6 88 (TX6 13).1 (TX6 13).2.1 (TX6 13).2.2.1 ∈ BW := bw_t (bw_3 (List.mem_of_getElem? (i := 211) rfl)) rfl
theorem wf_X6_91 : Cond.fieldLink RX6 91 (TX6 17).1 (TX6 17).2.1 (TX6 17).2.2.1 ∈ BW := bw_t (bw_3 (List.mem_of_getElem? (i := 215) rfl)) rfl
theorem wf_X6_94 : Cond.fieldLink RX6 94 (TX6 12).1 (TX6 12).2.1 (TX6 12).2.2.1 ∈ BW := bw_t (bw_3 (List.mem_of_getElem? (i := 210) rfl)) rfl
theorem wf_X6_98 : Cond.fieldLink RX6 98 (TX6 15).1 (TX6 15).2.1 (TX6 15).2.2.1 ∈ BW := bw_t (bw_3 (List.mem_of_getElem? (i := 213) rfl)) rfl
theorem wf_X6_109 : Cond.fieldLink RX6 109 (TX6 14).1 (TX6 14).2.1 (TX6 14).2.2.1 ∈ BW := bw_t (bw_3 (List.mem_of_getElem? (i := 212) rfl)) rfl
theorem wf_X6_123 : Cond.fieldLink RX6 123 (TX6 18).1 (TX6 18).2.1 (TX6 18).2.2.1 ∈ BW := bw_t (bw_3 (List.mem_of_getElem? (i := 216) rfl)) rfl
theorem wf_X6_153 : Cond.fieldLink RX6 153 (TX6 9).1 (TX6 9).2.1 (TX6 9).2.2.1 ∈ BW := bw_t (bw_3 (List.mem_of_getElem? (i := 207) rfl)) rfl
theorem wf_X6_252 : Cond.fieldLink RX6 252 (TX6 25).1 (TX6 25).2.1 (TX6 25).2.2.1 ∈ BW := bw_t (bw_3 (List.mem_of_getElem? (i := 223) rfl)) rfl
theorem wm_X5_1 : Cond.methodLink RX5 1 objectInit ∈ BW := bw_t (bw_1 (List.mem_of_getElem? (i := 16) rfl)) rfl
theorem wm_X5_9 : Cond.methodLink RX5 9 yX3_init ∈ BW := bw_t (bw_1 (List.mem_of_getElem? (i := 21) rfl)) rfl
theorem wm_X5_39 : Cond.methodLink RX5 39 yX2_init ∈ BW := bw_t (bw_1 (List.mem_of_getElem? (i := 174) rfl)) rfl
theorem wm_X5_69 : Cond.methodLink RX5 69 yX5_isRow ∈ BW := bw_t (bw_2 (List.mem_of_getElem? (i := 7) rfl)) rfl
theorem wm_X5_73 : Cond.methodLink RX5 73 yX5_within ∈ BW := bw_t (bw_2 (List.mem_of_getElem? (i := 10) rfl)) rfl
theorem wm_X5_78 : Cond.methodLink RX5 78 yX5_found ∈ BW := bw_t (bw_2 (List.mem_of_getElem? (i := 14) rfl)) rfl
theorem wm_X5_82 : Cond.methodLink RX5 82 yX3_make ∈ BW := bw_t (bw_2 (List.mem_of_getElem? (i := 19) rfl)) rfl
theorem wm_X5_86 : Cond.methodLink RX5 86 yX5_fine ∈ BW := bw_t (bw_2 (List.mem_of_getElem? (i := 23) rfl)) rfl
theorem wm_X5_89 : Cond.methodLink RX5 89 yX3_look ∈ BW := bw_t (bw_2 (List.mem_of_getElem? (i := 31) rfl)) rfl
theorem wm_X5_93 : Cond.methodLink RX5 93 yX3_put ∈ BW := bw_t (bw_2 (List.mem_of_getElem? (i := 39) rfl)) rfl
theorem wm_X5_96 : Cond.methodLink RX5 96 yX3_isMissing ∈ BW := bw_t (bw_2 (List.mem_of_getElem? (i := 47) rfl)) rfl
theorem wm_X5_106 : Cond.methodLink RX5 106 arraycopyName ∈ BW := bw_t (bw_2 (List.mem_of_getElem? (i := 48) rfl)) rfl
theorem wm_X5_123 : Cond.methodLink RX5 123 yX5_readText ∈ BW := bw_t (bw_2 (List.mem_of_getElem? (i := 64) rfl)) rfl
theorem wm_X5_136 : Cond.methodLink RX5 136 yX1_take ∈ BW := bw_t (bw_2 (List.mem_of_getElem? (i := 145) rfl)) rfl
theorem wm_X5_140 : Cond.methodLink RX5 140 yX0_take ∈ BW := bw_t (bw_2 (List.mem_of_getElem? (i := 150) rfl)) rfl
theorem wm_X5_143 : Cond.methodLink RX5 143 yX2_forget ∈ BW := bw_t (bw_2 (List.mem_of_getElem? (i := 155) rfl)) rfl
theorem wm_X5_153 : Cond.methodLink RX5 153 yX2_goBack ∈ BW := bw_t (bw_2 (List.mem_of_getElem? (i := 168) rfl)) rfl
theorem wm_X5_156 : Cond.methodLink RX5 156 yX5_hasLand ∈ BW := bw_t (bw_2 (List.mem_of_getElem? (i := 177) rfl)) rfl
theorem wm_X5_163 : Cond.methodLink RX5 163 yX2_keep ∈ BW := bw_t (bw_2 (List.mem_of_getElem? (i := 181) rfl)) rfl
theorem wm_X5_166 : Cond.methodLink RX5 166 yX0_pass ∈ BW := bw_t (bw_2 (List.mem_of_getElem? (i := 186) rfl)) rfl
theorem wm_X5_172 : Cond.methodLink RX5 172 yX5_isWisher ∈ BW := bw_t (bw_2 (List.mem_of_getElem? (i := 220) rfl)) rfl
theorem wm_X5_175 : Cond.methodLink RX5 175 yX5_isPlace ∈ BW := bw_t (bw_2 (List.mem_of_getElem? (i := 224) rfl)) rfl
theorem wm_X5_187 : Cond.methodLink RX5 187 yX5_bit ∈ BW := bw_t (bw_2 (List.mem_of_getElem? (i := 232) rfl)) rfl
theorem wm_X5_191 : Cond.methodLink RX5 191 yJ6_bitCount_0f7a4 ∈ BW := bw_t (bw_2 (List.mem_of_getElem? (i := 233) rfl)) rfl
theorem wm_X5_202 : Cond.methodLink RX5 202 yX0_wishes ∈ BW := bw_t (bw_3 (List.mem_of_getElem? (i := 3) rfl)) rfl
theorem wm_X5_206 : Cond.methodLink RX5 206 yX0_force ∈ BW := bw_t (bw_3 (List.mem_of_getElem? (i := 4) rfl)) rfl
theorem wm_X5_210 : Cond.methodLink RX5 210 yX0_weigh ∈ BW := bw_t (bw_3 (List.mem_of_getElem? (i := 9) rfl)) rfl
theorem wm_X5_222 : Cond.methodLink RX5 222 yX1_way ∈ BW := bw_t (bw_3 (List.mem_of_getElem? (i := 14) rfl)) rfl
theorem wm_X5_225 : Cond.methodLink RX5 225 yX0_passMany ∈ BW := bw_t (bw_3 (List.mem_of_getElem? (i := 19) rfl)) rfl
theorem wm_X5_233 : Cond.methodLink RX5 233 yX1_everyone ∈ BW := bw_t (bw_3 (List.mem_of_getElem? (i := 37) rfl)) rfl
theorem wm_X5_237 : Cond.methodLink RX5 237 yX5_isThereBy ∈ BW := bw_t (bw_3 (List.mem_of_getElem? (i := 41) rfl)) rfl
theorem wm_X5_240 : Cond.methodLink RX5 240 yX0_goesTo ∈ BW := bw_t (bw_3 (List.mem_of_getElem? (i := 53) rfl)) rfl
theorem wm_X5_247 : Cond.methodLink RX5 247 yX5_comesAsTold ∈ BW := bw_t (bw_3 (List.mem_of_getElem? (i := 61) rfl)) rfl
theorem wm_X5_250 : Cond.methodLink RX5 250 yX0_become ∈ BW := bw_t (bw_3 (List.mem_of_getElem? (i := 69) rfl)) rfl
theorem wm_X5_254 : Cond.methodLink RX5 254 yX0_code ∈ BW := bw_t (bw_3 (List.mem_of_getElem? (i := 77) rfl)) rfl
theorem wm_X5_265 : Cond.methodLink RX5 265 yX0_wishing ∈ BW := bw_t (bw_3 (List.mem_of_getElem? (i := 92) rfl)) rfl
theorem wm_X5_268 : Cond.methodLink RX5 268 yX5_goesBy ∈ BW := bw_t (bw_3 (List.mem_of_getElem? (i := 96) rfl)) rfl
theorem wm_X5_271 : Cond.methodLink RX5 271 yX5_power ∈ BW := bw_t (bw_3 (List.mem_of_getElem? (i := 100) rfl)) rfl
theorem wm_X5_275 : Cond.methodLink RX5 275 yX5_commonDivisor ∈ BW := bw_t (bw_3 (List.mem_of_getElem? (i := 103) rfl)) rfl
theorem wm_X5_290 : Cond.methodLink RX5 290 yX5_isA ∈ BW := bw_t (bw_3 (List.mem_of_getElem? (i := 129) rfl)) rfl
theorem wm_X5_297 : Cond.methodLink RX5 297 yX5_grownSize ∈ BW := bw_t (bw_3 (List.mem_of_getElem? (i := 136) rfl)) rfl
theorem wm_X5_300 : Cond.methodLink RX5 300 yX5_childSize ∈ BW := bw_t (bw_3 (List.mem_of_getElem? (i := 164) rfl)) rfl
theorem wm_X5_303 : Cond.methodLink RX5 303 yX5_grownMark ∈ BW := bw_t (bw_3 (List.mem_of_getElem? (i := 152) rfl)) rfl
theorem wm_X5_306 : Cond.methodLink RX5 306 yX5_childMark ∈ BW := bw_t (bw_3 (List.mem_of_getElem? (i := 172) rfl)) rfl
theorem wm_X5_309 : Cond.methodLink RX5 309 yX3_many ∈ BW := bw_t (bw_3 (List.mem_of_getElem? (i := 184) rfl)) rfl
theorem wm_X5_319 : Cond.methodLink RX5 319 yX4_begin ∈ BW := bw_t (bw_2 (List.mem_of_getElem? (i := 68) rfl)) rfl
theorem wm_X5_322 : Cond.methodLink RX5 322 yX1_clear ∈ BW := bw_t (bw_2 (List.mem_of_getElem? (i := 72) rfl)) rfl
theorem wm_X5_325 : Cond.methodLink RX5 325 yX5_readLaw ∈ BW := bw_t (bw_2 (List.mem_of_getElem? (i := 76) rfl)) rfl
theorem wm_X5_328 : Cond.methodLink RX5 328 yX4_goesOn ∈ BW := bw_t (bw_2 (List.mem_of_getElem? (i := 109) rfl)) rfl
theorem wm_X5_331 : Cond.methodLink RX5 331 yX4_next ∈ BW := bw_t (bw_2 (List.mem_of_getElem? (i := 113) rfl)) rfl
theorem wm_X5_334 : Cond.methodLink RX5 334 yX5_readRoad ∈ BW := bw_t (bw_2 (List.mem_of_getElem? (i := 114) rfl)) rfl
theorem wm_X5_337 : Cond.methodLink RX5 337 yX5_sortOf ∈ BW := bw_t (bw_2 (List.mem_of_getElem? (i := 126) rfl)) rfl
theorem wm_X5_340 : Cond.methodLink RX5 340 yX5_readWisher ∈ BW := bw_t (bw_2 (List.mem_of_getElem? (i := 129) rfl)) rfl
theorem wm_X5_344 : Cond.methodLink RX5 344 yX1_measure ∈ BW := bw_t (bw_2 (List.mem_of_getElem? (i := 133) rfl)) rfl
theorem wm_X5_347 : Cond.methodLink RX5 347 yX4_expect ∈ BW := bw_t (bw_2 (List.mem_of_getElem? (i := 80) rfl)) rfl
theorem wm_X5_350 : Cond.methodLink RX5 350 yX4_number ∈ BW := bw_t (bw_2 (List.mem_of_getElem? (i := 96) rfl)) rfl
theorem wm_X5_353 : Cond.methodLink RX5 353 yX0_begin ∈ BW := bw_t (bw_2 (List.mem_of_getElem? (i := 105) rfl)) rfl
theorem wm_X5_364 : Cond.methodLink RX5 364 yX4_fail ∈ BW := bw_t (bw_2 (List.mem_of_getElem? (i := 118) rfl)) rfl
theorem wm_X5_367 : Cond.methodLink RX5 367 yX1_joins ∈ BW := bw_t (bw_2 (List.mem_of_getElem? (i := 119) rfl)) rfl
theorem wm_X5_376 : Cond.methodLink RX5 376 yX5_leave ∈ BW := bw_t (bw_3 (List.mem_of_getElem? (i := 140) rfl)) rfl
theorem wm_X5_379 : Cond.methodLink RX5 379 yX5_sizeOfGrown ∈ BW := bw_t (bw_3 (List.mem_of_getElem? (i := 144) rfl)) rfl
theorem wm_X5_382 : Cond.methodLink RX5 382 yX5_lentSize ∈ BW := bw_t (bw_3 (List.mem_of_getElem? (i := 148) rfl)) rfl
theorem wm_X5_385 : Cond.methodLink RX5 385 yX5_sizeOfChild ∈ BW := bw_t (bw_3 (List.mem_of_getElem? (i := 168) rfl)) rfl
theorem wm_X5_388 : Cond.methodLink RX5 388 yX5_markOfGrown ∈ BW := bw_t (bw_3 (List.mem_of_getElem? (i := 156) rfl)) rfl
theorem wm_X5_391 : Cond.methodLink RX5 391 yX5_lentMark ∈ BW := bw_t (bw_3 (List.mem_of_getElem? (i := 160) rfl)) rfl
theorem wm_X0_3 : Cond.methodLink RX0 3 objectInit ∈ BW := bw_t (bw_1 (List.mem_of_getElem? (i := 126) rfl)) rfl
theorem wm_X0_46 : Cond.methodLink RX0 46 arraycopyName ∈ BW := bw_t (bw_2 (List.mem_of_getElem? (i := 154) rfl)) rfl
theorem wm_X0_67 : Cond.methodLink RX0 67 yX0_wishes ∈ BW := bw_t (bw_2 (List.mem_of_getElem? (i := 195) rfl)) rfl
theorem wm_X0_71 : Cond.methodLink RX0 71 Lib.Math.max.name ∈ BW := bw_t (bw_2 (List.mem_of_getElem? (i := 204) rfl)) rfl
theorem wm_X0_79 : Cond.methodLink RX0 79 yX1_way ∈ BW := bw_t (bw_2 (List.mem_of_getElem? (i := 194) rfl)) rfl
theorem wm_X0_88 : Cond.methodLink RX0 88 yX0_force ∈ BW := bw_t (bw_2 (List.mem_of_getElem? (i := 200) rfl)) rfl
theorem wm_X0_92 : Cond.methodLink RX0 92 yX0_decide ∈ BW := bw_t (bw_2 (List.mem_of_getElem? (i := 207) rfl)) rfl
theorem wm_X0_96 : Cond.methodLink RX0 96 yX0_weigh ∈ BW := bw_t (bw_2 (List.mem_of_getElem? (i := 190) rfl)) rfl
theorem wm_X0_100 : Cond.methodLink RX0 100 yX0_tire ∈ BW := bw_t (bw_2 (List.mem_of_getElem? (i := 211) rfl)) rfl
theorem wm_X0_103 : Cond.methodLink RX0 103 yX0_pass ∈ BW := bw_t (bw_3 (List.mem_of_getElem? (i := 23) rfl)) rfl
theorem wm_X0_109 : Cond.methodLink RX0 109 Lib.Math.min.name ∈ BW := bw_t (bw_2 (List.mem_of_getElem? (i := 215) rfl)) rfl
theorem wm_X1_3 : Cond.methodLink RX1 3 objectInit ∈ BW := bw_t (bw_1 (List.mem_of_getElem? (i := 73) rfl)) rfl
theorem wm_X1_43 : Cond.methodLink RX1 43 arraycopyName ∈ BW := bw_t (bw_2 (List.mem_of_getElem? (i := 149) rfl)) rfl
theorem wm_X1_53 : Cond.methodLink RX1 53 yX1_way ∈ BW := bw_t (bw_2 (List.mem_of_getElem? (i := 137) rfl)) rfl
theorem wm_X1_56 : Cond.methodLink RX1 56 Lib.Math.min.name ∈ BW := bw_t (bw_2 (List.mem_of_getElem? (i := 141) rfl)) rfl
theorem wm_X2_3 : Cond.methodLink RX2 3 objectInit ∈ BW := bw_t (bw_1 (List.mem_of_getElem? (i := 177) rfl)) rfl
theorem wm_X2_25 : Cond.methodLink RX2 25 yX0_take ∈ BW := bw_t (bw_2 (List.mem_of_getElem? (i := 172) rfl)) rfl
theorem wm_X2_29 : Cond.methodLink RX2 29 Lib.Math.min.name ∈ BW := bw_t (bw_2 (List.mem_of_getElem? (i := 185) rfl)) rfl
theorem wm_X3_3 : Cond.methodLink RX3 3 objectInit ∈ BW := bw_t (bw_1 (List.mem_of_getElem? (i := 24) rfl)) rfl
theorem wm_X3_23 : Cond.methodLink RX3 23 yX3_isMissing ∈ BW := bw_t (bw_2 (List.mem_of_getElem? (i := 35) rfl)) rfl
theorem wm_X4_3 : Cond.methodLink RX4 3 objectInit ∈ BW := bw_t (bw_1 (List.mem_of_getElem? (i := 46) rfl)) rfl
theorem wm_X4_28 : Cond.methodLink RX4 28 yX4_byteAt ∈ BW := bw_t (bw_2 (List.mem_of_getElem? (i := 88) rfl)) rfl
theorem wm_X4_36 : Cond.methodLink RX4 36 yX4_next ∈ BW := bw_t (bw_2 (List.mem_of_getElem? (i := 84) rfl)) rfl
theorem wm_X4_40 : Cond.methodLink RX4 40 yX4_fail ∈ BW := bw_t (bw_2 (List.mem_of_getElem? (i := 92) rfl)) rfl
theorem wm_X4_44 : Cond.methodLink RX4 44 yX4_isFigure ∈ BW := bw_t (bw_2 (List.mem_of_getElem? (i := 100) rfl)) rfl
theorem wm_L_9 : Cond.methodLink RL 9 yX5_init ∈ BW := bw_t (bw_1 (List.mem_of_getElem? (i := 13) rfl)) rfl
theorem wm_L_12 : Cond.methodLink RL 12 yX6_init ∈ BW := bw_t (bw_3 (List.mem_of_getElem? (i := 194) rfl)) rfl
theorem wm_L_13 : Cond.methodLink RL 13 yX5_row ∈ BW := bw_t (bw_2 (List.mem_of_getElem? (i := 3) rfl)) rfl
theorem wm_L_17 : Cond.methodLink RL 17 yX6_row ∈ BW := bw_t (bw_4 (List.mem_of_getElem? (i := 38) rfl)) rfl
theorem wm_L_18 : Cond.methodLink RL 18 yX5_set ∈ BW := bw_t (bw_2 (List.mem_of_getElem? (i := 27) rfl)) rfl
theorem wm_L_21 : Cond.methodLink RL 21 yX6_set ∈ BW := bw_t (bw_4 (List.mem_of_getElem? (i := 56) rfl)) rfl
theorem wm_L_22 : Cond.methodLink RL 22 yX5_copy ∈ BW := bw_t (bw_2 (List.mem_of_getElem? (i := 43) rfl)) rfl
theorem wm_L_26 : Cond.methodLink RL 26 yX6_copy ∈ BW := bw_t (bw_4 (List.mem_of_getElem? (i := 60) rfl)) rfl
theorem wm_L_27 : Cond.methodLink RL 27 yX5_drop ∈ BW := bw_t (bw_2 (List.mem_of_getElem? (i := 51) rfl)) rfl
theorem wm_L_31 : Cond.methodLink RL 31 yX6_drop ∈ BW := bw_t (bw_4 (List.mem_of_getElem? (i := 64) rfl)) rfl
theorem wm_L_32 : Cond.methodLink RL 32 yX5_feed ∈ BW := bw_t (bw_2 (List.mem_of_getElem? (i := 55) rfl)) rfl
theorem wm_L_35 : Cond.methodLink RL 35 yX6_feed ∈ BW := bw_t (bw_4 (List.mem_of_getElem? (i := 68) rfl)) rfl
theorem wm_L_36 : Cond.methodLink RL 36 yX5_land ∈ BW := bw_t (bw_2 (List.mem_of_getElem? (i := 60) rfl)) rfl
theorem wm_L_40 : Cond.methodLink RL 40 yX6_land ∈ BW := bw_t (bw_4 (List.mem_of_getElem? (i := 78) rfl)) rfl
theorem wm_L_41 : Cond.methodLink RL 41 yX5_fault ∈ BW := bw_t (bw_2 (List.mem_of_getElem? (i := 159) rfl)) rfl
theorem wm_L_44 : Cond.methodLink RL 44 yX6_fault ∈ BW := bw_t (bw_4 (List.mem_of_getElem? (i := 74) rfl)) rfl
theorem wm_L_45 : Cond.methodLink RL 45 yX5_undo ∈ BW := bw_t (bw_2 (List.mem_of_getElem? (i := 163) rfl)) rfl
theorem wm_L_48 : Cond.methodLink RL 48 yX6_undo ∈ BW := bw_t (bw_4 (List.mem_of_getElem? (i := 195) rfl)) rfl
theorem wm_L_49 : Cond.methodLink RL 49 yX5_hours ∈ BW := bw_t (bw_2 (List.mem_of_getElem? (i := 173) rfl)) rfl
theorem wm_L_52 : Cond.methodLink RL 52 yX6_hours ∈ BW := bw_t (bw_4 (List.mem_of_getElem? (i := 135) rfl)) rfl
theorem wm_L_53 : Cond.methodLink RL 53 yX5_wish ∈ BW := bw_t (bw_2 (List.mem_of_getElem? (i := 216) rfl)) rfl
theorem wm_L_56 : Cond.methodLink RL 56 yX6_wish ∈ BW := bw_t (bw_4 (List.mem_of_getElem? (i := 178) rfl)) rfl
theorem wm_L_57 : Cond.methodLink RL 57 yX5_rest ∈ BW := bw_t (bw_2 (List.mem_of_getElem? (i := 228) rfl)) rfl
theorem wm_L_61 : Cond.methodLink RL 61 yX6_rest ∈ BW := bw_t (bw_4 (List.mem_of_getElem? (i := 191) rfl)) rfl
theorem wm_L_62 : Cond.methodLink RL 62 yX5_wisher ∈ BW := bw_t (bw_2 (List.mem_of_getElem? (i := 239) rfl)) rfl
theorem wm_L_65 : Cond.methodLink RL 65 yX6_wisher ∈ BW := bw_t (bw_4 (List.mem_of_getElem? (i := 199) rfl)) rfl
theorem wm_L_66 : Cond.methodLink RL 66 yX5_place ∈ BW := bw_t (bw_3 (List.mem_of_getElem? (i := 5) rfl)) rfl
theorem wm_L_69 : Cond.methodLink RL 69 yX6_place ∈ BW := bw_t (bw_4 (List.mem_of_getElem? (i := 203) rfl)) rfl
theorem wm_L_70 : Cond.methodLink RL 70 yX5_far ∈ BW := bw_t (bw_3 (List.mem_of_getElem? (i := 10) rfl)) rfl
theorem wm_L_73 : Cond.methodLink RL 73 yX6_far ∈ BW := bw_t (bw_4 (List.mem_of_getElem? (i := 207) rfl)) rfl
theorem wm_L_74 : Cond.methodLink RL 74 yX5_ahead ∈ BW := bw_t (bw_3 (List.mem_of_getElem? (i := 15) rfl)) rfl
theorem wm_L_77 : Cond.methodLink RL 77 yX6_ahead ∈ BW := bw_t (bw_4 (List.mem_of_getElem? (i := 211) rfl)) rfl
theorem wm_L_78 : Cond.methodLink RL 78 yX5_comes ∈ BW := bw_t (bw_3 (List.mem_of_getElem? (i := 24) rfl)) rfl
theorem wm_L_81 : Cond.methodLink RL 81 yX6_comes ∈ BW := bw_t (bw_4 (List.mem_of_getElem? (i := 228) rfl)) rfl
theorem wm_L_82 : Cond.methodLink RL 82 yX5_visits ∈ BW := bw_t (bw_3 (List.mem_of_getElem? (i := 29) rfl)) rfl
theorem wm_L_85 : Cond.methodLink RL 85 yX6_visits ∈ BW := bw_t (bw_4 (List.mem_of_getElem? (i := 232) rfl)) rfl
theorem wm_L_86 : Cond.methodLink RL 86 yX5_fewest ∈ BW := bw_t (bw_3 (List.mem_of_getElem? (i := 33) rfl)) rfl
theorem wm_L_89 : Cond.methodLink RL 89 yX6_fewest ∈ BW := bw_t (bw_4 (List.mem_of_getElem? (i := 236) rfl)) rfl
theorem wm_L_90 : Cond.methodLink RL 90 yX5_hard ∈ BW := bw_t (bw_3 (List.mem_of_getElem? (i := 45) rfl)) rfl
theorem wm_L_93 : Cond.methodLink RL 93 yX6_hard ∈ BW := bw_t (bw_5 (List.mem_of_getElem? (i := 3) rfl)) rfl
theorem wm_L_94 : Cond.methodLink RL 94 yX5_stolen ∈ BW := bw_t (bw_3 (List.mem_of_getElem? (i := 49) rfl)) rfl
theorem wm_L_97 : Cond.methodLink RL 97 yX6_stolen ∈ BW := bw_t (bw_5 (List.mem_of_getElem? (i := 7) rfl)) rfl
theorem wm_L_98 : Cond.methodLink RL 98 yX5_seen ∈ BW := bw_t (bw_3 (List.mem_of_getElem? (i := 57) rfl)) rfl
theorem wm_L_102 : Cond.methodLink RL 102 yX6_seen ∈ BW := bw_t (bw_5 (List.mem_of_getElem? (i := 11) rfl)) rfl
theorem wm_L_103 : Cond.methodLink RL 103 yX5_who ∈ BW := bw_t (bw_3 (List.mem_of_getElem? (i := 65) rfl)) rfl
theorem wm_L_106 : Cond.methodLink RL 106 yX6_who ∈ BW := bw_t (bw_5 (List.mem_of_getElem? (i := 20) rfl)) rfl
theorem wm_L_107 : Cond.methodLink RL 107 yX5_round ∈ BW := bw_t (bw_3 (List.mem_of_getElem? (i := 73) rfl)) rfl
theorem wm_L_110 : Cond.methodLink RL 110 yX6_round ∈ BW := bw_t (bw_5 (List.mem_of_getElem? (i := 24) rfl)) rfl
theorem wm_L_111 : Cond.methodLink RL 111 yX5_half ∈ BW := bw_t (bw_3 (List.mem_of_getElem? (i := 82) rfl)) rfl
theorem wm_L_114 : Cond.methodLink RL 114 yX6_half ∈ BW := bw_t (bw_5 (List.mem_of_getElem? (i := 34) rfl)) rfl
theorem wm_L_115 : Cond.methodLink RL 115 yX5_awake ∈ BW := bw_t (bw_3 (List.mem_of_getElem? (i := 86) rfl)) rfl
theorem wm_L_119 : Cond.methodLink RL 119 yX6_awake ∈ BW := bw_t (bw_5 (List.mem_of_getElem? (i := 38) rfl)) rfl
theorem wm_L_120 : Cond.methodLink RL 120 yX5_drawn ∈ BW := bw_t (bw_3 (List.mem_of_getElem? (i := 106) rfl)) rfl
theorem wm_L_123 : Cond.methodLink RL 123 yX6_drawn ∈ BW := bw_t (bw_5 (List.mem_of_getElem? (i := 45) rfl)) rfl
theorem wm_L_124 : Cond.methodLink RL 124 yX5_image ∈ BW := bw_t (bw_3 (List.mem_of_getElem? (i := 113) rfl)) rfl
theorem wm_L_127 : Cond.methodLink RL 127 yX6_image ∈ BW := bw_t (bw_5 (List.mem_of_getElem? (i := 52) rfl)) rfl
theorem wm_L_128 : Cond.methodLink RL 128 yX5_restore ∈ BW := bw_t (bw_3 (List.mem_of_getElem? (i := 117) rfl)) rfl
theorem wm_L_131 : Cond.methodLink RL 131 yX6_restore ∈ BW := bw_t (bw_5 (List.mem_of_getElem? (i := 56) rfl)) rfl
theorem wm_L_132 : Cond.methodLink RL 132 yX5_kind ∈ BW := bw_t (bw_3 (List.mem_of_getElem? (i := 121) rfl)) rfl
theorem wm_L_135 : Cond.methodLink RL 135 yX6_kind ∈ BW := bw_t (bw_5 (List.mem_of_getElem? (i := 60) rfl)) rfl
theorem wm_L_136 : Cond.methodLink RL 136 yX5_as ∈ BW := bw_t (bw_3 (List.mem_of_getElem? (i := 125) rfl)) rfl
theorem wm_L_139 : Cond.methodLink RL 139 yX6_as ∈ BW := bw_t (bw_5 (List.mem_of_getElem? (i := 64) rfl)) rfl
theorem wm_L_140 : Cond.methodLink RL 140 yX5_ask ∈ BW := bw_t (bw_3 (List.mem_of_getElem? (i := 132) rfl)) rfl
theorem wm_L_143 : Cond.methodLink RL 143 yX6_ask ∈ BW := bw_t (bw_5 (List.mem_of_getElem? (i := 72) rfl)) rfl
theorem wm_L_144 : Cond.methodLink RL 144 yX5_trace ∈ BW := bw_t (bw_3 (List.mem_of_getElem? (i := 176) rfl)) rfl
theorem wm_L_147 : Cond.methodLink RL 147 yX6_trace ∈ BW := bw_t (bw_5 (List.mem_of_getElem? (i := 96) rfl)) rfl
theorem wm_L_148 : Cond.methodLink RL 148 yX5_count ∈ BW := bw_t (bw_3 (List.mem_of_getElem? (i := 180) rfl)) rfl
theorem wm_L_151 : Cond.methodLink RL 151 yX6_count ∈ BW := bw_t (bw_5 (List.mem_of_getElem? (i := 100) rfl)) rfl
theorem wm_L_152 : Cond.methodLink RL 152 yX5_status ∈ BW := bw_t (bw_3 (List.mem_of_getElem? (i := 188) rfl)) rfl
theorem wm_L_155 : Cond.methodLink RL 155 yX6_status ∈ BW := bw_t (bw_5 (List.mem_of_getElem? (i := 104) rfl)) rfl
theorem wm_X6_1 : Cond.methodLink RX6 1 objectInit ∈ BW := bw_t (bw_3 (List.mem_of_getElem? (i := 197) rfl)) rfl
theorem wm_X6_64 : Cond.methodLink RX6 64 yX6_in ∈ BW := bw_t (bw_4 (List.mem_of_getElem? (i := 46) rfl)) rfl
theorem wm_X6_68 : Cond.methodLink RX6 68 yX6_isRow ∈ BW := bw_t (bw_4 (List.mem_of_getElem? (i := 42) rfl)) rfl
theorem wm_X6_75 : Cond.methodLink RX6 75 yX6_finding ∈ BW := bw_t (bw_4 (List.mem_of_getElem? (i := 51) rfl)) rfl
theorem wm_X6_112 : Cond.methodLink RX6 112 yX6_bad ∈ BW := bw_t (bw_4 (List.mem_of_getElem? (i := 103) rfl)) rfl
theorem wm_X6_116 : Cond.methodLink RX6 116 yX6_nextToken ∈ BW := bw_t (bw_4 (List.mem_of_getElem? (i := 86) rfl)) rfl
theorem wm_X6_119 : Cond.methodLink RX6 119 yX6_must ∈ BW := bw_t (bw_4 (List.mem_of_getElem? (i := 99) rfl)) rfl
theorem wm_X6_126 : Cond.methodLink RX6 126 yX6_number ∈ BW := bw_t (bw_4 (List.mem_of_getElem? (i := 107) rfl)) rfl
theorem wm_X6_130 : Cond.methodLink RX6 130 yX6_mustSign ∈ BW := bw_t (bw_4 (List.mem_of_getElem? (i := 111) rfl)) rfl
theorem wm_X6_133 : Cond.methodLink RX6 133 yX6_kindBy ∈ BW := bw_t (bw_4 (List.mem_of_getElem? (i := 119) rfl)) rfl
theorem wm_X6_136 : Cond.methodLink RX6 136 yX6_begin ∈ BW := bw_t (bw_4 (List.mem_of_getElem? (i := 82) rfl)) rfl
theorem wm_X6_139 : Cond.methodLink RX6 139 yX6_isLetter ∈ BW := bw_t (bw_4 (List.mem_of_getElem? (i := 95) rfl)) rfl
theorem wm_X6_142 : Cond.methodLink RX6 142 yX6_readRoad ∈ BW := bw_t (bw_4 (List.mem_of_getElem? (i := 115) rfl)) rfl
theorem wm_X6_145 : Cond.methodLink RX6 145 yX6_readWisher ∈ BW := bw_t (bw_4 (List.mem_of_getElem? (i := 122) rfl)) rfl
theorem wm_X6_148 : Cond.methodLink RX6 148 yX6_failed ∈ BW := bw_t (bw_4 (List.mem_of_getElem? (i := 126) rfl)) rfl
theorem wm_X6_156 : Cond.methodLink RX6 156 yX6_layFar ∈ BW := bw_t (bw_4 (List.mem_of_getElem? (i := 131) rfl)) rfl
theorem wm_X6_159 : Cond.methodLink RX6 159 yX6_of ∈ BW := bw_t (bw_4 (List.mem_of_getElem? (i := 164) rfl)) rfl
theorem wm_X6_163 : Cond.methodLink RX6 163 yX6_farBy ∈ BW := bw_t (bw_4 (List.mem_of_getElem? (i := 157) rfl)) rfl
theorem wm_X6_166 : Cond.methodLink RX6 166 yX6_atLeastNone ∈ BW := bw_t (bw_4 (List.mem_of_getElem? (i := 171) rfl)) rfl
theorem wm_X6_169 : Cond.methodLink RX6 169 yX6_wishes ∈ BW := bw_t (bw_4 (List.mem_of_getElem? (i := 161) rfl)) rfl
theorem wm_X6_173 : Cond.methodLink RX6 173 yX6_wishBy ∈ BW := bw_t (bw_4 (List.mem_of_getElem? (i := 167) rfl)) rfl
theorem wm_X6_177 : Cond.methodLink RX6 177 yX6_layPulls ∈ BW := bw_t (bw_4 (List.mem_of_getElem? (i := 153) rfl)) rfl
theorem wm_X6_181 : Cond.methodLink RX6 181 yX6_goesTo ∈ BW := bw_t (bw_4 (List.mem_of_getElem? (i := 174) rfl)) rfl
theorem wm_X6_185 : Cond.methodLink RX6 185 yX6_hour ∈ BW := bw_t (bw_4 (List.mem_of_getElem? (i := 149) rfl)) rfl
theorem wm_X6_189 : Cond.methodLink RX6 189 yX6_hoursOf ∈ BW := bw_t (bw_4 (List.mem_of_getElem? (i := 224) rfl)) rfl
theorem wm_X6_193 : Cond.methodLink RX6 193 yX6_isThere ∈ BW := bw_t (bw_4 (List.mem_of_getElem? (i := 139) rfl)) rfl
theorem wm_X6_199 : Cond.methodLink RX6 199 yX6_keep ∈ BW := bw_t (bw_4 (List.mem_of_getElem? (i := 145) rfl)) rfl
theorem wm_X6_202 : Cond.methodLink RX6 202 yX6_isWisher ∈ BW := bw_t (bw_4 (List.mem_of_getElem? (i := 182) rfl)) rfl
theorem wm_X6_205 : Cond.methodLink RX6 205 yX6_isPlace ∈ BW := bw_t (bw_4 (List.mem_of_getElem? (i := 186) rfl)) rfl
theorem wm_X6_212 : Cond.methodLink RX6 212 yX6_layThen ∈ BW := bw_t (bw_4 (List.mem_of_getElem? (i := 216) rfl)) rfl
theorem wm_X6_215 : Cond.methodLink RX6 215 yX6_atBehind ∈ BW := bw_t (bw_4 (List.mem_of_getElem? (i := 220) rfl)) rfl
theorem wm_X6_218 : Cond.methodLink RX6 218 yX6_bits ∈ BW := bw_t (bw_5 (List.mem_of_getElem? (i := 0) rfl)) rfl
theorem wm_X6_223 : Cond.methodLink RX6 223 yX6_comesSo ∈ BW := bw_t (bw_5 (List.mem_of_getElem? (i := 16) rfl)) rfl
theorem wm_X6_231 : Cond.methodLink RX6 231 yX6_soNow ∈ BW := bw_t (bw_5 (List.mem_of_getElem? (i := 28) rfl)) rfl
theorem wm_X6_249 : Cond.methodLink RX6 249 yX6_isOf ∈ BW := bw_t (bw_5 (List.mem_of_getElem? (i := 69) rfl)) rfl
theorem wm_X6_255 : Cond.methodLink RX6 255 yX6_began ∈ BW := bw_t (bw_5 (List.mem_of_getElem? (i := 84) rfl)) rfl
theorem wm_X6_258 : Cond.methodLink RX6 258 yX6_plainSize ∈ BW := bw_t (bw_5 (List.mem_of_getElem? (i := 88) rfl)) rfl
theorem wm_X6_261 : Cond.methodLink RX6 261 yX6_childSize ∈ BW := bw_t (bw_5 (List.mem_of_getElem? (i := 80) rfl)) rfl
theorem wm_X6_264 : Cond.methodLink RX6 264 yX6_markOf ∈ BW := bw_t (bw_5 (List.mem_of_getElem? (i := 92) rfl)) rfl
theorem wm_X6_267 : Cond.methodLink RX6 267 yX6_sizeOf ∈ BW := bw_t (bw_5 (List.mem_of_getElem? (i := 76) rfl)) rfl
theorem wc_X5_77 : Cond.constant RX5 77 (-1000001) ∈ BW := bw_t (bw_2 (List.mem_of_getElem? (i := 13) rfl)) rfl
theorem wc_X5_119 : Cond.constant RX5 119 (-1000003) ∈ BW := bw_t (bw_2 (List.mem_of_getElem? (i := 59) rfl)) rfl
theorem wc_X5_132 : Cond.constant RX5 132 (-1000100) ∈ BW := bw_t (bw_2 (List.mem_of_getElem? (i := 144) rfl)) rfl
theorem wc_X5_152 : Cond.constant RX5 152 (-1000002) ∈ BW := bw_t (bw_2 (List.mem_of_getElem? (i := 167) rfl)) rfl
theorem wc_X5_232 : Cond.constant RX5 232 (-1000000) ∈ BW := bw_t (bw_3 (List.mem_of_getElem? (i := 28) rfl)) rfl
theorem wc_X5_279 : Cond.constant RX5 279 (999999) ∈ BW := bw_t (bw_3 (List.mem_of_getElem? (i := 110) rfl)) rfl
theorem wc_X5_318 : Cond.constant RX5 318 (-1000010) ∈ BW := bw_t (bw_2 (List.mem_of_getElem? (i := 18) rfl)) rfl
theorem wc_X6_61 : Cond.constant RX6 61 (-1000010) ∈ BW := bw_t (bw_4 (List.mem_of_getElem? (i := 55) rfl)) rfl
theorem wc_X6_74 : Cond.constant RX6 74 (-1000001) ∈ BW := bw_t (bw_4 (List.mem_of_getElem? (i := 50) rfl)) rfl
theorem wc_X6_84 : Cond.constant RX6 84 (-1000003) ∈ BW := bw_t (bw_4 (List.mem_of_getElem? (i := 73) rfl)) rfl
theorem wc_X6_97 : Cond.constant RX6 97 (-1000000) ∈ BW := bw_t (bw_4 (List.mem_of_getElem? (i := 90) rfl)) rfl
theorem wc_X6_152 : Cond.constant RX6 152 (-1000100) ∈ BW := bw_t (bw_4 (List.mem_of_getElem? (i := 130) rfl)) rfl
theorem wc_X6_196 : Cond.constant RX6 196 (-1000002) ∈ BW := bw_t (bw_4 (List.mem_of_getElem? (i := 143) rfl)) rfl
theorem wc_J6_265 : Cond.constant RJ6 265 (1431655765) ∈ BW := bw_t (bw_2 (List.mem_of_getElem? (i := 236) rfl)) rfl
theorem wc_J6_266 : Cond.constant RJ6 266 (858993459) ∈ BW := bw_t (bw_2 (List.mem_of_getElem? (i := 237) rfl)) rfl
theorem wc_J6_267 : Cond.constant RJ6 267 (252645135) ∈ BW := bw_t (bw_2 (List.mem_of_getElem? (i := 238) rfl)) rfl
theorem wg_X5_261 : Cond.constantLong RX5 261 (-1000002) ∈ BW := bw_t (bw_3 (List.mem_of_getElem? (i := 90) rfl)) rfl
theorem wg_X5_263 : Cond.constantLong RX5 263 (-1000001) ∈ BW := bw_t (bw_3 (List.mem_of_getElem? (i := 91) rfl)) rfl
theorem wg_X5_280 : Cond.constantLong RX5 280 (16807) ∈ BW := bw_t (bw_3 (List.mem_of_getElem? (i := 111) rfl)) rfl
theorem wg_X5_282 : Cond.constantLong RX5 282 (2147483647) ∈ BW := bw_t (bw_3 (List.mem_of_getElem? (i := 112) rfl)) rfl
theorem wg_X0_112 : Cond.constantLong RX0 112 (21) ∈ BW := bw_t (bw_3 (List.mem_of_getElem? (i := 81) rfl)) rfl
theorem wg_X6_62 : Cond.constantLong RX6 62 (7) ∈ BW := bw_t (bw_4 (List.mem_of_getElem? (i := 45) rfl)) rfl
theorem wg_X6_72 : Cond.constantLong RX6 72 (2) ∈ BW := bw_t (bw_4 (List.mem_of_getElem? (i := 49) rfl)) rfl
theorem wg_X6_79 : Cond.constantLong RX6 79 (255) ∈ BW := bw_t (bw_4 (List.mem_of_getElem? (i := 72) rfl)) rfl
theorem wg_X6_101 : Cond.constantLong RX6 101 (97) ∈ BW := bw_t (bw_4 (List.mem_of_getElem? (i := 91) rfl)) rfl
theorem wg_X6_103 : Cond.constantLong RX6 103 (122) ∈ BW := bw_t (bw_4 (List.mem_of_getElem? (i := 92) rfl)) rfl
theorem wg_X6_105 : Cond.constantLong RX6 105 (48) ∈ BW := bw_t (bw_4 (List.mem_of_getElem? (i := 93) rfl)) rfl
theorem wg_X6_107 : Cond.constantLong RX6 107 (57) ∈ BW := bw_t (bw_4 (List.mem_of_getElem? (i := 94) rfl)) rfl
theorem wg_X6_197 : Cond.constantLong RX6 197 (24) ∈ BW := bw_t (bw_4 (List.mem_of_getElem? (i := 144) rfl)) rfl
theorem wg_X6_208 : Cond.constantLong RX6 208 (40) ∈ BW := bw_t (bw_4 (List.mem_of_getElem? (i := 190) rfl)) rfl
theorem wg_X6_210 : Cond.constantLong RX6 210 (60) ∈ BW := bw_t (bw_4 (List.mem_of_getElem? (i := 215) rfl)) rfl
theorem wg_X6_221 : Cond.constantLong RX6 221 (12) ∈ BW := bw_t (bw_5 (List.mem_of_getElem? (i := 15) rfl)) rfl
theorem wg_X6_227 : Cond.constantLong RX6 227 (6) ∈ BW := bw_t (bw_5 (List.mem_of_getElem? (i := 32) rfl)) rfl
theorem wg_X6_229 : Cond.constantLong RX6 229 (21) ∈ BW := bw_t (bw_5 (List.mem_of_getElem? (i := 33) rfl)) rfl
theorem wg_X6_235 : Cond.constantLong RX6 235 (-1000002) ∈ BW := bw_t (bw_5 (List.mem_of_getElem? (i := 42) rfl)) rfl
theorem wg_X6_237 : Cond.constantLong RX6 237 (10) ∈ BW := bw_t (bw_5 (List.mem_of_getElem? (i := 43) rfl)) rfl
theorem wg_X6_239 : Cond.constantLong RX6 239 (-1000001) ∈ BW := bw_t (bw_5 (List.mem_of_getElem? (i := 44) rfl)) rfl
theorem wg_X6_241 : Cond.constantLong RX6 241 (999999) ∈ BW := bw_t (bw_5 (List.mem_of_getElem? (i := 49) rfl)) rfl
theorem wg_X6_243 : Cond.constantLong RX6 243 (16807) ∈ BW := bw_t (bw_5 (List.mem_of_getElem? (i := 50) rfl)) rfl
theorem wg_X6_245 : Cond.constantLong RX6 245 (2147483647) ∈ BW := bw_t (bw_5 (List.mem_of_getElem? (i := 51) rfl)) rfl
theorem wg_X6_247 : Cond.constantLong RX6 247 (5) ∈ BW := bw_t (bw_5 (List.mem_of_getElem? (i := 68) rfl)) rfl
theorem wk_X5_7 : Cond.classLink RX5 7 RX3 ∈ BW := bw_t (bw_1 (List.mem_of_getElem? (i := 19) rfl)) rfl
theorem wk_X5_16 : Cond.classLink RX5 16 RX4 ∈ BW := bw_t (bw_1 (List.mem_of_getElem? (i := 41) rfl)) rfl
theorem wk_X5_23 : Cond.classLink RX5 23 RX1 ∈ BW := bw_t (bw_1 (List.mem_of_getElem? (i := 68) rfl)) rfl
theorem wk_X5_30 : Cond.classLink RX5 30 RX0 ∈ BW := bw_t (bw_1 (List.mem_of_getElem? (i := 121) rfl)) rfl
theorem wk_X5_37 : Cond.classLink RX5 37 RX2 ∈ BW := bw_t (bw_1 (List.mem_of_getElem? (i := 172) rfl)) rfl
theorem wk_X2_9 : Cond.classLink RX2 9 RX0 ∈ BW := bw_t (bw_1 (List.mem_of_getElem? (i := 178) rfl)) rfl
theorem wk_X3_18 : Cond.classLink RX3 18 "[[I" ∈ BW := bw_t (bw_1 (List.mem_of_getElem? (i := 25) rfl)) rfl
theorem wk_L_7 : Cond.classLink RL 7 RX5 ∈ BW := bw_t (bw_1 (List.mem_of_getElem? (i := 11) rfl)) rfl
theorem wk_L_10 : Cond.classLink RL 10 RX6 ∈ BW := bw_t (bw_3 (List.mem_of_getElem? (i := 192) rfl)) rfl
theorem wi_X5 : Cond.initialized RX5 ∈ BW := bw_t (bw_1 (List.mem_of_getElem? (i := 1) rfl)) rfl
theorem wi_X0 : Cond.initialized RX0 ∈ BW := bw_t (bw_1 (List.mem_of_getElem? (i := 5) rfl)) rfl
theorem wi_X1 : Cond.initialized RX1 ∈ BW := bw_t (bw_1 (List.mem_of_getElem? (i := 4) rfl)) rfl
theorem wi_X2 : Cond.initialized RX2 ∈ BW := bw_t (bw_1 (List.mem_of_getElem? (i := 6) rfl)) rfl
theorem wi_X3 : Cond.initialized RX3 ∈ BW := bw_t (bw_1 (List.mem_of_getElem? (i := 2) rfl)) rfl
theorem wi_X4 : Cond.initialized RX4 ∈ BW := bw_t (bw_1 (List.mem_of_getElem? (i := 3) rfl)) rfl
theorem wi_L : Cond.initialized RL ∈ BW := bw_t (bw_1 (List.mem_of_getElem? (i := 0) rfl)) rfl
theorem wi_X6 : Cond.initialized RX6 ∈ BW := bw_t (bw_1 (List.mem_of_getElem? (i := 7) rfl)) rfl
theorem wi_J6 : Cond.initialized RJ6 ∈ BW := bw_t (bw_1 (List.mem_of_getElem? (i := 10) rfl)) rfl
theorem wi_J9 : Cond.initialized RJ9 ∈ BW := bw_t (bw_1 (List.mem_of_getElem? (i := 9) rfl)) rfl
theorem wi_J10 : Cond.initialized RJ10 ∈ BW := bw_t (bw_1 (List.mem_of_getElem? (i := 8) rfl)) rfl
theorem wn_X5 : Cond.instantiable RX5 16 ∈ BW := bw_t (bw_1 (List.mem_of_getElem? (i := 12) rfl)) rfl
theorem wn_X0 : Cond.instantiable RX0 11 ∈ BW := bw_t (bw_1 (List.mem_of_getElem? (i := 122) rfl)) rfl
theorem wn_X1 : Cond.instantiable RX1 10 ∈ BW := bw_t (bw_1 (List.mem_of_getElem? (i := 69) rfl)) rfl
theorem wn_X2 : Cond.instantiable RX2 3 ∈ BW := bw_t (bw_1 (List.mem_of_getElem? (i := 173) rfl)) rfl
theorem wn_X3 : Cond.instantiable RX3 3 ∈ BW := bw_t (bw_1 (List.mem_of_getElem? (i := 20) rfl)) rfl
theorem wn_X4 : Cond.instantiable RX4 5 ∈ BW := bw_t (bw_1 (List.mem_of_getElem? (i := 42) rfl)) rfl
theorem wn_X6 : Cond.instantiable RX6 26 ∈ BW := bw_t (bw_3 (List.mem_of_getElem? (i := 193) rfl)) rfl
theorem wa_int : Cond.arrayClass .int ∈ BW := bw_t (bw_1 (List.mem_of_getElem? (i := 40) rfl)) rfl
theorem wa_long : Cond.arrayClass .long ∈ BW := bw_t (bw_2 (List.mem_of_getElem? (i := 2) rfl)) rfl
theorem wa_boolean : Cond.arrayClass .boolean ∈ BW := bw_t (bw_4 (List.mem_of_getElem? (i := 37) rfl)) rfl
theorem wo_X5_init : Cond.code yX5_init cX5_init 2 none ∈ BW := bw_t (bw_1 (List.mem_of_getElem? (i := 15) rfl)) rfl
theorem wv_X5_init : Cond.instanceMethod yX5_init ∈ BW := bw_t (bw_1 (List.mem_of_getElem? (i := 14) rfl)) rfl
theorem wo_X5_ahead : Cond.code yX5_ahead cX5_ahead 3 (some .int) ∈ BW := bw_t (bw_3 (List.mem_of_getElem? (i := 18) rfl)) rfl
theorem wv_X5_ahead : Cond.instanceMethod yX5_ahead ∈ BW := bw_t (bw_3 (List.mem_of_getElem? (i := 16) rfl)) rfl
theorem we_X5_ahead : Cond.selects yX5_ahead.cls yX5_ahead yX5_ahead ∈ BW := bw_t (bw_3 (List.mem_of_getElem? (i := 17) rfl)) rfl
theorem wo_X5_as : Cond.code yX5_as cX5_as 3 (some .int) ∈ BW := bw_t (bw_3 (List.mem_of_getElem? (i := 128) rfl)) rfl
theorem wv_X5_as : Cond.instanceMethod yX5_as ∈ BW := bw_t (bw_3 (List.mem_of_getElem? (i := 126) rfl)) rfl
theorem we_X5_as : Cond.selects yX5_as.cls yX5_as yX5_as ∈ BW := bw_t (bw_3 (List.mem_of_getElem? (i := 127) rfl)) rfl
theorem wo_X5_ask : Cond.code yX5_ask cX5_ask 4 (some .int) ∈ BW := bw_t (bw_3 (List.mem_of_getElem? (i := 135) rfl)) rfl
theorem wv_X5_ask : Cond.instanceMethod yX5_ask ∈ BW := bw_t (bw_3 (List.mem_of_getElem? (i := 133) rfl)) rfl
theorem we_X5_ask : Cond.selects yX5_ask.cls yX5_ask yX5_ask ∈ BW := bw_t (bw_3 (List.mem_of_getElem? (i := 134) rfl)) rfl
theorem wo_X5_awake : Cond.code yX5_awake cX5_awake 13 (some .long) ∈ BW := bw_t (bw_3 (List.mem_of_getElem? (i := 89) rfl)) rfl
theorem wv_X5_awake : Cond.instanceMethod yX5_awake ∈ BW := bw_t (bw_3 (List.mem_of_getElem? (i := 87) rfl)) rfl
theorem we_X5_awake : Cond.selects yX5_awake.cls yX5_awake yX5_awake ∈ BW := bw_t (bw_3 (List.mem_of_getElem? (i := 88) rfl)) rfl
theorem wo_X5_bit : Cond.code yX5_bit cX5_bit 2 (some .int) ∈ BW := bw_t (bw_2 (List.mem_of_getElem? (i := 125) rfl)) rfl
theorem wt_X5_bit : Cond.static yX5_bit ∈ BW := bw_t (bw_2 (List.mem_of_getElem? (i := 124) rfl)) rfl
theorem wo_X5_childMark : Cond.code yX5_childMark cX5_childMark 3 (some .int) ∈ BW := bw_t (bw_3 (List.mem_of_getElem? (i := 175) rfl)) rfl
theorem wv_X5_childMark : Cond.instanceMethod yX5_childMark ∈ BW := bw_t (bw_3 (List.mem_of_getElem? (i := 174) rfl)) rfl
theorem we_X5_childMark : Cond.selects yX5_childMark.cls yX5_childMark yX5_childMark ∈ BW := bw_s (n := 16) (List.mem_append_right _ (List.mem_append_left _ (List.mem_of_getElem? (i := 5) rfl))) rfl
theorem wo_X5_childSize : Cond.code yX5_childSize cX5_childSize 2 (some .int) ∈ BW := bw_t (bw_3 (List.mem_of_getElem? (i := 167) rfl)) rfl
theorem wv_X5_childSize : Cond.instanceMethod yX5_childSize ∈ BW := bw_t (bw_3 (List.mem_of_getElem? (i := 166) rfl)) rfl
theorem we_X5_childSize : Cond.selects yX5_childSize.cls yX5_childSize yX5_childSize ∈ BW := bw_s (n := 16) (List.mem_append_right _ (List.mem_append_left _ (List.mem_of_getElem? (i := 3) rfl))) rfl
theorem wo_X5_comes : Cond.code yX5_comes cX5_comes 4 (some .int) ∈ BW := bw_t (bw_3 (List.mem_of_getElem? (i := 27) rfl)) rfl
theorem wv_X5_comes : Cond.instanceMethod yX5_comes ∈ BW := bw_t (bw_3 (List.mem_of_getElem? (i := 25) rfl)) rfl
theorem we_X5_comes : Cond.selects yX5_comes.cls yX5_comes yX5_comes ∈ BW := bw_t (bw_3 (List.mem_of_getElem? (i := 26) rfl)) rfl
theorem wo_X5_comesAsTold : Cond.code yX5_comesAsTold cX5_comesAsTold 6 (some .boolean) ∈ BW := bw_t (bw_3 (List.mem_of_getElem? (i := 64) rfl)) rfl
theorem wv_X5_comesAsTold : Cond.instanceMethod yX5_comesAsTold ∈ BW := bw_t (bw_3 (List.mem_of_getElem? (i := 63) rfl)) rfl
theorem we_X5_comesAsTold : Cond.selects yX5_comesAsTold.cls yX5_comesAsTold yX5_comesAsTold ∈ BW := bw_s (n := 16) (List.mem_append_left _ (List.mem_of_getElem? (i := 10) rfl)) rfl
theorem wo_X5_commonDivisor : Cond.code yX5_commonDivisor cX5_commonDivisor 7 (some .long) ∈ BW := bw_t (bw_3 (List.mem_of_getElem? (i := 105) rfl)) rfl
theorem wt_X5_commonDivisor : Cond.static yX5_commonDivisor ∈ BW := bw_t (bw_3 (List.mem_of_getElem? (i := 104) rfl)) rfl
theorem wo_X5_copy : Cond.code yX5_copy cX5_copy 6 (some .int) ∈ BW := bw_t (bw_2 (List.mem_of_getElem? (i := 46) rfl)) rfl
theorem wv_X5_copy : Cond.instanceMethod yX5_copy ∈ BW := bw_t (bw_2 (List.mem_of_getElem? (i := 44) rfl)) rfl
theorem we_X5_copy : Cond.selects yX5_copy.cls yX5_copy yX5_copy ∈ BW := bw_t (bw_2 (List.mem_of_getElem? (i := 45) rfl)) rfl
theorem wo_X5_count : Cond.code yX5_count cX5_count 2 (some .int) ∈ BW := bw_t (bw_3 (List.mem_of_getElem? (i := 183) rfl)) rfl
theorem wv_X5_count : Cond.instanceMethod yX5_count ∈ BW := bw_t (bw_3 (List.mem_of_getElem? (i := 181) rfl)) rfl
theorem we_X5_count : Cond.selects yX5_count.cls yX5_count yX5_count ∈ BW := bw_t (bw_3 (List.mem_of_getElem? (i := 182) rfl)) rfl
theorem wo_X5_drawn : Cond.code yX5_drawn cX5_drawn 7 (some .int) ∈ BW := bw_t (bw_3 (List.mem_of_getElem? (i := 109) rfl)) rfl
theorem wv_X5_drawn : Cond.instanceMethod yX5_drawn ∈ BW := bw_t (bw_3 (List.mem_of_getElem? (i := 107) rfl)) rfl
theorem we_X5_drawn : Cond.selects yX5_drawn.cls yX5_drawn yX5_drawn ∈ BW := bw_t (bw_3 (List.mem_of_getElem? (i := 108) rfl)) rfl
theorem wo_X5_drop : Cond.code yX5_drop cX5_drop 3 (some .int) ∈ BW := bw_t (bw_2 (List.mem_of_getElem? (i := 54) rfl)) rfl
theorem wv_X5_drop : Cond.instanceMethod yX5_drop ∈ BW := bw_t (bw_2 (List.mem_of_getElem? (i := 52) rfl)) rfl
theorem we_X5_drop : Cond.selects yX5_drop.cls yX5_drop yX5_drop ∈ BW := bw_t (bw_2 (List.mem_of_getElem? (i := 53) rfl)) rfl
theorem wo_X5_far : Cond.code yX5_far cX5_far 3 (some .int) ∈ BW := bw_t (bw_3 (List.mem_of_getElem? (i := 13) rfl)) rfl
theorem wv_X5_far : Cond.instanceMethod yX5_far ∈ BW := bw_t (bw_3 (List.mem_of_getElem? (i := 11) rfl)) rfl
theorem we_X5_far : Cond.selects yX5_far.cls yX5_far yX5_far ∈ BW := bw_t (bw_3 (List.mem_of_getElem? (i := 12) rfl)) rfl
theorem wo_X5_fault : Cond.code yX5_fault cX5_fault 1 (some .int) ∈ BW := bw_t (bw_2 (List.mem_of_getElem? (i := 162) rfl)) rfl
theorem wv_X5_fault : Cond.instanceMethod yX5_fault ∈ BW := bw_t (bw_2 (List.mem_of_getElem? (i := 160) rfl)) rfl
theorem we_X5_fault : Cond.selects yX5_fault.cls yX5_fault yX5_fault ∈ BW := bw_t (bw_2 (List.mem_of_getElem? (i := 161) rfl)) rfl
theorem wo_X5_feed : Cond.code yX5_feed cX5_feed 2 (some .int) ∈ BW := bw_t (bw_2 (List.mem_of_getElem? (i := 58) rfl)) rfl
theorem wv_X5_feed : Cond.instanceMethod yX5_feed ∈ BW := bw_t (bw_2 (List.mem_of_getElem? (i := 56) rfl)) rfl
theorem we_X5_feed : Cond.selects yX5_feed.cls yX5_feed yX5_feed ∈ BW := bw_t (bw_2 (List.mem_of_getElem? (i := 57) rfl)) rfl
theorem wo_X5_fewest : Cond.code yX5_fewest cX5_fewest 7 (some .int) ∈ BW := bw_t (bw_3 (List.mem_of_getElem? (i := 36) rfl)) rfl
theorem wv_X5_fewest : Cond.instanceMethod yX5_fewest ∈ BW := bw_t (bw_3 (List.mem_of_getElem? (i := 34) rfl)) rfl
theorem we_X5_fewest : Cond.selects yX5_fewest.cls yX5_fewest yX5_fewest ∈ BW := bw_t (bw_3 (List.mem_of_getElem? (i := 35) rfl)) rfl
theorem wo_X5_fine : Cond.code yX5_fine cX5_fine 2 (some .int) ∈ BW := bw_t (bw_2 (List.mem_of_getElem? (i := 26) rfl)) rfl
theorem wv_X5_fine : Cond.instanceMethod yX5_fine ∈ BW := bw_t (bw_2 (List.mem_of_getElem? (i := 25) rfl)) rfl
theorem we_X5_fine : Cond.selects yX5_fine.cls yX5_fine yX5_fine ∈ BW := bw_s (n := 16) (List.mem_append_left _ (List.mem_of_getElem? (i := 1) rfl)) rfl
theorem wo_X5_found : Cond.code yX5_found cX5_found 2 (some .int) ∈ BW := bw_t (bw_2 (List.mem_of_getElem? (i := 17) rfl)) rfl
theorem wv_X5_found : Cond.instanceMethod yX5_found ∈ BW := bw_t (bw_2 (List.mem_of_getElem? (i := 16) rfl)) rfl
theorem we_X5_found : Cond.selects yX5_found.cls yX5_found yX5_found ∈ BW := bw_s (n := 16) (List.mem_append_left _ (List.mem_of_getElem? (i := 0) rfl)) rfl
theorem wo_X5_goesBy : Cond.code yX5_goesBy cX5_goesBy 2 (some .boolean) ∈ BW := bw_t (bw_3 (List.mem_of_getElem? (i := 99) rfl)) rfl
theorem wv_X5_goesBy : Cond.instanceMethod yX5_goesBy ∈ BW := bw_t (bw_3 (List.mem_of_getElem? (i := 98) rfl)) rfl
theorem we_X5_goesBy : Cond.selects yX5_goesBy.cls yX5_goesBy yX5_goesBy ∈ BW := bw_s (n := 16) (List.mem_append_left _ (List.mem_of_getElem? (i := 11) rfl)) rfl
theorem wo_X5_grownMark : Cond.code yX5_grownMark cX5_grownMark 2 (some .int) ∈ BW := bw_t (bw_3 (List.mem_of_getElem? (i := 155) rfl)) rfl
theorem wv_X5_grownMark : Cond.instanceMethod yX5_grownMark ∈ BW := bw_t (bw_3 (List.mem_of_getElem? (i := 154) rfl)) rfl
theorem we_X5_grownMark : Cond.selects yX5_grownMark.cls yX5_grownMark yX5_grownMark ∈ BW := bw_s (n := 16) (List.mem_append_right _ (List.mem_append_left _ (List.mem_of_getElem? (i := 0) rfl))) rfl
theorem wo_X5_grownSize : Cond.code yX5_grownSize cX5_grownSize 2 (some .int) ∈ BW := bw_t (bw_3 (List.mem_of_getElem? (i := 139) rfl)) rfl
theorem wv_X5_grownSize : Cond.instanceMethod yX5_grownSize ∈ BW := bw_t (bw_3 (List.mem_of_getElem? (i := 138) rfl)) rfl
theorem we_X5_grownSize : Cond.selects yX5_grownSize.cls yX5_grownSize yX5_grownSize ∈ BW := bw_s (n := 16) (List.mem_append_left _ (List.mem_of_getElem? (i := 12) rfl)) rfl
theorem wo_X5_half : Cond.code yX5_half cX5_half 3 (some .int) ∈ BW := bw_t (bw_3 (List.mem_of_getElem? (i := 85) rfl)) rfl
theorem wv_X5_half : Cond.instanceMethod yX5_half ∈ BW := bw_t (bw_3 (List.mem_of_getElem? (i := 83) rfl)) rfl
theorem we_X5_half : Cond.selects yX5_half.cls yX5_half yX5_half ∈ BW := bw_t (bw_3 (List.mem_of_getElem? (i := 84) rfl)) rfl
theorem wo_X5_hard : Cond.code yX5_hard cX5_hard 4 (some .int) ∈ BW := bw_t (bw_3 (List.mem_of_getElem? (i := 48) rfl)) rfl
theorem wv_X5_hard : Cond.instanceMethod yX5_hard ∈ BW := bw_t (bw_3 (List.mem_of_getElem? (i := 46) rfl)) rfl
theorem we_X5_hard : Cond.selects yX5_hard.cls yX5_hard yX5_hard ∈ BW := bw_t (bw_3 (List.mem_of_getElem? (i := 47) rfl)) rfl
theorem wo_X5_hasLand : Cond.code yX5_hasLand cX5_hasLand 1 (some .boolean) ∈ BW := bw_t (bw_2 (List.mem_of_getElem? (i := 180) rfl)) rfl
theorem wv_X5_hasLand : Cond.instanceMethod yX5_hasLand ∈ BW := bw_t (bw_2 (List.mem_of_getElem? (i := 179) rfl)) rfl
theorem we_X5_hasLand : Cond.selects yX5_hasLand.cls yX5_hasLand yX5_hasLand ∈ BW := bw_s (n := 16) (List.mem_append_left _ (List.mem_of_getElem? (i := 6) rfl)) rfl
theorem wo_X5_hours : Cond.code yX5_hours cX5_hours 3 (some .int) ∈ BW := bw_t (bw_2 (List.mem_of_getElem? (i := 176) rfl)) rfl
theorem wv_X5_hours : Cond.instanceMethod yX5_hours ∈ BW := bw_t (bw_2 (List.mem_of_getElem? (i := 174) rfl)) rfl
theorem we_X5_hours : Cond.selects yX5_hours.cls yX5_hours yX5_hours ∈ BW := bw_t (bw_2 (List.mem_of_getElem? (i := 175) rfl)) rfl
theorem wo_X5_image : Cond.code yX5_image cX5_image 2 (some .int) ∈ BW := bw_t (bw_3 (List.mem_of_getElem? (i := 116) rfl)) rfl
theorem wv_X5_image : Cond.instanceMethod yX5_image ∈ BW := bw_t (bw_3 (List.mem_of_getElem? (i := 114) rfl)) rfl
theorem we_X5_image : Cond.selects yX5_image.cls yX5_image yX5_image ∈ BW := bw_t (bw_3 (List.mem_of_getElem? (i := 115) rfl)) rfl
theorem wo_X5_isA : Cond.code yX5_isA cX5_isA 2 (some .boolean) ∈ BW := bw_t (bw_3 (List.mem_of_getElem? (i := 131) rfl)) rfl
theorem wt_X5_isA : Cond.static yX5_isA ∈ BW := bw_t (bw_3 (List.mem_of_getElem? (i := 130) rfl)) rfl
theorem wo_X5_isPlace : Cond.code yX5_isPlace cX5_isPlace 2 (some .boolean) ∈ BW := bw_t (bw_2 (List.mem_of_getElem? (i := 227) rfl)) rfl
theorem wv_X5_isPlace : Cond.instanceMethod yX5_isPlace ∈ BW := bw_t (bw_2 (List.mem_of_getElem? (i := 226) rfl)) rfl
theorem we_X5_isPlace : Cond.selects yX5_isPlace.cls yX5_isPlace yX5_isPlace ∈ BW := bw_s (n := 16) (List.mem_append_left _ (List.mem_of_getElem? (i := 8) rfl)) rfl
theorem wo_X5_isRow : Cond.code yX5_isRow cX5_isRow 1 (some .boolean) ∈ BW := bw_t (bw_2 (List.mem_of_getElem? (i := 9) rfl)) rfl
theorem wt_X5_isRow : Cond.static yX5_isRow ∈ BW := bw_t (bw_2 (List.mem_of_getElem? (i := 8) rfl)) rfl
theorem wo_X5_isThereBy : Cond.code yX5_isThereBy cX5_isThereBy 4 (some .boolean) ∈ BW := bw_t (bw_3 (List.mem_of_getElem? (i := 44) rfl)) rfl
theorem wv_X5_isThereBy : Cond.instanceMethod yX5_isThereBy ∈ BW := bw_t (bw_3 (List.mem_of_getElem? (i := 43) rfl)) rfl
theorem we_X5_isThereBy : Cond.selects yX5_isThereBy.cls yX5_isThereBy yX5_isThereBy ∈ BW := bw_s (n := 16) (List.mem_append_left _ (List.mem_of_getElem? (i := 9) rfl)) rfl
theorem wo_X5_isWisher : Cond.code yX5_isWisher cX5_isWisher 2 (some .boolean) ∈ BW := bw_t (bw_2 (List.mem_of_getElem? (i := 223) rfl)) rfl
theorem wv_X5_isWisher : Cond.instanceMethod yX5_isWisher ∈ BW := bw_t (bw_2 (List.mem_of_getElem? (i := 222) rfl)) rfl
theorem we_X5_isWisher : Cond.selects yX5_isWisher.cls yX5_isWisher yX5_isWisher ∈ BW := bw_s (n := 16) (List.mem_append_left _ (List.mem_of_getElem? (i := 7) rfl)) rfl
theorem wo_X5_kind : Cond.code yX5_kind cX5_kind 2 (some .int) ∈ BW := bw_t (bw_3 (List.mem_of_getElem? (i := 124) rfl)) rfl
theorem wv_X5_kind : Cond.instanceMethod yX5_kind ∈ BW := bw_t (bw_3 (List.mem_of_getElem? (i := 122) rfl)) rfl
theorem we_X5_kind : Cond.selects yX5_kind.cls yX5_kind yX5_kind ∈ BW := bw_t (bw_3 (List.mem_of_getElem? (i := 123) rfl)) rfl
theorem wo_X5_land : Cond.code yX5_land cX5_land 1 (some .int) ∈ BW := bw_t (bw_2 (List.mem_of_getElem? (i := 63) rfl)) rfl
theorem wv_X5_land : Cond.instanceMethod yX5_land ∈ BW := bw_t (bw_2 (List.mem_of_getElem? (i := 61) rfl)) rfl
theorem we_X5_land : Cond.selects yX5_land.cls yX5_land yX5_land ∈ BW := bw_t (bw_2 (List.mem_of_getElem? (i := 62) rfl)) rfl
theorem wo_X5_leave : Cond.code yX5_leave cX5_leave 2 none ∈ BW := bw_t (bw_3 (List.mem_of_getElem? (i := 143) rfl)) rfl
theorem wv_X5_leave : Cond.instanceMethod yX5_leave ∈ BW := bw_t (bw_3 (List.mem_of_getElem? (i := 142) rfl)) rfl
theorem we_X5_leave : Cond.selects yX5_leave.cls yX5_leave yX5_leave ∈ BW := bw_s (n := 16) (List.mem_append_left _ (List.mem_of_getElem? (i := 13) rfl)) rfl
theorem wo_X5_lentMark : Cond.code yX5_lentMark cX5_lentMark 2 (some .int) ∈ BW := bw_t (bw_3 (List.mem_of_getElem? (i := 163) rfl)) rfl
theorem wv_X5_lentMark : Cond.instanceMethod yX5_lentMark ∈ BW := bw_t (bw_3 (List.mem_of_getElem? (i := 162) rfl)) rfl
theorem we_X5_lentMark : Cond.selects yX5_lentMark.cls yX5_lentMark yX5_lentMark ∈ BW := bw_s (n := 16) (List.mem_append_right _ (List.mem_append_left _ (List.mem_of_getElem? (i := 2) rfl))) rfl
theorem wo_X5_lentSize : Cond.code yX5_lentSize cX5_lentSize 2 (some .int) ∈ BW := bw_t (bw_3 (List.mem_of_getElem? (i := 151) rfl)) rfl
theorem wv_X5_lentSize : Cond.instanceMethod yX5_lentSize ∈ BW := bw_t (bw_3 (List.mem_of_getElem? (i := 150) rfl)) rfl
theorem we_X5_lentSize : Cond.selects yX5_lentSize.cls yX5_lentSize yX5_lentSize ∈ BW := bw_s (n := 16) (List.mem_append_left _ (List.mem_of_getElem? (i := 15) rfl)) rfl
theorem wo_X5_markOfGrown : Cond.code yX5_markOfGrown cX5_markOfGrown 2 (some .int) ∈ BW := bw_t (bw_3 (List.mem_of_getElem? (i := 159) rfl)) rfl
theorem wv_X5_markOfGrown : Cond.instanceMethod yX5_markOfGrown ∈ BW := bw_t (bw_3 (List.mem_of_getElem? (i := 158) rfl)) rfl
theorem we_X5_markOfGrown : Cond.selects yX5_markOfGrown.cls yX5_markOfGrown yX5_markOfGrown ∈ BW := bw_s (n := 16) (List.mem_append_right _ (List.mem_append_left _ (List.mem_of_getElem? (i := 1) rfl))) rfl
theorem wo_X5_place : Cond.code yX5_place cX5_place 3 (some .int) ∈ BW := bw_t (bw_3 (List.mem_of_getElem? (i := 8) rfl)) rfl
theorem wv_X5_place : Cond.instanceMethod yX5_place ∈ BW := bw_t (bw_3 (List.mem_of_getElem? (i := 6) rfl)) rfl
theorem we_X5_place : Cond.selects yX5_place.cls yX5_place yX5_place ∈ BW := bw_t (bw_3 (List.mem_of_getElem? (i := 7) rfl)) rfl
theorem wo_X5_power : Cond.code yX5_power cX5_power 5 (some .long) ∈ BW := bw_t (bw_3 (List.mem_of_getElem? (i := 102) rfl)) rfl
theorem wt_X5_power : Cond.static yX5_power ∈ BW := bw_t (bw_3 (List.mem_of_getElem? (i := 101) rfl)) rfl
theorem wo_X5_readLaw : Cond.code yX5_readLaw cX5_readLaw 1 none ∈ BW := bw_t (bw_2 (List.mem_of_getElem? (i := 79) rfl)) rfl
theorem wv_X5_readLaw : Cond.instanceMethod yX5_readLaw ∈ BW := bw_t (bw_2 (List.mem_of_getElem? (i := 78) rfl)) rfl
theorem we_X5_readLaw : Cond.selects yX5_readLaw.cls yX5_readLaw yX5_readLaw ∈ BW := bw_s (n := 16) (List.mem_append_left _ (List.mem_of_getElem? (i := 3) rfl)) rfl
theorem wo_X5_readRoad : Cond.code yX5_readRoad cX5_readRoad 4 none ∈ BW := bw_t (bw_2 (List.mem_of_getElem? (i := 117) rfl)) rfl
theorem wv_X5_readRoad : Cond.instanceMethod yX5_readRoad ∈ BW := bw_t (bw_2 (List.mem_of_getElem? (i := 116) rfl)) rfl
theorem we_X5_readRoad : Cond.selects yX5_readRoad.cls yX5_readRoad yX5_readRoad ∈ BW := bw_s (n := 16) (List.mem_append_left _ (List.mem_of_getElem? (i := 4) rfl)) rfl
theorem wo_X5_readText : Cond.code yX5_readText cX5_readText 3 none ∈ BW := bw_t (bw_2 (List.mem_of_getElem? (i := 67) rfl)) rfl
theorem wv_X5_readText : Cond.instanceMethod yX5_readText ∈ BW := bw_t (bw_2 (List.mem_of_getElem? (i := 66) rfl)) rfl
theorem we_X5_readText : Cond.selects yX5_readText.cls yX5_readText yX5_readText ∈ BW := bw_s (n := 16) (List.mem_append_left _ (List.mem_of_getElem? (i := 2) rfl)) rfl
theorem wo_X5_readWisher : Cond.code yX5_readWisher cX5_readWisher 3 none ∈ BW := bw_t (bw_2 (List.mem_of_getElem? (i := 132) rfl)) rfl
theorem wv_X5_readWisher : Cond.instanceMethod yX5_readWisher ∈ BW := bw_t (bw_2 (List.mem_of_getElem? (i := 131) rfl)) rfl
theorem we_X5_readWisher : Cond.selects yX5_readWisher.cls yX5_readWisher yX5_readWisher ∈ BW := bw_s (n := 16) (List.mem_append_left _ (List.mem_of_getElem? (i := 5) rfl)) rfl
theorem wo_X5_rest : Cond.code yX5_rest cX5_rest 3 (some .int) ∈ BW := bw_t (bw_2 (List.mem_of_getElem? (i := 231) rfl)) rfl
theorem wv_X5_rest : Cond.instanceMethod yX5_rest ∈ BW := bw_t (bw_2 (List.mem_of_getElem? (i := 229) rfl)) rfl
theorem we_X5_rest : Cond.selects yX5_rest.cls yX5_rest yX5_rest ∈ BW := bw_t (bw_2 (List.mem_of_getElem? (i := 230) rfl)) rfl
theorem wo_X5_restore : Cond.code yX5_restore cX5_restore 2 (some .int) ∈ BW := bw_t (bw_3 (List.mem_of_getElem? (i := 120) rfl)) rfl
theorem wv_X5_restore : Cond.instanceMethod yX5_restore ∈ BW := bw_t (bw_3 (List.mem_of_getElem? (i := 118) rfl)) rfl
theorem we_X5_restore : Cond.selects yX5_restore.cls yX5_restore yX5_restore ∈ BW := bw_t (bw_3 (List.mem_of_getElem? (i := 119) rfl)) rfl
theorem wo_X5_round : Cond.code yX5_round cX5_round 4 (some .int) ∈ BW := bw_t (bw_3 (List.mem_of_getElem? (i := 76) rfl)) rfl
theorem wv_X5_round : Cond.instanceMethod yX5_round ∈ BW := bw_t (bw_3 (List.mem_of_getElem? (i := 74) rfl)) rfl
theorem we_X5_round : Cond.selects yX5_round.cls yX5_round yX5_round ∈ BW := bw_t (bw_3 (List.mem_of_getElem? (i := 75) rfl)) rfl
theorem wo_X5_row : Cond.code yX5_row cX5_row 4 (some .int) ∈ BW := bw_t (bw_2 (List.mem_of_getElem? (i := 6) rfl)) rfl
theorem wv_X5_row : Cond.instanceMethod yX5_row ∈ BW := bw_t (bw_2 (List.mem_of_getElem? (i := 4) rfl)) rfl
theorem we_X5_row : Cond.selects yX5_row.cls yX5_row yX5_row ∈ BW := bw_t (bw_2 (List.mem_of_getElem? (i := 5) rfl)) rfl
theorem wo_X5_seen : Cond.code yX5_seen cX5_seen 9 (some .int) ∈ BW := bw_t (bw_3 (List.mem_of_getElem? (i := 60) rfl)) rfl
theorem wv_X5_seen : Cond.instanceMethod yX5_seen ∈ BW := bw_t (bw_3 (List.mem_of_getElem? (i := 58) rfl)) rfl
theorem we_X5_seen : Cond.selects yX5_seen.cls yX5_seen yX5_seen ∈ BW := bw_t (bw_3 (List.mem_of_getElem? (i := 59) rfl)) rfl
theorem wo_X5_set : Cond.code yX5_set cX5_set 5 (some .int) ∈ BW := bw_t (bw_2 (List.mem_of_getElem? (i := 30) rfl)) rfl
theorem wv_X5_set : Cond.instanceMethod yX5_set ∈ BW := bw_t (bw_2 (List.mem_of_getElem? (i := 28) rfl)) rfl
theorem we_X5_set : Cond.selects yX5_set.cls yX5_set yX5_set ∈ BW := bw_t (bw_2 (List.mem_of_getElem? (i := 29) rfl)) rfl
theorem wo_X5_sizeOfChild : Cond.code yX5_sizeOfChild cX5_sizeOfChild 2 (some .int) ∈ BW := bw_t (bw_3 (List.mem_of_getElem? (i := 171) rfl)) rfl
theorem wv_X5_sizeOfChild : Cond.instanceMethod yX5_sizeOfChild ∈ BW := bw_t (bw_3 (List.mem_of_getElem? (i := 170) rfl)) rfl
theorem we_X5_sizeOfChild : Cond.selects yX5_sizeOfChild.cls yX5_sizeOfChild yX5_sizeOfChild ∈ BW := bw_s (n := 16) (List.mem_append_right _ (List.mem_append_left _ (List.mem_of_getElem? (i := 4) rfl))) rfl
theorem wo_X5_sizeOfGrown : Cond.code yX5_sizeOfGrown cX5_sizeOfGrown 3 (some .int) ∈ BW := bw_t (bw_3 (List.mem_of_getElem? (i := 147) rfl)) rfl
theorem wv_X5_sizeOfGrown : Cond.instanceMethod yX5_sizeOfGrown ∈ BW := bw_t (bw_3 (List.mem_of_getElem? (i := 146) rfl)) rfl
theorem we_X5_sizeOfGrown : Cond.selects yX5_sizeOfGrown.cls yX5_sizeOfGrown yX5_sizeOfGrown ∈ BW := bw_s (n := 16) (List.mem_append_left _ (List.mem_of_getElem? (i := 14) rfl)) rfl
theorem wo_X5_sortOf : Cond.code yX5_sortOf cX5_sortOf 1 (some .int) ∈ BW := bw_t (bw_2 (List.mem_of_getElem? (i := 128) rfl)) rfl
theorem wt_X5_sortOf : Cond.static yX5_sortOf ∈ BW := bw_t (bw_2 (List.mem_of_getElem? (i := 127) rfl)) rfl
theorem wo_X5_status : Cond.code yX5_status cX5_status 1 (some .int) ∈ BW := bw_t (bw_3 (List.mem_of_getElem? (i := 191) rfl)) rfl
theorem wv_X5_status : Cond.instanceMethod yX5_status ∈ BW := bw_t (bw_3 (List.mem_of_getElem? (i := 189) rfl)) rfl
theorem we_X5_status : Cond.selects yX5_status.cls yX5_status yX5_status ∈ BW := bw_t (bw_3 (List.mem_of_getElem? (i := 190) rfl)) rfl
theorem wo_X5_stolen : Cond.code yX5_stolen cX5_stolen 6 (some .int) ∈ BW := bw_t (bw_3 (List.mem_of_getElem? (i := 52) rfl)) rfl
theorem wv_X5_stolen : Cond.instanceMethod yX5_stolen ∈ BW := bw_t (bw_3 (List.mem_of_getElem? (i := 50) rfl)) rfl
theorem we_X5_stolen : Cond.selects yX5_stolen.cls yX5_stolen yX5_stolen ∈ BW := bw_t (bw_3 (List.mem_of_getElem? (i := 51) rfl)) rfl
theorem wo_X5_trace : Cond.code yX5_trace cX5_trace 2 (some .int) ∈ BW := bw_t (bw_3 (List.mem_of_getElem? (i := 179) rfl)) rfl
theorem wv_X5_trace : Cond.instanceMethod yX5_trace ∈ BW := bw_t (bw_3 (List.mem_of_getElem? (i := 177) rfl)) rfl
theorem we_X5_trace : Cond.selects yX5_trace.cls yX5_trace yX5_trace ∈ BW := bw_t (bw_3 (List.mem_of_getElem? (i := 178) rfl)) rfl
theorem wo_X5_undo : Cond.code yX5_undo cX5_undo 1 (some .int) ∈ BW := bw_t (bw_2 (List.mem_of_getElem? (i := 166) rfl)) rfl
theorem wv_X5_undo : Cond.instanceMethod yX5_undo ∈ BW := bw_t (bw_2 (List.mem_of_getElem? (i := 164) rfl)) rfl
theorem we_X5_undo : Cond.selects yX5_undo.cls yX5_undo yX5_undo ∈ BW := bw_t (bw_2 (List.mem_of_getElem? (i := 165) rfl)) rfl
theorem wo_X5_visits : Cond.code yX5_visits cX5_visits 4 (some .int) ∈ BW := bw_t (bw_3 (List.mem_of_getElem? (i := 32) rfl)) rfl
theorem wv_X5_visits : Cond.instanceMethod yX5_visits ∈ BW := bw_t (bw_3 (List.mem_of_getElem? (i := 30) rfl)) rfl
theorem we_X5_visits : Cond.selects yX5_visits.cls yX5_visits yX5_visits ∈ BW := bw_t (bw_3 (List.mem_of_getElem? (i := 31) rfl)) rfl
theorem wo_X5_who : Cond.code yX5_who cX5_who 8 (some .int) ∈ BW := bw_t (bw_3 (List.mem_of_getElem? (i := 68) rfl)) rfl
theorem wv_X5_who : Cond.instanceMethod yX5_who ∈ BW := bw_t (bw_3 (List.mem_of_getElem? (i := 66) rfl)) rfl
theorem we_X5_who : Cond.selects yX5_who.cls yX5_who yX5_who ∈ BW := bw_t (bw_3 (List.mem_of_getElem? (i := 67) rfl)) rfl
theorem wo_X5_wish : Cond.code yX5_wish cX5_wish 5 (some .int) ∈ BW := bw_t (bw_2 (List.mem_of_getElem? (i := 219) rfl)) rfl
theorem wv_X5_wish : Cond.instanceMethod yX5_wish ∈ BW := bw_t (bw_2 (List.mem_of_getElem? (i := 217) rfl)) rfl
theorem we_X5_wish : Cond.selects yX5_wish.cls yX5_wish yX5_wish ∈ BW := bw_t (bw_2 (List.mem_of_getElem? (i := 218) rfl)) rfl
theorem wo_X5_wisher : Cond.code yX5_wisher cX5_wisher 3 (some .int) ∈ BW := bw_t (bw_3 (List.mem_of_getElem? (i := 2) rfl)) rfl
theorem wv_X5_wisher : Cond.instanceMethod yX5_wisher ∈ BW := bw_t (bw_3 (List.mem_of_getElem? (i := 0) rfl)) rfl
theorem we_X5_wisher : Cond.selects yX5_wisher.cls yX5_wisher yX5_wisher ∈ BW := bw_t (bw_3 (List.mem_of_getElem? (i := 1) rfl)) rfl
theorem wo_X5_within : Cond.code yX5_within cX5_within 3 (some .boolean) ∈ BW := bw_t (bw_2 (List.mem_of_getElem? (i := 12) rfl)) rfl
theorem wt_X5_within : Cond.static yX5_within ∈ BW := bw_t (bw_2 (List.mem_of_getElem? (i := 11) rfl)) rfl
theorem wo_X0_init : Cond.code yX0_init cX0_init 1 none ∈ BW := bw_t (bw_1 (List.mem_of_getElem? (i := 125) rfl)) rfl
theorem wv_X0_init : Cond.instanceMethod yX0_init ∈ BW := bw_t (bw_1 (List.mem_of_getElem? (i := 124) rfl)) rfl
theorem wo_X0_become : Cond.code yX0_become cX0_become 3 none ∈ BW := bw_t (bw_3 (List.mem_of_getElem? (i := 72) rfl)) rfl
theorem wv_X0_become : Cond.instanceMethod yX0_become ∈ BW := bw_t (bw_3 (List.mem_of_getElem? (i := 70) rfl)) rfl
theorem we_X0_become : Cond.selects yX0_become.cls yX0_become yX0_become ∈ BW := bw_t (bw_3 (List.mem_of_getElem? (i := 71) rfl)) rfl
theorem wo_X0_begin : Cond.code yX0_begin cX0_begin 3 none ∈ BW := bw_t (bw_2 (List.mem_of_getElem? (i := 108) rfl)) rfl
theorem wv_X0_begin : Cond.instanceMethod yX0_begin ∈ BW := bw_t (bw_2 (List.mem_of_getElem? (i := 106) rfl)) rfl
theorem we_X0_begin : Cond.selects yX0_begin.cls yX0_begin yX0_begin ∈ BW := bw_t (bw_2 (List.mem_of_getElem? (i := 107) rfl)) rfl
theorem wo_X0_code : Cond.code yX0_code cX0_code 4 (some .long) ∈ BW := bw_t (bw_3 (List.mem_of_getElem? (i := 80) rfl)) rfl
theorem wv_X0_code : Cond.instanceMethod yX0_code ∈ BW := bw_t (bw_3 (List.mem_of_getElem? (i := 78) rfl)) rfl
theorem we_X0_code : Cond.selects yX0_code.cls yX0_code yX0_code ∈ BW := bw_t (bw_3 (List.mem_of_getElem? (i := 79) rfl)) rfl
theorem wo_X0_decide : Cond.code yX0_decide cX0_decide 5 (some .int) ∈ BW := bw_t (bw_2 (List.mem_of_getElem? (i := 210) rfl)) rfl
theorem wv_X0_decide : Cond.instanceMethod yX0_decide ∈ BW := bw_t (bw_2 (List.mem_of_getElem? (i := 208) rfl)) rfl
theorem we_X0_decide : Cond.selects yX0_decide.cls yX0_decide yX0_decide ∈ BW := bw_t (bw_2 (List.mem_of_getElem? (i := 209) rfl)) rfl
theorem wo_X0_force : Cond.code yX0_force cX0_force 5 (some .int) ∈ BW := bw_t (bw_2 (List.mem_of_getElem? (i := 203) rfl)) rfl
theorem wv_X0_force : Cond.instanceMethod yX0_force ∈ BW := bw_t (bw_2 (List.mem_of_getElem? (i := 201) rfl)) rfl
theorem we_X0_force : Cond.selects yX0_force.cls yX0_force yX0_force ∈ BW := bw_t (bw_2 (List.mem_of_getElem? (i := 202) rfl)) rfl
theorem wo_X0_goesTo : Cond.code yX0_goesTo cX0_goesTo 3 (some .int) ∈ BW := bw_t (bw_3 (List.mem_of_getElem? (i := 56) rfl)) rfl
theorem wv_X0_goesTo : Cond.instanceMethod yX0_goesTo ∈ BW := bw_t (bw_3 (List.mem_of_getElem? (i := 54) rfl)) rfl
theorem we_X0_goesTo : Cond.selects yX0_goesTo.cls yX0_goesTo yX0_goesTo ∈ BW := bw_t (bw_3 (List.mem_of_getElem? (i := 55) rfl)) rfl
theorem wo_X0_pass : Cond.code yX0_pass cX0_pass 3 none ∈ BW := bw_t (bw_2 (List.mem_of_getElem? (i := 189) rfl)) rfl
theorem wv_X0_pass : Cond.instanceMethod yX0_pass ∈ BW := bw_t (bw_2 (List.mem_of_getElem? (i := 187) rfl)) rfl
theorem we_X0_pass : Cond.selects yX0_pass.cls yX0_pass yX0_pass ∈ BW := bw_t (bw_2 (List.mem_of_getElem? (i := 188) rfl)) rfl
theorem wo_X0_passMany : Cond.code yX0_passMany cX0_passMany 4 none ∈ BW := bw_t (bw_3 (List.mem_of_getElem? (i := 22) rfl)) rfl
theorem wv_X0_passMany : Cond.instanceMethod yX0_passMany ∈ BW := bw_t (bw_3 (List.mem_of_getElem? (i := 20) rfl)) rfl
theorem we_X0_passMany : Cond.selects yX0_passMany.cls yX0_passMany yX0_passMany ∈ BW := bw_t (bw_3 (List.mem_of_getElem? (i := 21) rfl)) rfl
theorem wo_X0_take : Cond.code yX0_take cX0_take 2 none ∈ BW := bw_t (bw_2 (List.mem_of_getElem? (i := 153) rfl)) rfl
theorem wv_X0_take : Cond.instanceMethod yX0_take ∈ BW := bw_t (bw_2 (List.mem_of_getElem? (i := 151) rfl)) rfl
theorem we_X0_take : Cond.selects yX0_take.cls yX0_take yX0_take ∈ BW := bw_t (bw_2 (List.mem_of_getElem? (i := 152) rfl)) rfl
theorem wo_X0_tire : Cond.code yX0_tire cX0_tire 3 none ∈ BW := bw_t (bw_2 (List.mem_of_getElem? (i := 214) rfl)) rfl
theorem wv_X0_tire : Cond.instanceMethod yX0_tire ∈ BW := bw_t (bw_2 (List.mem_of_getElem? (i := 212) rfl)) rfl
theorem we_X0_tire : Cond.selects yX0_tire.cls yX0_tire yX0_tire ∈ BW := bw_t (bw_2 (List.mem_of_getElem? (i := 213) rfl)) rfl
theorem wo_X0_weigh : Cond.code yX0_weigh cX0_weigh 3 none ∈ BW := bw_t (bw_2 (List.mem_of_getElem? (i := 193) rfl)) rfl
theorem wv_X0_weigh : Cond.instanceMethod yX0_weigh ∈ BW := bw_t (bw_2 (List.mem_of_getElem? (i := 191) rfl)) rfl
theorem we_X0_weigh : Cond.selects yX0_weigh.cls yX0_weigh yX0_weigh ∈ BW := bw_t (bw_2 (List.mem_of_getElem? (i := 192) rfl)) rfl
theorem wo_X0_wishes : Cond.code yX0_wishes cX0_wishes 4 (some .boolean) ∈ BW := bw_t (bw_2 (List.mem_of_getElem? (i := 198) rfl)) rfl
theorem wv_X0_wishes : Cond.instanceMethod yX0_wishes ∈ BW := bw_t (bw_2 (List.mem_of_getElem? (i := 196) rfl)) rfl
theorem we_X0_wishes : Cond.selects yX0_wishes.cls yX0_wishes yX0_wishes ∈ BW := bw_t (bw_2 (List.mem_of_getElem? (i := 197) rfl)) rfl
theorem wo_X0_wishing : Cond.code yX0_wishing cX0_wishing 4 (some .int) ∈ BW := bw_t (bw_3 (List.mem_of_getElem? (i := 95) rfl)) rfl
theorem wv_X0_wishing : Cond.instanceMethod yX0_wishing ∈ BW := bw_t (bw_3 (List.mem_of_getElem? (i := 93) rfl)) rfl
theorem we_X0_wishing : Cond.selects yX0_wishing.cls yX0_wishing yX0_wishing ∈ BW := bw_t (bw_3 (List.mem_of_getElem? (i := 94) rfl)) rfl
theorem wo_X1_init : Cond.code yX1_init cX1_init 1 none ∈ BW := bw_t (bw_1 (List.mem_of_getElem? (i := 72) rfl)) rfl
theorem wv_X1_init : Cond.instanceMethod yX1_init ∈ BW := bw_t (bw_1 (List.mem_of_getElem? (i := 71) rfl)) rfl
theorem wo_X1_clear : Cond.code yX1_clear cX1_clear 2 none ∈ BW := bw_t (bw_2 (List.mem_of_getElem? (i := 75) rfl)) rfl
theorem wv_X1_clear : Cond.instanceMethod yX1_clear ∈ BW := bw_t (bw_2 (List.mem_of_getElem? (i := 73) rfl)) rfl
theorem we_X1_clear : Cond.selects yX1_clear.cls yX1_clear yX1_clear ∈ BW := bw_t (bw_2 (List.mem_of_getElem? (i := 74) rfl)) rfl
theorem wo_X1_everyone : Cond.code yX1_everyone cX1_everyone 1 (some .int) ∈ BW := bw_t (bw_3 (List.mem_of_getElem? (i := 40) rfl)) rfl
theorem wv_X1_everyone : Cond.instanceMethod yX1_everyone ∈ BW := bw_t (bw_3 (List.mem_of_getElem? (i := 38) rfl)) rfl
theorem we_X1_everyone : Cond.selects yX1_everyone.cls yX1_everyone yX1_everyone ∈ BW := bw_t (bw_3 (List.mem_of_getElem? (i := 39) rfl)) rfl
theorem wo_X1_joins : Cond.code yX1_joins cX1_joins 3 (some .boolean) ∈ BW := bw_t (bw_2 (List.mem_of_getElem? (i := 122) rfl)) rfl
theorem wv_X1_joins : Cond.instanceMethod yX1_joins ∈ BW := bw_t (bw_2 (List.mem_of_getElem? (i := 120) rfl)) rfl
theorem we_X1_joins : Cond.selects yX1_joins.cls yX1_joins yX1_joins ∈ BW := bw_t (bw_2 (List.mem_of_getElem? (i := 121) rfl)) rfl
theorem wo_X1_measure : Cond.code yX1_measure cX1_measure 5 none ∈ BW := bw_t (bw_2 (List.mem_of_getElem? (i := 136) rfl)) rfl
theorem wv_X1_measure : Cond.instanceMethod yX1_measure ∈ BW := bw_t (bw_2 (List.mem_of_getElem? (i := 134) rfl)) rfl
theorem we_X1_measure : Cond.selects yX1_measure.cls yX1_measure yX1_measure ∈ BW := bw_t (bw_2 (List.mem_of_getElem? (i := 135) rfl)) rfl
theorem wo_X1_take : Cond.code yX1_take cX1_take 2 none ∈ BW := bw_t (bw_2 (List.mem_of_getElem? (i := 148) rfl)) rfl
theorem wv_X1_take : Cond.instanceMethod yX1_take ∈ BW := bw_t (bw_2 (List.mem_of_getElem? (i := 146) rfl)) rfl
theorem we_X1_take : Cond.selects yX1_take.cls yX1_take yX1_take ∈ BW := bw_t (bw_2 (List.mem_of_getElem? (i := 147) rfl)) rfl
theorem wo_X1_way : Cond.code yX1_way cX1_way 3 (some .int) ∈ BW := bw_t (bw_2 (List.mem_of_getElem? (i := 140) rfl)) rfl
theorem wv_X1_way : Cond.instanceMethod yX1_way ∈ BW := bw_t (bw_2 (List.mem_of_getElem? (i := 138) rfl)) rfl
theorem we_X1_way : Cond.selects yX1_way.cls yX1_way yX1_way ∈ BW := bw_t (bw_2 (List.mem_of_getElem? (i := 139) rfl)) rfl
theorem wo_X2_init : Cond.code yX2_init cX2_init 2 none ∈ BW := bw_t (bw_1 (List.mem_of_getElem? (i := 176) rfl)) rfl
theorem wv_X2_init : Cond.instanceMethod yX2_init ∈ BW := bw_t (bw_1 (List.mem_of_getElem? (i := 175) rfl)) rfl
theorem wo_X2_forget : Cond.code yX2_forget cX2_forget 1 none ∈ BW := bw_t (bw_2 (List.mem_of_getElem? (i := 158) rfl)) rfl
theorem wv_X2_forget : Cond.instanceMethod yX2_forget ∈ BW := bw_t (bw_2 (List.mem_of_getElem? (i := 156) rfl)) rfl
theorem we_X2_forget : Cond.selects yX2_forget.cls yX2_forget yX2_forget ∈ BW := bw_t (bw_2 (List.mem_of_getElem? (i := 157) rfl)) rfl
theorem wo_X2_goBack : Cond.code yX2_goBack cX2_goBack 2 none ∈ BW := bw_t (bw_2 (List.mem_of_getElem? (i := 171) rfl)) rfl
theorem wv_X2_goBack : Cond.instanceMethod yX2_goBack ∈ BW := bw_t (bw_2 (List.mem_of_getElem? (i := 169) rfl)) rfl
theorem we_X2_goBack : Cond.selects yX2_goBack.cls yX2_goBack yX2_goBack ∈ BW := bw_t (bw_2 (List.mem_of_getElem? (i := 170) rfl)) rfl
theorem wo_X2_keep : Cond.code yX2_keep cX2_keep 2 none ∈ BW := bw_t (bw_2 (List.mem_of_getElem? (i := 184) rfl)) rfl
theorem wv_X2_keep : Cond.instanceMethod yX2_keep ∈ BW := bw_t (bw_2 (List.mem_of_getElem? (i := 182) rfl)) rfl
theorem we_X2_keep : Cond.selects yX2_keep.cls yX2_keep yX2_keep ∈ BW := bw_t (bw_2 (List.mem_of_getElem? (i := 183) rfl)) rfl
theorem wo_X3_init : Cond.code yX3_init cX3_init 2 none ∈ BW := bw_t (bw_1 (List.mem_of_getElem? (i := 23) rfl)) rfl
theorem wv_X3_init : Cond.instanceMethod yX3_init ∈ BW := bw_t (bw_1 (List.mem_of_getElem? (i := 22) rfl)) rfl
theorem wo_X3_isMissing : Cond.code yX3_isMissing cX3_isMissing 2 (some .boolean) ∈ BW := bw_t (bw_2 (List.mem_of_getElem? (i := 38) rfl)) rfl
theorem wv_X3_isMissing : Cond.instanceMethod yX3_isMissing ∈ BW := bw_t (bw_2 (List.mem_of_getElem? (i := 36) rfl)) rfl
theorem we_X3_isMissing : Cond.selects yX3_isMissing.cls yX3_isMissing yX3_isMissing ∈ BW := bw_t (bw_2 (List.mem_of_getElem? (i := 37) rfl)) rfl
theorem wo_X3_look : Cond.code yX3_look cX3_look 4 (some .int) ∈ BW := bw_t (bw_2 (List.mem_of_getElem? (i := 34) rfl)) rfl
theorem wv_X3_look : Cond.instanceMethod yX3_look ∈ BW := bw_t (bw_2 (List.mem_of_getElem? (i := 32) rfl)) rfl
theorem we_X3_look : Cond.selects yX3_look.cls yX3_look yX3_look ∈ BW := bw_t (bw_2 (List.mem_of_getElem? (i := 33) rfl)) rfl
theorem wo_X3_make : Cond.code yX3_make cX3_make 5 none ∈ BW := bw_t (bw_2 (List.mem_of_getElem? (i := 22) rfl)) rfl
theorem wv_X3_make : Cond.instanceMethod yX3_make ∈ BW := bw_t (bw_2 (List.mem_of_getElem? (i := 20) rfl)) rfl
theorem we_X3_make : Cond.selects yX3_make.cls yX3_make yX3_make ∈ BW := bw_t (bw_2 (List.mem_of_getElem? (i := 21) rfl)) rfl
theorem wo_X3_many : Cond.code yX3_many cX3_many 3 (some .int) ∈ BW := bw_t (bw_3 (List.mem_of_getElem? (i := 187) rfl)) rfl
theorem wv_X3_many : Cond.instanceMethod yX3_many ∈ BW := bw_t (bw_3 (List.mem_of_getElem? (i := 185) rfl)) rfl
theorem we_X3_many : Cond.selects yX3_many.cls yX3_many yX3_many ∈ BW := bw_t (bw_3 (List.mem_of_getElem? (i := 186) rfl)) rfl
theorem wo_X3_put : Cond.code yX3_put cX3_put 5 (some .int) ∈ BW := bw_t (bw_2 (List.mem_of_getElem? (i := 42) rfl)) rfl
theorem wv_X3_put : Cond.instanceMethod yX3_put ∈ BW := bw_t (bw_2 (List.mem_of_getElem? (i := 40) rfl)) rfl
theorem we_X3_put : Cond.selects yX3_put.cls yX3_put yX3_put ∈ BW := bw_t (bw_2 (List.mem_of_getElem? (i := 41) rfl)) rfl
theorem wo_X4_init : Cond.code yX4_init cX4_init 1 none ∈ BW := bw_t (bw_1 (List.mem_of_getElem? (i := 45) rfl)) rfl
theorem wv_X4_init : Cond.instanceMethod yX4_init ∈ BW := bw_t (bw_1 (List.mem_of_getElem? (i := 44) rfl)) rfl
theorem wo_X4_begin : Cond.code yX4_begin cX4_begin 1 none ∈ BW := bw_t (bw_2 (List.mem_of_getElem? (i := 71) rfl)) rfl
theorem wv_X4_begin : Cond.instanceMethod yX4_begin ∈ BW := bw_t (bw_2 (List.mem_of_getElem? (i := 69) rfl)) rfl
theorem we_X4_begin : Cond.selects yX4_begin.cls yX4_begin yX4_begin ∈ BW := bw_t (bw_2 (List.mem_of_getElem? (i := 70) rfl)) rfl
theorem wo_X4_byteAt : Cond.code yX4_byteAt cX4_byteAt 2 (some .int) ∈ BW := bw_t (bw_2 (List.mem_of_getElem? (i := 91) rfl)) rfl
theorem wv_X4_byteAt : Cond.instanceMethod yX4_byteAt ∈ BW := bw_t (bw_2 (List.mem_of_getElem? (i := 89) rfl)) rfl
theorem we_X4_byteAt : Cond.selects yX4_byteAt.cls yX4_byteAt yX4_byteAt ∈ BW := bw_t (bw_2 (List.mem_of_getElem? (i := 90) rfl)) rfl
theorem wo_X4_expect : Cond.code yX4_expect cX4_expect 2 none ∈ BW := bw_t (bw_2 (List.mem_of_getElem? (i := 83) rfl)) rfl
theorem wv_X4_expect : Cond.instanceMethod yX4_expect ∈ BW := bw_t (bw_2 (List.mem_of_getElem? (i := 81) rfl)) rfl
theorem we_X4_expect : Cond.selects yX4_expect.cls yX4_expect yX4_expect ∈ BW := bw_t (bw_2 (List.mem_of_getElem? (i := 82) rfl)) rfl
theorem wo_X4_fail : Cond.code yX4_fail cX4_fail 3 none ∈ BW := bw_t (bw_2 (List.mem_of_getElem? (i := 95) rfl)) rfl
theorem wv_X4_fail : Cond.instanceMethod yX4_fail ∈ BW := bw_t (bw_2 (List.mem_of_getElem? (i := 93) rfl)) rfl
theorem we_X4_fail : Cond.selects yX4_fail.cls yX4_fail yX4_fail ∈ BW := bw_t (bw_2 (List.mem_of_getElem? (i := 94) rfl)) rfl
theorem wo_X4_goesOn : Cond.code yX4_goesOn cX4_goesOn 1 (some .boolean) ∈ BW := bw_t (bw_2 (List.mem_of_getElem? (i := 112) rfl)) rfl
theorem wv_X4_goesOn : Cond.instanceMethod yX4_goesOn ∈ BW := bw_t (bw_2 (List.mem_of_getElem? (i := 110) rfl)) rfl
theorem we_X4_goesOn : Cond.selects yX4_goesOn.cls yX4_goesOn yX4_goesOn ∈ BW := bw_t (bw_2 (List.mem_of_getElem? (i := 111) rfl)) rfl
theorem wo_X4_isFigure : Cond.code yX4_isFigure cX4_isFigure 2 (some .boolean) ∈ BW := bw_t (bw_2 (List.mem_of_getElem? (i := 103) rfl)) rfl
theorem wv_X4_isFigure : Cond.instanceMethod yX4_isFigure ∈ BW := bw_t (bw_2 (List.mem_of_getElem? (i := 101) rfl)) rfl
theorem we_X4_isFigure : Cond.selects yX4_isFigure.cls yX4_isFigure yX4_isFigure ∈ BW := bw_t (bw_2 (List.mem_of_getElem? (i := 102) rfl)) rfl
theorem wo_X4_next : Cond.code yX4_next cX4_next 1 (some .int) ∈ BW := bw_t (bw_2 (List.mem_of_getElem? (i := 87) rfl)) rfl
theorem wv_X4_next : Cond.instanceMethod yX4_next ∈ BW := bw_t (bw_2 (List.mem_of_getElem? (i := 85) rfl)) rfl
theorem we_X4_next : Cond.selects yX4_next.cls yX4_next yX4_next ∈ BW := bw_t (bw_2 (List.mem_of_getElem? (i := 86) rfl)) rfl
theorem wo_X4_number : Cond.code yX4_number cX4_number 5 (some .int) ∈ BW := bw_t (bw_2 (List.mem_of_getElem? (i := 99) rfl)) rfl
theorem wv_X4_number : Cond.instanceMethod yX4_number ∈ BW := bw_t (bw_2 (List.mem_of_getElem? (i := 97) rfl)) rfl
theorem we_X4_number : Cond.selects yX4_number.cls yX4_number yX4_number ∈ BW := bw_t (bw_2 (List.mem_of_getElem? (i := 98) rfl)) rfl
theorem wo_X6_init : Cond.code yX6_init cX6_init 1 none ∈ BW := bw_t (bw_3 (List.mem_of_getElem? (i := 196) rfl)) rfl
theorem wv_X6_init : Cond.instanceMethod yX6_init ∈ BW := bw_t (bw_3 (List.mem_of_getElem? (i := 195) rfl)) rfl
theorem wo_X6_ahead : Cond.code yX6_ahead cX6_ahead 4 (some .int) ∈ BW := bw_t (bw_4 (List.mem_of_getElem? (i := 214) rfl)) rfl
theorem wv_X6_ahead : Cond.instanceMethod yX6_ahead ∈ BW := bw_t (bw_4 (List.mem_of_getElem? (i := 212) rfl)) rfl
theorem we_X6_ahead : Cond.selects yX6_ahead.cls yX6_ahead yX6_ahead ∈ BW := bw_t (bw_4 (List.mem_of_getElem? (i := 213) rfl)) rfl
theorem wo_X6_as : Cond.code yX6_as cX6_as 3 (some .int) ∈ BW := bw_t (bw_5 (List.mem_of_getElem? (i := 67) rfl)) rfl
theorem wv_X6_as : Cond.instanceMethod yX6_as ∈ BW := bw_t (bw_5 (List.mem_of_getElem? (i := 65) rfl)) rfl
theorem we_X6_as : Cond.selects yX6_as.cls yX6_as yX6_as ∈ BW := bw_t (bw_5 (List.mem_of_getElem? (i := 66) rfl)) rfl
theorem wo_X6_ask : Cond.code yX6_ask cX6_ask 3 (some .int) ∈ BW := bw_t (bw_5 (List.mem_of_getElem? (i := 75) rfl)) rfl
theorem wv_X6_ask : Cond.instanceMethod yX6_ask ∈ BW := bw_t (bw_5 (List.mem_of_getElem? (i := 73) rfl)) rfl
theorem we_X6_ask : Cond.selects yX6_ask.cls yX6_ask yX6_ask ∈ BW := bw_t (bw_5 (List.mem_of_getElem? (i := 74) rfl)) rfl
theorem wo_X6_atBehind : Cond.code yX6_atBehind cX6_atBehind 2 (some .int) ∈ BW := bw_t (bw_4 (List.mem_of_getElem? (i := 223) rfl)) rfl
theorem wv_X6_atBehind : Cond.instanceMethod yX6_atBehind ∈ BW := bw_t (bw_4 (List.mem_of_getElem? (i := 222) rfl)) rfl
theorem we_X6_atBehind : Cond.selects yX6_atBehind.cls yX6_atBehind yX6_atBehind ∈ BW := bw_s (n := 26) (List.mem_append_right _ (List.mem_append_right _ (List.mem_append_left _ (List.mem_of_getElem? (i := 12) rfl)))) rfl
theorem wo_X6_atLeastNone : Cond.code yX6_atLeastNone cX6_atLeastNone 1 (some .int) ∈ BW := bw_t (bw_4 (List.mem_of_getElem? (i := 173) rfl)) rfl
theorem wt_X6_atLeastNone : Cond.static yX6_atLeastNone ∈ BW := bw_t (bw_4 (List.mem_of_getElem? (i := 172) rfl)) rfl
theorem wo_X6_awake : Cond.code yX6_awake cX6_awake 14 (some .long) ∈ BW := bw_t (bw_5 (List.mem_of_getElem? (i := 41) rfl)) rfl
theorem wv_X6_awake : Cond.instanceMethod yX6_awake ∈ BW := bw_t (bw_5 (List.mem_of_getElem? (i := 39) rfl)) rfl
theorem we_X6_awake : Cond.selects yX6_awake.cls yX6_awake yX6_awake ∈ BW := bw_t (bw_5 (List.mem_of_getElem? (i := 40) rfl)) rfl
theorem wo_X6_bad : Cond.code yX6_bad cX6_bad 2 none ∈ BW := bw_t (bw_4 (List.mem_of_getElem? (i := 106) rfl)) rfl
theorem wv_X6_bad : Cond.instanceMethod yX6_bad ∈ BW := bw_t (bw_4 (List.mem_of_getElem? (i := 105) rfl)) rfl
theorem we_X6_bad : Cond.selects yX6_bad.cls yX6_bad yX6_bad ∈ BW := bw_s (n := 26) (List.mem_append_right _ (List.mem_append_left _ (List.mem_of_getElem? (i := 11) rfl))) rfl
theorem wo_X6_began : Cond.code yX6_began cX6_began 2 none ∈ BW := bw_t (bw_5 (List.mem_of_getElem? (i := 87) rfl)) rfl
theorem wv_X6_began : Cond.instanceMethod yX6_began ∈ BW := bw_t (bw_5 (List.mem_of_getElem? (i := 86) rfl)) rfl
theorem we_X6_began : Cond.selects yX6_began.cls yX6_began yX6_began ∈ BW := bw_s (n := 26) (List.mem_append_right _ (List.mem_append_right _ (List.mem_append_right _ (List.mem_of_getElem? (i := 2) rfl)))) rfl
theorem wo_X6_begin : Cond.code yX6_begin cX6_begin 1 none ∈ BW := bw_t (bw_4 (List.mem_of_getElem? (i := 85) rfl)) rfl
theorem wv_X6_begin : Cond.instanceMethod yX6_begin ∈ BW := bw_t (bw_4 (List.mem_of_getElem? (i := 84) rfl)) rfl
theorem we_X6_begin : Cond.selects yX6_begin.cls yX6_begin yX6_begin ∈ BW := bw_s (n := 26) (List.mem_append_right _ (List.mem_append_left _ (List.mem_of_getElem? (i := 7) rfl))) rfl
theorem wo_X6_bits : Cond.code yX6_bits cX6_bits 3 (some .int) ∈ BW := bw_t (bw_5 (List.mem_of_getElem? (i := 2) rfl)) rfl
theorem wt_X6_bits : Cond.static yX6_bits ∈ BW := bw_t (bw_5 (List.mem_of_getElem? (i := 1) rfl)) rfl
theorem wo_X6_childSize : Cond.code yX6_childSize cX6_childSize 4 (some .int) ∈ BW := bw_t (bw_5 (List.mem_of_getElem? (i := 83) rfl)) rfl
theorem wv_X6_childSize : Cond.instanceMethod yX6_childSize ∈ BW := bw_t (bw_5 (List.mem_of_getElem? (i := 82) rfl)) rfl
theorem we_X6_childSize : Cond.selects yX6_childSize.cls yX6_childSize yX6_childSize ∈ BW := bw_s (n := 26) (List.mem_append_right _ (List.mem_append_right _ (List.mem_append_right _ (List.mem_of_getElem? (i := 1) rfl)))) rfl
theorem wo_X6_comes : Cond.code yX6_comes cX6_comes 4 (some .int) ∈ BW := bw_t (bw_4 (List.mem_of_getElem? (i := 231) rfl)) rfl
theorem wv_X6_comes : Cond.instanceMethod yX6_comes ∈ BW := bw_t (bw_4 (List.mem_of_getElem? (i := 229) rfl)) rfl
theorem we_X6_comes : Cond.selects yX6_comes.cls yX6_comes yX6_comes ∈ BW := bw_t (bw_4 (List.mem_of_getElem? (i := 230) rfl)) rfl
theorem wo_X6_comesSo : Cond.code yX6_comesSo cX6_comesSo 5 (some .boolean) ∈ BW := bw_t (bw_5 (List.mem_of_getElem? (i := 19) rfl)) rfl
theorem wv_X6_comesSo : Cond.instanceMethod yX6_comesSo ∈ BW := bw_t (bw_5 (List.mem_of_getElem? (i := 18) rfl)) rfl
theorem we_X6_comesSo : Cond.selects yX6_comesSo.cls yX6_comesSo yX6_comesSo ∈ BW := bw_s (n := 26) (List.mem_append_right _ (List.mem_append_right _ (List.mem_append_left _ (List.mem_of_getElem? (i := 14) rfl)))) rfl
theorem wo_X6_copy : Cond.code yX6_copy cX6_copy 9 (some .int) ∈ BW := bw_t (bw_4 (List.mem_of_getElem? (i := 63) rfl)) rfl
theorem wv_X6_copy : Cond.instanceMethod yX6_copy ∈ BW := bw_t (bw_4 (List.mem_of_getElem? (i := 61) rfl)) rfl
theorem we_X6_copy : Cond.selects yX6_copy.cls yX6_copy yX6_copy ∈ BW := bw_t (bw_4 (List.mem_of_getElem? (i := 62) rfl)) rfl
theorem wo_X6_count : Cond.code yX6_count cX6_count 4 (some .int) ∈ BW := bw_t (bw_5 (List.mem_of_getElem? (i := 103) rfl)) rfl
theorem wv_X6_count : Cond.instanceMethod yX6_count ∈ BW := bw_t (bw_5 (List.mem_of_getElem? (i := 101) rfl)) rfl
theorem we_X6_count : Cond.selects yX6_count.cls yX6_count yX6_count ∈ BW := bw_t (bw_5 (List.mem_of_getElem? (i := 102) rfl)) rfl
theorem wo_X6_drawn : Cond.code yX6_drawn cX6_drawn 7 (some .int) ∈ BW := bw_t (bw_5 (List.mem_of_getElem? (i := 48) rfl)) rfl
theorem wv_X6_drawn : Cond.instanceMethod yX6_drawn ∈ BW := bw_t (bw_5 (List.mem_of_getElem? (i := 46) rfl)) rfl
theorem we_X6_drawn : Cond.selects yX6_drawn.cls yX6_drawn yX6_drawn ∈ BW := bw_t (bw_5 (List.mem_of_getElem? (i := 47) rfl)) rfl
theorem wo_X6_drop : Cond.code yX6_drop cX6_drop 2 (some .int) ∈ BW := bw_t (bw_4 (List.mem_of_getElem? (i := 67) rfl)) rfl
theorem wv_X6_drop : Cond.instanceMethod yX6_drop ∈ BW := bw_t (bw_4 (List.mem_of_getElem? (i := 65) rfl)) rfl
theorem we_X6_drop : Cond.selects yX6_drop.cls yX6_drop yX6_drop ∈ BW := bw_t (bw_4 (List.mem_of_getElem? (i := 66) rfl)) rfl
theorem wo_X6_failed : Cond.code yX6_failed cX6_failed 1 (some .boolean) ∈ BW := bw_t (bw_4 (List.mem_of_getElem? (i := 129) rfl)) rfl
theorem wv_X6_failed : Cond.instanceMethod yX6_failed ∈ BW := bw_t (bw_4 (List.mem_of_getElem? (i := 128) rfl)) rfl
theorem we_X6_failed : Cond.selects yX6_failed.cls yX6_failed yX6_failed ∈ BW := bw_s (n := 26) (List.mem_append_right _ (List.mem_append_right _ (List.mem_append_left _ (List.mem_of_getElem? (i := 0) rfl)))) rfl
theorem wo_X6_far : Cond.code yX6_far cX6_far 3 (some .int) ∈ BW := bw_t (bw_4 (List.mem_of_getElem? (i := 210) rfl)) rfl
theorem wv_X6_far : Cond.instanceMethod yX6_far ∈ BW := bw_t (bw_4 (List.mem_of_getElem? (i := 208) rfl)) rfl
theorem we_X6_far : Cond.selects yX6_far.cls yX6_far yX6_far ∈ BW := bw_t (bw_4 (List.mem_of_getElem? (i := 209) rfl)) rfl
theorem wo_X6_farBy : Cond.code yX6_farBy cX6_farBy 3 (some .int) ∈ BW := bw_t (bw_4 (List.mem_of_getElem? (i := 160) rfl)) rfl
theorem wv_X6_farBy : Cond.instanceMethod yX6_farBy ∈ BW := bw_t (bw_4 (List.mem_of_getElem? (i := 159) rfl)) rfl
theorem we_X6_farBy : Cond.selects yX6_farBy.cls yX6_farBy yX6_farBy ∈ BW := bw_s (n := 26) (List.mem_append_right _ (List.mem_append_right _ (List.mem_append_left _ (List.mem_of_getElem? (i := 6) rfl)))) rfl
theorem wo_X6_fault : Cond.code yX6_fault cX6_fault 1 (some .int) ∈ BW := bw_t (bw_4 (List.mem_of_getElem? (i := 77) rfl)) rfl
theorem wv_X6_fault : Cond.instanceMethod yX6_fault ∈ BW := bw_t (bw_4 (List.mem_of_getElem? (i := 75) rfl)) rfl
theorem we_X6_fault : Cond.selects yX6_fault.cls yX6_fault yX6_fault ∈ BW := bw_t (bw_4 (List.mem_of_getElem? (i := 76) rfl)) rfl
theorem wo_X6_feed : Cond.code yX6_feed cX6_feed 2 (some .int) ∈ BW := bw_t (bw_4 (List.mem_of_getElem? (i := 71) rfl)) rfl
theorem wv_X6_feed : Cond.instanceMethod yX6_feed ∈ BW := bw_t (bw_4 (List.mem_of_getElem? (i := 69) rfl)) rfl
theorem we_X6_feed : Cond.selects yX6_feed.cls yX6_feed yX6_feed ∈ BW := bw_t (bw_4 (List.mem_of_getElem? (i := 70) rfl)) rfl
theorem wo_X6_fewest : Cond.code yX6_fewest cX6_fewest 7 (some .int) ∈ BW := bw_t (bw_4 (List.mem_of_getElem? (i := 239) rfl)) rfl
theorem wv_X6_fewest : Cond.instanceMethod yX6_fewest ∈ BW := bw_t (bw_4 (List.mem_of_getElem? (i := 237) rfl)) rfl
theorem we_X6_fewest : Cond.selects yX6_fewest.cls yX6_fewest yX6_fewest ∈ BW := bw_t (bw_4 (List.mem_of_getElem? (i := 238) rfl)) rfl
theorem wo_X6_finding : Cond.code yX6_finding cX6_finding 2 (some .int) ∈ BW := bw_t (bw_4 (List.mem_of_getElem? (i := 54) rfl)) rfl
theorem wv_X6_finding : Cond.instanceMethod yX6_finding ∈ BW := bw_t (bw_4 (List.mem_of_getElem? (i := 53) rfl)) rfl
theorem we_X6_finding : Cond.selects yX6_finding.cls yX6_finding yX6_finding ∈ BW := bw_s (n := 26) (List.mem_append_right _ (List.mem_append_left _ (List.mem_of_getElem? (i := 6) rfl))) rfl
theorem wo_X6_goesTo : Cond.code yX6_goesTo cX6_goesTo 5 (some .int) ∈ BW := bw_t (bw_4 (List.mem_of_getElem? (i := 177) rfl)) rfl
theorem wv_X6_goesTo : Cond.instanceMethod yX6_goesTo ∈ BW := bw_t (bw_4 (List.mem_of_getElem? (i := 176) rfl)) rfl
theorem we_X6_goesTo : Cond.selects yX6_goesTo.cls yX6_goesTo yX6_goesTo ∈ BW := bw_s (n := 26) (List.mem_append_right _ (List.mem_append_right _ (List.mem_append_left _ (List.mem_of_getElem? (i := 8) rfl)))) rfl
theorem wo_X6_half : Cond.code yX6_half cX6_half 4 (some .int) ∈ BW := bw_t (bw_5 (List.mem_of_getElem? (i := 37) rfl)) rfl
theorem wv_X6_half : Cond.instanceMethod yX6_half ∈ BW := bw_t (bw_5 (List.mem_of_getElem? (i := 35) rfl)) rfl
theorem we_X6_half : Cond.selects yX6_half.cls yX6_half yX6_half ∈ BW := bw_t (bw_5 (List.mem_of_getElem? (i := 36) rfl)) rfl
theorem wo_X6_hard : Cond.code yX6_hard cX6_hard 4 (some .int) ∈ BW := bw_t (bw_5 (List.mem_of_getElem? (i := 6) rfl)) rfl
theorem wv_X6_hard : Cond.instanceMethod yX6_hard ∈ BW := bw_t (bw_5 (List.mem_of_getElem? (i := 4) rfl)) rfl
theorem we_X6_hard : Cond.selects yX6_hard.cls yX6_hard yX6_hard ∈ BW := bw_t (bw_5 (List.mem_of_getElem? (i := 5) rfl)) rfl
theorem wo_X6_hour : Cond.code yX6_hour cX6_hour 7 none ∈ BW := bw_t (bw_4 (List.mem_of_getElem? (i := 152) rfl)) rfl
theorem wv_X6_hour : Cond.instanceMethod yX6_hour ∈ BW := bw_t (bw_4 (List.mem_of_getElem? (i := 151) rfl)) rfl
theorem we_X6_hour : Cond.selects yX6_hour.cls yX6_hour yX6_hour ∈ BW := bw_s (n := 26) (List.mem_append_right _ (List.mem_append_right _ (List.mem_append_left _ (List.mem_of_getElem? (i := 4) rfl)))) rfl
theorem wo_X6_hours : Cond.code yX6_hours cX6_hours 3 (some .int) ∈ BW := bw_t (bw_4 (List.mem_of_getElem? (i := 138) rfl)) rfl
theorem wv_X6_hours : Cond.instanceMethod yX6_hours ∈ BW := bw_t (bw_4 (List.mem_of_getElem? (i := 136) rfl)) rfl
theorem we_X6_hours : Cond.selects yX6_hours.cls yX6_hours yX6_hours ∈ BW := bw_t (bw_4 (List.mem_of_getElem? (i := 137) rfl)) rfl
theorem wo_X6_hoursOf : Cond.code yX6_hoursOf cX6_hoursOf 4 none ∈ BW := bw_t (bw_4 (List.mem_of_getElem? (i := 227) rfl)) rfl
theorem wv_X6_hoursOf : Cond.instanceMethod yX6_hoursOf ∈ BW := bw_t (bw_4 (List.mem_of_getElem? (i := 226) rfl)) rfl
theorem we_X6_hoursOf : Cond.selects yX6_hoursOf.cls yX6_hoursOf yX6_hoursOf ∈ BW := bw_s (n := 26) (List.mem_append_right _ (List.mem_append_right _ (List.mem_append_left _ (List.mem_of_getElem? (i := 13) rfl)))) rfl
theorem wo_X6_image : Cond.code yX6_image cX6_image 3 (some .int) ∈ BW := bw_t (bw_5 (List.mem_of_getElem? (i := 55) rfl)) rfl
theorem wv_X6_image : Cond.instanceMethod yX6_image ∈ BW := bw_t (bw_5 (List.mem_of_getElem? (i := 53) rfl)) rfl
theorem we_X6_image : Cond.selects yX6_image.cls yX6_image yX6_image ∈ BW := bw_t (bw_5 (List.mem_of_getElem? (i := 54) rfl)) rfl
theorem wo_X6_in : Cond.code yX6_in cX6_in 6 (some .boolean) ∈ BW := bw_t (bw_4 (List.mem_of_getElem? (i := 48) rfl)) rfl
theorem wt_X6_in : Cond.static yX6_in ∈ BW := bw_t (bw_4 (List.mem_of_getElem? (i := 47) rfl)) rfl
theorem wo_X6_isLetter : Cond.code yX6_isLetter cX6_isLetter 2 (some .boolean) ∈ BW := bw_t (bw_4 (List.mem_of_getElem? (i := 98) rfl)) rfl
theorem wv_X6_isLetter : Cond.instanceMethod yX6_isLetter ∈ BW := bw_t (bw_4 (List.mem_of_getElem? (i := 97) rfl)) rfl
theorem we_X6_isLetter : Cond.selects yX6_isLetter.cls yX6_isLetter yX6_isLetter ∈ BW := bw_s (n := 26) (List.mem_append_right _ (List.mem_append_left _ (List.mem_of_getElem? (i := 9) rfl))) rfl
theorem wo_X6_isOf : Cond.code yX6_isOf cX6_isOf 2 (some .boolean) ∈ BW := bw_t (bw_5 (List.mem_of_getElem? (i := 71) rfl)) rfl
theorem wt_X6_isOf : Cond.static yX6_isOf ∈ BW := bw_t (bw_5 (List.mem_of_getElem? (i := 70) rfl)) rfl
theorem wo_X6_isPlace : Cond.code yX6_isPlace cX6_isPlace 2 (some .boolean) ∈ BW := bw_t (bw_4 (List.mem_of_getElem? (i := 189) rfl)) rfl
theorem wv_X6_isPlace : Cond.instanceMethod yX6_isPlace ∈ BW := bw_t (bw_4 (List.mem_of_getElem? (i := 188) rfl)) rfl
theorem we_X6_isPlace : Cond.selects yX6_isPlace.cls yX6_isPlace yX6_isPlace ∈ BW := bw_s (n := 26) (List.mem_append_right _ (List.mem_append_right _ (List.mem_append_left _ (List.mem_of_getElem? (i := 10) rfl)))) rfl
theorem wo_X6_isRow : Cond.code yX6_isRow cX6_isRow 1 (some .boolean) ∈ BW := bw_t (bw_4 (List.mem_of_getElem? (i := 44) rfl)) rfl
theorem wt_X6_isRow : Cond.static yX6_isRow ∈ BW := bw_t (bw_4 (List.mem_of_getElem? (i := 43) rfl)) rfl
theorem wo_X6_isThere : Cond.code yX6_isThere cX6_isThere 1 (some .boolean) ∈ BW := bw_t (bw_4 (List.mem_of_getElem? (i := 142) rfl)) rfl
theorem wv_X6_isThere : Cond.instanceMethod yX6_isThere ∈ BW := bw_t (bw_4 (List.mem_of_getElem? (i := 141) rfl)) rfl
theorem we_X6_isThere : Cond.selects yX6_isThere.cls yX6_isThere yX6_isThere ∈ BW := bw_s (n := 26) (List.mem_append_right _ (List.mem_append_right _ (List.mem_append_left _ (List.mem_of_getElem? (i := 2) rfl)))) rfl
theorem wo_X6_isWisher : Cond.code yX6_isWisher cX6_isWisher 2 (some .boolean) ∈ BW := bw_t (bw_4 (List.mem_of_getElem? (i := 185) rfl)) rfl
theorem wv_X6_isWisher : Cond.instanceMethod yX6_isWisher ∈ BW := bw_t (bw_4 (List.mem_of_getElem? (i := 184) rfl)) rfl
theorem we_X6_isWisher : Cond.selects yX6_isWisher.cls yX6_isWisher yX6_isWisher ∈ BW := bw_s (n := 26) (List.mem_append_right _ (List.mem_append_right _ (List.mem_append_left _ (List.mem_of_getElem? (i := 9) rfl)))) rfl
theorem wo_X6_keep : Cond.code yX6_keep cX6_keep 2 none ∈ BW := bw_t (bw_4 (List.mem_of_getElem? (i := 148) rfl)) rfl
theorem wv_X6_keep : Cond.instanceMethod yX6_keep ∈ BW := bw_t (bw_4 (List.mem_of_getElem? (i := 147) rfl)) rfl
theorem we_X6_keep : Cond.selects yX6_keep.cls yX6_keep yX6_keep ∈ BW := bw_s (n := 26) (List.mem_append_right _ (List.mem_append_right _ (List.mem_append_left _ (List.mem_of_getElem? (i := 3) rfl)))) rfl
theorem wo_X6_kind : Cond.code yX6_kind cX6_kind 2 (some .int) ∈ BW := bw_t (bw_5 (List.mem_of_getElem? (i := 63) rfl)) rfl
theorem wv_X6_kind : Cond.instanceMethod yX6_kind ∈ BW := bw_t (bw_5 (List.mem_of_getElem? (i := 61) rfl)) rfl
theorem we_X6_kind : Cond.selects yX6_kind.cls yX6_kind yX6_kind ∈ BW := bw_t (bw_5 (List.mem_of_getElem? (i := 62) rfl)) rfl
theorem wo_X6_kindBy : Cond.code yX6_kindBy cX6_kindBy 1 (some .int) ∈ BW := bw_t (bw_4 (List.mem_of_getElem? (i := 121) rfl)) rfl
theorem wt_X6_kindBy : Cond.static yX6_kindBy ∈ BW := bw_t (bw_4 (List.mem_of_getElem? (i := 120) rfl)) rfl
theorem wo_X6_land : Cond.code yX6_land cX6_land 2 (some .int) ∈ BW := bw_t (bw_4 (List.mem_of_getElem? (i := 81) rfl)) rfl
theorem wv_X6_land : Cond.instanceMethod yX6_land ∈ BW := bw_t (bw_4 (List.mem_of_getElem? (i := 79) rfl)) rfl
theorem we_X6_land : Cond.selects yX6_land.cls yX6_land yX6_land ∈ BW := bw_t (bw_4 (List.mem_of_getElem? (i := 80) rfl)) rfl
theorem wo_X6_layFar : Cond.code yX6_layFar cX6_layFar 6 none ∈ BW := bw_t (bw_4 (List.mem_of_getElem? (i := 134) rfl)) rfl
theorem wv_X6_layFar : Cond.instanceMethod yX6_layFar ∈ BW := bw_t (bw_4 (List.mem_of_getElem? (i := 133) rfl)) rfl
theorem we_X6_layFar : Cond.selects yX6_layFar.cls yX6_layFar yX6_layFar ∈ BW := bw_s (n := 26) (List.mem_append_right _ (List.mem_append_right _ (List.mem_append_left _ (List.mem_of_getElem? (i := 1) rfl)))) rfl
theorem wo_X6_layPulls : Cond.code yX6_layPulls cX6_layPulls 6 none ∈ BW := bw_t (bw_4 (List.mem_of_getElem? (i := 156) rfl)) rfl
theorem wv_X6_layPulls : Cond.instanceMethod yX6_layPulls ∈ BW := bw_t (bw_4 (List.mem_of_getElem? (i := 155) rfl)) rfl
theorem we_X6_layPulls : Cond.selects yX6_layPulls.cls yX6_layPulls yX6_layPulls ∈ BW := bw_s (n := 26) (List.mem_append_right _ (List.mem_append_right _ (List.mem_append_left _ (List.mem_of_getElem? (i := 5) rfl)))) rfl
theorem wo_X6_layThen : Cond.code yX6_layThen cX6_layThen 2 none ∈ BW := bw_t (bw_4 (List.mem_of_getElem? (i := 219) rfl)) rfl
theorem wv_X6_layThen : Cond.instanceMethod yX6_layThen ∈ BW := bw_t (bw_4 (List.mem_of_getElem? (i := 218) rfl)) rfl
theorem we_X6_layThen : Cond.selects yX6_layThen.cls yX6_layThen yX6_layThen ∈ BW := bw_s (n := 26) (List.mem_append_right _ (List.mem_append_right _ (List.mem_append_left _ (List.mem_of_getElem? (i := 11) rfl)))) rfl
theorem wo_X6_markOf : Cond.code yX6_markOf cX6_markOf 4 (some .int) ∈ BW := bw_t (bw_5 (List.mem_of_getElem? (i := 95) rfl)) rfl
theorem wv_X6_markOf : Cond.instanceMethod yX6_markOf ∈ BW := bw_t (bw_5 (List.mem_of_getElem? (i := 94) rfl)) rfl
theorem we_X6_markOf : Cond.selects yX6_markOf.cls yX6_markOf yX6_markOf ∈ BW := bw_s (n := 26) (List.mem_append_right _ (List.mem_append_right _ (List.mem_append_right _ (List.mem_of_getElem? (i := 4) rfl)))) rfl
theorem wo_X6_must : Cond.code yX6_must cX6_must 2 none ∈ BW := bw_t (bw_4 (List.mem_of_getElem? (i := 102) rfl)) rfl
theorem wv_X6_must : Cond.instanceMethod yX6_must ∈ BW := bw_t (bw_4 (List.mem_of_getElem? (i := 101) rfl)) rfl
theorem we_X6_must : Cond.selects yX6_must.cls yX6_must yX6_must ∈ BW := bw_s (n := 26) (List.mem_append_right _ (List.mem_append_left _ (List.mem_of_getElem? (i := 10) rfl))) rfl
theorem wo_X6_mustSign : Cond.code yX6_mustSign cX6_mustSign 2 none ∈ BW := bw_t (bw_4 (List.mem_of_getElem? (i := 114) rfl)) rfl
theorem wv_X6_mustSign : Cond.instanceMethod yX6_mustSign ∈ BW := bw_t (bw_4 (List.mem_of_getElem? (i := 113) rfl)) rfl
theorem we_X6_mustSign : Cond.selects yX6_mustSign.cls yX6_mustSign yX6_mustSign ∈ BW := bw_s (n := 26) (List.mem_append_right _ (List.mem_append_left _ (List.mem_of_getElem? (i := 13) rfl))) rfl
theorem wo_X6_nextToken : Cond.code yX6_nextToken cX6_nextToken 1 none ∈ BW := bw_t (bw_4 (List.mem_of_getElem? (i := 89) rfl)) rfl
theorem wv_X6_nextToken : Cond.instanceMethod yX6_nextToken ∈ BW := bw_t (bw_4 (List.mem_of_getElem? (i := 88) rfl)) rfl
theorem we_X6_nextToken : Cond.selects yX6_nextToken.cls yX6_nextToken yX6_nextToken ∈ BW := bw_s (n := 26) (List.mem_append_right _ (List.mem_append_left _ (List.mem_of_getElem? (i := 8) rfl))) rfl
theorem wo_X6_number : Cond.code yX6_number cX6_number 4 (some .int) ∈ BW := bw_t (bw_4 (List.mem_of_getElem? (i := 110) rfl)) rfl
theorem wv_X6_number : Cond.instanceMethod yX6_number ∈ BW := bw_t (bw_4 (List.mem_of_getElem? (i := 109) rfl)) rfl
theorem we_X6_number : Cond.selects yX6_number.cls yX6_number yX6_number ∈ BW := bw_s (n := 26) (List.mem_append_right _ (List.mem_append_left _ (List.mem_of_getElem? (i := 12) rfl))) rfl
theorem wo_X6_of : Cond.code yX6_of cX6_of 3 (some .int) ∈ BW := bw_t (bw_4 (List.mem_of_getElem? (i := 166) rfl)) rfl
theorem wt_X6_of : Cond.static yX6_of ∈ BW := bw_t (bw_4 (List.mem_of_getElem? (i := 165) rfl)) rfl
theorem wo_X6_place : Cond.code yX6_place cX6_place 3 (some .int) ∈ BW := bw_t (bw_4 (List.mem_of_getElem? (i := 206) rfl)) rfl
theorem wv_X6_place : Cond.instanceMethod yX6_place ∈ BW := bw_t (bw_4 (List.mem_of_getElem? (i := 204) rfl)) rfl
theorem we_X6_place : Cond.selects yX6_place.cls yX6_place yX6_place ∈ BW := bw_t (bw_4 (List.mem_of_getElem? (i := 205) rfl)) rfl
theorem wo_X6_plainSize : Cond.code yX6_plainSize cX6_plainSize 2 (some .int) ∈ BW := bw_t (bw_5 (List.mem_of_getElem? (i := 91) rfl)) rfl
theorem wv_X6_plainSize : Cond.instanceMethod yX6_plainSize ∈ BW := bw_t (bw_5 (List.mem_of_getElem? (i := 90) rfl)) rfl
theorem we_X6_plainSize : Cond.selects yX6_plainSize.cls yX6_plainSize yX6_plainSize ∈ BW := bw_s (n := 26) (List.mem_append_right _ (List.mem_append_right _ (List.mem_append_right _ (List.mem_of_getElem? (i := 3) rfl)))) rfl
theorem wo_X6_readRoad : Cond.code yX6_readRoad cX6_readRoad 3 none ∈ BW := bw_t (bw_4 (List.mem_of_getElem? (i := 118) rfl)) rfl
theorem wv_X6_readRoad : Cond.instanceMethod yX6_readRoad ∈ BW := bw_t (bw_4 (List.mem_of_getElem? (i := 117) rfl)) rfl
theorem we_X6_readRoad : Cond.selects yX6_readRoad.cls yX6_readRoad yX6_readRoad ∈ BW := bw_s (n := 26) (List.mem_append_right _ (List.mem_append_left _ (List.mem_of_getElem? (i := 14) rfl))) rfl
theorem wo_X6_readWisher : Cond.code yX6_readWisher cX6_readWisher 8 none ∈ BW := bw_t (bw_4 (List.mem_of_getElem? (i := 125) rfl)) rfl
theorem wv_X6_readWisher : Cond.instanceMethod yX6_readWisher ∈ BW := bw_t (bw_4 (List.mem_of_getElem? (i := 124) rfl)) rfl
theorem we_X6_readWisher : Cond.selects yX6_readWisher.cls yX6_readWisher yX6_readWisher ∈ BW := bw_s (n := 26) (List.mem_append_right _ (List.mem_append_left _ (List.mem_of_getElem? (i := 15) rfl))) rfl
theorem wo_X6_rest : Cond.code yX6_rest cX6_rest 5 (some .int) ∈ BW := bw_t (bw_4 (List.mem_of_getElem? (i := 194) rfl)) rfl
theorem wv_X6_rest : Cond.instanceMethod yX6_rest ∈ BW := bw_t (bw_4 (List.mem_of_getElem? (i := 192) rfl)) rfl
theorem we_X6_rest : Cond.selects yX6_rest.cls yX6_rest yX6_rest ∈ BW := bw_t (bw_4 (List.mem_of_getElem? (i := 193) rfl)) rfl
theorem wo_X6_restore : Cond.code yX6_restore cX6_restore 3 (some .int) ∈ BW := bw_t (bw_5 (List.mem_of_getElem? (i := 59) rfl)) rfl
theorem wv_X6_restore : Cond.instanceMethod yX6_restore ∈ BW := bw_t (bw_5 (List.mem_of_getElem? (i := 57) rfl)) rfl
theorem we_X6_restore : Cond.selects yX6_restore.cls yX6_restore yX6_restore ∈ BW := bw_t (bw_5 (List.mem_of_getElem? (i := 58) rfl)) rfl
theorem wo_X6_round : Cond.code yX6_round cX6_round 4 (some .int) ∈ BW := bw_t (bw_5 (List.mem_of_getElem? (i := 27) rfl)) rfl
theorem wv_X6_round : Cond.instanceMethod yX6_round ∈ BW := bw_t (bw_5 (List.mem_of_getElem? (i := 25) rfl)) rfl
theorem we_X6_round : Cond.selects yX6_round.cls yX6_round yX6_round ∈ BW := bw_t (bw_5 (List.mem_of_getElem? (i := 26) rfl)) rfl
theorem wo_X6_row : Cond.code yX6_row cX6_row 5 (some .int) ∈ BW := bw_t (bw_4 (List.mem_of_getElem? (i := 41) rfl)) rfl
theorem wv_X6_row : Cond.instanceMethod yX6_row ∈ BW := bw_t (bw_4 (List.mem_of_getElem? (i := 39) rfl)) rfl
theorem we_X6_row : Cond.selects yX6_row.cls yX6_row yX6_row ∈ BW := bw_t (bw_4 (List.mem_of_getElem? (i := 40) rfl)) rfl
theorem wo_X6_seen : Cond.code yX6_seen cX6_seen 9 (some .int) ∈ BW := bw_t (bw_5 (List.mem_of_getElem? (i := 14) rfl)) rfl
theorem wv_X6_seen : Cond.instanceMethod yX6_seen ∈ BW := bw_t (bw_5 (List.mem_of_getElem? (i := 12) rfl)) rfl
theorem we_X6_seen : Cond.selects yX6_seen.cls yX6_seen yX6_seen ∈ BW := bw_t (bw_5 (List.mem_of_getElem? (i := 13) rfl)) rfl
theorem wo_X6_set : Cond.code yX6_set cX6_set 4 (some .int) ∈ BW := bw_t (bw_4 (List.mem_of_getElem? (i := 59) rfl)) rfl
theorem wv_X6_set : Cond.instanceMethod yX6_set ∈ BW := bw_t (bw_4 (List.mem_of_getElem? (i := 57) rfl)) rfl
theorem we_X6_set : Cond.selects yX6_set.cls yX6_set yX6_set ∈ BW := bw_t (bw_4 (List.mem_of_getElem? (i := 58) rfl)) rfl
theorem wo_X6_sizeOf : Cond.code yX6_sizeOf cX6_sizeOf 4 (some .int) ∈ BW := bw_t (bw_5 (List.mem_of_getElem? (i := 79) rfl)) rfl
theorem wv_X6_sizeOf : Cond.instanceMethod yX6_sizeOf ∈ BW := bw_t (bw_5 (List.mem_of_getElem? (i := 78) rfl)) rfl
theorem we_X6_sizeOf : Cond.selects yX6_sizeOf.cls yX6_sizeOf yX6_sizeOf ∈ BW := bw_s (n := 26) (List.mem_append_right _ (List.mem_append_right _ (List.mem_append_right _ (List.mem_of_getElem? (i := 0) rfl)))) rfl
theorem wo_X6_soNow : Cond.code yX6_soNow cX6_soNow 4 (some .long) ∈ BW := bw_t (bw_5 (List.mem_of_getElem? (i := 31) rfl)) rfl
theorem wv_X6_soNow : Cond.instanceMethod yX6_soNow ∈ BW := bw_t (bw_5 (List.mem_of_getElem? (i := 30) rfl)) rfl
theorem we_X6_soNow : Cond.selects yX6_soNow.cls yX6_soNow yX6_soNow ∈ BW := bw_s (n := 26) (List.mem_append_right _ (List.mem_append_right _ (List.mem_append_left _ (List.mem_of_getElem? (i := 15) rfl)))) rfl
theorem wo_X6_status : Cond.code yX6_status cX6_status 1 (some .int) ∈ BW := bw_t (bw_5 (List.mem_of_getElem? (i := 107) rfl)) rfl
theorem wv_X6_status : Cond.instanceMethod yX6_status ∈ BW := bw_t (bw_5 (List.mem_of_getElem? (i := 105) rfl)) rfl
theorem we_X6_status : Cond.selects yX6_status.cls yX6_status yX6_status ∈ BW := bw_t (bw_5 (List.mem_of_getElem? (i := 106) rfl)) rfl
theorem wo_X6_stolen : Cond.code yX6_stolen cX6_stolen 7 (some .int) ∈ BW := bw_t (bw_5 (List.mem_of_getElem? (i := 10) rfl)) rfl
theorem wv_X6_stolen : Cond.instanceMethod yX6_stolen ∈ BW := bw_t (bw_5 (List.mem_of_getElem? (i := 8) rfl)) rfl
theorem we_X6_stolen : Cond.selects yX6_stolen.cls yX6_stolen yX6_stolen ∈ BW := bw_t (bw_5 (List.mem_of_getElem? (i := 9) rfl)) rfl
theorem wo_X6_trace : Cond.code yX6_trace cX6_trace 2 (some .int) ∈ BW := bw_t (bw_5 (List.mem_of_getElem? (i := 99) rfl)) rfl
theorem wv_X6_trace : Cond.instanceMethod yX6_trace ∈ BW := bw_t (bw_5 (List.mem_of_getElem? (i := 97) rfl)) rfl
theorem we_X6_trace : Cond.selects yX6_trace.cls yX6_trace yX6_trace ∈ BW := bw_t (bw_5 (List.mem_of_getElem? (i := 98) rfl)) rfl
theorem wo_X6_undo : Cond.code yX6_undo cX6_undo 2 (some .int) ∈ BW := bw_t (bw_4 (List.mem_of_getElem? (i := 198) rfl)) rfl
theorem wv_X6_undo : Cond.instanceMethod yX6_undo ∈ BW := bw_t (bw_4 (List.mem_of_getElem? (i := 196) rfl)) rfl
theorem we_X6_undo : Cond.selects yX6_undo.cls yX6_undo yX6_undo ∈ BW := bw_t (bw_4 (List.mem_of_getElem? (i := 197) rfl)) rfl
theorem wo_X6_visits : Cond.code yX6_visits cX6_visits 4 (some .int) ∈ BW := bw_t (bw_4 (List.mem_of_getElem? (i := 235) rfl)) rfl
theorem wv_X6_visits : Cond.instanceMethod yX6_visits ∈ BW := bw_t (bw_4 (List.mem_of_getElem? (i := 233) rfl)) rfl
theorem we_X6_visits : Cond.selects yX6_visits.cls yX6_visits yX6_visits ∈ BW := bw_t (bw_4 (List.mem_of_getElem? (i := 234) rfl)) rfl
theorem wo_X6_who : Cond.code yX6_who cX6_who 7 (some .int) ∈ BW := bw_t (bw_5 (List.mem_of_getElem? (i := 23) rfl)) rfl
theorem wv_X6_who : Cond.instanceMethod yX6_who ∈ BW := bw_t (bw_5 (List.mem_of_getElem? (i := 21) rfl)) rfl
theorem we_X6_who : Cond.selects yX6_who.cls yX6_who yX6_who ∈ BW := bw_t (bw_5 (List.mem_of_getElem? (i := 22) rfl)) rfl
theorem wo_X6_wish : Cond.code yX6_wish cX6_wish 5 (some .int) ∈ BW := bw_t (bw_4 (List.mem_of_getElem? (i := 181) rfl)) rfl
theorem wv_X6_wish : Cond.instanceMethod yX6_wish ∈ BW := bw_t (bw_4 (List.mem_of_getElem? (i := 179) rfl)) rfl
theorem we_X6_wish : Cond.selects yX6_wish.cls yX6_wish yX6_wish ∈ BW := bw_t (bw_4 (List.mem_of_getElem? (i := 180) rfl)) rfl
theorem wo_X6_wishBy : Cond.code yX6_wishBy cX6_wishBy 6 (some .int) ∈ BW := bw_t (bw_4 (List.mem_of_getElem? (i := 170) rfl)) rfl
theorem wv_X6_wishBy : Cond.instanceMethod yX6_wishBy ∈ BW := bw_t (bw_4 (List.mem_of_getElem? (i := 169) rfl)) rfl
theorem we_X6_wishBy : Cond.selects yX6_wishBy.cls yX6_wishBy yX6_wishBy ∈ BW := bw_s (n := 26) (List.mem_append_right _ (List.mem_append_right _ (List.mem_append_left _ (List.mem_of_getElem? (i := 7) rfl)))) rfl
theorem wo_X6_wisher : Cond.code yX6_wisher cX6_wisher 3 (some .int) ∈ BW := bw_t (bw_4 (List.mem_of_getElem? (i := 202) rfl)) rfl
theorem wv_X6_wisher : Cond.instanceMethod yX6_wisher ∈ BW := bw_t (bw_4 (List.mem_of_getElem? (i := 200) rfl)) rfl
theorem we_X6_wisher : Cond.selects yX6_wisher.cls yX6_wisher yX6_wisher ∈ BW := bw_t (bw_4 (List.mem_of_getElem? (i := 201) rfl)) rfl
theorem wo_X6_wishes : Cond.code yX6_wishes cX6_wishes 2 (some .boolean) ∈ BW := bw_t (bw_4 (List.mem_of_getElem? (i := 163) rfl)) rfl
theorem wt_X6_wishes : Cond.static yX6_wishes ∈ BW := bw_t (bw_4 (List.mem_of_getElem? (i := 162) rfl)) rfl
theorem wo_J6_bitCount_0f7a4 : Cond.code yJ6_bitCount_0f7a4 cJ6_bitCount_0f7a4 1 (some .int) ∈ BW := bw_t (bw_2 (List.mem_of_getElem? (i := 235) rfl)) rfl
theorem wt_J6_bitCount_0f7a4 : Cond.static yJ6_bitCount_0f7a4 ∈ BW := bw_t (bw_2 (List.mem_of_getElem? (i := 234) rfl)) rfl
theorem wo_mmax : Cond.code Lib.Math.max.name Lib.Math.max.code 2 (some .int) ∈ BW := bw_t (bw_2 (List.mem_of_getElem? (i := 206) rfl)) rfl
theorem wt_mmax : Cond.static Lib.Math.max.name ∈ BW := bw_t (bw_2 (List.mem_of_getElem? (i := 205) rfl)) rfl
theorem wo_mmin : Cond.code Lib.Math.min.name Lib.Math.min.code 2 (some .int) ∈ BW := bw_t (bw_2 (List.mem_of_getElem? (i := 143) rfl)) rfl
theorem wt_mmin : Cond.static Lib.Math.min.name ∈ BW := bw_t (bw_2 (List.mem_of_getElem? (i := 142) rfl)) rfl
theorem wo_objinit : Cond.code objectInit ⟨#[0xb1]⟩ 1 none ∈ BW := bw_t (bw_1 (List.mem_of_getElem? (i := 18) rfl)) rfl
theorem wv_objinit : Cond.instanceMethod objectInit ∈ BW := bw_t (bw_1 (List.mem_of_getElem? (i := 17) rfl)) rfl
theorem wt_acopy : Cond.static arraycopyName ∈ BW := bw_t (bw_2 (List.mem_of_getElem? (i := 49) rfl)) rfl
theorem wt_acopyN : Cond.native arraycopyName ∈ BW := bw_t (bw_2 (List.mem_of_getElem? (i := 50) rfl)) rfl
theorem nw_X5_18 : Cond.methodLinkNest RX5 18 yX4_init "BlueHue" ∈ tables_1 := bw_1 (List.mem_of_getElem? (i := 43) rfl)
theorem nw_X5_25 : Cond.methodLinkNest RX5 25 yX1_init "BlueHue" ∈ tables_1 := bw_1 (List.mem_of_getElem? (i := 70) rfl)
theorem nw_X5_32 : Cond.methodLinkNest RX5 32 yX0_init "BlueHue" ∈ tables_1 := bw_1 (List.mem_of_getElem? (i := 123) rfl)
theorem nw_X0_60 : Cond.methodLinkNest RX0 60 yX5_bit "BlueHue" ∈ tables_1 := bw_2 (List.mem_of_getElem? (i := 199) rfl)
theorem nw_X1_49 : Cond.methodLinkNest RX1 49 yX5_bit "BlueHue" ∈ tables_1 := bw_2 (List.mem_of_getElem? (i := 123) rfl)
theorem nw_X2_17 : Cond.methodLinkNest RX2 17 yX0_init "BlueHue" ∈ tables_1 := bw_1 (List.mem_of_getElem? (i := 180) rfl)
theorem nw_X4_32 : Cond.methodLinkNest RX4 32 yX5_within "BlueHue" ∈ tables_1 := bw_2 (List.mem_of_getElem? (i := 104) rfl)
theorem no_I : Cond.arrayOver (.array .int) ∈ tables_1 := bw_1 (List.mem_of_getElem? (i := 26) rfl)
theorem no_X0 : Cond.arrayOver (.object RX0) ∈ tables_1 := bw_1 (List.mem_of_getElem? (i := 179) rfl)
theorem no_X1 : Cond.arrayOver (.object RX1) ∈ tables_1 := bw_1 (List.mem_of_getElem? (i := 192) rfl)
end
section
theorem dX0_init_0 : decode cX0_init 0 = .ok (.aload_n 0, 1) := by decide +kernel
theorem dX0_init_1 : decode cX0_init 1 = .ok (.invokespecial 3, 3) := by decide +kernel
theorem dX0_init_4 : decode cX0_init 4 = .ok (.aload_n 0, 1) := by decide +kernel
theorem dX0_init_5 : decode cX0_init 5 = .ok (.bipush 6, 2) := by decide +kernel
theorem dX0_init_7 : decode cX0_init 7 = .ok (.newarray .int, 2) := by decide +kernel
theorem dX0_init_9 : decode cX0_init 9 = .ok (.putfield 9, 3) := by decide +kernel
theorem dX0_init_12 : decode cX0_init 12 = .ok (.aload_n 0, 1) := by decide +kernel
theorem dX0_init_13 : decode cX0_init 13 = .ok (.bipush 6, 2) := by decide +kernel
theorem dX0_init_15 : decode cX0_init 15 = .ok (.newarray .int, 2) := by decide +kernel
theorem dX0_init_17 : decode cX0_init 17 = .ok (.putfield 15, 3) := by decide +kernel
theorem dX0_init_20 : decode cX0_init 20 = .ok (.aload_n 0, 1) := by decide +kernel
theorem dX0_init_21 : decode cX0_init 21 = .ok (.bipush 6, 2) := by decide +kernel
theorem dX0_init_23 : decode cX0_init 23 = .ok (.newarray .int, 2) := by decide +kernel
theorem dX0_init_25 : decode cX0_init 25 = .ok (.putfield 18, 3) := by decide +kernel
theorem dX0_init_28 : decode cX0_init 28 = .ok (.aload_n 0, 1) := by decide +kernel
theorem dX0_init_29 : decode cX0_init 29 = .ok (.bipush 6, 2) := by decide +kernel
theorem dX0_init_31 : decode cX0_init 31 = .ok (.newarray .int, 2) := by decide +kernel
theorem dX0_init_33 : decode cX0_init 33 = .ok (.putfield 21, 3) := by decide +kernel
theorem dX0_init_36 : decode cX0_init 36 = .ok (.aload_n 0, 1) := by decide +kernel
theorem dX0_init_37 : decode cX0_init 37 = .ok (.bipush 6, 2) := by decide +kernel
theorem dX0_init_39 : decode cX0_init 39 = .ok (.newarray .int, 2) := by decide +kernel
theorem dX0_init_41 : decode cX0_init 41 = .ok (.putfield 24, 3) := by decide +kernel
theorem dX0_init_44 : decode cX0_init 44 = .ok (.return_, 1) := by decide +kernel
theorem dX0_begin_0 : decode cX0_begin 0 = .ok (.aload_n 0, 1) := by decide +kernel
theorem dX0_begin_1 : decode cX0_begin 1 = .ok (.iconst 0, 1) := by decide +kernel
theorem dX0_begin_2 : decode cX0_begin 2 = .ok (.putfield 27, 3) := by decide +kernel
theorem dX0_begin_5 : decode cX0_begin 5 = .ok (.aload_n 0, 1) := by decide +kernel
theorem dX0_begin_6 : decode cX0_begin 6 = .ok (.iload_n 1, 1) := by decide +kernel
theorem dX0_begin_7 : decode cX0_begin 7 = .ok (.putfield 31, 3) := by decide +kernel
theorem dX0_begin_10 : decode cX0_begin 10 = .ok (.aload_n 0, 1) := by decide +kernel
theorem dX0_begin_11 : decode cX0_begin 11 = .ok (.iconst 0, 1) := by decide +kernel
theorem dX0_begin_12 : decode cX0_begin 12 = .ok (.putfield 34, 3) := by decide +kernel
theorem dX0_begin_15 : decode cX0_begin 15 = .ok (.aload_n 0, 1) := by decide +kernel
theorem dX0_begin_16 : decode cX0_begin 16 = .ok (.iconst 0, 1) := by decide +kernel
theorem dX0_begin_17 : decode cX0_begin 17 = .ok (.putfield 37, 3) := by decide +kernel
theorem dX0_begin_20 : decode cX0_begin 20 = .ok (.aload_n 0, 1) := by decide +kernel
theorem dX0_begin_21 : decode cX0_begin 21 = .ok (.iconst 0, 1) := by decide +kernel
theorem dX0_begin_22 : decode cX0_begin 22 = .ok (.putfield 40, 3) := by decide +kernel
theorem dX0_begin_25 : decode cX0_begin 25 = .ok (.aload_n 0, 1) := by decide +kernel
theorem dX0_begin_26 : decode cX0_begin 26 = .ok (.iconst 0, 1) := by decide +kernel
theorem dX0_begin_27 : decode cX0_begin 27 = .ok (.putfield 43, 3) := by decide +kernel
theorem dX0_begin_30 : decode cX0_begin 30 = .ok (.iconst 0, 1) := by decide +kernel
theorem dX0_begin_31 : decode cX0_begin 31 = .ok (.istore_n 2, 1) := by decide +kernel
theorem dX0_begin_32 : decode cX0_begin 32 = .ok (.iload_n 2, 1) := by decide +kernel
theorem dX0_begin_33 : decode cX0_begin 33 = .ok (.bipush 6, 2) := by decide +kernel
theorem dX0_begin_35 : decode cX0_begin 35 = .ok (.if_icmp .ge 37, 3) := by decide +kernel
theorem dX0_begin_38 : decode cX0_begin 38 = .ok (.aload_n 0, 1) := by decide +kernel
theorem dX0_begin_39 : decode cX0_begin 39 = .ok (.getfield 9, 3) := by decide +kernel
theorem dX0_begin_42 : decode cX0_begin 42 = .ok (.iload_n 2, 1) := by decide +kernel
theorem dX0_begin_43 : decode cX0_begin 43 = .ok (.iconst 0, 1) := by decide +kernel
theorem dX0_begin_44 : decode cX0_begin 44 = .ok (.iastore, 1) := by decide +kernel
theorem dX0_begin_45 : decode cX0_begin 45 = .ok (.aload_n 0, 1) := by decide +kernel
theorem dX0_begin_46 : decode cX0_begin 46 = .ok (.getfield 15, 3) := by decide +kernel
theorem dX0_begin_49 : decode cX0_begin 49 = .ok (.iload_n 2, 1) := by decide +kernel
theorem dX0_begin_50 : decode cX0_begin 50 = .ok (.iconst 0, 1) := by decide +kernel
theorem dX0_begin_51 : decode cX0_begin 51 = .ok (.iastore, 1) := by decide +kernel
theorem dX0_begin_52 : decode cX0_begin 52 = .ok (.aload_n 0, 1) := by decide +kernel
theorem dX0_begin_53 : decode cX0_begin 53 = .ok (.getfield 18, 3) := by decide +kernel
theorem dX0_begin_56 : decode cX0_begin 56 = .ok (.iload_n 2, 1) := by decide +kernel
theorem dX0_begin_57 : decode cX0_begin 57 = .ok (.iconst 0, 1) := by decide +kernel
theorem dX0_begin_58 : decode cX0_begin 58 = .ok (.iastore, 1) := by decide +kernel
theorem dX0_begin_59 : decode cX0_begin 59 = .ok (.aload_n 0, 1) := by decide +kernel
theorem dX0_begin_60 : decode cX0_begin 60 = .ok (.getfield 21, 3) := by decide +kernel
theorem dX0_begin_63 : decode cX0_begin 63 = .ok (.iload_n 2, 1) := by decide +kernel
theorem dX0_begin_64 : decode cX0_begin 64 = .ok (.iconst 0, 1) := by decide +kernel
theorem dX0_begin_65 : decode cX0_begin 65 = .ok (.iastore, 1) := by decide +kernel
theorem dX0_begin_66 : decode cX0_begin 66 = .ok (.iinc 2 1, 3) := by decide +kernel
theorem dX0_begin_69 : decode cX0_begin 69 = .ok (.goto (-37), 3) := by decide +kernel
theorem dX0_begin_72 : decode cX0_begin 72 = .ok (.return_, 1) := by decide +kernel
theorem dX0_take_0 : decode cX0_take 0 = .ok (.aload_n 0, 1) := by decide +kernel
theorem dX0_take_1 : decode cX0_take 1 = .ok (.aload_n 1, 1) := by decide +kernel
theorem dX0_take_2 : decode cX0_take 2 = .ok (.getfield 27, 3) := by decide +kernel
theorem dX0_take_5 : decode cX0_take 5 = .ok (.putfield 27, 3) := by decide +kernel
theorem dX0_take_8 : decode cX0_take 8 = .ok (.aload_n 0, 1) := by decide +kernel
theorem dX0_take_9 : decode cX0_take 9 = .ok (.aload_n 1, 1) := by decide +kernel
theorem dX0_take_10 : decode cX0_take 10 = .ok (.getfield 31, 3) := by decide +kernel
theorem dX0_take_13 : decode cX0_take 13 = .ok (.putfield 31, 3) := by decide +kernel
theorem dX0_take_16 : decode cX0_take 16 = .ok (.aload_n 0, 1) := by decide +kernel
theorem dX0_take_17 : decode cX0_take 17 = .ok (.aload_n 1, 1) := by decide +kernel
theorem dX0_take_18 : decode cX0_take 18 = .ok (.getfield 34, 3) := by decide +kernel
theorem dX0_take_21 : decode cX0_take 21 = .ok (.putfield 34, 3) := by decide +kernel
theorem dX0_take_24 : decode cX0_take 24 = .ok (.aload_n 0, 1) := by decide +kernel
theorem dX0_take_25 : decode cX0_take 25 = .ok (.aload_n 1, 1) := by decide +kernel
theorem dX0_take_26 : decode cX0_take 26 = .ok (.getfield 37, 3) := by decide +kernel
theorem dX0_take_29 : decode cX0_take 29 = .ok (.putfield 37, 3) := by decide +kernel
theorem dX0_take_32 : decode cX0_take 32 = .ok (.aload_n 0, 1) := by decide +kernel
theorem dX0_take_33 : decode cX0_take 33 = .ok (.aload_n 1, 1) := by decide +kernel
theorem dX0_take_34 : decode cX0_take 34 = .ok (.getfield 40, 3) := by decide +kernel
theorem dX0_take_37 : decode cX0_take 37 = .ok (.putfield 40, 3) := by decide +kernel
theorem dX0_take_40 : decode cX0_take 40 = .ok (.aload_n 0, 1) := by decide +kernel
theorem dX0_take_41 : decode cX0_take 41 = .ok (.aload_n 1, 1) := by decide +kernel
theorem dX0_take_42 : decode cX0_take 42 = .ok (.getfield 43, 3) := by decide +kernel
theorem dX0_take_45 : decode cX0_take 45 = .ok (.putfield 43, 3) := by decide +kernel
theorem dX0_take_48 : decode cX0_take 48 = .ok (.aload_n 1, 1) := by decide +kernel
theorem dX0_take_49 : decode cX0_take 49 = .ok (.getfield 9, 3) := by decide +kernel
theorem dX0_take_52 : decode cX0_take 52 = .ok (.iconst 0, 1) := by decide +kernel
theorem dX0_take_53 : decode cX0_take 53 = .ok (.aload_n 0, 1) := by decide +kernel
theorem dX0_take_54 : decode cX0_take 54 = .ok (.getfield 9, 3) := by decide +kernel
theorem dX0_take_57 : decode cX0_take 57 = .ok (.iconst 0, 1) := by decide +kernel
theorem dX0_take_58 : decode cX0_take 58 = .ok (.bipush 6, 2) := by decide +kernel
theorem dX0_take_60 : decode cX0_take 60 = .ok (.invokestatic 46, 3) := by decide +kernel
theorem dX0_take_63 : decode cX0_take 63 = .ok (.aload_n 1, 1) := by decide +kernel
theorem dX0_take_64 : decode cX0_take 64 = .ok (.getfield 15, 3) := by decide +kernel
theorem dX0_take_67 : decode cX0_take 67 = .ok (.iconst 0, 1) := by decide +kernel
theorem dX0_take_68 : decode cX0_take 68 = .ok (.aload_n 0, 1) := by decide +kernel
theorem dX0_take_69 : decode cX0_take 69 = .ok (.getfield 15, 3) := by decide +kernel
theorem dX0_take_72 : decode cX0_take 72 = .ok (.iconst 0, 1) := by decide +kernel
theorem dX0_take_73 : decode cX0_take 73 = .ok (.bipush 6, 2) := by decide +kernel
theorem dX0_take_75 : decode cX0_take 75 = .ok (.invokestatic 46, 3) := by decide +kernel
theorem dX0_take_78 : decode cX0_take 78 = .ok (.aload_n 1, 1) := by decide +kernel
theorem dX0_take_79 : decode cX0_take 79 = .ok (.getfield 18, 3) := by decide +kernel
theorem dX0_take_82 : decode cX0_take 82 = .ok (.iconst 0, 1) := by decide +kernel
theorem dX0_take_83 : decode cX0_take 83 = .ok (.aload_n 0, 1) := by decide +kernel
theorem dX0_take_84 : decode cX0_take 84 = .ok (.getfield 18, 3) := by decide +kernel
theorem dX0_take_87 : decode cX0_take 87 = .ok (.iconst 0, 1) := by decide +kernel
theorem dX0_take_88 : decode cX0_take 88 = .ok (.bipush 6, 2) := by decide +kernel
theorem dX0_take_90 : decode cX0_take 90 = .ok (.invokestatic 46, 3) := by decide +kernel
theorem dX0_take_93 : decode cX0_take 93 = .ok (.aload_n 1, 1) := by decide +kernel
theorem dX0_take_94 : decode cX0_take 94 = .ok (.getfield 21, 3) := by decide +kernel
theorem dX0_take_97 : decode cX0_take 97 = .ok (.iconst 0, 1) := by decide +kernel
theorem dX0_take_98 : decode cX0_take 98 = .ok (.aload_n 0, 1) := by decide +kernel
theorem dX0_take_99 : decode cX0_take 99 = .ok (.getfield 21, 3) := by decide +kernel
theorem dX0_take_102 : decode cX0_take 102 = .ok (.iconst 0, 1) := by decide +kernel
theorem dX0_take_103 : decode cX0_take 103 = .ok (.bipush 6, 2) := by decide +kernel
theorem dX0_take_105 : decode cX0_take 105 = .ok (.invokestatic 46, 3) := by decide +kernel
theorem dX0_take_108 : decode cX0_take 108 = .ok (.return_, 1) := by decide +kernel
theorem dX0_become_0 : decode cX0_become 0 = .ok (.aload_n 0, 1) := by decide +kernel
theorem dX0_become_1 : decode cX0_become 1 = .ok (.getfield 9, 3) := by decide +kernel
theorem dX0_become_4 : decode cX0_become 4 = .ok (.iload_n 1, 1) := by decide +kernel
theorem dX0_become_5 : decode cX0_become 5 = .ok (.iload_n 2, 1) := by decide +kernel
theorem dX0_become_6 : decode cX0_become 6 = .ok (.iastore, 1) := by decide +kernel
theorem dX0_become_7 : decode cX0_become 7 = .ok (.iload_n 2, 1) := by decide +kernel
theorem dX0_become_8 : decode cX0_become 8 = .ok (.iconst 2, 1) := by decide +kernel
theorem dX0_become_9 : decode cX0_become 9 = .ok (.if_icmp .ne 10, 3) := by decide +kernel
theorem dX0_become_12 : decode cX0_become 12 = .ok (.aload_n 0, 1) := by decide +kernel
theorem dX0_become_13 : decode cX0_become 13 = .ok (.getfield 21, 3) := by decide +kernel
theorem dX0_become_16 : decode cX0_become 16 = .ok (.iload_n 1, 1) := by decide +kernel
theorem dX0_become_17 : decode cX0_become 17 = .ok (.iconst 0, 1) := by decide +kernel
theorem dX0_become_18 : decode cX0_become 18 = .ok (.iastore, 1) := by decide +kernel
theorem dX0_become_19 : decode cX0_become 19 = .ok (.return_, 1) := by decide +kernel
theorem dX0_wishes_0 : decode cX0_wishes 0 = .ok (.aload_n 0, 1) := by decide +kernel
theorem dX0_wishes_1 : decode cX0_wishes 1 = .ok (.getfield 27, 3) := by decide +kernel
theorem dX0_wishes_4 : decode cX0_wishes 4 = .ok (.bipush 6, 2) := by decide +kernel
theorem dX0_wishes_6 : decode cX0_wishes 6 = .ok (.iadd, 1) := by decide +kernel
theorem dX0_wishes_7 : decode cX0_wishes 7 = .ok (.aload_n 1, 1) := by decide +kernel
theorem dX0_wishes_8 : decode cX0_wishes 8 = .ok (.getfield 52, 3) := by decide +kernel
theorem dX0_wishes_11 : decode cX0_wishes 11 = .ok (.iload_n 2, 1) := by decide +kernel
theorem dX0_wishes_12 : decode cX0_wishes 12 = .ok (.iaload, 1) := by decide +kernel
theorem dX0_wishes_13 : decode cX0_wishes 13 = .ok (.isub, 1) := by decide +kernel
theorem dX0_wishes_14 : decode cX0_wishes 14 = .ok (.bipush 6, 2) := by decide +kernel
theorem dX0_wishes_16 : decode cX0_wishes 16 = .ok (.irem, 1) := by decide +kernel
theorem dX0_wishes_17 : decode cX0_wishes 17 = .ok (.istore_n 3, 1) := by decide +kernel
theorem dX0_wishes_18 : decode cX0_wishes 18 = .ok (.iload_n 3, 1) := by decide +kernel
theorem dX0_wishes_19 : decode cX0_wishes 19 = .ok (.aload_n 1, 1) := by decide +kernel
theorem dX0_wishes_20 : decode cX0_wishes 20 = .ok (.getfield 57, 3) := by decide +kernel
theorem dX0_wishes_23 : decode cX0_wishes 23 = .ok (.iload_n 2, 1) := by decide +kernel
theorem dX0_wishes_24 : decode cX0_wishes 24 = .ok (.iaload, 1) := by decide +kernel
theorem dX0_wishes_25 : decode cX0_wishes 25 = .ok (.if_icmp .ge 18, 3) := by decide +kernel
theorem dX0_wishes_28 : decode cX0_wishes 28 = .ok (.aload_n 0, 1) := by decide +kernel
theorem dX0_wishes_29 : decode cX0_wishes 29 = .ok (.getfield 43, 3) := by decide +kernel
theorem dX0_wishes_32 : decode cX0_wishes 32 = .ok (.iload_n 2, 1) := by decide +kernel
theorem dX0_wishes_33 : decode cX0_wishes 33 = .ok (.invokestatic 60, 3) := by decide +kernel
theorem dX0_wishes_36 : decode cX0_wishes 36 = .ok (.ifCond .ne 7, 3) := by decide +kernel
theorem dX0_wishes_39 : decode cX0_wishes 39 = .ok (.iconst 1, 1) := by decide +kernel
theorem dX0_wishes_40 : decode cX0_wishes 40 = .ok (.goto 4, 3) := by decide +kernel
theorem dX0_wishes_43 : decode cX0_wishes 43 = .ok (.iconst 0, 1) := by decide +kernel
theorem dX0_wishes_44 : decode cX0_wishes 44 = .ok (.ireturn, 1) := by decide +kernel
theorem dX0_wishing_0 : decode cX0_wishing 0 = .ok (.iconst 0, 1) := by decide +kernel
theorem dX0_wishing_1 : decode cX0_wishing 1 = .ok (.istore_n 2, 1) := by decide +kernel
theorem dX0_wishing_2 : decode cX0_wishing 2 = .ok (.iconst 0, 1) := by decide +kernel
theorem dX0_wishing_3 : decode cX0_wishing 3 = .ok (.istore_n 3, 1) := by decide +kernel
theorem dX0_wishing_4 : decode cX0_wishing 4 = .ok (.iload_n 3, 1) := by decide +kernel
theorem dX0_wishing_5 : decode cX0_wishing 5 = .ok (.aload_n 1, 1) := by decide +kernel
theorem dX0_wishing_6 : decode cX0_wishing 6 = .ok (.getfield 64, 3) := by decide +kernel
theorem dX0_wishing_9 : decode cX0_wishing 9 = .ok (.if_icmp .ge 24, 3) := by decide +kernel
theorem dX0_wishing_12 : decode cX0_wishing 12 = .ok (.aload_n 0, 1) := by decide +kernel
theorem dX0_wishing_13 : decode cX0_wishing 13 = .ok (.aload_n 1, 1) := by decide +kernel
theorem dX0_wishing_14 : decode cX0_wishing 14 = .ok (.iload_n 3, 1) := by decide +kernel
theorem dX0_wishing_15 : decode cX0_wishing 15 = .ok (.invokevirtual 67, 3) := by decide +kernel
theorem dX0_wishing_18 : decode cX0_wishing 18 = .ok (.ifCond .eq 9, 3) := by decide +kernel
theorem dX0_wishing_21 : decode cX0_wishing 21 = .ok (.iload_n 2, 1) := by decide +kernel
theorem dX0_wishing_22 : decode cX0_wishing 22 = .ok (.iconst 1, 1) := by decide +kernel
theorem dX0_wishing_23 : decode cX0_wishing 23 = .ok (.iload_n 3, 1) := by decide +kernel
theorem dX0_wishing_24 : decode cX0_wishing 24 = .ok (.ishl, 1) := by decide +kernel
theorem dX0_wishing_25 : decode cX0_wishing 25 = .ok (.ior, 1) := by decide +kernel
theorem dX0_wishing_26 : decode cX0_wishing 26 = .ok (.istore_n 2, 1) := by decide +kernel
theorem dX0_wishing_27 : decode cX0_wishing 27 = .ok (.iinc 3 1, 3) := by decide +kernel
theorem dX0_wishing_30 : decode cX0_wishing 30 = .ok (.goto (-26), 3) := by decide +kernel
theorem dX0_wishing_33 : decode cX0_wishing 33 = .ok (.iload_n 2, 1) := by decide +kernel
theorem dX0_wishing_34 : decode cX0_wishing 34 = .ok (.ireturn, 1) := by decide +kernel
theorem dX0_force_0 : decode cX0_force 0 = .ok (.iconst 0, 1) := by decide +kernel
theorem dX0_force_1 : decode cX0_force 1 = .ok (.aload_n 0, 1) := by decide +kernel
theorem dX0_force_2 : decode cX0_force 2 = .ok (.getfield 18, 3) := by decide +kernel
theorem dX0_force_5 : decode cX0_force 5 = .ok (.iload_n 2, 1) := by decide +kernel
theorem dX0_force_6 : decode cX0_force 6 = .ok (.iaload, 1) := by decide +kernel
theorem dX0_force_7 : decode cX0_force 7 = .ok (.aload_n 0, 1) := by decide +kernel
theorem dX0_force_8 : decode cX0_force 8 = .ok (.getfield 21, 3) := by decide +kernel
theorem dX0_force_11 : decode cX0_force 11 = .ok (.iload_n 2, 1) := by decide +kernel
theorem dX0_force_12 : decode cX0_force 12 = .ok (.iaload, 1) := by decide +kernel
theorem dX0_force_13 : decode cX0_force 13 = .ok (.isub, 1) := by decide +kernel
theorem dX0_force_14 : decode cX0_force 14 = .ok (.invokestatic 71, 3) := by decide +kernel
theorem dX0_force_17 : decode cX0_force 17 = .ok (.istore_n 3, 1) := by decide +kernel
theorem dX0_force_18 : decode cX0_force 18 = .ok (.iconst 0, 1) := by decide +kernel
theorem dX0_force_19 : decode cX0_force 19 = .ok (.aload_n 0, 1) := by decide +kernel
theorem dX0_force_20 : decode cX0_force 20 = .ok (.getfield 18, 3) := by decide +kernel
theorem dX0_force_23 : decode cX0_force 23 = .ok (.iload_n 2, 1) := by decide +kernel
theorem dX0_force_24 : decode cX0_force 24 = .ok (.iaload, 1) := by decide +kernel
theorem dX0_force_25 : decode cX0_force 25 = .ok (.aload_n 1, 1) := by decide +kernel
theorem dX0_force_26 : decode cX0_force 26 = .ok (.aload_n 1, 1) := by decide +kernel
theorem dX0_force_27 : decode cX0_force 27 = .ok (.getfield 76, 3) := by decide +kernel
theorem dX0_force_30 : decode cX0_force 30 = .ok (.iload_n 2, 1) := by decide +kernel
theorem dX0_force_31 : decode cX0_force 31 = .ok (.iaload, 1) := by decide +kernel
theorem dX0_force_32 : decode cX0_force 32 = .ok (.aload_n 0, 1) := by decide +kernel
theorem dX0_force_33 : decode cX0_force 33 = .ok (.getfield 15, 3) := by decide +kernel
theorem dX0_force_36 : decode cX0_force 36 = .ok (.iload_n 2, 1) := by decide +kernel
theorem dX0_force_37 : decode cX0_force 37 = .ok (.iaload, 1) := by decide +kernel
theorem dX0_force_38 : decode cX0_force 38 = .ok (.invokevirtual 79, 3) := by decide +kernel
theorem dX0_force_41 : decode cX0_force 41 = .ok (.isub, 1) := by decide +kernel
theorem dX0_force_42 : decode cX0_force 42 = .ok (.aload_n 0, 1) := by decide +kernel
theorem dX0_force_43 : decode cX0_force 43 = .ok (.getfield 21, 3) := by decide +kernel
theorem dX0_force_46 : decode cX0_force 46 = .ok (.iload_n 2, 1) := by decide +kernel
theorem dX0_force_47 : decode cX0_force 47 = .ok (.iaload, 1) := by decide +kernel
theorem dX0_force_48 : decode cX0_force 48 = .ok (.isub, 1) := by decide +kernel
theorem dX0_force_49 : decode cX0_force 49 = .ok (.invokestatic 71, 3) := by decide +kernel
theorem dX0_force_52 : decode cX0_force 52 = .ok (.istore 4, 2) := by decide +kernel
theorem dX0_force_54 : decode cX0_force 54 = .ok (.aload_n 0, 1) := by decide +kernel
theorem dX0_force_55 : decode cX0_force 55 = .ok (.getfield 9, 3) := by decide +kernel
theorem dX0_force_58 : decode cX0_force 58 = .ok (.iload_n 2, 1) := by decide +kernel
theorem dX0_force_59 : decode cX0_force 59 = .ok (.iaload, 1) := by decide +kernel
theorem dX0_force_60 : decode cX0_force 60 = .ok (.tableswitch 63 3 5 #[28, 48, 50], 28) := by decide +kernel
theorem dX0_force_88 : decode cX0_force 88 = .ok (.aload_n 0, 1) := by decide +kernel
theorem dX0_force_89 : decode cX0_force 89 = .ok (.getfield 27, 3) := by decide +kernel
theorem dX0_force_92 : decode cX0_force 92 = .ok (.bipush 6, 2) := by decide +kernel
theorem dX0_force_94 : decode cX0_force 94 = .ok (.irem, 1) := by decide +kernel
theorem dX0_force_95 : decode cX0_force 95 = .ok (.iconst 4, 1) := by decide +kernel
theorem dX0_force_96 : decode cX0_force 96 = .ok (.if_icmp .lt 10, 3) := by decide +kernel
theorem dX0_force_99 : decode cX0_force 99 = .ok (.iconst 2, 1) := by decide +kernel
theorem dX0_force_100 : decode cX0_force 100 = .ok (.iload 4, 2) := by decide +kernel
theorem dX0_force_102 : decode cX0_force 102 = .ok (.imul, 1) := by decide +kernel
theorem dX0_force_103 : decode cX0_force 103 = .ok (.goto 4, 3) := by decide +kernel
theorem dX0_force_106 : decode cX0_force 106 = .ok (.iconst 0, 1) := by decide +kernel
theorem dX0_force_107 : decode cX0_force 107 = .ok (.ireturn, 1) := by decide +kernel
theorem dX0_force_108 : decode cX0_force 108 = .ok (.iload_n 3, 1) := by decide +kernel
theorem dX0_force_109 : decode cX0_force 109 = .ok (.ireturn, 1) := by decide +kernel
theorem dX0_force_110 : decode cX0_force 110 = .ok (.iload_n 3, 1) := by decide +kernel
theorem dX0_force_111 : decode cX0_force 111 = .ok (.iconst 2, 1) := by decide +kernel
theorem dX0_force_112 : decode cX0_force 112 = .ok (.aload_n 1, 1) := by decide +kernel
theorem dX0_force_113 : decode cX0_force 113 = .ok (.getfield 57, 3) := by decide +kernel
theorem dX0_force_116 : decode cX0_force 116 = .ok (.iload_n 2, 1) := by decide +kernel
theorem dX0_force_117 : decode cX0_force 117 = .ok (.iaload, 1) := by decide +kernel
theorem dX0_force_118 : decode cX0_force 118 = .ok (.iconst 1, 1) := by decide +kernel
theorem dX0_force_119 : decode cX0_force 119 = .ok (.isub, 1) := by decide +kernel
theorem dX0_force_120 : decode cX0_force 120 = .ok (.imul, 1) := by decide +kernel
theorem dX0_force_121 : decode cX0_force 121 = .ok (.iadd, 1) := by decide +kernel
theorem dX0_force_122 : decode cX0_force 122 = .ok (.ireturn, 1) := by decide +kernel
theorem dX0_force_123 : decode cX0_force 123 = .ok (.iload 4, 2) := by decide +kernel
theorem dX0_force_125 : decode cX0_force 125 = .ok (.ireturn, 1) := by decide +kernel
theorem dX0_weigh_0 : decode cX0_weigh 0 = .ok (.iconst 0, 1) := by decide +kernel
theorem dX0_weigh_1 : decode cX0_weigh 1 = .ok (.istore_n 2, 1) := by decide +kernel
theorem dX0_weigh_2 : decode cX0_weigh 2 = .ok (.iload_n 2, 1) := by decide +kernel
theorem dX0_weigh_3 : decode cX0_weigh 3 = .ok (.aload_n 1, 1) := by decide +kernel
theorem dX0_weigh_4 : decode cX0_weigh 4 = .ok (.getfield 82, 3) := by decide +kernel
theorem dX0_weigh_7 : decode cX0_weigh 7 = .ok (.if_icmp .ge 27, 3) := by decide +kernel
theorem dX0_weigh_10 : decode cX0_weigh 10 = .ok (.aload_n 0, 1) := by decide +kernel
theorem dX0_weigh_11 : decode cX0_weigh 11 = .ok (.getfield 24, 3) := by decide +kernel
theorem dX0_weigh_14 : decode cX0_weigh 14 = .ok (.iload_n 2, 1) := by decide +kernel
theorem dX0_weigh_15 : decode cX0_weigh 15 = .ok (.bipush (-2), 2) := by decide +kernel
theorem dX0_weigh_17 : decode cX0_weigh 17 = .ok (.aload_n 1, 1) := by decide +kernel
theorem dX0_weigh_18 : decode cX0_weigh 18 = .ok (.aload_n 0, 1) := by decide +kernel
theorem dX0_weigh_19 : decode cX0_weigh 19 = .ok (.getfield 31, 3) := by decide +kernel
theorem dX0_weigh_22 : decode cX0_weigh 22 = .ok (.iload_n 2, 1) := by decide +kernel
theorem dX0_weigh_23 : decode cX0_weigh 23 = .ok (.invokevirtual 79, 3) := by decide +kernel
theorem dX0_weigh_26 : decode cX0_weigh 26 = .ok (.imul, 1) := by decide +kernel
theorem dX0_weigh_27 : decode cX0_weigh 27 = .ok (.iastore, 1) := by decide +kernel
theorem dX0_weigh_28 : decode cX0_weigh 28 = .ok (.iinc 2 1, 3) := by decide +kernel
theorem dX0_weigh_31 : decode cX0_weigh 31 = .ok (.goto (-29), 3) := by decide +kernel
theorem dX0_weigh_34 : decode cX0_weigh 34 = .ok (.aload_n 0, 1) := by decide +kernel
theorem dX0_weigh_35 : decode cX0_weigh 35 = .ok (.getfield 24, 3) := by decide +kernel
theorem dX0_weigh_38 : decode cX0_weigh 38 = .ok (.aload_n 0, 1) := by decide +kernel
theorem dX0_weigh_39 : decode cX0_weigh 39 = .ok (.getfield 31, 3) := by decide +kernel
theorem dX0_weigh_42 : decode cX0_weigh 42 = .ok (.dup2, 1) := by decide +kernel
theorem dX0_weigh_43 : decode cX0_weigh 43 = .ok (.iaload, 1) := by decide +kernel
theorem dX0_weigh_44 : decode cX0_weigh 44 = .ok (.aload_n 1, 1) := by decide +kernel
theorem dX0_weigh_45 : decode cX0_weigh 45 = .ok (.getfield 85, 3) := by decide +kernel
theorem dX0_weigh_48 : decode cX0_weigh 48 = .ok (.iadd, 1) := by decide +kernel
theorem dX0_weigh_49 : decode cX0_weigh 49 = .ok (.iastore, 1) := by decide +kernel
theorem dX0_weigh_50 : decode cX0_weigh 50 = .ok (.iconst 0, 1) := by decide +kernel
theorem dX0_weigh_51 : decode cX0_weigh 51 = .ok (.istore_n 2, 1) := by decide +kernel
theorem dX0_weigh_52 : decode cX0_weigh 52 = .ok (.iload_n 2, 1) := by decide +kernel
theorem dX0_weigh_53 : decode cX0_weigh 53 = .ok (.aload_n 1, 1) := by decide +kernel
theorem dX0_weigh_54 : decode cX0_weigh 54 = .ok (.getfield 64, 3) := by decide +kernel
theorem dX0_weigh_57 : decode cX0_weigh 57 = .ok (.if_icmp .ge 38, 3) := by decide +kernel
theorem dX0_weigh_60 : decode cX0_weigh 60 = .ok (.aload_n 0, 1) := by decide +kernel
theorem dX0_weigh_61 : decode cX0_weigh 61 = .ok (.aload_n 1, 1) := by decide +kernel
theorem dX0_weigh_62 : decode cX0_weigh 62 = .ok (.iload_n 2, 1) := by decide +kernel
theorem dX0_weigh_63 : decode cX0_weigh 63 = .ok (.invokevirtual 67, 3) := by decide +kernel
theorem dX0_weigh_66 : decode cX0_weigh 66 = .ok (.ifCond .eq 23, 3) := by decide +kernel
theorem dX0_weigh_69 : decode cX0_weigh 69 = .ok (.aload_n 0, 1) := by decide +kernel
theorem dX0_weigh_70 : decode cX0_weigh 70 = .ok (.getfield 24, 3) := by decide +kernel
theorem dX0_weigh_73 : decode cX0_weigh 73 = .ok (.aload_n 0, 1) := by decide +kernel
theorem dX0_weigh_74 : decode cX0_weigh 74 = .ok (.getfield 15, 3) := by decide +kernel
theorem dX0_weigh_77 : decode cX0_weigh 77 = .ok (.iload_n 2, 1) := by decide +kernel
theorem dX0_weigh_78 : decode cX0_weigh 78 = .ok (.iaload, 1) := by decide +kernel
theorem dX0_weigh_79 : decode cX0_weigh 79 = .ok (.dup2, 1) := by decide +kernel
theorem dX0_weigh_80 : decode cX0_weigh 80 = .ok (.iaload, 1) := by decide +kernel
theorem dX0_weigh_81 : decode cX0_weigh 81 = .ok (.aload_n 0, 1) := by decide +kernel
theorem dX0_weigh_82 : decode cX0_weigh 82 = .ok (.aload_n 1, 1) := by decide +kernel
theorem dX0_weigh_83 : decode cX0_weigh 83 = .ok (.iload_n 2, 1) := by decide +kernel
theorem dX0_weigh_84 : decode cX0_weigh 84 = .ok (.invokevirtual 88, 3) := by decide +kernel
theorem dX0_weigh_87 : decode cX0_weigh 87 = .ok (.iadd, 1) := by decide +kernel
theorem dX0_weigh_88 : decode cX0_weigh 88 = .ok (.iastore, 1) := by decide +kernel
theorem dX0_weigh_89 : decode cX0_weigh 89 = .ok (.iinc 2 1, 3) := by decide +kernel
theorem dX0_weigh_92 : decode cX0_weigh 92 = .ok (.goto (-40), 3) := by decide +kernel
theorem dX0_weigh_95 : decode cX0_weigh 95 = .ok (.return_, 1) := by decide +kernel
theorem dX0_decide_0 : decode cX0_decide 0 = .ok (.aload_n 0, 1) := by decide +kernel
theorem dX0_decide_1 : decode cX0_decide 1 = .ok (.getfield 31, 3) := by decide +kernel
theorem dX0_decide_4 : decode cX0_decide 4 = .ok (.istore_n 2, 1) := by decide +kernel
theorem dX0_decide_5 : decode cX0_decide 5 = .ok (.iconst 0, 1) := by decide +kernel
theorem dX0_decide_6 : decode cX0_decide 6 = .ok (.istore_n 3, 1) := by decide +kernel
theorem dX0_decide_7 : decode cX0_decide 7 = .ok (.iconst 0, 1) := by decide +kernel
theorem dX0_decide_8 : decode cX0_decide 8 = .ok (.istore 4, 2) := by decide +kernel
theorem dX0_decide_10 : decode cX0_decide 10 = .ok (.iload 4, 2) := by decide +kernel
theorem dX0_decide_12 : decode cX0_decide 12 = .ok (.aload_n 1, 1) := by decide +kernel
theorem dX0_decide_13 : decode cX0_decide 13 = .ok (.getfield 82, 3) := by decide +kernel
theorem dX0_decide_16 : decode cX0_decide 16 = .ok (.if_icmp .ge 57, 3) := by decide +kernel
theorem dX0_decide_19 : decode cX0_decide 19 = .ok (.aload_n 0, 1) := by decide +kernel
theorem dX0_decide_20 : decode cX0_decide 20 = .ok (.getfield 24, 3) := by decide +kernel
theorem dX0_decide_23 : decode cX0_decide 23 = .ok (.iload 4, 2) := by decide +kernel
theorem dX0_decide_25 : decode cX0_decide 25 = .ok (.iaload, 1) := by decide +kernel
theorem dX0_decide_26 : decode cX0_decide 26 = .ok (.aload_n 0, 1) := by decide +kernel
theorem dX0_decide_27 : decode cX0_decide 27 = .ok (.getfield 24, 3) := by decide +kernel
theorem dX0_decide_30 : decode cX0_decide 30 = .ok (.iload_n 2, 1) := by decide +kernel
theorem dX0_decide_31 : decode cX0_decide 31 = .ok (.iaload, 1) := by decide +kernel
theorem dX0_decide_32 : decode cX0_decide 32 = .ok (.if_icmp .le 11, 3) := by decide +kernel
theorem dX0_decide_35 : decode cX0_decide 35 = .ok (.iload 4, 2) := by decide +kernel
theorem dX0_decide_37 : decode cX0_decide 37 = .ok (.istore_n 2, 1) := by decide +kernel
theorem dX0_decide_38 : decode cX0_decide 38 = .ok (.iconst 0, 1) := by decide +kernel
theorem dX0_decide_39 : decode cX0_decide 39 = .ok (.istore_n 3, 1) := by decide +kernel
theorem dX0_decide_40 : decode cX0_decide 40 = .ok (.goto 27, 3) := by decide +kernel
theorem dX0_decide_43 : decode cX0_decide 43 = .ok (.iload 4, 2) := by decide +kernel
theorem dX0_decide_45 : decode cX0_decide 45 = .ok (.iload_n 2, 1) := by decide +kernel
theorem dX0_decide_46 : decode cX0_decide 46 = .ok (.if_icmp .eq 21, 3) := by decide +kernel
theorem dX0_decide_49 : decode cX0_decide 49 = .ok (.aload_n 0, 1) := by decide +kernel
theorem dX0_decide_50 : decode cX0_decide 50 = .ok (.getfield 24, 3) := by decide +kernel
theorem dX0_decide_53 : decode cX0_decide 53 = .ok (.iload 4, 2) := by decide +kernel
theorem dX0_decide_55 : decode cX0_decide 55 = .ok (.iaload, 1) := by decide +kernel
theorem dX0_decide_56 : decode cX0_decide 56 = .ok (.aload_n 0, 1) := by decide +kernel
theorem dX0_decide_57 : decode cX0_decide 57 = .ok (.getfield 24, 3) := by decide +kernel
theorem dX0_decide_60 : decode cX0_decide 60 = .ok (.iload_n 2, 1) := by decide +kernel
theorem dX0_decide_61 : decode cX0_decide 61 = .ok (.iaload, 1) := by decide +kernel
theorem dX0_decide_62 : decode cX0_decide 62 = .ok (.if_icmp .ne 5, 3) := by decide +kernel
theorem dX0_decide_65 : decode cX0_decide 65 = .ok (.iconst 1, 1) := by decide +kernel
theorem dX0_decide_66 : decode cX0_decide 66 = .ok (.istore_n 3, 1) := by decide +kernel
theorem dX0_decide_67 : decode cX0_decide 67 = .ok (.iinc 4 1, 3) := by decide +kernel
theorem dX0_decide_70 : decode cX0_decide 70 = .ok (.goto (-60), 3) := by decide +kernel
theorem dX0_decide_73 : decode cX0_decide 73 = .ok (.iload_n 3, 1) := by decide +kernel
theorem dX0_decide_74 : decode cX0_decide 74 = .ok (.ifCond .eq 15, 3) := by decide +kernel
theorem dX0_decide_77 : decode cX0_decide 77 = .ok (.iload_n 2, 1) := by decide +kernel
theorem dX0_decide_78 : decode cX0_decide 78 = .ok (.aload_n 0, 1) := by decide +kernel
theorem dX0_decide_79 : decode cX0_decide 79 = .ok (.getfield 31, 3) := by decide +kernel
theorem dX0_decide_82 : decode cX0_decide 82 = .ok (.if_icmp .eq 7, 3) := by decide +kernel
theorem dX0_decide_85 : decode cX0_decide 85 = .ok (.iconst (-1), 1) := by decide +kernel
theorem dX0_decide_86 : decode cX0_decide 86 = .ok (.goto 4, 3) := by decide +kernel
theorem dX0_decide_89 : decode cX0_decide 89 = .ok (.iload_n 2, 1) := by decide +kernel
theorem dX0_decide_90 : decode cX0_decide 90 = .ok (.ireturn, 1) := by decide +kernel
theorem dX0_goesTo_0 : decode cX0_goesTo 0 = .ok (.aload_n 0, 1) := by decide +kernel
theorem dX0_goesTo_1 : decode cX0_goesTo 1 = .ok (.aload_n 1, 1) := by decide +kernel
theorem dX0_goesTo_2 : decode cX0_goesTo 2 = .ok (.invokevirtual 92, 3) := by decide +kernel
theorem dX0_goesTo_5 : decode cX0_goesTo 5 = .ok (.istore_n 2, 1) := by decide +kernel
theorem dX0_goesTo_6 : decode cX0_goesTo 6 = .ok (.iload_n 2, 1) := by decide +kernel
theorem dX0_goesTo_7 : decode cX0_goesTo 7 = .ok (.iconst (-1), 1) := by decide +kernel
theorem dX0_goesTo_8 : decode cX0_goesTo 8 = .ok (.if_icmp .ne 10, 3) := by decide +kernel
theorem dX0_goesTo_11 : decode cX0_goesTo 11 = .ok (.aload_n 0, 1) := by decide +kernel
theorem dX0_goesTo_12 : decode cX0_goesTo 12 = .ok (.getfield 31, 3) := by decide +kernel
theorem dX0_goesTo_15 : decode cX0_goesTo 15 = .ok (.goto 4, 3) := by decide +kernel
theorem dX0_goesTo_18 : decode cX0_goesTo 18 = .ok (.iload_n 2, 1) := by decide +kernel
theorem dX0_goesTo_19 : decode cX0_goesTo 19 = .ok (.ireturn, 1) := by decide +kernel
theorem dX0_pass_0 : decode cX0_pass 0 = .ok (.aload_n 0, 1) := by decide +kernel
theorem dX0_pass_1 : decode cX0_pass 1 = .ok (.aload_n 1, 1) := by decide +kernel
theorem dX0_pass_2 : decode cX0_pass 2 = .ok (.invokevirtual 96, 3) := by decide +kernel
theorem dX0_pass_5 : decode cX0_pass 5 = .ok (.aload_n 0, 1) := by decide +kernel
theorem dX0_pass_6 : decode cX0_pass 6 = .ok (.aload_n 1, 1) := by decide +kernel
theorem dX0_pass_7 : decode cX0_pass 7 = .ok (.invokevirtual 92, 3) := by decide +kernel
theorem dX0_pass_10 : decode cX0_pass 10 = .ok (.istore_n 2, 1) := by decide +kernel
theorem dX0_pass_11 : decode cX0_pass 11 = .ok (.iload_n 2, 1) := by decide +kernel
theorem dX0_pass_12 : decode cX0_pass 12 = .ok (.iconst (-1), 1) := by decide +kernel
theorem dX0_pass_13 : decode cX0_pass 13 = .ok (.if_icmp .ne 16, 3) := by decide +kernel
theorem dX0_pass_16 : decode cX0_pass 16 = .ok (.aload_n 0, 1) := by decide +kernel
theorem dX0_pass_17 : decode cX0_pass 17 = .ok (.dup, 1) := by decide +kernel
theorem dX0_pass_18 : decode cX0_pass 18 = .ok (.getfield 37, 3) := by decide +kernel
theorem dX0_pass_21 : decode cX0_pass 21 = .ok (.iconst 1, 1) := by decide +kernel
theorem dX0_pass_22 : decode cX0_pass 22 = .ok (.iadd, 1) := by decide +kernel
theorem dX0_pass_23 : decode cX0_pass 23 = .ok (.putfield 37, 3) := by decide +kernel
theorem dX0_pass_26 : decode cX0_pass 26 = .ok (.goto 47, 3) := by decide +kernel
theorem dX0_pass_29 : decode cX0_pass 29 = .ok (.iload_n 2, 1) := by decide +kernel
theorem dX0_pass_30 : decode cX0_pass 30 = .ok (.aload_n 0, 1) := by decide +kernel
theorem dX0_pass_31 : decode cX0_pass 31 = .ok (.getfield 31, 3) := by decide +kernel
theorem dX0_pass_34 : decode cX0_pass 34 = .ok (.if_icmp .eq 39, 3) := by decide +kernel
theorem dX0_pass_37 : decode cX0_pass 37 = .ok (.aload_n 0, 1) := by decide +kernel
theorem dX0_pass_38 : decode cX0_pass 38 = .ok (.aload_n 0, 1) := by decide +kernel
theorem dX0_pass_39 : decode cX0_pass 39 = .ok (.getfield 40, 3) := by decide +kernel
theorem dX0_pass_42 : decode cX0_pass 42 = .ok (.iconst 1, 1) := by decide +kernel
theorem dX0_pass_43 : decode cX0_pass 43 = .ok (.aload_n 0, 1) := by decide +kernel
theorem dX0_pass_44 : decode cX0_pass 44 = .ok (.getfield 31, 3) := by decide +kernel
theorem dX0_pass_47 : decode cX0_pass 47 = .ok (.ishl, 1) := by decide +kernel
theorem dX0_pass_48 : decode cX0_pass 48 = .ok (.ior, 1) := by decide +kernel
theorem dX0_pass_49 : decode cX0_pass 49 = .ok (.iconst 1, 1) := by decide +kernel
theorem dX0_pass_50 : decode cX0_pass 50 = .ok (.iload_n 2, 1) := by decide +kernel
theorem dX0_pass_51 : decode cX0_pass 51 = .ok (.ishl, 1) := by decide +kernel
theorem dX0_pass_52 : decode cX0_pass 52 = .ok (.iconst (-1), 1) := by decide +kernel
theorem dX0_pass_53 : decode cX0_pass 53 = .ok (.ixor, 1) := by decide +kernel
theorem dX0_pass_54 : decode cX0_pass 54 = .ok (.iand, 1) := by decide +kernel
theorem dX0_pass_55 : decode cX0_pass 55 = .ok (.putfield 40, 3) := by decide +kernel
theorem dX0_pass_58 : decode cX0_pass 58 = .ok (.aload_n 0, 1) := by decide +kernel
theorem dX0_pass_59 : decode cX0_pass 59 = .ok (.iload_n 2, 1) := by decide +kernel
theorem dX0_pass_60 : decode cX0_pass 60 = .ok (.putfield 31, 3) := by decide +kernel
theorem dX0_pass_63 : decode cX0_pass 63 = .ok (.aload_n 0, 1) := by decide +kernel
theorem dX0_pass_64 : decode cX0_pass 64 = .ok (.dup, 1) := by decide +kernel
theorem dX0_pass_65 : decode cX0_pass 65 = .ok (.getfield 34, 3) := by decide +kernel
theorem dX0_pass_68 : decode cX0_pass 68 = .ok (.iconst 1, 1) := by decide +kernel
theorem dX0_pass_69 : decode cX0_pass 69 = .ok (.iadd, 1) := by decide +kernel
theorem dX0_pass_70 : decode cX0_pass 70 = .ok (.putfield 34, 3) := by decide +kernel
theorem dX0_pass_73 : decode cX0_pass 73 = .ok (.aload_n 0, 1) := by decide +kernel
theorem dX0_pass_74 : decode cX0_pass 74 = .ok (.aload_n 1, 1) := by decide +kernel
theorem dX0_pass_75 : decode cX0_pass 75 = .ok (.invokevirtual 100, 3) := by decide +kernel
theorem dX0_pass_78 : decode cX0_pass 78 = .ok (.aload_n 0, 1) := by decide +kernel
theorem dX0_pass_79 : decode cX0_pass 79 = .ok (.dup, 1) := by decide +kernel
theorem dX0_pass_80 : decode cX0_pass 80 = .ok (.getfield 27, 3) := by decide +kernel
theorem dX0_pass_83 : decode cX0_pass 83 = .ok (.iconst 1, 1) := by decide +kernel
theorem dX0_pass_84 : decode cX0_pass 84 = .ok (.iadd, 1) := by decide +kernel
theorem dX0_pass_85 : decode cX0_pass 85 = .ok (.putfield 27, 3) := by decide +kernel
theorem dX0_pass_88 : decode cX0_pass 88 = .ok (.return_, 1) := by decide +kernel
theorem dX0_passMany_0 : decode cX0_passMany 0 = .ok (.iconst 0, 1) := by decide +kernel
theorem dX0_passMany_1 : decode cX0_passMany 1 = .ok (.istore_n 3, 1) := by decide +kernel
theorem dX0_passMany_2 : decode cX0_passMany 2 = .ok (.iload_n 3, 1) := by decide +kernel
theorem dX0_passMany_3 : decode cX0_passMany 3 = .ok (.iload_n 2, 1) := by decide +kernel
theorem dX0_passMany_4 : decode cX0_passMany 4 = .ok (.if_icmp .ge 14, 3) := by decide +kernel
theorem dX0_passMany_7 : decode cX0_passMany 7 = .ok (.aload_n 0, 1) := by decide +kernel
theorem dX0_passMany_8 : decode cX0_passMany 8 = .ok (.aload_n 1, 1) := by decide +kernel
theorem dX0_passMany_9 : decode cX0_passMany 9 = .ok (.invokevirtual 103, 3) := by decide +kernel
theorem dX0_passMany_12 : decode cX0_passMany 12 = .ok (.iinc 3 1, 3) := by decide +kernel
theorem dX0_passMany_15 : decode cX0_passMany 15 = .ok (.goto (-13), 3) := by decide +kernel
theorem dX0_passMany_18 : decode cX0_passMany 18 = .ok (.return_, 1) := by decide +kernel
theorem dX0_tire_0 : decode cX0_tire 0 = .ok (.iconst 0, 1) := by decide +kernel
theorem dX0_tire_1 : decode cX0_tire 1 = .ok (.istore_n 2, 1) := by decide +kernel
theorem dX0_tire_2 : decode cX0_tire 2 = .ok (.iload_n 2, 1) := by decide +kernel
theorem dX0_tire_3 : decode cX0_tire 3 = .ok (.aload_n 1, 1) := by decide +kernel
theorem dX0_tire_4 : decode cX0_tire 4 = .ok (.getfield 64, 3) := by decide +kernel
theorem dX0_tire_7 : decode cX0_tire 7 = .ok (.if_icmp .ge 81, 3) := by decide +kernel
theorem dX0_tire_10 : decode cX0_tire 10 = .ok (.aload_n 0, 1) := by decide +kernel
theorem dX0_tire_11 : decode cX0_tire 11 = .ok (.getfield 9, 3) := by decide +kernel
theorem dX0_tire_14 : decode cX0_tire 14 = .ok (.iload_n 2, 1) := by decide +kernel
theorem dX0_tire_15 : decode cX0_tire 15 = .ok (.iaload, 1) := by decide +kernel
theorem dX0_tire_16 : decode cX0_tire 16 = .ok (.iconst 2, 1) := by decide +kernel
theorem dX0_tire_17 : decode cX0_tire 17 = .ok (.if_icmp .ne 13, 3) := by decide +kernel
theorem dX0_tire_20 : decode cX0_tire 20 = .ok (.aload_n 0, 1) := by decide +kernel
theorem dX0_tire_21 : decode cX0_tire 21 = .ok (.getfield 21, 3) := by decide +kernel
theorem dX0_tire_24 : decode cX0_tire 24 = .ok (.iload_n 2, 1) := by decide +kernel
theorem dX0_tire_25 : decode cX0_tire 25 = .ok (.iconst 0, 1) := by decide +kernel
theorem dX0_tire_26 : decode cX0_tire 26 = .ok (.iastore, 1) := by decide +kernel
theorem dX0_tire_27 : decode cX0_tire 27 = .ok (.goto 55, 3) := by decide +kernel
theorem dX0_tire_30 : decode cX0_tire 30 = .ok (.aload_n 0, 1) := by decide +kernel
theorem dX0_tire_31 : decode cX0_tire 31 = .ok (.aload_n 1, 1) := by decide +kernel
theorem dX0_tire_32 : decode cX0_tire 32 = .ok (.iload_n 2, 1) := by decide +kernel
theorem dX0_tire_33 : decode cX0_tire 33 = .ok (.invokevirtual 67, 3) := by decide +kernel
theorem dX0_tire_36 : decode cX0_tire 36 = .ok (.ifCond .eq 28, 3) := by decide +kernel
theorem dX0_tire_39 : decode cX0_tire 39 = .ok (.aload_n 0, 1) := by decide +kernel
theorem dX0_tire_40 : decode cX0_tire 40 = .ok (.getfield 21, 3) := by decide +kernel
theorem dX0_tire_43 : decode cX0_tire 43 = .ok (.iload_n 2, 1) := by decide +kernel
theorem dX0_tire_44 : decode cX0_tire 44 = .ok (.bipush 20, 2) := by decide +kernel
theorem dX0_tire_46 : decode cX0_tire 46 = .ok (.aload_n 0, 1) := by decide +kernel
theorem dX0_tire_47 : decode cX0_tire 47 = .ok (.getfield 21, 3) := by decide +kernel
theorem dX0_tire_50 : decode cX0_tire 50 = .ok (.iload_n 2, 1) := by decide +kernel
theorem dX0_tire_51 : decode cX0_tire 51 = .ok (.iaload, 1) := by decide +kernel
theorem dX0_tire_52 : decode cX0_tire 52 = .ok (.aload_n 1, 1) := by decide +kernel
theorem dX0_tire_53 : decode cX0_tire 53 = .ok (.getfield 106, 3) := by decide +kernel
theorem dX0_tire_56 : decode cX0_tire 56 = .ok (.iadd, 1) := by decide +kernel
theorem dX0_tire_57 : decode cX0_tire 57 = .ok (.invokestatic 109, 3) := by decide +kernel
theorem dX0_tire_60 : decode cX0_tire 60 = .ok (.iastore, 1) := by decide +kernel
theorem dX0_tire_61 : decode cX0_tire 61 = .ok (.goto 21, 3) := by decide +kernel
theorem dX0_tire_64 : decode cX0_tire 64 = .ok (.aload_n 0, 1) := by decide +kernel
theorem dX0_tire_65 : decode cX0_tire 65 = .ok (.getfield 21, 3) := by decide +kernel
theorem dX0_tire_68 : decode cX0_tire 68 = .ok (.iload_n 2, 1) := by decide +kernel
theorem dX0_tire_69 : decode cX0_tire 69 = .ok (.iconst 0, 1) := by decide +kernel
theorem dX0_tire_70 : decode cX0_tire 70 = .ok (.aload_n 0, 1) := by decide +kernel
theorem dX0_tire_71 : decode cX0_tire 71 = .ok (.getfield 21, 3) := by decide +kernel
theorem dX0_tire_74 : decode cX0_tire 74 = .ok (.iload_n 2, 1) := by decide +kernel
theorem dX0_tire_75 : decode cX0_tire 75 = .ok (.iaload, 1) := by decide +kernel
theorem dX0_tire_76 : decode cX0_tire 76 = .ok (.iconst 1, 1) := by decide +kernel
theorem dX0_tire_77 : decode cX0_tire 77 = .ok (.isub, 1) := by decide +kernel
theorem dX0_tire_78 : decode cX0_tire 78 = .ok (.invokestatic 71, 3) := by decide +kernel
theorem dX0_tire_81 : decode cX0_tire 81 = .ok (.iastore, 1) := by decide +kernel
theorem dX0_tire_82 : decode cX0_tire 82 = .ok (.iinc 2 1, 3) := by decide +kernel
theorem dX0_tire_85 : decode cX0_tire 85 = .ok (.goto (-83), 3) := by decide +kernel
theorem dX0_tire_88 : decode cX0_tire 88 = .ok (.return_, 1) := by decide +kernel
theorem dX0_code_0 : decode cX0_code 0 = .ok (.bipush 6, 2) := by decide +kernel
theorem dX0_code_2 : decode cX0_code 2 = .ok (.aload_n 0, 1) := by decide +kernel
theorem dX0_code_3 : decode cX0_code 3 = .ok (.getfield 31, 3) := by decide +kernel
theorem dX0_code_6 : decode cX0_code 6 = .ok (.imul, 1) := by decide +kernel
theorem dX0_code_7 : decode cX0_code 7 = .ok (.aload_n 0, 1) := by decide +kernel
theorem dX0_code_8 : decode cX0_code 8 = .ok (.getfield 27, 3) := by decide +kernel
theorem dX0_code_11 : decode cX0_code 11 = .ok (.bipush 6, 2) := by decide +kernel
theorem dX0_code_13 : decode cX0_code 13 = .ok (.irem, 1) := by decide +kernel
theorem dX0_code_14 : decode cX0_code 14 = .ok (.iadd, 1) := by decide +kernel
theorem dX0_code_15 : decode cX0_code 15 = .ok (.i2l, 1) := by decide +kernel
theorem dX0_code_16 : decode cX0_code 16 = .ok (.lstore_n 1, 1) := by decide +kernel
theorem dX0_code_17 : decode cX0_code 17 = .ok (.iconst 0, 1) := by decide +kernel
theorem dX0_code_18 : decode cX0_code 18 = .ok (.istore_n 3, 1) := by decide +kernel
theorem dX0_code_19 : decode cX0_code 19 = .ok (.iload_n 3, 1) := by decide +kernel
theorem dX0_code_20 : decode cX0_code 20 = .ok (.bipush 6, 2) := by decide +kernel
theorem dX0_code_22 : decode cX0_code 22 = .ok (.if_icmp .ge 23, 3) := by decide +kernel
theorem dX0_code_25 : decode cX0_code 25 = .ok (.lload_n 1, 1) := by decide +kernel
theorem dX0_code_26 : decode cX0_code 26 = .ok (.ldc2_w 112, 3) := by decide +kernel
theorem dX0_code_29 : decode cX0_code 29 = .ok (.lmul, 1) := by decide +kernel
theorem dX0_code_30 : decode cX0_code 30 = .ok (.aload_n 0, 1) := by decide +kernel
theorem dX0_code_31 : decode cX0_code 31 = .ok (.getfield 21, 3) := by decide +kernel
theorem dX0_code_34 : decode cX0_code 34 = .ok (.iload_n 3, 1) := by decide +kernel
theorem dX0_code_35 : decode cX0_code 35 = .ok (.iaload, 1) := by decide +kernel
theorem dX0_code_36 : decode cX0_code 36 = .ok (.i2l, 1) := by decide +kernel
theorem dX0_code_37 : decode cX0_code 37 = .ok (.ladd, 1) := by decide +kernel
theorem dX0_code_38 : decode cX0_code 38 = .ok (.lstore_n 1, 1) := by decide +kernel
theorem dX0_code_39 : decode cX0_code 39 = .ok (.iinc 3 1, 3) := by decide +kernel
theorem dX0_code_42 : decode cX0_code 42 = .ok (.goto (-23), 3) := by decide +kernel
theorem dX0_code_45 : decode cX0_code 45 = .ok (.lload_n 1, 1) := by decide +kernel
theorem dX0_code_46 : decode cX0_code 46 = .ok (.lreturn, 1) := by decide +kernel
theorem dX1_init_0 : decode cX1_init 0 = .ok (.aload_n 0, 1) := by decide +kernel
theorem dX1_init_1 : decode cX1_init 1 = .ok (.invokespecial 3, 3) := by decide +kernel
theorem dX1_init_4 : decode cX1_init 4 = .ok (.aload_n 0, 1) := by decide +kernel
theorem dX1_init_5 : decode cX1_init 5 = .ok (.bipush 6, 2) := by decide +kernel
theorem dX1_init_7 : decode cX1_init 7 = .ok (.newarray .int, 2) := by decide +kernel
theorem dX1_init_9 : decode cX1_init 9 = .ok (.putfield 9, 3) := by decide +kernel
theorem dX1_init_12 : decode cX1_init 12 = .ok (.aload_n 0, 1) := by decide +kernel
theorem dX1_init_13 : decode cX1_init 13 = .ok (.bipush 36, 2) := by decide +kernel
theorem dX1_init_15 : decode cX1_init 15 = .ok (.newarray .int, 2) := by decide +kernel
theorem dX1_init_17 : decode cX1_init 17 = .ok (.putfield 15, 3) := by decide +kernel
theorem dX1_init_20 : decode cX1_init 20 = .ok (.aload_n 0, 1) := by decide +kernel
theorem dX1_init_21 : decode cX1_init 21 = .ok (.bipush 6, 2) := by decide +kernel
theorem dX1_init_23 : decode cX1_init 23 = .ok (.newarray .int, 2) := by decide +kernel
theorem dX1_init_25 : decode cX1_init 25 = .ok (.putfield 18, 3) := by decide +kernel
theorem dX1_init_28 : decode cX1_init 28 = .ok (.aload_n 0, 1) := by decide +kernel
theorem dX1_init_29 : decode cX1_init 29 = .ok (.bipush 6, 2) := by decide +kernel
theorem dX1_init_31 : decode cX1_init 31 = .ok (.newarray .int, 2) := by decide +kernel
theorem dX1_init_33 : decode cX1_init 33 = .ok (.putfield 21, 3) := by decide +kernel
theorem dX1_init_36 : decode cX1_init 36 = .ok (.aload_n 0, 1) := by decide +kernel
theorem dX1_init_37 : decode cX1_init 37 = .ok (.bipush 6, 2) := by decide +kernel
theorem dX1_init_39 : decode cX1_init 39 = .ok (.newarray .int, 2) := by decide +kernel
theorem dX1_init_41 : decode cX1_init 41 = .ok (.putfield 24, 3) := by decide +kernel
theorem dX1_init_44 : decode cX1_init 44 = .ok (.return_, 1) := by decide +kernel
theorem dX1_clear_0 : decode cX1_clear 0 = .ok (.aload_n 0, 1) := by decide +kernel
theorem dX1_clear_1 : decode cX1_clear 1 = .ok (.iconst 0, 1) := by decide +kernel
theorem dX1_clear_2 : decode cX1_clear 2 = .ok (.putfield 27, 3) := by decide +kernel
theorem dX1_clear_5 : decode cX1_clear 5 = .ok (.aload_n 0, 1) := by decide +kernel
theorem dX1_clear_6 : decode cX1_clear 6 = .ok (.iconst 0, 1) := by decide +kernel
theorem dX1_clear_7 : decode cX1_clear 7 = .ok (.putfield 31, 3) := by decide +kernel
theorem dX1_clear_10 : decode cX1_clear 10 = .ok (.iconst 0, 1) := by decide +kernel
theorem dX1_clear_11 : decode cX1_clear 11 = .ok (.istore_n 1, 1) := by decide +kernel
theorem dX1_clear_12 : decode cX1_clear 12 = .ok (.iload_n 1, 1) := by decide +kernel
theorem dX1_clear_13 : decode cX1_clear 13 = .ok (.bipush 6, 2) := by decide +kernel
theorem dX1_clear_15 : decode cX1_clear 15 = .ok (.if_icmp .ge 16, 3) := by decide +kernel
theorem dX1_clear_18 : decode cX1_clear 18 = .ok (.aload_n 0, 1) := by decide +kernel
theorem dX1_clear_19 : decode cX1_clear 19 = .ok (.getfield 9, 3) := by decide +kernel
theorem dX1_clear_22 : decode cX1_clear 22 = .ok (.iload_n 1, 1) := by decide +kernel
theorem dX1_clear_23 : decode cX1_clear 23 = .ok (.iconst 0, 1) := by decide +kernel
theorem dX1_clear_24 : decode cX1_clear 24 = .ok (.iastore, 1) := by decide +kernel
theorem dX1_clear_25 : decode cX1_clear 25 = .ok (.iinc 1 1, 3) := by decide +kernel
theorem dX1_clear_28 : decode cX1_clear 28 = .ok (.goto (-16), 3) := by decide +kernel
theorem dX1_clear_31 : decode cX1_clear 31 = .ok (.return_, 1) := by decide +kernel
theorem dX1_take_0 : decode cX1_take 0 = .ok (.aload_n 0, 1) := by decide +kernel
theorem dX1_take_1 : decode cX1_take 1 = .ok (.aload_n 1, 1) := by decide +kernel
theorem dX1_take_2 : decode cX1_take 2 = .ok (.getfield 34, 3) := by decide +kernel
theorem dX1_take_5 : decode cX1_take 5 = .ok (.putfield 34, 3) := by decide +kernel
theorem dX1_take_8 : decode cX1_take 8 = .ok (.aload_n 0, 1) := by decide +kernel
theorem dX1_take_9 : decode cX1_take 9 = .ok (.aload_n 1, 1) := by decide +kernel
theorem dX1_take_10 : decode cX1_take 10 = .ok (.getfield 37, 3) := by decide +kernel
theorem dX1_take_13 : decode cX1_take 13 = .ok (.putfield 37, 3) := by decide +kernel
theorem dX1_take_16 : decode cX1_take 16 = .ok (.aload_n 0, 1) := by decide +kernel
theorem dX1_take_17 : decode cX1_take 17 = .ok (.aload_n 1, 1) := by decide +kernel
theorem dX1_take_18 : decode cX1_take 18 = .ok (.getfield 40, 3) := by decide +kernel
theorem dX1_take_21 : decode cX1_take 21 = .ok (.putfield 40, 3) := by decide +kernel
theorem dX1_take_24 : decode cX1_take 24 = .ok (.aload_n 0, 1) := by decide +kernel
theorem dX1_take_25 : decode cX1_take 25 = .ok (.aload_n 1, 1) := by decide +kernel
theorem dX1_take_26 : decode cX1_take 26 = .ok (.getfield 27, 3) := by decide +kernel
theorem dX1_take_29 : decode cX1_take 29 = .ok (.putfield 27, 3) := by decide +kernel
theorem dX1_take_32 : decode cX1_take 32 = .ok (.aload_n 0, 1) := by decide +kernel
theorem dX1_take_33 : decode cX1_take 33 = .ok (.aload_n 1, 1) := by decide +kernel
theorem dX1_take_34 : decode cX1_take 34 = .ok (.getfield 31, 3) := by decide +kernel
theorem dX1_take_37 : decode cX1_take 37 = .ok (.putfield 31, 3) := by decide +kernel
theorem dX1_take_40 : decode cX1_take 40 = .ok (.aload_n 1, 1) := by decide +kernel
theorem dX1_take_41 : decode cX1_take 41 = .ok (.getfield 9, 3) := by decide +kernel
theorem dX1_take_44 : decode cX1_take 44 = .ok (.iconst 0, 1) := by decide +kernel
theorem dX1_take_45 : decode cX1_take 45 = .ok (.aload_n 0, 1) := by decide +kernel
theorem dX1_take_46 : decode cX1_take 46 = .ok (.getfield 9, 3) := by decide +kernel
theorem dX1_take_49 : decode cX1_take 49 = .ok (.iconst 0, 1) := by decide +kernel
theorem dX1_take_50 : decode cX1_take 50 = .ok (.bipush 6, 2) := by decide +kernel
theorem dX1_take_52 : decode cX1_take 52 = .ok (.invokestatic 43, 3) := by decide +kernel
theorem dX1_take_55 : decode cX1_take 55 = .ok (.aload_n 1, 1) := by decide +kernel
theorem dX1_take_56 : decode cX1_take 56 = .ok (.getfield 15, 3) := by decide +kernel
theorem dX1_take_59 : decode cX1_take 59 = .ok (.iconst 0, 1) := by decide +kernel
theorem dX1_take_60 : decode cX1_take 60 = .ok (.aload_n 0, 1) := by decide +kernel
theorem dX1_take_61 : decode cX1_take 61 = .ok (.getfield 15, 3) := by decide +kernel
theorem dX1_take_64 : decode cX1_take 64 = .ok (.iconst 0, 1) := by decide +kernel
theorem dX1_take_65 : decode cX1_take 65 = .ok (.bipush 36, 2) := by decide +kernel
theorem dX1_take_67 : decode cX1_take 67 = .ok (.invokestatic 43, 3) := by decide +kernel
theorem dX1_take_70 : decode cX1_take 70 = .ok (.aload_n 1, 1) := by decide +kernel
theorem dX1_take_71 : decode cX1_take 71 = .ok (.getfield 18, 3) := by decide +kernel
theorem dX1_take_74 : decode cX1_take 74 = .ok (.iconst 0, 1) := by decide +kernel
theorem dX1_take_75 : decode cX1_take 75 = .ok (.aload_n 0, 1) := by decide +kernel
theorem dX1_take_76 : decode cX1_take 76 = .ok (.getfield 18, 3) := by decide +kernel
theorem dX1_take_79 : decode cX1_take 79 = .ok (.iconst 0, 1) := by decide +kernel
theorem dX1_take_80 : decode cX1_take 80 = .ok (.bipush 6, 2) := by decide +kernel
theorem dX1_take_82 : decode cX1_take 82 = .ok (.invokestatic 43, 3) := by decide +kernel
theorem dX1_take_85 : decode cX1_take 85 = .ok (.aload_n 1, 1) := by decide +kernel
theorem dX1_take_86 : decode cX1_take 86 = .ok (.getfield 21, 3) := by decide +kernel
theorem dX1_take_89 : decode cX1_take 89 = .ok (.iconst 0, 1) := by decide +kernel
theorem dX1_take_90 : decode cX1_take 90 = .ok (.aload_n 0, 1) := by decide +kernel
theorem dX1_take_91 : decode cX1_take 91 = .ok (.getfield 21, 3) := by decide +kernel
theorem dX1_take_94 : decode cX1_take 94 = .ok (.iconst 0, 1) := by decide +kernel
theorem dX1_take_95 : decode cX1_take 95 = .ok (.bipush 6, 2) := by decide +kernel
theorem dX1_take_97 : decode cX1_take 97 = .ok (.invokestatic 43, 3) := by decide +kernel
theorem dX1_take_100 : decode cX1_take 100 = .ok (.aload_n 1, 1) := by decide +kernel
theorem dX1_take_101 : decode cX1_take 101 = .ok (.getfield 24, 3) := by decide +kernel
theorem dX1_take_104 : decode cX1_take 104 = .ok (.iconst 0, 1) := by decide +kernel
theorem dX1_take_105 : decode cX1_take 105 = .ok (.aload_n 0, 1) := by decide +kernel
theorem dX1_take_106 : decode cX1_take 106 = .ok (.getfield 24, 3) := by decide +kernel
theorem dX1_take_109 : decode cX1_take 109 = .ok (.iconst 0, 1) := by decide +kernel
theorem dX1_take_110 : decode cX1_take 110 = .ok (.bipush 6, 2) := by decide +kernel
theorem dX1_take_112 : decode cX1_take 112 = .ok (.invokestatic 43, 3) := by decide +kernel
theorem dX1_take_115 : decode cX1_take 115 = .ok (.return_, 1) := by decide +kernel
theorem dX1_everyone_0 : decode cX1_everyone 0 = .ok (.iconst 1, 1) := by decide +kernel
theorem dX1_everyone_1 : decode cX1_everyone 1 = .ok (.aload_n 0, 1) := by decide +kernel
theorem dX1_everyone_2 : decode cX1_everyone 2 = .ok (.getfield 31, 3) := by decide +kernel
theorem dX1_everyone_5 : decode cX1_everyone 5 = .ok (.ishl, 1) := by decide +kernel
theorem dX1_everyone_6 : decode cX1_everyone 6 = .ok (.iconst 1, 1) := by decide +kernel
theorem dX1_everyone_7 : decode cX1_everyone 7 = .ok (.isub, 1) := by decide +kernel
theorem dX1_everyone_8 : decode cX1_everyone 8 = .ok (.ireturn, 1) := by decide +kernel
theorem dX1_way_0 : decode cX1_way 0 = .ok (.aload_n 0, 1) := by decide +kernel
theorem dX1_way_1 : decode cX1_way 1 = .ok (.getfield 15, 3) := by decide +kernel
theorem dX1_way_4 : decode cX1_way 4 = .ok (.bipush 6, 2) := by decide +kernel
theorem dX1_way_6 : decode cX1_way 6 = .ok (.iload_n 1, 1) := by decide +kernel
theorem dX1_way_7 : decode cX1_way 7 = .ok (.imul, 1) := by decide +kernel
theorem dX1_way_8 : decode cX1_way 8 = .ok (.iload_n 2, 1) := by decide +kernel
theorem dX1_way_9 : decode cX1_way 9 = .ok (.iadd, 1) := by decide +kernel
theorem dX1_way_10 : decode cX1_way 10 = .ok (.iaload, 1) := by decide +kernel
theorem dX1_way_11 : decode cX1_way 11 = .ok (.ireturn, 1) := by decide +kernel
theorem dX1_joins_0 : decode cX1_joins 0 = .ok (.iload_n 1, 1) := by decide +kernel
theorem dX1_joins_1 : decode cX1_joins 1 = .ok (.iload_n 2, 1) := by decide +kernel
theorem dX1_joins_2 : decode cX1_joins 2 = .ok (.if_icmp .eq 17, 3) := by decide +kernel
theorem dX1_joins_5 : decode cX1_joins 5 = .ok (.aload_n 0, 1) := by decide +kernel
theorem dX1_joins_6 : decode cX1_joins 6 = .ok (.getfield 9, 3) := by decide +kernel
theorem dX1_joins_9 : decode cX1_joins 9 = .ok (.iload_n 1, 1) := by decide +kernel
theorem dX1_joins_10 : decode cX1_joins 10 = .ok (.iaload, 1) := by decide +kernel
theorem dX1_joins_11 : decode cX1_joins 11 = .ok (.iload_n 2, 1) := by decide +kernel
theorem dX1_joins_12 : decode cX1_joins 12 = .ok (.invokestatic 49, 3) := by decide +kernel
theorem dX1_joins_15 : decode cX1_joins 15 = .ok (.iconst 1, 1) := by decide +kernel
theorem dX1_joins_16 : decode cX1_joins 16 = .ok (.if_icmp .ne 5, 3) := by decide +kernel
theorem dX1_joins_19 : decode cX1_joins 19 = .ok (.iconst 0, 1) := by decide +kernel
theorem dX1_joins_20 : decode cX1_joins 20 = .ok (.ireturn, 1) := by decide +kernel
theorem dX1_joins_21 : decode cX1_joins 21 = .ok (.aload_n 0, 1) := by decide +kernel
theorem dX1_joins_22 : decode cX1_joins 22 = .ok (.getfield 9, 3) := by decide +kernel
theorem dX1_joins_25 : decode cX1_joins 25 = .ok (.iload_n 1, 1) := by decide +kernel
theorem dX1_joins_26 : decode cX1_joins 26 = .ok (.dup2, 1) := by decide +kernel
theorem dX1_joins_27 : decode cX1_joins 27 = .ok (.iaload, 1) := by decide +kernel
theorem dX1_joins_28 : decode cX1_joins 28 = .ok (.iconst 1, 1) := by decide +kernel
theorem dX1_joins_29 : decode cX1_joins 29 = .ok (.iload_n 2, 1) := by decide +kernel
theorem dX1_joins_30 : decode cX1_joins 30 = .ok (.ishl, 1) := by decide +kernel
theorem dX1_joins_31 : decode cX1_joins 31 = .ok (.ior, 1) := by decide +kernel
theorem dX1_joins_32 : decode cX1_joins 32 = .ok (.iastore, 1) := by decide +kernel
theorem dX1_joins_33 : decode cX1_joins 33 = .ok (.aload_n 0, 1) := by decide +kernel
theorem dX1_joins_34 : decode cX1_joins 34 = .ok (.getfield 9, 3) := by decide +kernel
theorem dX1_joins_37 : decode cX1_joins 37 = .ok (.iload_n 2, 1) := by decide +kernel
theorem dX1_joins_38 : decode cX1_joins 38 = .ok (.dup2, 1) := by decide +kernel
theorem dX1_joins_39 : decode cX1_joins 39 = .ok (.iaload, 1) := by decide +kernel
theorem dX1_joins_40 : decode cX1_joins 40 = .ok (.iconst 1, 1) := by decide +kernel
theorem dX1_joins_41 : decode cX1_joins 41 = .ok (.iload_n 1, 1) := by decide +kernel
theorem dX1_joins_42 : decode cX1_joins 42 = .ok (.ishl, 1) := by decide +kernel
theorem dX1_joins_43 : decode cX1_joins 43 = .ok (.ior, 1) := by decide +kernel
theorem dX1_joins_44 : decode cX1_joins 44 = .ok (.iastore, 1) := by decide +kernel
theorem dX1_joins_45 : decode cX1_joins 45 = .ok (.aload_n 0, 1) := by decide +kernel
theorem dX1_joins_46 : decode cX1_joins 46 = .ok (.dup, 1) := by decide +kernel
theorem dX1_joins_47 : decode cX1_joins 47 = .ok (.getfield 27, 3) := by decide +kernel
theorem dX1_joins_50 : decode cX1_joins 50 = .ok (.iconst 1, 1) := by decide +kernel
theorem dX1_joins_51 : decode cX1_joins 51 = .ok (.iadd, 1) := by decide +kernel
theorem dX1_joins_52 : decode cX1_joins 52 = .ok (.putfield 27, 3) := by decide +kernel
theorem dX1_joins_55 : decode cX1_joins 55 = .ok (.iconst 1, 1) := by decide +kernel
theorem dX1_joins_56 : decode cX1_joins 56 = .ok (.ireturn, 1) := by decide +kernel
theorem dX1_measure_0 : decode cX1_measure 0 = .ok (.iconst 0, 1) := by decide +kernel
theorem dX1_measure_1 : decode cX1_measure 1 = .ok (.istore_n 1, 1) := by decide +kernel
theorem dX1_measure_2 : decode cX1_measure 2 = .ok (.iload_n 1, 1) := by decide +kernel
theorem dX1_measure_3 : decode cX1_measure 3 = .ok (.bipush 6, 2) := by decide +kernel
theorem dX1_measure_5 : decode cX1_measure 5 = .ok (.if_icmp .ge 65, 3) := by decide +kernel
theorem dX1_measure_8 : decode cX1_measure 8 = .ok (.iconst 0, 1) := by decide +kernel
theorem dX1_measure_9 : decode cX1_measure 9 = .ok (.istore_n 2, 1) := by decide +kernel
theorem dX1_measure_10 : decode cX1_measure 10 = .ok (.iload_n 2, 1) := by decide +kernel
theorem dX1_measure_11 : decode cX1_measure 11 = .ok (.bipush 6, 2) := by decide +kernel
theorem dX1_measure_13 : decode cX1_measure 13 = .ok (.if_icmp .ge 51, 3) := by decide +kernel
theorem dX1_measure_16 : decode cX1_measure 16 = .ok (.aload_n 0, 1) := by decide +kernel
theorem dX1_measure_17 : decode cX1_measure 17 = .ok (.getfield 9, 3) := by decide +kernel
theorem dX1_measure_20 : decode cX1_measure 20 = .ok (.iload_n 1, 1) := by decide +kernel
theorem dX1_measure_21 : decode cX1_measure 21 = .ok (.iaload, 1) := by decide +kernel
theorem dX1_measure_22 : decode cX1_measure 22 = .ok (.iload_n 2, 1) := by decide +kernel
theorem dX1_measure_23 : decode cX1_measure 23 = .ok (.invokestatic 49, 3) := by decide +kernel
theorem dX1_measure_26 : decode cX1_measure 26 = .ok (.iconst 1, 1) := by decide +kernel
theorem dX1_measure_27 : decode cX1_measure 27 = .ok (.if_icmp .ne 7, 3) := by decide +kernel
theorem dX1_measure_30 : decode cX1_measure 30 = .ok (.iconst 1, 1) := by decide +kernel
theorem dX1_measure_31 : decode cX1_measure 31 = .ok (.goto 5, 3) := by decide +kernel
theorem dX1_measure_34 : decode cX1_measure 34 = .ok (.bipush 9, 2) := by decide +kernel
theorem dX1_measure_36 : decode cX1_measure 36 = .ok (.istore_n 3, 1) := by decide +kernel
theorem dX1_measure_37 : decode cX1_measure 37 = .ok (.aload_n 0, 1) := by decide +kernel
theorem dX1_measure_38 : decode cX1_measure 38 = .ok (.getfield 15, 3) := by decide +kernel
theorem dX1_measure_41 : decode cX1_measure 41 = .ok (.bipush 6, 2) := by decide +kernel
theorem dX1_measure_43 : decode cX1_measure 43 = .ok (.iload_n 1, 1) := by decide +kernel
theorem dX1_measure_44 : decode cX1_measure 44 = .ok (.imul, 1) := by decide +kernel
theorem dX1_measure_45 : decode cX1_measure 45 = .ok (.iload_n 2, 1) := by decide +kernel
theorem dX1_measure_46 : decode cX1_measure 46 = .ok (.iadd, 1) := by decide +kernel
theorem dX1_measure_47 : decode cX1_measure 47 = .ok (.iload_n 1, 1) := by decide +kernel
theorem dX1_measure_48 : decode cX1_measure 48 = .ok (.iload_n 2, 1) := by decide +kernel
theorem dX1_measure_49 : decode cX1_measure 49 = .ok (.if_icmp .ne 7, 3) := by decide +kernel
theorem dX1_measure_52 : decode cX1_measure 52 = .ok (.iconst 0, 1) := by decide +kernel
theorem dX1_measure_53 : decode cX1_measure 53 = .ok (.goto 4, 3) := by decide +kernel
theorem dX1_measure_56 : decode cX1_measure 56 = .ok (.iload_n 3, 1) := by decide +kernel
theorem dX1_measure_57 : decode cX1_measure 57 = .ok (.iastore, 1) := by decide +kernel
theorem dX1_measure_58 : decode cX1_measure 58 = .ok (.iinc 2 1, 3) := by decide +kernel
theorem dX1_measure_61 : decode cX1_measure 61 = .ok (.goto (-51), 3) := by decide +kernel
theorem dX1_measure_64 : decode cX1_measure 64 = .ok (.iinc 1 1, 3) := by decide +kernel
theorem dX1_measure_67 : decode cX1_measure 67 = .ok (.goto (-65), 3) := by decide +kernel
theorem dX1_measure_70 : decode cX1_measure 70 = .ok (.iconst 0, 1) := by decide +kernel
theorem dX1_measure_71 : decode cX1_measure 71 = .ok (.istore_n 1, 1) := by decide +kernel
theorem dX1_measure_72 : decode cX1_measure 72 = .ok (.iload_n 1, 1) := by decide +kernel
theorem dX1_measure_73 : decode cX1_measure 73 = .ok (.bipush 6, 2) := by decide +kernel
theorem dX1_measure_75 : decode cX1_measure 75 = .ok (.if_icmp .ge 74, 3) := by decide +kernel
theorem dX1_measure_78 : decode cX1_measure 78 = .ok (.iconst 0, 1) := by decide +kernel
theorem dX1_measure_79 : decode cX1_measure 79 = .ok (.istore_n 2, 1) := by decide +kernel
theorem dX1_measure_80 : decode cX1_measure 80 = .ok (.iload_n 2, 1) := by decide +kernel
theorem dX1_measure_81 : decode cX1_measure 81 = .ok (.bipush 6, 2) := by decide +kernel
theorem dX1_measure_83 : decode cX1_measure 83 = .ok (.if_icmp .ge 60, 3) := by decide +kernel
theorem dX1_measure_86 : decode cX1_measure 86 = .ok (.iconst 0, 1) := by decide +kernel
theorem dX1_measure_87 : decode cX1_measure 87 = .ok (.istore_n 3, 1) := by decide +kernel
theorem dX1_measure_88 : decode cX1_measure 88 = .ok (.iload_n 3, 1) := by decide +kernel
theorem dX1_measure_89 : decode cX1_measure 89 = .ok (.bipush 6, 2) := by decide +kernel
theorem dX1_measure_91 : decode cX1_measure 91 = .ok (.if_icmp .ge 46, 3) := by decide +kernel
theorem dX1_measure_94 : decode cX1_measure 94 = .ok (.aload_n 0, 1) := by decide +kernel
theorem dX1_measure_95 : decode cX1_measure 95 = .ok (.iload_n 2, 1) := by decide +kernel
theorem dX1_measure_96 : decode cX1_measure 96 = .ok (.iload_n 1, 1) := by decide +kernel
theorem dX1_measure_97 : decode cX1_measure 97 = .ok (.invokevirtual 53, 3) := by decide +kernel
theorem dX1_measure_100 : decode cX1_measure 100 = .ok (.aload_n 0, 1) := by decide +kernel
theorem dX1_measure_101 : decode cX1_measure 101 = .ok (.iload_n 1, 1) := by decide +kernel
theorem dX1_measure_102 : decode cX1_measure 102 = .ok (.iload_n 3, 1) := by decide +kernel
theorem dX1_measure_103 : decode cX1_measure 103 = .ok (.invokevirtual 53, 3) := by decide +kernel
theorem dX1_measure_106 : decode cX1_measure 106 = .ok (.iadd, 1) := by decide +kernel
theorem dX1_measure_107 : decode cX1_measure 107 = .ok (.istore 4, 2) := by decide +kernel
theorem dX1_measure_109 : decode cX1_measure 109 = .ok (.aload_n 0, 1) := by decide +kernel
theorem dX1_measure_110 : decode cX1_measure 110 = .ok (.getfield 15, 3) := by decide +kernel
theorem dX1_measure_113 : decode cX1_measure 113 = .ok (.bipush 6, 2) := by decide +kernel
theorem dX1_measure_115 : decode cX1_measure 115 = .ok (.iload_n 2, 1) := by decide +kernel
theorem dX1_measure_116 : decode cX1_measure 116 = .ok (.imul, 1) := by decide +kernel
theorem dX1_measure_117 : decode cX1_measure 117 = .ok (.iload_n 3, 1) := by decide +kernel
theorem dX1_measure_118 : decode cX1_measure 118 = .ok (.iadd, 1) := by decide +kernel
theorem dX1_measure_119 : decode cX1_measure 119 = .ok (.aload_n 0, 1) := by decide +kernel
theorem dX1_measure_120 : decode cX1_measure 120 = .ok (.iload_n 2, 1) := by decide +kernel
theorem dX1_measure_121 : decode cX1_measure 121 = .ok (.iload_n 3, 1) := by decide +kernel
theorem dX1_measure_122 : decode cX1_measure 122 = .ok (.invokevirtual 53, 3) := by decide +kernel
theorem dX1_measure_125 : decode cX1_measure 125 = .ok (.iload 4, 2) := by decide +kernel
theorem dX1_measure_127 : decode cX1_measure 127 = .ok (.invokestatic 56, 3) := by decide +kernel
theorem dX1_measure_130 : decode cX1_measure 130 = .ok (.iastore, 1) := by decide +kernel
theorem dX1_measure_131 : decode cX1_measure 131 = .ok (.iinc 3 1, 3) := by decide +kernel
theorem dX1_measure_134 : decode cX1_measure 134 = .ok (.goto (-46), 3) := by decide +kernel
theorem dX1_measure_137 : decode cX1_measure 137 = .ok (.iinc 2 1, 3) := by decide +kernel
theorem dX1_measure_140 : decode cX1_measure 140 = .ok (.goto (-60), 3) := by decide +kernel
theorem dX1_measure_143 : decode cX1_measure 143 = .ok (.iinc 1 1, 3) := by decide +kernel
theorem dX1_measure_146 : decode cX1_measure 146 = .ok (.goto (-74), 3) := by decide +kernel
theorem dX1_measure_149 : decode cX1_measure 149 = .ok (.return_, 1) := by decide +kernel
theorem dX2_init_0 : decode cX2_init 0 = .ok (.aload_n 0, 1) := by decide +kernel
theorem dX2_init_1 : decode cX2_init 1 = .ok (.invokespecial 3, 3) := by decide +kernel
theorem dX2_init_4 : decode cX2_init 4 = .ok (.aload_n 0, 1) := by decide +kernel
theorem dX2_init_5 : decode cX2_init 5 = .ok (.bipush 24, 2) := by decide +kernel
theorem dX2_init_7 : decode cX2_init 7 = .ok (.anewarray 9, 3) := by decide +kernel
theorem dX2_init_10 : decode cX2_init 10 = .ok (.putfield 11, 3) := by decide +kernel
theorem dX2_init_13 : decode cX2_init 13 = .ok (.iconst 0, 1) := by decide +kernel
theorem dX2_init_14 : decode cX2_init 14 = .ok (.istore_n 1, 1) := by decide +kernel
theorem dX2_init_15 : decode cX2_init 15 = .ok (.iload_n 1, 1) := by decide +kernel
theorem dX2_init_16 : decode cX2_init 16 = .ok (.bipush 24, 2) := by decide +kernel
theorem dX2_init_18 : decode cX2_init 18 = .ok (.if_icmp .ge 22, 3) := by decide +kernel
theorem dX2_init_21 : decode cX2_init 21 = .ok (.aload_n 0, 1) := by decide +kernel
theorem dX2_init_22 : decode cX2_init 22 = .ok (.getfield 11, 3) := by decide +kernel
theorem dX2_init_25 : decode cX2_init 25 = .ok (.iload_n 1, 1) := by decide +kernel
theorem dX2_init_26 : decode cX2_init 26 = .ok (.new 9, 3) := by decide +kernel
theorem dX2_init_29 : decode cX2_init 29 = .ok (.dup, 1) := by decide +kernel
theorem dX2_init_30 : decode cX2_init 30 = .ok (.invokespecial 17, 3) := by decide +kernel
theorem dX2_init_33 : decode cX2_init 33 = .ok (.aastore, 1) := by decide +kernel
theorem dX2_init_34 : decode cX2_init 34 = .ok (.iinc 1 1, 3) := by decide +kernel
theorem dX2_init_37 : decode cX2_init 37 = .ok (.goto (-22), 3) := by decide +kernel
theorem dX2_init_40 : decode cX2_init 40 = .ok (.return_, 1) := by decide +kernel
theorem dX2_forget_0 : decode cX2_forget 0 = .ok (.aload_n 0, 1) := by decide +kernel
theorem dX2_forget_1 : decode cX2_forget 1 = .ok (.iconst 0, 1) := by decide +kernel
theorem dX2_forget_2 : decode cX2_forget 2 = .ok (.putfield 18, 3) := by decide +kernel
theorem dX2_forget_5 : decode cX2_forget 5 = .ok (.aload_n 0, 1) := by decide +kernel
theorem dX2_forget_6 : decode cX2_forget 6 = .ok (.iconst 0, 1) := by decide +kernel
theorem dX2_forget_7 : decode cX2_forget 7 = .ok (.putfield 22, 3) := by decide +kernel
theorem dX2_forget_10 : decode cX2_forget 10 = .ok (.return_, 1) := by decide +kernel
theorem dX2_keep_0 : decode cX2_keep 0 = .ok (.aload_n 0, 1) := by decide +kernel
theorem dX2_keep_1 : decode cX2_keep 1 = .ok (.getfield 11, 3) := by decide +kernel
theorem dX2_keep_4 : decode cX2_keep 4 = .ok (.aload_n 0, 1) := by decide +kernel
theorem dX2_keep_5 : decode cX2_keep 5 = .ok (.getfield 18, 3) := by decide +kernel
theorem dX2_keep_8 : decode cX2_keep 8 = .ok (.aaload, 1) := by decide +kernel
theorem dX2_keep_9 : decode cX2_keep 9 = .ok (.aload_n 1, 1) := by decide +kernel
theorem dX2_keep_10 : decode cX2_keep 10 = .ok (.invokevirtual 25, 3) := by decide +kernel
theorem dX2_keep_13 : decode cX2_keep 13 = .ok (.aload_n 0, 1) := by decide +kernel
theorem dX2_keep_14 : decode cX2_keep 14 = .ok (.aload_n 0, 1) := by decide +kernel
theorem dX2_keep_15 : decode cX2_keep 15 = .ok (.getfield 18, 3) := by decide +kernel
theorem dX2_keep_18 : decode cX2_keep 18 = .ok (.iconst 1, 1) := by decide +kernel
theorem dX2_keep_19 : decode cX2_keep 19 = .ok (.iadd, 1) := by decide +kernel
theorem dX2_keep_20 : decode cX2_keep 20 = .ok (.bipush 24, 2) := by decide +kernel
theorem dX2_keep_22 : decode cX2_keep 22 = .ok (.irem, 1) := by decide +kernel
theorem dX2_keep_23 : decode cX2_keep 23 = .ok (.putfield 18, 3) := by decide +kernel
theorem dX2_keep_26 : decode cX2_keep 26 = .ok (.aload_n 0, 1) := by decide +kernel
theorem dX2_keep_27 : decode cX2_keep 27 = .ok (.bipush 24, 2) := by decide +kernel
theorem dX2_keep_29 : decode cX2_keep 29 = .ok (.aload_n 0, 1) := by decide +kernel
theorem dX2_keep_30 : decode cX2_keep 30 = .ok (.getfield 22, 3) := by decide +kernel
theorem dX2_keep_33 : decode cX2_keep 33 = .ok (.iconst 1, 1) := by decide +kernel
theorem dX2_keep_34 : decode cX2_keep 34 = .ok (.iadd, 1) := by decide +kernel
theorem dX2_keep_35 : decode cX2_keep 35 = .ok (.invokestatic 29, 3) := by decide +kernel
theorem dX2_keep_38 : decode cX2_keep 38 = .ok (.putfield 22, 3) := by decide +kernel
theorem dX2_keep_41 : decode cX2_keep 41 = .ok (.return_, 1) := by decide +kernel
theorem dX2_goBack_0 : decode cX2_goBack 0 = .ok (.aload_n 0, 1) := by decide +kernel
theorem dX2_goBack_1 : decode cX2_goBack 1 = .ok (.aload_n 0, 1) := by decide +kernel
theorem dX2_goBack_2 : decode cX2_goBack 2 = .ok (.getfield 18, 3) := by decide +kernel
theorem dX2_goBack_5 : decode cX2_goBack 5 = .ok (.bipush 24, 2) := by decide +kernel
theorem dX2_goBack_7 : decode cX2_goBack 7 = .ok (.iadd, 1) := by decide +kernel
theorem dX2_goBack_8 : decode cX2_goBack 8 = .ok (.iconst 1, 1) := by decide +kernel
theorem dX2_goBack_9 : decode cX2_goBack 9 = .ok (.isub, 1) := by decide +kernel
theorem dX2_goBack_10 : decode cX2_goBack 10 = .ok (.bipush 24, 2) := by decide +kernel
theorem dX2_goBack_12 : decode cX2_goBack 12 = .ok (.irem, 1) := by decide +kernel
theorem dX2_goBack_13 : decode cX2_goBack 13 = .ok (.putfield 18, 3) := by decide +kernel
theorem dX2_goBack_16 : decode cX2_goBack 16 = .ok (.aload_n 1, 1) := by decide +kernel
theorem dX2_goBack_17 : decode cX2_goBack 17 = .ok (.aload_n 0, 1) := by decide +kernel
theorem dX2_goBack_18 : decode cX2_goBack 18 = .ok (.getfield 11, 3) := by decide +kernel
theorem dX2_goBack_21 : decode cX2_goBack 21 = .ok (.aload_n 0, 1) := by decide +kernel
theorem dX2_goBack_22 : decode cX2_goBack 22 = .ok (.getfield 18, 3) := by decide +kernel
theorem dX2_goBack_25 : decode cX2_goBack 25 = .ok (.aaload, 1) := by decide +kernel
theorem dX2_goBack_26 : decode cX2_goBack 26 = .ok (.invokevirtual 25, 3) := by decide +kernel
theorem dX2_goBack_29 : decode cX2_goBack 29 = .ok (.aload_n 0, 1) := by decide +kernel
theorem dX2_goBack_30 : decode cX2_goBack 30 = .ok (.dup, 1) := by decide +kernel
theorem dX2_goBack_31 : decode cX2_goBack 31 = .ok (.getfield 22, 3) := by decide +kernel
theorem dX2_goBack_34 : decode cX2_goBack 34 = .ok (.iconst 1, 1) := by decide +kernel
theorem dX2_goBack_35 : decode cX2_goBack 35 = .ok (.isub, 1) := by decide +kernel
theorem dX2_goBack_36 : decode cX2_goBack 36 = .ok (.putfield 22, 3) := by decide +kernel
theorem dX2_goBack_39 : decode cX2_goBack 39 = .ok (.return_, 1) := by decide +kernel
theorem dX3_init_0 : decode cX3_init 0 = .ok (.aload_n 0, 1) := by decide +kernel
theorem dX3_init_1 : decode cX3_init 1 = .ok (.invokespecial 3, 3) := by decide +kernel
theorem dX3_init_4 : decode cX3_init 4 = .ok (.aload_n 0, 1) := by decide +kernel
theorem dX3_init_5 : decode cX3_init 5 = .ok (.bipush 8, 2) := by decide +kernel
theorem dX3_init_7 : decode cX3_init 7 = .ok (.newarray .int, 2) := by decide +kernel
theorem dX3_init_9 : decode cX3_init 9 = .ok (.putfield 9, 3) := by decide +kernel
theorem dX3_init_12 : decode cX3_init 12 = .ok (.aload_n 0, 1) := by decide +kernel
theorem dX3_init_13 : decode cX3_init 13 = .ok (.bipush 8, 2) := by decide +kernel
theorem dX3_init_15 : decode cX3_init 15 = .ok (.newarray .int, 2) := by decide +kernel
theorem dX3_init_17 : decode cX3_init 17 = .ok (.putfield 15, 3) := by decide +kernel
theorem dX3_init_20 : decode cX3_init 20 = .ok (.aload_n 0, 1) := by decide +kernel
theorem dX3_init_21 : decode cX3_init 21 = .ok (.bipush 8, 2) := by decide +kernel
theorem dX3_init_23 : decode cX3_init 23 = .ok (.bipush 40, 2) := by decide +kernel
theorem dX3_init_25 : decode cX3_init 25 = .ok (.multianewarray 18 2, 4) := by decide +kernel
theorem dX3_init_29 : decode cX3_init 29 = .ok (.putfield 20, 3) := by decide +kernel
theorem dX3_init_32 : decode cX3_init 32 = .ok (.iconst 0, 1) := by decide +kernel
theorem dX3_init_33 : decode cX3_init 33 = .ok (.istore_n 1, 1) := by decide +kernel
theorem dX3_init_34 : decode cX3_init 34 = .ok (.iload_n 1, 1) := by decide +kernel
theorem dX3_init_35 : decode cX3_init 35 = .ok (.bipush 8, 2) := by decide +kernel
theorem dX3_init_37 : decode cX3_init 37 = .ok (.if_icmp .ge 16, 3) := by decide +kernel
theorem dX3_init_40 : decode cX3_init 40 = .ok (.aload_n 0, 1) := by decide +kernel
theorem dX3_init_41 : decode cX3_init 41 = .ok (.getfield 15, 3) := by decide +kernel
theorem dX3_init_44 : decode cX3_init 44 = .ok (.iload_n 1, 1) := by decide +kernel
theorem dX3_init_45 : decode cX3_init 45 = .ok (.iconst (-1), 1) := by decide +kernel
theorem dX3_init_46 : decode cX3_init 46 = .ok (.iastore, 1) := by decide +kernel
theorem dX3_init_47 : decode cX3_init 47 = .ok (.iinc 1 1, 3) := by decide +kernel
theorem dX3_init_50 : decode cX3_init 50 = .ok (.goto (-16), 3) := by decide +kernel
theorem dX3_init_53 : decode cX3_init 53 = .ok (.return_, 1) := by decide +kernel
theorem dX3_isMissing_0 : decode cX3_isMissing 0 = .ok (.aload_n 0, 1) := by decide +kernel
theorem dX3_isMissing_1 : decode cX3_isMissing 1 = .ok (.getfield 15, 3) := by decide +kernel
theorem dX3_isMissing_4 : decode cX3_isMissing 4 = .ok (.iload_n 1, 1) := by decide +kernel
theorem dX3_isMissing_5 : decode cX3_isMissing 5 = .ok (.iaload, 1) := by decide +kernel
theorem dX3_isMissing_6 : decode cX3_isMissing 6 = .ok (.iconst (-1), 1) := by decide +kernel
theorem dX3_isMissing_7 : decode cX3_isMissing 7 = .ok (.if_icmp .ne 7, 3) := by decide +kernel
theorem dX3_isMissing_10 : decode cX3_isMissing 10 = .ok (.iconst 1, 1) := by decide +kernel
theorem dX3_isMissing_11 : decode cX3_isMissing 11 = .ok (.goto 4, 3) := by decide +kernel
theorem dX3_isMissing_14 : decode cX3_isMissing 14 = .ok (.iconst 0, 1) := by decide +kernel
theorem dX3_isMissing_15 : decode cX3_isMissing 15 = .ok (.ireturn, 1) := by decide +kernel
theorem dX3_many_0 : decode cX3_many 0 = .ok (.iconst 0, 1) := by decide +kernel
theorem dX3_many_1 : decode cX3_many 1 = .ok (.istore_n 1, 1) := by decide +kernel
theorem dX3_many_2 : decode cX3_many 2 = .ok (.iconst 0, 1) := by decide +kernel
theorem dX3_many_3 : decode cX3_many 3 = .ok (.istore_n 2, 1) := by decide +kernel
theorem dX3_many_4 : decode cX3_many 4 = .ok (.iload_n 2, 1) := by decide +kernel
theorem dX3_many_5 : decode cX3_many 5 = .ok (.bipush 8, 2) := by decide +kernel
theorem dX3_many_7 : decode cX3_many 7 = .ok (.if_icmp .ge 20, 3) := by decide +kernel
theorem dX3_many_10 : decode cX3_many 10 = .ok (.aload_n 0, 1) := by decide +kernel
theorem dX3_many_11 : decode cX3_many 11 = .ok (.iload_n 2, 1) := by decide +kernel
theorem dX3_many_12 : decode cX3_many 12 = .ok (.invokevirtual 23, 3) := by decide +kernel
theorem dX3_many_15 : decode cX3_many 15 = .ok (.ifCond .ne 6, 3) := by decide +kernel
theorem dX3_many_18 : decode cX3_many 18 = .ok (.iinc 1 1, 3) := by decide +kernel
theorem dX3_many_21 : decode cX3_many 21 = .ok (.iinc 2 1, 3) := by decide +kernel
theorem dX3_many_24 : decode cX3_many 24 = .ok (.goto (-20), 3) := by decide +kernel
theorem dX3_many_27 : decode cX3_many 27 = .ok (.iload_n 1, 1) := by decide +kernel
theorem dX3_many_28 : decode cX3_many 28 = .ok (.ireturn, 1) := by decide +kernel
theorem dX3_make_0 : decode cX3_make 0 = .ok (.aload_n 0, 1) := by decide +kernel
theorem dX3_make_1 : decode cX3_make 1 = .ok (.getfield 9, 3) := by decide +kernel
theorem dX3_make_4 : decode cX3_make 4 = .ok (.iload_n 1, 1) := by decide +kernel
theorem dX3_make_5 : decode cX3_make 5 = .ok (.iload_n 2, 1) := by decide +kernel
theorem dX3_make_6 : decode cX3_make 6 = .ok (.iastore, 1) := by decide +kernel
theorem dX3_make_7 : decode cX3_make 7 = .ok (.aload_n 0, 1) := by decide +kernel
theorem dX3_make_8 : decode cX3_make 8 = .ok (.getfield 15, 3) := by decide +kernel
theorem dX3_make_11 : decode cX3_make 11 = .ok (.iload_n 1, 1) := by decide +kernel
theorem dX3_make_12 : decode cX3_make 12 = .ok (.iload_n 3, 1) := by decide +kernel
theorem dX3_make_13 : decode cX3_make 13 = .ok (.iastore, 1) := by decide +kernel
theorem dX3_make_14 : decode cX3_make 14 = .ok (.iconst 0, 1) := by decide +kernel
theorem dX3_make_15 : decode cX3_make 15 = .ok (.istore 4, 2) := by decide +kernel
theorem dX3_make_17 : decode cX3_make 17 = .ok (.iload 4, 2) := by decide +kernel
theorem dX3_make_19 : decode cX3_make 19 = .ok (.iload_n 3, 1) := by decide +kernel
theorem dX3_make_20 : decode cX3_make 20 = .ok (.if_icmp .ge 19, 3) := by decide +kernel
theorem dX3_make_23 : decode cX3_make 23 = .ok (.aload_n 0, 1) := by decide +kernel
theorem dX3_make_24 : decode cX3_make 24 = .ok (.getfield 20, 3) := by decide +kernel
theorem dX3_make_27 : decode cX3_make 27 = .ok (.iload_n 1, 1) := by decide +kernel
theorem dX3_make_28 : decode cX3_make 28 = .ok (.aaload, 1) := by decide +kernel
theorem dX3_make_29 : decode cX3_make 29 = .ok (.iload 4, 2) := by decide +kernel
theorem dX3_make_31 : decode cX3_make 31 = .ok (.iconst 0, 1) := by decide +kernel
theorem dX3_make_32 : decode cX3_make 32 = .ok (.iastore, 1) := by decide +kernel
theorem dX3_make_33 : decode cX3_make 33 = .ok (.iinc 4 1, 3) := by decide +kernel
theorem dX3_make_36 : decode cX3_make 36 = .ok (.goto (-19), 3) := by decide +kernel
theorem dX3_make_39 : decode cX3_make 39 = .ok (.return_, 1) := by decide +kernel
theorem dX3_look_0 : decode cX3_look 0 = .ok (.aload_n 0, 1) := by decide +kernel
theorem dX3_look_1 : decode cX3_look 1 = .ok (.iload_n 1, 1) := by decide +kernel
theorem dX3_look_2 : decode cX3_look 2 = .ok (.invokevirtual 23, 3) := by decide +kernel
theorem dX3_look_5 : decode cX3_look 5 = .ok (.ifCond .eq 5, 3) := by decide +kernel
theorem dX3_look_8 : decode cX3_look 8 = .ok (.iconst 1, 1) := by decide +kernel
theorem dX3_look_9 : decode cX3_look 9 = .ok (.ireturn, 1) := by decide +kernel
theorem dX3_look_10 : decode cX3_look 10 = .ok (.iload_n 2, 1) := by decide +kernel
theorem dX3_look_11 : decode cX3_look 11 = .ok (.ifCond .lt 29, 3) := by decide +kernel
theorem dX3_look_14 : decode cX3_look 14 = .ok (.iload_n 3, 1) := by decide +kernel
theorem dX3_look_15 : decode cX3_look 15 = .ok (.ifCond .lt 25, 3) := by decide +kernel
theorem dX3_look_18 : decode cX3_look 18 = .ok (.iload_n 3, 1) := by decide +kernel
theorem dX3_look_19 : decode cX3_look 19 = .ok (.aload_n 0, 1) := by decide +kernel
theorem dX3_look_20 : decode cX3_look 20 = .ok (.getfield 15, 3) := by decide +kernel
theorem dX3_look_23 : decode cX3_look 23 = .ok (.iload_n 1, 1) := by decide +kernel
theorem dX3_look_24 : decode cX3_look 24 = .ok (.iaload, 1) := by decide +kernel
theorem dX3_look_25 : decode cX3_look 25 = .ok (.if_icmp .gt 15, 3) := by decide +kernel
theorem dX3_look_28 : decode cX3_look 28 = .ok (.iload_n 2, 1) := by decide +kernel
theorem dX3_look_29 : decode cX3_look 29 = .ok (.aload_n 0, 1) := by decide +kernel
theorem dX3_look_30 : decode cX3_look 30 = .ok (.getfield 15, 3) := by decide +kernel
theorem dX3_look_33 : decode cX3_look 33 = .ok (.iload_n 1, 1) := by decide +kernel
theorem dX3_look_34 : decode cX3_look 34 = .ok (.iaload, 1) := by decide +kernel
theorem dX3_look_35 : decode cX3_look 35 = .ok (.iload_n 3, 1) := by decide +kernel
theorem dX3_look_36 : decode cX3_look 36 = .ok (.isub, 1) := by decide +kernel
theorem dX3_look_37 : decode cX3_look 37 = .ok (.if_icmp .le 5, 3) := by decide +kernel
theorem dX3_look_40 : decode cX3_look 40 = .ok (.iconst 2, 1) := by decide +kernel
theorem dX3_look_41 : decode cX3_look 41 = .ok (.ireturn, 1) := by decide +kernel
theorem dX3_look_42 : decode cX3_look 42 = .ok (.iconst 0, 1) := by decide +kernel
theorem dX3_look_43 : decode cX3_look 43 = .ok (.ireturn, 1) := by decide +kernel
theorem dX3_put_0 : decode cX3_put 0 = .ok (.iload_n 3, 1) := by decide +kernel
theorem dX3_put_1 : decode cX3_put 1 = .ok (.istore 4, 2) := by decide +kernel
theorem dX3_put_3 : decode cX3_put 3 = .ok (.aload_n 0, 1) := by decide +kernel
theorem dX3_put_4 : decode cX3_put 4 = .ok (.getfield 9, 3) := by decide +kernel
theorem dX3_put_7 : decode cX3_put 7 = .ok (.iload_n 1, 1) := by decide +kernel
theorem dX3_put_8 : decode cX3_put 8 = .ok (.iaload, 1) := by decide +kernel
theorem dX3_put_9 : decode cX3_put 9 = .ok (.ifCond .ne 10, 3) := by decide +kernel
theorem dX3_put_12 : decode cX3_put 12 = .ok (.iload_n 3, 1) := by decide +kernel
theorem dX3_put_13 : decode cX3_put 13 = .ok (.i2b, 1) := by decide +kernel
theorem dX3_put_14 : decode cX3_put 14 = .ok (.istore 4, 2) := by decide +kernel
theorem dX3_put_16 : decode cX3_put 16 = .ok (.goto 17, 3) := by decide +kernel
theorem dX3_put_19 : decode cX3_put 19 = .ok (.aload_n 0, 1) := by decide +kernel
theorem dX3_put_20 : decode cX3_put 20 = .ok (.getfield 9, 3) := by decide +kernel
theorem dX3_put_23 : decode cX3_put 23 = .ok (.iload_n 1, 1) := by decide +kernel
theorem dX3_put_24 : decode cX3_put 24 = .ok (.iaload, 1) := by decide +kernel
theorem dX3_put_25 : decode cX3_put 25 = .ok (.iconst 1, 1) := by decide +kernel
theorem dX3_put_26 : decode cX3_put 26 = .ok (.if_icmp .ne 7, 3) := by decide +kernel
theorem dX3_put_29 : decode cX3_put 29 = .ok (.iload_n 3, 1) := by decide +kernel
theorem dX3_put_30 : decode cX3_put 30 = .ok (.i2s, 1) := by decide +kernel
theorem dX3_put_31 : decode cX3_put 31 = .ok (.istore 4, 2) := by decide +kernel
theorem dX3_put_33 : decode cX3_put 33 = .ok (.aload_n 0, 1) := by decide +kernel
theorem dX3_put_34 : decode cX3_put 34 = .ok (.getfield 20, 3) := by decide +kernel
theorem dX3_put_37 : decode cX3_put 37 = .ok (.iload_n 1, 1) := by decide +kernel
theorem dX3_put_38 : decode cX3_put 38 = .ok (.aaload, 1) := by decide +kernel
theorem dX3_put_39 : decode cX3_put 39 = .ok (.iload_n 2, 1) := by decide +kernel
theorem dX3_put_40 : decode cX3_put 40 = .ok (.iload 4, 2) := by decide +kernel
theorem dX3_put_42 : decode cX3_put 42 = .ok (.iastore, 1) := by decide +kernel
theorem dX3_put_43 : decode cX3_put 43 = .ok (.iload 4, 2) := by decide +kernel
theorem dX3_put_45 : decode cX3_put 45 = .ok (.ireturn, 1) := by decide +kernel
theorem dX4_init_0 : decode cX4_init 0 = .ok (.aload_n 0, 1) := by decide +kernel
theorem dX4_init_1 : decode cX4_init 1 = .ok (.invokespecial 3, 3) := by decide +kernel
theorem dX4_init_4 : decode cX4_init 4 = .ok (.aload_n 0, 1) := by decide +kernel
theorem dX4_init_5 : decode cX4_init 5 = .ok (.bipush 120, 2) := by decide +kernel
theorem dX4_init_7 : decode cX4_init 7 = .ok (.newarray .int, 2) := by decide +kernel
theorem dX4_init_9 : decode cX4_init 9 = .ok (.putfield 9, 3) := by decide +kernel
theorem dX4_init_12 : decode cX4_init 12 = .ok (.return_, 1) := by decide +kernel
theorem dX4_begin_0 : decode cX4_begin 0 = .ok (.aload_n 0, 1) := by decide +kernel
theorem dX4_begin_1 : decode cX4_begin 1 = .ok (.iconst 0, 1) := by decide +kernel
theorem dX4_begin_2 : decode cX4_begin 2 = .ok (.putfield 15, 3) := by decide +kernel
theorem dX4_begin_5 : decode cX4_begin 5 = .ok (.aload_n 0, 1) := by decide +kernel
theorem dX4_begin_6 : decode cX4_begin 6 = .ok (.iconst 0, 1) := by decide +kernel
theorem dX4_begin_7 : decode cX4_begin 7 = .ok (.putfield 19, 3) := by decide +kernel
theorem dX4_begin_10 : decode cX4_begin 10 = .ok (.aload_n 0, 1) := by decide +kernel
theorem dX4_begin_11 : decode cX4_begin 11 = .ok (.iconst 0, 1) := by decide +kernel
theorem dX4_begin_12 : decode cX4_begin 12 = .ok (.putfield 22, 3) := by decide +kernel
theorem dX4_begin_15 : decode cX4_begin 15 = .ok (.return_, 1) := by decide +kernel
theorem dX4_goesOn_0 : decode cX4_goesOn 0 = .ok (.aload_n 0, 1) := by decide +kernel
theorem dX4_goesOn_1 : decode cX4_goesOn 1 = .ok (.getfield 19, 3) := by decide +kernel
theorem dX4_goesOn_4 : decode cX4_goesOn 4 = .ok (.ifCond .ne 18, 3) := by decide +kernel
theorem dX4_goesOn_7 : decode cX4_goesOn 7 = .ok (.aload_n 0, 1) := by decide +kernel
theorem dX4_goesOn_8 : decode cX4_goesOn 8 = .ok (.getfield 15, 3) := by decide +kernel
theorem dX4_goesOn_11 : decode cX4_goesOn 11 = .ok (.aload_n 0, 1) := by decide +kernel
theorem dX4_goesOn_12 : decode cX4_goesOn 12 = .ok (.getfield 25, 3) := by decide +kernel
theorem dX4_goesOn_15 : decode cX4_goesOn 15 = .ok (.if_icmp .ge 7, 3) := by decide +kernel
theorem dX4_goesOn_18 : decode cX4_goesOn 18 = .ok (.iconst 1, 1) := by decide +kernel
theorem dX4_goesOn_19 : decode cX4_goesOn 19 = .ok (.goto 4, 3) := by decide +kernel
theorem dX4_goesOn_22 : decode cX4_goesOn 22 = .ok (.iconst 0, 1) := by decide +kernel
theorem dX4_goesOn_23 : decode cX4_goesOn 23 = .ok (.ireturn, 1) := by decide +kernel
theorem dX4_fail_0 : decode cX4_fail 0 = .ok (.aload_n 0, 1) := by decide +kernel
theorem dX4_fail_1 : decode cX4_fail 1 = .ok (.getfield 19, 3) := by decide +kernel
theorem dX4_fail_4 : decode cX4_fail 4 = .ok (.ifCond .ne 13, 3) := by decide +kernel
theorem dX4_fail_7 : decode cX4_fail 7 = .ok (.aload_n 0, 1) := by decide +kernel
theorem dX4_fail_8 : decode cX4_fail 8 = .ok (.iload_n 1, 1) := by decide +kernel
theorem dX4_fail_9 : decode cX4_fail 9 = .ok (.putfield 19, 3) := by decide +kernel
theorem dX4_fail_12 : decode cX4_fail 12 = .ok (.aload_n 0, 1) := by decide +kernel
theorem dX4_fail_13 : decode cX4_fail 13 = .ok (.iload_n 2, 1) := by decide +kernel
theorem dX4_fail_14 : decode cX4_fail 14 = .ok (.putfield 22, 3) := by decide +kernel
theorem dX4_fail_17 : decode cX4_fail 17 = .ok (.return_, 1) := by decide +kernel
theorem dX4_byteAt_0 : decode cX4_byteAt 0 = .ok (.iload_n 1, 1) := by decide +kernel
theorem dX4_byteAt_1 : decode cX4_byteAt 1 = .ok (.ifCond .lt 26, 3) := by decide +kernel
theorem dX4_byteAt_4 : decode cX4_byteAt 4 = .ok (.iload_n 1, 1) := by decide +kernel
theorem dX4_byteAt_5 : decode cX4_byteAt 5 = .ok (.aload_n 0, 1) := by decide +kernel
theorem dX4_byteAt_6 : decode cX4_byteAt 6 = .ok (.getfield 25, 3) := by decide +kernel
theorem dX4_byteAt_9 : decode cX4_byteAt 9 = .ok (.if_icmp .ge 18, 3) := by decide +kernel
theorem dX4_byteAt_12 : decode cX4_byteAt 12 = .ok (.iload_n 1, 1) := by decide +kernel
theorem dX4_byteAt_13 : decode cX4_byteAt 13 = .ok (.bipush 120, 2) := by decide +kernel
theorem dX4_byteAt_15 : decode cX4_byteAt 15 = .ok (.if_icmp .ge 12, 3) := by decide +kernel
theorem dX4_byteAt_18 : decode cX4_byteAt 18 = .ok (.aload_n 0, 1) := by decide +kernel
theorem dX4_byteAt_19 : decode cX4_byteAt 19 = .ok (.getfield 9, 3) := by decide +kernel
theorem dX4_byteAt_22 : decode cX4_byteAt 22 = .ok (.iload_n 1, 1) := by decide +kernel
theorem dX4_byteAt_23 : decode cX4_byteAt 23 = .ok (.iaload, 1) := by decide +kernel
theorem dX4_byteAt_24 : decode cX4_byteAt 24 = .ok (.goto 4, 3) := by decide +kernel
theorem dX4_byteAt_27 : decode cX4_byteAt 27 = .ok (.iconst (-1), 1) := by decide +kernel
theorem dX4_byteAt_28 : decode cX4_byteAt 28 = .ok (.ireturn, 1) := by decide +kernel
theorem dX4_next_0 : decode cX4_next 0 = .ok (.aload_n 0, 1) := by decide +kernel
theorem dX4_next_1 : decode cX4_next 1 = .ok (.aload_n 0, 1) := by decide +kernel
theorem dX4_next_2 : decode cX4_next 2 = .ok (.getfield 15, 3) := by decide +kernel
theorem dX4_next_5 : decode cX4_next 5 = .ok (.invokevirtual 28, 3) := by decide +kernel
theorem dX4_next_8 : decode cX4_next 8 = .ok (.ireturn, 1) := by decide +kernel
theorem dX4_isFigure_0 : decode cX4_isFigure 0 = .ok (.aload_n 0, 1) := by decide +kernel
theorem dX4_isFigure_1 : decode cX4_isFigure 1 = .ok (.iload_n 1, 1) := by decide +kernel
theorem dX4_isFigure_2 : decode cX4_isFigure 2 = .ok (.invokevirtual 28, 3) := by decide +kernel
theorem dX4_isFigure_5 : decode cX4_isFigure 5 = .ok (.bipush 48, 2) := by decide +kernel
theorem dX4_isFigure_7 : decode cX4_isFigure 7 = .ok (.bipush 57, 2) := by decide +kernel
theorem dX4_isFigure_9 : decode cX4_isFigure 9 = .ok (.invokestatic 32, 3) := by decide +kernel
theorem dX4_isFigure_12 : decode cX4_isFigure 12 = .ok (.ireturn, 1) := by decide +kernel
theorem dX4_expect_0 : decode cX4_expect 0 = .ok (.aload_n 0, 1) := by decide +kernel
theorem dX4_expect_1 : decode cX4_expect 1 = .ok (.getfield 19, 3) := by decide +kernel
theorem dX4_expect_4 : decode cX4_expect 4 = .ok (.ifCond .eq 4, 3) := by decide +kernel
theorem dX4_expect_7 : decode cX4_expect 7 = .ok (.return_, 1) := by decide +kernel
theorem dX4_expect_8 : decode cX4_expect 8 = .ok (.aload_n 0, 1) := by decide +kernel
theorem dX4_expect_9 : decode cX4_expect 9 = .ok (.invokevirtual 36, 3) := by decide +kernel
theorem dX4_expect_12 : decode cX4_expect 12 = .ok (.iload_n 1, 1) := by decide +kernel
theorem dX4_expect_13 : decode cX4_expect 13 = .ok (.if_icmp .ne 16, 3) := by decide +kernel
theorem dX4_expect_16 : decode cX4_expect 16 = .ok (.aload_n 0, 1) := by decide +kernel
theorem dX4_expect_17 : decode cX4_expect 17 = .ok (.dup, 1) := by decide +kernel
theorem dX4_expect_18 : decode cX4_expect 18 = .ok (.getfield 15, 3) := by decide +kernel
theorem dX4_expect_21 : decode cX4_expect 21 = .ok (.iconst 1, 1) := by decide +kernel
theorem dX4_expect_22 : decode cX4_expect 22 = .ok (.iadd, 1) := by decide +kernel
theorem dX4_expect_23 : decode cX4_expect 23 = .ok (.putfield 15, 3) := by decide +kernel
theorem dX4_expect_26 : decode cX4_expect 26 = .ok (.goto 12, 3) := by decide +kernel
theorem dX4_expect_29 : decode cX4_expect 29 = .ok (.aload_n 0, 1) := by decide +kernel
theorem dX4_expect_30 : decode cX4_expect 30 = .ok (.iconst 1, 1) := by decide +kernel
theorem dX4_expect_31 : decode cX4_expect 31 = .ok (.aload_n 0, 1) := by decide +kernel
theorem dX4_expect_32 : decode cX4_expect 32 = .ok (.getfield 15, 3) := by decide +kernel
theorem dX4_expect_35 : decode cX4_expect 35 = .ok (.invokevirtual 40, 3) := by decide +kernel
theorem dX4_expect_38 : decode cX4_expect 38 = .ok (.return_, 1) := by decide +kernel
theorem dX4_number_0 : decode cX4_number 0 = .ok (.aload_n 0, 1) := by decide +kernel
theorem dX4_number_1 : decode cX4_number 1 = .ok (.getfield 19, 3) := by decide +kernel
theorem dX4_number_4 : decode cX4_number 4 = .ok (.ifCond .eq 5, 3) := by decide +kernel
theorem dX4_number_7 : decode cX4_number 7 = .ok (.iconst 0, 1) := by decide +kernel
theorem dX4_number_8 : decode cX4_number 8 = .ok (.ireturn, 1) := by decide +kernel
theorem dX4_number_9 : decode cX4_number 9 = .ok (.iconst 0, 1) := by decide +kernel
theorem dX4_number_10 : decode cX4_number 10 = .ok (.istore_n 3, 1) := by decide +kernel
theorem dX4_number_11 : decode cX4_number 11 = .ok (.iconst 0, 1) := by decide +kernel
theorem dX4_number_12 : decode cX4_number 12 = .ok (.istore 4, 2) := by decide +kernel
theorem dX4_number_14 : decode cX4_number 14 = .ok (.iload_n 3, 1) := by decide +kernel
theorem dX4_number_15 : decode cX4_number 15 = .ok (.iconst 3, 1) := by decide +kernel
theorem dX4_number_16 : decode cX4_number 16 = .ok (.if_icmp .ge 43, 3) := by decide +kernel
theorem dX4_number_19 : decode cX4_number 19 = .ok (.aload_n 0, 1) := by decide +kernel
theorem dX4_number_20 : decode cX4_number 20 = .ok (.aload_n 0, 1) := by decide +kernel
theorem dX4_number_21 : decode cX4_number 21 = .ok (.getfield 15, 3) := by decide +kernel
theorem dX4_number_24 : decode cX4_number 24 = .ok (.iload_n 3, 1) := by decide +kernel
theorem dX4_number_25 : decode cX4_number 25 = .ok (.iadd, 1) := by decide +kernel
theorem dX4_number_26 : decode cX4_number 26 = .ok (.invokevirtual 44, 3) := by decide +kernel
theorem dX4_number_29 : decode cX4_number 29 = .ok (.ifCond .eq 30, 3) := by decide +kernel
theorem dX4_number_32 : decode cX4_number 32 = .ok (.bipush 10, 2) := by decide +kernel
theorem dX4_number_34 : decode cX4_number 34 = .ok (.iload 4, 2) := by decide +kernel
theorem dX4_number_36 : decode cX4_number 36 = .ok (.imul, 1) := by decide +kernel
theorem dX4_number_37 : decode cX4_number 37 = .ok (.aload_n 0, 1) := by decide +kernel
theorem dX4_number_38 : decode cX4_number 38 = .ok (.aload_n 0, 1) := by decide +kernel
theorem dX4_number_39 : decode cX4_number 39 = .ok (.getfield 15, 3) := by decide +kernel
theorem dX4_number_42 : decode cX4_number 42 = .ok (.iload_n 3, 1) := by decide +kernel
theorem dX4_number_43 : decode cX4_number 43 = .ok (.iadd, 1) := by decide +kernel
theorem dX4_number_44 : decode cX4_number 44 = .ok (.invokevirtual 28, 3) := by decide +kernel
theorem dX4_number_47 : decode cX4_number 47 = .ok (.iadd, 1) := by decide +kernel
theorem dX4_number_48 : decode cX4_number 48 = .ok (.bipush 48, 2) := by decide +kernel
theorem dX4_number_50 : decode cX4_number 50 = .ok (.isub, 1) := by decide +kernel
theorem dX4_number_51 : decode cX4_number 51 = .ok (.istore 4, 2) := by decide +kernel
theorem dX4_number_53 : decode cX4_number 53 = .ok (.iinc 3 1, 3) := by decide +kernel
theorem dX4_number_56 : decode cX4_number 56 = .ok (.goto (-42), 3) := by decide +kernel
theorem dX4_number_59 : decode cX4_number 59 = .ok (.iload_n 3, 1) := by decide +kernel
theorem dX4_number_60 : decode cX4_number 60 = .ok (.ifCond .eq 8, 3) := by decide +kernel
theorem dX4_number_63 : decode cX4_number 63 = .ok (.iload_n 3, 1) := by decide +kernel
theorem dX4_number_64 : decode cX4_number 64 = .ok (.iconst 2, 1) := by decide +kernel
theorem dX4_number_65 : decode cX4_number 65 = .ok (.if_icmp .le 14, 3) := by decide +kernel
theorem dX4_number_68 : decode cX4_number 68 = .ok (.aload_n 0, 1) := by decide +kernel
theorem dX4_number_69 : decode cX4_number 69 = .ok (.iconst 1, 1) := by decide +kernel
theorem dX4_number_70 : decode cX4_number 70 = .ok (.aload_n 0, 1) := by decide +kernel
theorem dX4_number_71 : decode cX4_number 71 = .ok (.getfield 15, 3) := by decide +kernel
theorem dX4_number_74 : decode cX4_number 74 = .ok (.invokevirtual 40, 3) := by decide +kernel
theorem dX4_number_77 : decode cX4_number 77 = .ok (.iconst 0, 1) := by decide +kernel
theorem dX4_number_78 : decode cX4_number 78 = .ok (.ireturn, 1) := by decide +kernel
theorem dX4_number_79 : decode cX4_number 79 = .ok (.iload 4, 2) := by decide +kernel
theorem dX4_number_81 : decode cX4_number 81 = .ok (.iload_n 1, 1) := by decide +kernel
theorem dX4_number_82 : decode cX4_number 82 = .ok (.iload_n 2, 1) := by decide +kernel
theorem dX4_number_83 : decode cX4_number 83 = .ok (.invokestatic 32, 3) := by decide +kernel
theorem dX4_number_86 : decode cX4_number 86 = .ok (.ifCond .ne 14, 3) := by decide +kernel
theorem dX4_number_89 : decode cX4_number 89 = .ok (.aload_n 0, 1) := by decide +kernel
theorem dX4_number_90 : decode cX4_number 90 = .ok (.iconst 2, 1) := by decide +kernel
theorem dX4_number_91 : decode cX4_number 91 = .ok (.aload_n 0, 1) := by decide +kernel
theorem dX4_number_92 : decode cX4_number 92 = .ok (.getfield 15, 3) := by decide +kernel
theorem dX4_number_95 : decode cX4_number 95 = .ok (.invokevirtual 40, 3) := by decide +kernel
theorem dX4_number_98 : decode cX4_number 98 = .ok (.iconst 0, 1) := by decide +kernel
theorem dX4_number_99 : decode cX4_number 99 = .ok (.ireturn, 1) := by decide +kernel
theorem dX4_number_100 : decode cX4_number 100 = .ok (.aload_n 0, 1) := by decide +kernel
theorem dX4_number_101 : decode cX4_number 101 = .ok (.dup, 1) := by decide +kernel
theorem dX4_number_102 : decode cX4_number 102 = .ok (.getfield 15, 3) := by decide +kernel
theorem dX4_number_105 : decode cX4_number 105 = .ok (.iload_n 3, 1) := by decide +kernel
theorem dX4_number_106 : decode cX4_number 106 = .ok (.iadd, 1) := by decide +kernel
theorem dX4_number_107 : decode cX4_number 107 = .ok (.putfield 15, 3) := by decide +kernel
theorem dX4_number_110 : decode cX4_number 110 = .ok (.iload 4, 2) := by decide +kernel
theorem dX4_number_112 : decode cX4_number 112 = .ok (.ireturn, 1) := by decide +kernel
theorem dX5_init_0 : decode cX5_init 0 = .ok (.aload_n 0, 1) := by decide +kernel
theorem dX5_init_1 : decode cX5_init 1 = .ok (.invokespecial 1, 3) := by decide +kernel
theorem dX5_init_4 : decode cX5_init 4 = .ok (.aload_n 0, 1) := by decide +kernel
theorem dX5_init_5 : decode cX5_init 5 = .ok (.new 7, 3) := by decide +kernel
theorem dX5_init_8 : decode cX5_init 8 = .ok (.dup, 1) := by decide +kernel
theorem dX5_init_9 : decode cX5_init 9 = .ok (.invokespecial 9, 3) := by decide +kernel
theorem dX5_init_12 : decode cX5_init 12 = .ok (.putfield 10, 3) := by decide +kernel
theorem dX5_init_15 : decode cX5_init 15 = .ok (.aload_n 0, 1) := by decide +kernel
theorem dX5_init_16 : decode cX5_init 16 = .ok (.new 16, 3) := by decide +kernel
theorem dX5_init_19 : decode cX5_init 19 = .ok (.dup, 1) := by decide +kernel
theorem dX5_init_20 : decode cX5_init 20 = .ok (.invokespecial 18, 3) := by decide +kernel
theorem dX5_init_23 : decode cX5_init 23 = .ok (.putfield 19, 3) := by decide +kernel
theorem dX5_init_26 : decode cX5_init 26 = .ok (.aload_n 0, 1) := by decide +kernel
theorem dX5_init_27 : decode cX5_init 27 = .ok (.new 23, 3) := by decide +kernel
theorem dX5_init_30 : decode cX5_init 30 = .ok (.dup, 1) := by decide +kernel
theorem dX5_init_31 : decode cX5_init 31 = .ok (.invokespecial 25, 3) := by decide +kernel
theorem dX5_init_34 : decode cX5_init 34 = .ok (.putfield 26, 3) := by decide +kernel
theorem dX5_init_37 : decode cX5_init 37 = .ok (.aload_n 0, 1) := by decide +kernel
theorem dX5_init_38 : decode cX5_init 38 = .ok (.new 30, 3) := by decide +kernel
theorem dX5_init_41 : decode cX5_init 41 = .ok (.dup, 1) := by decide +kernel
theorem dX5_init_42 : decode cX5_init 42 = .ok (.invokespecial 32, 3) := by decide +kernel
theorem dX5_init_45 : decode cX5_init 45 = .ok (.putfield 33, 3) := by decide +kernel
theorem dX5_init_48 : decode cX5_init 48 = .ok (.aload_n 0, 1) := by decide +kernel
theorem dX5_init_49 : decode cX5_init 49 = .ok (.new 37, 3) := by decide +kernel
theorem dX5_init_52 : decode cX5_init 52 = .ok (.dup, 1) := by decide +kernel
theorem dX5_init_53 : decode cX5_init 53 = .ok (.invokespecial 39, 3) := by decide +kernel
theorem dX5_init_56 : decode cX5_init 56 = .ok (.putfield 40, 3) := by decide +kernel
theorem dX5_init_59 : decode cX5_init 59 = .ok (.aload_n 0, 1) := by decide +kernel
theorem dX5_init_60 : decode cX5_init 60 = .ok (.new 30, 3) := by decide +kernel
theorem dX5_init_63 : decode cX5_init 63 = .ok (.dup, 1) := by decide +kernel
theorem dX5_init_64 : decode cX5_init 64 = .ok (.invokespecial 32, 3) := by decide +kernel
theorem dX5_init_67 : decode cX5_init 67 = .ok (.putfield 44, 3) := by decide +kernel
theorem dX5_init_70 : decode cX5_init 70 = .ok (.aload_n 0, 1) := by decide +kernel
theorem dX5_init_71 : decode cX5_init 71 = .ok (.new 23, 3) := by decide +kernel
theorem dX5_init_74 : decode cX5_init 74 = .ok (.dup, 1) := by decide +kernel
theorem dX5_init_75 : decode cX5_init 75 = .ok (.invokespecial 25, 3) := by decide +kernel
theorem dX5_init_78 : decode cX5_init 78 = .ok (.putfield 47, 3) := by decide +kernel
theorem dX5_init_81 : decode cX5_init 81 = .ok (.aload_n 0, 1) := by decide +kernel
theorem dX5_init_82 : decode cX5_init 82 = .ok (.new 30, 3) := by decide +kernel
theorem dX5_init_85 : decode cX5_init 85 = .ok (.dup, 1) := by decide +kernel
theorem dX5_init_86 : decode cX5_init 86 = .ok (.invokespecial 32, 3) := by decide +kernel
theorem dX5_init_89 : decode cX5_init 89 = .ok (.putfield 50, 3) := by decide +kernel
theorem dX5_init_92 : decode cX5_init 92 = .ok (.aload_n 0, 1) := by decide +kernel
theorem dX5_init_93 : decode cX5_init 93 = .ok (.iconst 2, 1) := by decide +kernel
theorem dX5_init_94 : decode cX5_init 94 = .ok (.anewarray 23, 3) := by decide +kernel
theorem dX5_init_97 : decode cX5_init 97 = .ok (.putfield 53, 3) := by decide +kernel
theorem dX5_init_100 : decode cX5_init 100 = .ok (.aload_n 0, 1) := by decide +kernel
theorem dX5_init_101 : decode cX5_init 101 = .ok (.iconst 2, 1) := by decide +kernel
theorem dX5_init_102 : decode cX5_init 102 = .ok (.anewarray 30, 3) := by decide +kernel
theorem dX5_init_105 : decode cX5_init 105 = .ok (.putfield 57, 3) := by decide +kernel
theorem dX5_init_108 : decode cX5_init 108 = .ok (.aload_n 0, 1) := by decide +kernel
theorem dX5_init_109 : decode cX5_init 109 = .ok (.bipush 101, 2) := by decide +kernel
theorem dX5_init_111 : decode cX5_init 111 = .ok (.newarray .long, 2) := by decide +kernel
theorem dX5_init_113 : decode cX5_init 113 = .ok (.putfield 61, 3) := by decide +kernel
theorem dX5_init_116 : decode cX5_init 116 = .ok (.aload_n 0, 1) := by decide +kernel
theorem dX5_init_117 : decode cX5_init 117 = .ok (.bipush 16, 2) := by decide +kernel
theorem dX5_init_119 : decode cX5_init 119 = .ok (.newarray .int, 2) := by decide +kernel
theorem dX5_init_121 : decode cX5_init 121 = .ok (.putfield 65, 3) := by decide +kernel
theorem dX5_init_124 : decode cX5_init 124 = .ok (.iconst 0, 1) := by decide +kernel
theorem dX5_init_125 : decode cX5_init 125 = .ok (.istore_n 1, 1) := by decide +kernel
theorem dX5_init_126 : decode cX5_init 126 = .ok (.iload_n 1, 1) := by decide +kernel
theorem dX5_init_127 : decode cX5_init 127 = .ok (.iconst 2, 1) := by decide +kernel
theorem dX5_init_128 : decode cX5_init 128 = .ok (.if_icmp .ge 35, 3) := by decide +kernel
theorem dX5_init_131 : decode cX5_init 131 = .ok (.aload_n 0, 1) := by decide +kernel
theorem dX5_init_132 : decode cX5_init 132 = .ok (.getfield 53, 3) := by decide +kernel
theorem dX5_init_135 : decode cX5_init 135 = .ok (.iload_n 1, 1) := by decide +kernel
theorem dX5_init_136 : decode cX5_init 136 = .ok (.new 23, 3) := by decide +kernel
theorem dX5_init_139 : decode cX5_init 139 = .ok (.dup, 1) := by decide +kernel
theorem dX5_init_140 : decode cX5_init 140 = .ok (.invokespecial 25, 3) := by decide +kernel
theorem dX5_init_143 : decode cX5_init 143 = .ok (.aastore, 1) := by decide +kernel
theorem dX5_init_144 : decode cX5_init 144 = .ok (.aload_n 0, 1) := by decide +kernel
theorem dX5_init_145 : decode cX5_init 145 = .ok (.getfield 57, 3) := by decide +kernel
theorem dX5_init_148 : decode cX5_init 148 = .ok (.iload_n 1, 1) := by decide +kernel
theorem dX5_init_149 : decode cX5_init 149 = .ok (.new 30, 3) := by decide +kernel
theorem dX5_init_152 : decode cX5_init 152 = .ok (.dup, 1) := by decide +kernel
theorem dX5_init_153 : decode cX5_init 153 = .ok (.invokespecial 32, 3) := by decide +kernel
theorem dX5_init_156 : decode cX5_init 156 = .ok (.aastore, 1) := by decide +kernel
theorem dX5_init_157 : decode cX5_init 157 = .ok (.iinc 1 1, 3) := by decide +kernel
theorem dX5_init_160 : decode cX5_init 160 = .ok (.goto (-34), 3) := by decide +kernel
theorem dX5_init_163 : decode cX5_init 163 = .ok (.return_, 1) := by decide +kernel
theorem dX5_row_0 : decode cX5_row 0 = .ok (.iload_n 1, 1) := by decide +kernel
theorem dX5_row_1 : decode cX5_row 1 = .ok (.invokestatic 69, 3) := by decide +kernel
theorem dX5_row_4 : decode cX5_row 4 = .ok (.ifCond .eq 18, 3) := by decide +kernel
theorem dX5_row_7 : decode cX5_row 7 = .ok (.iload_n 2, 1) := by decide +kernel
theorem dX5_row_8 : decode cX5_row 8 = .ok (.iconst 0, 1) := by decide +kernel
theorem dX5_row_9 : decode cX5_row 9 = .ok (.iconst 2, 1) := by decide +kernel
theorem dX5_row_10 : decode cX5_row 10 = .ok (.invokestatic 73, 3) := by decide +kernel
theorem dX5_row_13 : decode cX5_row 13 = .ok (.ifCond .eq 9, 3) := by decide +kernel
theorem dX5_row_16 : decode cX5_row 16 = .ok (.iload_n 3, 1) := by decide +kernel
theorem dX5_row_17 : decode cX5_row 17 = .ok (.bipush 40, 2) := by decide +kernel
theorem dX5_row_19 : decode cX5_row 19 = .ok (.if_icmp .le 6, 3) := by decide +kernel
theorem dX5_row_22 : decode cX5_row 22 = .ok (.ldc 77, 2) := by decide +kernel
theorem dX5_row_24 : decode cX5_row 24 = .ok (.ireturn, 1) := by decide +kernel
theorem dX5_row_25 : decode cX5_row 25 = .ok (.iload_n 3, 1) := by decide +kernel
theorem dX5_row_26 : decode cX5_row 26 = .ok (.ifCond .ge 9, 3) := by decide +kernel
theorem dX5_row_29 : decode cX5_row 29 = .ok (.aload_n 0, 1) := by decide +kernel
theorem dX5_row_30 : decode cX5_row 30 = .ok (.iconst 4, 1) := by decide +kernel
theorem dX5_row_31 : decode cX5_row 31 = .ok (.invokevirtual 78, 3) := by decide +kernel
theorem dX5_row_34 : decode cX5_row 34 = .ok (.ireturn, 1) := by decide +kernel
theorem dX5_row_35 : decode cX5_row 35 = .ok (.aload_n 0, 1) := by decide +kernel
theorem dX5_row_36 : decode cX5_row 36 = .ok (.getfield 10, 3) := by decide +kernel
theorem dX5_row_39 : decode cX5_row 39 = .ok (.iload_n 1, 1) := by decide +kernel
theorem dX5_row_40 : decode cX5_row 40 = .ok (.iload_n 2, 1) := by decide +kernel
theorem dX5_row_41 : decode cX5_row 41 = .ok (.iload_n 3, 1) := by decide +kernel
theorem dX5_row_42 : decode cX5_row 42 = .ok (.invokevirtual 82, 3) := by decide +kernel
theorem dX5_row_45 : decode cX5_row 45 = .ok (.aload_n 0, 1) := by decide +kernel
theorem dX5_row_46 : decode cX5_row 46 = .ok (.iload_n 3, 1) := by decide +kernel
theorem dX5_row_47 : decode cX5_row 47 = .ok (.invokevirtual 86, 3) := by decide +kernel
theorem dX5_row_50 : decode cX5_row 50 = .ok (.ireturn, 1) := by decide +kernel
theorem dX5_set_0 : decode cX5_set 0 = .ok (.iload_n 1, 1) := by decide +kernel
theorem dX5_set_1 : decode cX5_set 1 = .ok (.invokestatic 69, 3) := by decide +kernel
theorem dX5_set_4 : decode cX5_set 4 = .ok (.ifCond .ne 6, 3) := by decide +kernel
theorem dX5_set_7 : decode cX5_set 7 = .ok (.ldc 77, 2) := by decide +kernel
theorem dX5_set_9 : decode cX5_set 9 = .ok (.ireturn, 1) := by decide +kernel
theorem dX5_set_10 : decode cX5_set 10 = .ok (.aload_n 0, 1) := by decide +kernel
theorem dX5_set_11 : decode cX5_set 11 = .ok (.getfield 10, 3) := by decide +kernel
theorem dX5_set_14 : decode cX5_set 14 = .ok (.iload_n 1, 1) := by decide +kernel
theorem dX5_set_15 : decode cX5_set 15 = .ok (.iload_n 2, 1) := by decide +kernel
theorem dX5_set_16 : decode cX5_set 16 = .ok (.iconst 1, 1) := by decide +kernel
theorem dX5_set_17 : decode cX5_set 17 = .ok (.invokevirtual 89, 3) := by decide +kernel
theorem dX5_set_20 : decode cX5_set 20 = .ok (.istore 4, 2) := by decide +kernel
theorem dX5_set_22 : decode cX5_set 22 = .ok (.iload 4, 2) := by decide +kernel
theorem dX5_set_24 : decode cX5_set 24 = .ok (.ifCond .eq 10, 3) := by decide +kernel
theorem dX5_set_27 : decode cX5_set 27 = .ok (.aload_n 0, 1) := by decide +kernel
theorem dX5_set_28 : decode cX5_set 28 = .ok (.iload 4, 2) := by decide +kernel
theorem dX5_set_30 : decode cX5_set 30 = .ok (.invokevirtual 78, 3) := by decide +kernel
theorem dX5_set_33 : decode cX5_set 33 = .ok (.ireturn, 1) := by decide +kernel
theorem dX5_set_34 : decode cX5_set 34 = .ok (.aload_n 0, 1) := by decide +kernel
theorem dX5_set_35 : decode cX5_set 35 = .ok (.aload_n 0, 1) := by decide +kernel
theorem dX5_set_36 : decode cX5_set 36 = .ok (.getfield 10, 3) := by decide +kernel
theorem dX5_set_39 : decode cX5_set 39 = .ok (.iload_n 1, 1) := by decide +kernel
theorem dX5_set_40 : decode cX5_set 40 = .ok (.iload_n 2, 1) := by decide +kernel
theorem dX5_set_41 : decode cX5_set 41 = .ok (.iload_n 3, 1) := by decide +kernel
theorem dX5_set_42 : decode cX5_set 42 = .ok (.invokevirtual 93, 3) := by decide +kernel
theorem dX5_set_45 : decode cX5_set 45 = .ok (.invokevirtual 86, 3) := by decide +kernel
theorem dX5_set_48 : decode cX5_set 48 = .ok (.ireturn, 1) := by decide +kernel
theorem dX5_copy_0 : decode cX5_copy 0 = .ok (.iload_n 1, 1) := by decide +kernel
theorem dX5_copy_1 : decode cX5_copy 1 = .ok (.invokestatic 69, 3) := by decide +kernel
theorem dX5_copy_4 : decode cX5_copy 4 = .ok (.ifCond .eq 10, 3) := by decide +kernel
theorem dX5_copy_7 : decode cX5_copy 7 = .ok (.iload_n 3, 1) := by decide +kernel
theorem dX5_copy_8 : decode cX5_copy 8 = .ok (.invokestatic 69, 3) := by decide +kernel
theorem dX5_copy_11 : decode cX5_copy 11 = .ok (.ifCond .ne 6, 3) := by decide +kernel
theorem dX5_copy_14 : decode cX5_copy 14 = .ok (.ldc 77, 2) := by decide +kernel
theorem dX5_copy_16 : decode cX5_copy 16 = .ok (.ireturn, 1) := by decide +kernel
theorem dX5_copy_17 : decode cX5_copy 17 = .ok (.aload_n 0, 1) := by decide +kernel
theorem dX5_copy_18 : decode cX5_copy 18 = .ok (.getfield 10, 3) := by decide +kernel
theorem dX5_copy_21 : decode cX5_copy 21 = .ok (.iload_n 1, 1) := by decide +kernel
theorem dX5_copy_22 : decode cX5_copy 22 = .ok (.invokevirtual 96, 3) := by decide +kernel
theorem dX5_copy_25 : decode cX5_copy 25 = .ok (.ifCond .ne 14, 3) := by decide +kernel
theorem dX5_copy_28 : decode cX5_copy 28 = .ok (.aload_n 0, 1) := by decide +kernel
theorem dX5_copy_29 : decode cX5_copy 29 = .ok (.getfield 10, 3) := by decide +kernel
theorem dX5_copy_32 : decode cX5_copy 32 = .ok (.iload_n 3, 1) := by decide +kernel
theorem dX5_copy_33 : decode cX5_copy 33 = .ok (.invokevirtual 96, 3) := by decide +kernel
theorem dX5_copy_36 : decode cX5_copy 36 = .ok (.ifCond .eq 9, 3) := by decide +kernel
theorem dX5_copy_39 : decode cX5_copy 39 = .ok (.aload_n 0, 1) := by decide +kernel
theorem dX5_copy_40 : decode cX5_copy 40 = .ok (.iconst 1, 1) := by decide +kernel
theorem dX5_copy_41 : decode cX5_copy 41 = .ok (.invokevirtual 78, 3) := by decide +kernel
theorem dX5_copy_44 : decode cX5_copy 44 = .ok (.ireturn, 1) := by decide +kernel
theorem dX5_copy_45 : decode cX5_copy 45 = .ok (.aload_n 0, 1) := by decide +kernel
theorem dX5_copy_46 : decode cX5_copy 46 = .ok (.getfield 10, 3) := by decide +kernel
theorem dX5_copy_49 : decode cX5_copy 49 = .ok (.getfield 99, 3) := by decide +kernel
theorem dX5_copy_52 : decode cX5_copy 52 = .ok (.iload_n 1, 1) := by decide +kernel
theorem dX5_copy_53 : decode cX5_copy 53 = .ok (.iaload, 1) := by decide +kernel
theorem dX5_copy_54 : decode cX5_copy 54 = .ok (.aload_n 0, 1) := by decide +kernel
theorem dX5_copy_55 : decode cX5_copy 55 = .ok (.getfield 10, 3) := by decide +kernel
theorem dX5_copy_58 : decode cX5_copy 58 = .ok (.getfield 99, 3) := by decide +kernel
theorem dX5_copy_61 : decode cX5_copy 61 = .ok (.iload_n 3, 1) := by decide +kernel
theorem dX5_copy_62 : decode cX5_copy 62 = .ok (.iaload, 1) := by decide +kernel
theorem dX5_copy_63 : decode cX5_copy 63 = .ok (.if_icmp .eq 9, 3) := by decide +kernel
theorem dX5_copy_66 : decode cX5_copy 66 = .ok (.aload_n 0, 1) := by decide +kernel
theorem dX5_copy_67 : decode cX5_copy 67 = .ok (.iconst 5, 1) := by decide +kernel
theorem dX5_copy_68 : decode cX5_copy 68 = .ok (.invokevirtual 78, 3) := by decide +kernel
theorem dX5_copy_71 : decode cX5_copy 71 = .ok (.ireturn, 1) := by decide +kernel
theorem dX5_copy_72 : decode cX5_copy 72 = .ok (.aload_n 0, 1) := by decide +kernel
theorem dX5_copy_73 : decode cX5_copy 73 = .ok (.getfield 10, 3) := by decide +kernel
theorem dX5_copy_76 : decode cX5_copy 76 = .ok (.iload_n 1, 1) := by decide +kernel
theorem dX5_copy_77 : decode cX5_copy 77 = .ok (.iload_n 2, 1) := by decide +kernel
theorem dX5_copy_78 : decode cX5_copy 78 = .ok (.iload 5, 2) := by decide +kernel
theorem dX5_copy_80 : decode cX5_copy 80 = .ok (.invokevirtual 89, 3) := by decide +kernel
theorem dX5_copy_83 : decode cX5_copy 83 = .ok (.ifCond .ne 18, 3) := by decide +kernel
theorem dX5_copy_86 : decode cX5_copy 86 = .ok (.aload_n 0, 1) := by decide +kernel
theorem dX5_copy_87 : decode cX5_copy 87 = .ok (.getfield 10, 3) := by decide +kernel
theorem dX5_copy_90 : decode cX5_copy 90 = .ok (.iload_n 3, 1) := by decide +kernel
theorem dX5_copy_91 : decode cX5_copy 91 = .ok (.iload 4, 2) := by decide +kernel
theorem dX5_copy_93 : decode cX5_copy 93 = .ok (.iload 5, 2) := by decide +kernel
theorem dX5_copy_95 : decode cX5_copy 95 = .ok (.invokevirtual 89, 3) := by decide +kernel
theorem dX5_copy_98 : decode cX5_copy 98 = .ok (.ifCond .eq 9, 3) := by decide +kernel
theorem dX5_copy_101 : decode cX5_copy 101 = .ok (.aload_n 0, 1) := by decide +kernel
theorem dX5_copy_102 : decode cX5_copy 102 = .ok (.iconst 2, 1) := by decide +kernel
theorem dX5_copy_103 : decode cX5_copy 103 = .ok (.invokevirtual 78, 3) := by decide +kernel
theorem dX5_copy_106 : decode cX5_copy 106 = .ok (.ireturn, 1) := by decide +kernel
theorem dX5_copy_107 : decode cX5_copy 107 = .ok (.aload_n 0, 1) := by decide +kernel
theorem dX5_copy_108 : decode cX5_copy 108 = .ok (.getfield 10, 3) := by decide +kernel
theorem dX5_copy_111 : decode cX5_copy 111 = .ok (.getfield 102, 3) := by decide +kernel
theorem dX5_copy_114 : decode cX5_copy 114 = .ok (.iload_n 1, 1) := by decide +kernel
theorem dX5_copy_115 : decode cX5_copy 115 = .ok (.aaload, 1) := by decide +kernel
theorem dX5_copy_116 : decode cX5_copy 116 = .ok (.iload_n 2, 1) := by decide +kernel
theorem dX5_copy_117 : decode cX5_copy 117 = .ok (.aload_n 0, 1) := by decide +kernel
theorem dX5_copy_118 : decode cX5_copy 118 = .ok (.getfield 10, 3) := by decide +kernel
theorem dX5_copy_121 : decode cX5_copy 121 = .ok (.getfield 102, 3) := by decide +kernel
theorem dX5_copy_124 : decode cX5_copy 124 = .ok (.iload_n 3, 1) := by decide +kernel
theorem dX5_copy_125 : decode cX5_copy 125 = .ok (.aaload, 1) := by decide +kernel
theorem dX5_copy_126 : decode cX5_copy 126 = .ok (.iload 4, 2) := by decide +kernel
theorem dX5_copy_128 : decode cX5_copy 128 = .ok (.iload 5, 2) := by decide +kernel
theorem dX5_copy_130 : decode cX5_copy 130 = .ok (.invokestatic 106, 3) := by decide +kernel
theorem dX5_copy_133 : decode cX5_copy 133 = .ok (.aload_n 0, 1) := by decide +kernel
theorem dX5_copy_134 : decode cX5_copy 134 = .ok (.iload 5, 2) := by decide +kernel
theorem dX5_copy_136 : decode cX5_copy 136 = .ok (.invokevirtual 86, 3) := by decide +kernel
theorem dX5_copy_139 : decode cX5_copy 139 = .ok (.ireturn, 1) := by decide +kernel
theorem dX5_drop_0 : decode cX5_drop 0 = .ok (.iload_n 1, 1) := by decide +kernel
theorem dX5_drop_1 : decode cX5_drop 1 = .ok (.invokestatic 69, 3) := by decide +kernel
theorem dX5_drop_4 : decode cX5_drop 4 = .ok (.ifCond .ne 6, 3) := by decide +kernel
theorem dX5_drop_7 : decode cX5_drop 7 = .ok (.ldc 77, 2) := by decide +kernel
theorem dX5_drop_9 : decode cX5_drop 9 = .ok (.ireturn, 1) := by decide +kernel
theorem dX5_drop_10 : decode cX5_drop 10 = .ok (.aload_n 0, 1) := by decide +kernel
theorem dX5_drop_11 : decode cX5_drop 11 = .ok (.getfield 10, 3) := by decide +kernel
theorem dX5_drop_14 : decode cX5_drop 14 = .ok (.iload_n 1, 1) := by decide +kernel
theorem dX5_drop_15 : decode cX5_drop 15 = .ok (.invokevirtual 96, 3) := by decide +kernel
theorem dX5_drop_18 : decode cX5_drop 18 = .ok (.ifCond .eq 9, 3) := by decide +kernel
theorem dX5_drop_21 : decode cX5_drop 21 = .ok (.aload_n 0, 1) := by decide +kernel
theorem dX5_drop_22 : decode cX5_drop 22 = .ok (.iconst 1, 1) := by decide +kernel
theorem dX5_drop_23 : decode cX5_drop 23 = .ok (.invokevirtual 78, 3) := by decide +kernel
theorem dX5_drop_26 : decode cX5_drop 26 = .ok (.ireturn, 1) := by decide +kernel
theorem dX5_drop_27 : decode cX5_drop 27 = .ok (.aload_n 0, 1) := by decide +kernel
theorem dX5_drop_28 : decode cX5_drop 28 = .ok (.getfield 10, 3) := by decide +kernel
theorem dX5_drop_31 : decode cX5_drop 31 = .ok (.getfield 112, 3) := by decide +kernel
theorem dX5_drop_34 : decode cX5_drop 34 = .ok (.iload_n 1, 1) := by decide +kernel
theorem dX5_drop_35 : decode cX5_drop 35 = .ok (.iaload, 1) := by decide +kernel
theorem dX5_drop_36 : decode cX5_drop 36 = .ok (.istore_n 2, 1) := by decide +kernel
theorem dX5_drop_37 : decode cX5_drop 37 = .ok (.aload_n 0, 1) := by decide +kernel
theorem dX5_drop_38 : decode cX5_drop 38 = .ok (.getfield 10, 3) := by decide +kernel
theorem dX5_drop_41 : decode cX5_drop 41 = .ok (.getfield 112, 3) := by decide +kernel
theorem dX5_drop_44 : decode cX5_drop 44 = .ok (.iload_n 1, 1) := by decide +kernel
theorem dX5_drop_45 : decode cX5_drop 45 = .ok (.iconst (-1), 1) := by decide +kernel
theorem dX5_drop_46 : decode cX5_drop 46 = .ok (.iastore, 1) := by decide +kernel
theorem dX5_drop_47 : decode cX5_drop 47 = .ok (.aload_n 0, 1) := by decide +kernel
theorem dX5_drop_48 : decode cX5_drop 48 = .ok (.iload_n 2, 1) := by decide +kernel
theorem dX5_drop_49 : decode cX5_drop 49 = .ok (.invokevirtual 86, 3) := by decide +kernel
theorem dX5_drop_52 : decode cX5_drop 52 = .ok (.ireturn, 1) := by decide +kernel
theorem dX5_feed_0 : decode cX5_feed 0 = .ok (.iload_n 1, 1) := by decide +kernel
theorem dX5_feed_1 : decode cX5_feed 1 = .ok (.iconst 0, 1) := by decide +kernel
theorem dX5_feed_2 : decode cX5_feed 2 = .ok (.sipush 255, 3) := by decide +kernel
theorem dX5_feed_5 : decode cX5_feed 5 = .ok (.invokestatic 73, 3) := by decide +kernel
theorem dX5_feed_8 : decode cX5_feed 8 = .ok (.ifCond .ne 6, 3) := by decide +kernel
theorem dX5_feed_11 : decode cX5_feed 11 = .ok (.ldc 77, 2) := by decide +kernel
theorem dX5_feed_13 : decode cX5_feed 13 = .ok (.ireturn, 1) := by decide +kernel
theorem dX5_feed_14 : decode cX5_feed 14 = .ok (.aload_n 0, 1) := by decide +kernel
theorem dX5_feed_15 : decode cX5_feed 15 = .ok (.getfield 19, 3) := by decide +kernel
theorem dX5_feed_18 : decode cX5_feed 18 = .ok (.getfield 115, 3) := by decide +kernel
theorem dX5_feed_21 : decode cX5_feed 21 = .ok (.bipush 120, 2) := by decide +kernel
theorem dX5_feed_23 : decode cX5_feed 23 = .ok (.if_icmp .lt 6, 3) := by decide +kernel
theorem dX5_feed_26 : decode cX5_feed 26 = .ok (.ldc 119, 2) := by decide +kernel
theorem dX5_feed_28 : decode cX5_feed 28 = .ok (.ireturn, 1) := by decide +kernel
theorem dX5_feed_29 : decode cX5_feed 29 = .ok (.aload_n 0, 1) := by decide +kernel
theorem dX5_feed_30 : decode cX5_feed 30 = .ok (.getfield 19, 3) := by decide +kernel
theorem dX5_feed_33 : decode cX5_feed 33 = .ok (.getfield 120, 3) := by decide +kernel
theorem dX5_feed_36 : decode cX5_feed 36 = .ok (.aload_n 0, 1) := by decide +kernel
theorem dX5_feed_37 : decode cX5_feed 37 = .ok (.getfield 19, 3) := by decide +kernel
theorem dX5_feed_40 : decode cX5_feed 40 = .ok (.getfield 115, 3) := by decide +kernel
theorem dX5_feed_43 : decode cX5_feed 43 = .ok (.iload_n 1, 1) := by decide +kernel
theorem dX5_feed_44 : decode cX5_feed 44 = .ok (.iastore, 1) := by decide +kernel
theorem dX5_feed_45 : decode cX5_feed 45 = .ok (.aload_n 0, 1) := by decide +kernel
theorem dX5_feed_46 : decode cX5_feed 46 = .ok (.getfield 19, 3) := by decide +kernel
theorem dX5_feed_49 : decode cX5_feed 49 = .ok (.dup, 1) := by decide +kernel
theorem dX5_feed_50 : decode cX5_feed 50 = .ok (.getfield 115, 3) := by decide +kernel
theorem dX5_feed_53 : decode cX5_feed 53 = .ok (.iconst 1, 1) := by decide +kernel
theorem dX5_feed_54 : decode cX5_feed 54 = .ok (.iadd, 1) := by decide +kernel
theorem dX5_feed_55 : decode cX5_feed 55 = .ok (.putfield 115, 3) := by decide +kernel
theorem dX5_feed_58 : decode cX5_feed 58 = .ok (.aload_n 0, 1) := by decide +kernel
theorem dX5_feed_59 : decode cX5_feed 59 = .ok (.getfield 19, 3) := by decide +kernel
theorem dX5_feed_62 : decode cX5_feed 62 = .ok (.getfield 115, 3) := by decide +kernel
theorem dX5_feed_65 : decode cX5_feed 65 = .ok (.ireturn, 1) := by decide +kernel
theorem dX5_land_0 : decode cX5_land 0 = .ok (.aload_n 0, 1) := by decide +kernel
theorem dX5_land_1 : decode cX5_land 1 = .ok (.invokevirtual 123, 3) := by decide +kernel
theorem dX5_land_4 : decode cX5_land 4 = .ok (.aload_n 0, 1) := by decide +kernel
theorem dX5_land_5 : decode cX5_land 5 = .ok (.getfield 19, 3) := by decide +kernel
theorem dX5_land_8 : decode cX5_land 8 = .ok (.iconst 0, 1) := by decide +kernel
theorem dX5_land_9 : decode cX5_land 9 = .ok (.putfield 115, 3) := by decide +kernel
theorem dX5_land_12 : decode cX5_land 12 = .ok (.aload_n 0, 1) := by decide +kernel
theorem dX5_land_13 : decode cX5_land 13 = .ok (.getfield 19, 3) := by decide +kernel
theorem dX5_land_16 : decode cX5_land 16 = .ok (.getfield 126, 3) := by decide +kernel
theorem dX5_land_19 : decode cX5_land 19 = .ok (.ifCond .eq 25, 3) := by decide +kernel
theorem dX5_land_22 : decode cX5_land 22 = .ok (.aload_n 0, 1) := by decide +kernel
theorem dX5_land_23 : decode cX5_land 23 = .ok (.aload_n 0, 1) := by decide +kernel
theorem dX5_land_24 : decode cX5_land 24 = .ok (.getfield 19, 3) := by decide +kernel
theorem dX5_land_27 : decode cX5_land 27 = .ok (.getfield 126, 3) := by decide +kernel
theorem dX5_land_30 : decode cX5_land 30 = .ok (.putfield 129, 3) := by decide +kernel
theorem dX5_land_33 : decode cX5_land 33 = .ok (.ldc 132, 2) := by decide +kernel
theorem dX5_land_35 : decode cX5_land 35 = .ok (.aload_n 0, 1) := by decide +kernel
theorem dX5_land_36 : decode cX5_land 36 = .ok (.getfield 19, 3) := by decide +kernel
theorem dX5_land_39 : decode cX5_land 39 = .ok (.getfield 133, 3) := by decide +kernel
theorem dX5_land_42 : decode cX5_land 42 = .ok (.isub, 1) := by decide +kernel
theorem dX5_land_43 : decode cX5_land 43 = .ok (.ireturn, 1) := by decide +kernel
theorem dX5_land_44 : decode cX5_land 44 = .ok (.aload_n 0, 1) := by decide +kernel
theorem dX5_land_45 : decode cX5_land 45 = .ok (.getfield 26, 3) := by decide +kernel
theorem dX5_land_48 : decode cX5_land 48 = .ok (.aload_n 0, 1) := by decide +kernel
theorem dX5_land_49 : decode cX5_land 49 = .ok (.getfield 47, 3) := by decide +kernel
theorem dX5_land_52 : decode cX5_land 52 = .ok (.invokevirtual 136, 3) := by decide +kernel
theorem dX5_land_55 : decode cX5_land 55 = .ok (.aload_n 0, 1) := by decide +kernel
theorem dX5_land_56 : decode cX5_land 56 = .ok (.getfield 33, 3) := by decide +kernel
theorem dX5_land_59 : decode cX5_land 59 = .ok (.aload_n 0, 1) := by decide +kernel
theorem dX5_land_60 : decode cX5_land 60 = .ok (.getfield 50, 3) := by decide +kernel
theorem dX5_land_63 : decode cX5_land 63 = .ok (.invokevirtual 140, 3) := by decide +kernel
theorem dX5_land_66 : decode cX5_land 66 = .ok (.aload_n 0, 1) := by decide +kernel
theorem dX5_land_67 : decode cX5_land 67 = .ok (.getfield 40, 3) := by decide +kernel
theorem dX5_land_70 : decode cX5_land 70 = .ok (.invokevirtual 143, 3) := by decide +kernel
theorem dX5_land_73 : decode cX5_land 73 = .ok (.aload_n 0, 1) := by decide +kernel
theorem dX5_land_74 : decode cX5_land 74 = .ok (.getfield 26, 3) := by decide +kernel
theorem dX5_land_77 : decode cX5_land 77 = .ok (.getfield 146, 3) := by decide +kernel
theorem dX5_land_80 : decode cX5_land 80 = .ok (.ireturn, 1) := by decide +kernel
theorem dX5_fault_0 : decode cX5_fault 0 = .ok (.aload_n 0, 1) := by decide +kernel
theorem dX5_fault_1 : decode cX5_fault 1 = .ok (.getfield 129, 3) := by decide +kernel
theorem dX5_fault_4 : decode cX5_fault 4 = .ok (.ireturn, 1) := by decide +kernel
theorem dX5_undo_0 : decode cX5_undo 0 = .ok (.aload_n 0, 1) := by decide +kernel
theorem dX5_undo_1 : decode cX5_undo 1 = .ok (.getfield 40, 3) := by decide +kernel
theorem dX5_undo_4 : decode cX5_undo 4 = .ok (.getfield 149, 3) := by decide +kernel
theorem dX5_undo_7 : decode cX5_undo 7 = .ok (.ifCond .ne 6, 3) := by decide +kernel
theorem dX5_undo_10 : decode cX5_undo 10 = .ok (.ldc 152, 2) := by decide +kernel
theorem dX5_undo_12 : decode cX5_undo 12 = .ok (.ireturn, 1) := by decide +kernel
theorem dX5_undo_13 : decode cX5_undo 13 = .ok (.aload_n 0, 1) := by decide +kernel
theorem dX5_undo_14 : decode cX5_undo 14 = .ok (.getfield 40, 3) := by decide +kernel
theorem dX5_undo_17 : decode cX5_undo 17 = .ok (.aload_n 0, 1) := by decide +kernel
theorem dX5_undo_18 : decode cX5_undo 18 = .ok (.getfield 33, 3) := by decide +kernel
theorem dX5_undo_21 : decode cX5_undo 21 = .ok (.invokevirtual 153, 3) := by decide +kernel
theorem dX5_undo_24 : decode cX5_undo 24 = .ok (.aload_n 0, 1) := by decide +kernel
theorem dX5_undo_25 : decode cX5_undo 25 = .ok (.getfield 40, 3) := by decide +kernel
theorem dX5_undo_28 : decode cX5_undo 28 = .ok (.getfield 149, 3) := by decide +kernel
theorem dX5_undo_31 : decode cX5_undo 31 = .ok (.ireturn, 1) := by decide +kernel
theorem dX5_hours_0 : decode cX5_hours 0 = .ok (.aload_n 0, 1) := by decide +kernel
theorem dX5_hours_1 : decode cX5_hours 1 = .ok (.invokevirtual 156, 3) := by decide +kernel
theorem dX5_hours_4 : decode cX5_hours 4 = .ok (.ifCond .ne 6, 3) := by decide +kernel
theorem dX5_hours_7 : decode cX5_hours 7 = .ok (.ldc 152, 2) := by decide +kernel
theorem dX5_hours_9 : decode cX5_hours 9 = .ok (.ireturn, 1) := by decide +kernel
theorem dX5_hours_10 : decode cX5_hours 10 = .ok (.iload_n 1, 1) := by decide +kernel
theorem dX5_hours_11 : decode cX5_hours 11 = .ok (.iconst 1, 1) := by decide +kernel
theorem dX5_hours_12 : decode cX5_hours 12 = .ok (.bipush 24, 2) := by decide +kernel
theorem dX5_hours_14 : decode cX5_hours 14 = .ok (.invokestatic 73, 3) := by decide +kernel
theorem dX5_hours_17 : decode cX5_hours 17 = .ok (.ifCond .ne 6, 3) := by decide +kernel
theorem dX5_hours_20 : decode cX5_hours 20 = .ok (.ldc 77, 2) := by decide +kernel
theorem dX5_hours_22 : decode cX5_hours 22 = .ok (.ireturn, 1) := by decide +kernel
theorem dX5_hours_23 : decode cX5_hours 23 = .ok (.aload_n 0, 1) := by decide +kernel
theorem dX5_hours_24 : decode cX5_hours 24 = .ok (.getfield 33, 3) := by decide +kernel
theorem dX5_hours_27 : decode cX5_hours 27 = .ok (.getfield 160, 3) := by decide +kernel
theorem dX5_hours_30 : decode cX5_hours 30 = .ok (.iload_n 1, 1) := by decide +kernel
theorem dX5_hours_31 : decode cX5_hours 31 = .ok (.iadd, 1) := by decide +kernel
theorem dX5_hours_32 : decode cX5_hours 32 = .ok (.sipush 999, 3) := by decide +kernel
theorem dX5_hours_35 : decode cX5_hours 35 = .ok (.if_icmp .le 6, 3) := by decide +kernel
theorem dX5_hours_38 : decode cX5_hours 38 = .ok (.ldc 119, 2) := by decide +kernel
theorem dX5_hours_40 : decode cX5_hours 40 = .ok (.ireturn, 1) := by decide +kernel
theorem dX5_hours_41 : decode cX5_hours 41 = .ok (.iconst 0, 1) := by decide +kernel
theorem dX5_hours_42 : decode cX5_hours 42 = .ok (.istore_n 2, 1) := by decide +kernel
theorem dX5_hours_43 : decode cX5_hours 43 = .ok (.iload_n 2, 1) := by decide +kernel
theorem dX5_hours_44 : decode cX5_hours 44 = .ok (.iload_n 1, 1) := by decide +kernel
theorem dX5_hours_45 : decode cX5_hours 45 = .ok (.if_icmp .ge 31, 3) := by decide +kernel
theorem dX5_hours_48 : decode cX5_hours 48 = .ok (.aload_n 0, 1) := by decide +kernel
theorem dX5_hours_49 : decode cX5_hours 49 = .ok (.getfield 40, 3) := by decide +kernel
theorem dX5_hours_52 : decode cX5_hours 52 = .ok (.aload_n 0, 1) := by decide +kernel
theorem dX5_hours_53 : decode cX5_hours 53 = .ok (.getfield 33, 3) := by decide +kernel
theorem dX5_hours_56 : decode cX5_hours 56 = .ok (.invokevirtual 163, 3) := by decide +kernel
theorem dX5_hours_59 : decode cX5_hours 59 = .ok (.aload_n 0, 1) := by decide +kernel
theorem dX5_hours_60 : decode cX5_hours 60 = .ok (.getfield 33, 3) := by decide +kernel
theorem dX5_hours_63 : decode cX5_hours 63 = .ok (.aload_n 0, 1) := by decide +kernel
theorem dX5_hours_64 : decode cX5_hours 64 = .ok (.getfield 26, 3) := by decide +kernel
theorem dX5_hours_67 : decode cX5_hours 67 = .ok (.invokevirtual 166, 3) := by decide +kernel
theorem dX5_hours_70 : decode cX5_hours 70 = .ok (.iinc 2 1, 3) := by decide +kernel
theorem dX5_hours_73 : decode cX5_hours 73 = .ok (.goto (-30), 3) := by decide +kernel
theorem dX5_hours_76 : decode cX5_hours 76 = .ok (.aload_n 0, 1) := by decide +kernel
theorem dX5_hours_77 : decode cX5_hours 77 = .ok (.getfield 33, 3) := by decide +kernel
theorem dX5_hours_80 : decode cX5_hours 80 = .ok (.getfield 169, 3) := by decide +kernel
theorem dX5_hours_83 : decode cX5_hours 83 = .ok (.ireturn, 1) := by decide +kernel
theorem dX5_wish_0 : decode cX5_wish 0 = .ok (.aload_n 0, 1) := by decide +kernel
theorem dX5_wish_1 : decode cX5_wish 1 = .ok (.iload_n 1, 1) := by decide +kernel
theorem dX5_wish_2 : decode cX5_wish 2 = .ok (.invokevirtual 172, 3) := by decide +kernel
theorem dX5_wish_5 : decode cX5_wish 5 = .ok (.ifCond .eq 21, 3) := by decide +kernel
theorem dX5_wish_8 : decode cX5_wish 8 = .ok (.aload_n 0, 1) := by decide +kernel
theorem dX5_wish_9 : decode cX5_wish 9 = .ok (.iload_n 2, 1) := by decide +kernel
theorem dX5_wish_10 : decode cX5_wish 10 = .ok (.invokevirtual 175, 3) := by decide +kernel
theorem dX5_wish_13 : decode cX5_wish 13 = .ok (.ifCond .eq 13, 3) := by decide +kernel
theorem dX5_wish_16 : decode cX5_wish 16 = .ok (.iload_n 3, 1) := by decide +kernel
theorem dX5_wish_17 : decode cX5_wish 17 = .ok (.iconst 0, 1) := by decide +kernel
theorem dX5_wish_18 : decode cX5_wish 18 = .ok (.bipush 40, 2) := by decide +kernel
theorem dX5_wish_20 : decode cX5_wish 20 = .ok (.invokestatic 73, 3) := by decide +kernel
theorem dX5_wish_23 : decode cX5_wish 23 = .ok (.ifCond .ne 6, 3) := by decide +kernel
theorem dX5_wish_26 : decode cX5_wish 26 = .ok (.ldc 77, 2) := by decide +kernel
theorem dX5_wish_28 : decode cX5_wish 28 = .ok (.ireturn, 1) := by decide +kernel
theorem dX5_wish_29 : decode cX5_wish 29 = .ok (.bipush 100, 2) := by decide +kernel
theorem dX5_wish_31 : decode cX5_wish 31 = .ok (.aload_n 0, 1) := by decide +kernel
theorem dX5_wish_32 : decode cX5_wish 32 = .ok (.getfield 33, 3) := by decide +kernel
theorem dX5_wish_35 : decode cX5_wish 35 = .ok (.getfield 178, 3) := by decide +kernel
theorem dX5_wish_38 : decode cX5_wish 38 = .ok (.iload_n 1, 1) := by decide +kernel
theorem dX5_wish_39 : decode cX5_wish 39 = .ok (.iaload, 1) := by decide +kernel
theorem dX5_wish_40 : decode cX5_wish 40 = .ok (.imul, 1) := by decide +kernel
theorem dX5_wish_41 : decode cX5_wish 41 = .ok (.aload_n 0, 1) := by decide +kernel
theorem dX5_wish_42 : decode cX5_wish 42 = .ok (.getfield 33, 3) := by decide +kernel
theorem dX5_wish_45 : decode cX5_wish 45 = .ok (.getfield 181, 3) := by decide +kernel
theorem dX5_wish_48 : decode cX5_wish 48 = .ok (.iload_n 1, 1) := by decide +kernel
theorem dX5_wish_49 : decode cX5_wish 49 = .ok (.iaload, 1) := by decide +kernel
theorem dX5_wish_50 : decode cX5_wish 50 = .ok (.iadd, 1) := by decide +kernel
theorem dX5_wish_51 : decode cX5_wish 51 = .ok (.istore 4, 2) := by decide +kernel
theorem dX5_wish_53 : decode cX5_wish 53 = .ok (.aload_n 0, 1) := by decide +kernel
theorem dX5_wish_54 : decode cX5_wish 54 = .ok (.getfield 40, 3) := by decide +kernel
theorem dX5_wish_57 : decode cX5_wish 57 = .ok (.aload_n 0, 1) := by decide +kernel
theorem dX5_wish_58 : decode cX5_wish 58 = .ok (.getfield 33, 3) := by decide +kernel
theorem dX5_wish_61 : decode cX5_wish 61 = .ok (.invokevirtual 163, 3) := by decide +kernel
theorem dX5_wish_64 : decode cX5_wish 64 = .ok (.aload_n 0, 1) := by decide +kernel
theorem dX5_wish_65 : decode cX5_wish 65 = .ok (.getfield 33, 3) := by decide +kernel
theorem dX5_wish_68 : decode cX5_wish 68 = .ok (.getfield 178, 3) := by decide +kernel
theorem dX5_wish_71 : decode cX5_wish 71 = .ok (.iload_n 1, 1) := by decide +kernel
theorem dX5_wish_72 : decode cX5_wish 72 = .ok (.iload_n 2, 1) := by decide +kernel
theorem dX5_wish_73 : decode cX5_wish 73 = .ok (.iastore, 1) := by decide +kernel
theorem dX5_wish_74 : decode cX5_wish 74 = .ok (.aload_n 0, 1) := by decide +kernel
theorem dX5_wish_75 : decode cX5_wish 75 = .ok (.getfield 33, 3) := by decide +kernel
theorem dX5_wish_78 : decode cX5_wish 78 = .ok (.getfield 181, 3) := by decide +kernel
theorem dX5_wish_81 : decode cX5_wish 81 = .ok (.iload_n 1, 1) := by decide +kernel
theorem dX5_wish_82 : decode cX5_wish 82 = .ok (.iload_n 3, 1) := by decide +kernel
theorem dX5_wish_83 : decode cX5_wish 83 = .ok (.iastore, 1) := by decide +kernel
theorem dX5_wish_84 : decode cX5_wish 84 = .ok (.iload 4, 2) := by decide +kernel
theorem dX5_wish_86 : decode cX5_wish 86 = .ok (.ireturn, 1) := by decide +kernel
theorem dX5_rest_0 : decode cX5_rest 0 = .ok (.aload_n 0, 1) := by decide +kernel
theorem dX5_rest_1 : decode cX5_rest 1 = .ok (.iload_n 1, 1) := by decide +kernel
theorem dX5_rest_2 : decode cX5_rest 2 = .ok (.invokevirtual 172, 3) := by decide +kernel
theorem dX5_rest_5 : decode cX5_rest 5 = .ok (.ifCond .eq 12, 3) := by decide +kernel
theorem dX5_rest_8 : decode cX5_rest 8 = .ok (.iload_n 2, 1) := by decide +kernel
theorem dX5_rest_9 : decode cX5_rest 9 = .ok (.iconst 0, 1) := by decide +kernel
theorem dX5_rest_10 : decode cX5_rest 10 = .ok (.iconst 1, 1) := by decide +kernel
theorem dX5_rest_11 : decode cX5_rest 11 = .ok (.invokestatic 73, 3) := by decide +kernel
theorem dX5_rest_14 : decode cX5_rest 14 = .ok (.ifCond .ne 6, 3) := by decide +kernel
theorem dX5_rest_17 : decode cX5_rest 17 = .ok (.ldc 77, 2) := by decide +kernel
theorem dX5_rest_19 : decode cX5_rest 19 = .ok (.ireturn, 1) := by decide +kernel
theorem dX5_rest_20 : decode cX5_rest 20 = .ok (.aload_n 0, 1) := by decide +kernel
theorem dX5_rest_21 : decode cX5_rest 21 = .ok (.getfield 33, 3) := by decide +kernel
theorem dX5_rest_24 : decode cX5_rest 24 = .ok (.getfield 184, 3) := by decide +kernel
theorem dX5_rest_27 : decode cX5_rest 27 = .ok (.iload_n 1, 1) := by decide +kernel
theorem dX5_rest_28 : decode cX5_rest 28 = .ok (.invokestatic 187, 3) := by decide +kernel
theorem dX5_rest_31 : decode cX5_rest 31 = .ok (.iload_n 2, 1) := by decide +kernel
theorem dX5_rest_32 : decode cX5_rest 32 = .ok (.if_icmp .ne 6, 3) := by decide +kernel
theorem dX5_rest_35 : decode cX5_rest 35 = .ok (.ldc 152, 2) := by decide +kernel
theorem dX5_rest_37 : decode cX5_rest 37 = .ok (.ireturn, 1) := by decide +kernel
theorem dX5_rest_38 : decode cX5_rest 38 = .ok (.aload_n 0, 1) := by decide +kernel
theorem dX5_rest_39 : decode cX5_rest 39 = .ok (.getfield 40, 3) := by decide +kernel
theorem dX5_rest_42 : decode cX5_rest 42 = .ok (.aload_n 0, 1) := by decide +kernel
theorem dX5_rest_43 : decode cX5_rest 43 = .ok (.getfield 33, 3) := by decide +kernel
theorem dX5_rest_46 : decode cX5_rest 46 = .ok (.invokevirtual 163, 3) := by decide +kernel
theorem dX5_rest_49 : decode cX5_rest 49 = .ok (.aload_n 0, 1) := by decide +kernel
theorem dX5_rest_50 : decode cX5_rest 50 = .ok (.getfield 33, 3) := by decide +kernel
theorem dX5_rest_53 : decode cX5_rest 53 = .ok (.dup, 1) := by decide +kernel
theorem dX5_rest_54 : decode cX5_rest 54 = .ok (.getfield 184, 3) := by decide +kernel
theorem dX5_rest_57 : decode cX5_rest 57 = .ok (.iconst 1, 1) := by decide +kernel
theorem dX5_rest_58 : decode cX5_rest 58 = .ok (.iload_n 1, 1) := by decide +kernel
theorem dX5_rest_59 : decode cX5_rest 59 = .ok (.ishl, 1) := by decide +kernel
theorem dX5_rest_60 : decode cX5_rest 60 = .ok (.ixor, 1) := by decide +kernel
theorem dX5_rest_61 : decode cX5_rest 61 = .ok (.putfield 184, 3) := by decide +kernel
theorem dX5_rest_64 : decode cX5_rest 64 = .ok (.aload_n 0, 1) := by decide +kernel
theorem dX5_rest_65 : decode cX5_rest 65 = .ok (.getfield 33, 3) := by decide +kernel
theorem dX5_rest_68 : decode cX5_rest 68 = .ok (.getfield 184, 3) := by decide +kernel
theorem dX5_rest_71 : decode cX5_rest 71 = .ok (.invokestatic 191, 3) := by decide +kernel
theorem dX5_rest_74 : decode cX5_rest 74 = .ok (.ireturn, 1) := by decide +kernel
theorem dX5_wisher_0 : decode cX5_wisher 0 = .ok (.aload_n 0, 1) := by decide +kernel
theorem dX5_wisher_1 : decode cX5_wisher 1 = .ok (.iload_n 1, 1) := by decide +kernel
theorem dX5_wisher_2 : decode cX5_wisher 2 = .ok (.invokevirtual 172, 3) := by decide +kernel
theorem dX5_wisher_5 : decode cX5_wisher 5 = .ok (.ifCond .ne 6, 3) := by decide +kernel
theorem dX5_wisher_8 : decode cX5_wisher 8 = .ok (.ldc 77, 2) := by decide +kernel
theorem dX5_wisher_10 : decode cX5_wisher 10 = .ok (.ireturn, 1) := by decide +kernel
theorem dX5_wisher_11 : decode cX5_wisher 11 = .ok (.iload_n 2, 1) := by decide +kernel
theorem dX5_wisher_12 : decode cX5_wisher 12 = .ok (.tableswitch 124 0 5 #[40, 50, 60, 70, 80, 92], 40) := by decide +kernel
theorem dX5_wisher_52 : decode cX5_wisher 52 = .ok (.aload_n 0, 1) := by decide +kernel
theorem dX5_wisher_53 : decode cX5_wisher 53 = .ok (.getfield 26, 3) := by decide +kernel
theorem dX5_wisher_56 : decode cX5_wisher 56 = .ok (.getfield 196, 3) := by decide +kernel
theorem dX5_wisher_59 : decode cX5_wisher 59 = .ok (.iload_n 1, 1) := by decide +kernel
theorem dX5_wisher_60 : decode cX5_wisher 60 = .ok (.iaload, 1) := by decide +kernel
theorem dX5_wisher_61 : decode cX5_wisher 61 = .ok (.ireturn, 1) := by decide +kernel
theorem dX5_wisher_62 : decode cX5_wisher 62 = .ok (.aload_n 0, 1) := by decide +kernel
theorem dX5_wisher_63 : decode cX5_wisher 63 = .ok (.getfield 33, 3) := by decide +kernel
theorem dX5_wisher_66 : decode cX5_wisher 66 = .ok (.getfield 178, 3) := by decide +kernel
theorem dX5_wisher_69 : decode cX5_wisher 69 = .ok (.iload_n 1, 1) := by decide +kernel
theorem dX5_wisher_70 : decode cX5_wisher 70 = .ok (.iaload, 1) := by decide +kernel
theorem dX5_wisher_71 : decode cX5_wisher 71 = .ok (.ireturn, 1) := by decide +kernel
theorem dX5_wisher_72 : decode cX5_wisher 72 = .ok (.aload_n 0, 1) := by decide +kernel
theorem dX5_wisher_73 : decode cX5_wisher 73 = .ok (.getfield 33, 3) := by decide +kernel
theorem dX5_wisher_76 : decode cX5_wisher 76 = .ok (.getfield 181, 3) := by decide +kernel
theorem dX5_wisher_79 : decode cX5_wisher 79 = .ok (.iload_n 1, 1) := by decide +kernel
theorem dX5_wisher_80 : decode cX5_wisher 80 = .ok (.iaload, 1) := by decide +kernel
theorem dX5_wisher_81 : decode cX5_wisher 81 = .ok (.ireturn, 1) := by decide +kernel
theorem dX5_wisher_82 : decode cX5_wisher 82 = .ok (.aload_n 0, 1) := by decide +kernel
theorem dX5_wisher_83 : decode cX5_wisher 83 = .ok (.getfield 33, 3) := by decide +kernel
theorem dX5_wisher_86 : decode cX5_wisher 86 = .ok (.getfield 199, 3) := by decide +kernel
theorem dX5_wisher_89 : decode cX5_wisher 89 = .ok (.iload_n 1, 1) := by decide +kernel
theorem dX5_wisher_90 : decode cX5_wisher 90 = .ok (.iaload, 1) := by decide +kernel
theorem dX5_wisher_91 : decode cX5_wisher 91 = .ok (.ireturn, 1) := by decide +kernel
theorem dX5_wisher_92 : decode cX5_wisher 92 = .ok (.aload_n 0, 1) := by decide +kernel
theorem dX5_wisher_93 : decode cX5_wisher 93 = .ok (.getfield 33, 3) := by decide +kernel
theorem dX5_wisher_96 : decode cX5_wisher 96 = .ok (.getfield 184, 3) := by decide +kernel
theorem dX5_wisher_99 : decode cX5_wisher 99 = .ok (.iload_n 1, 1) := by decide +kernel
theorem dX5_wisher_100 : decode cX5_wisher 100 = .ok (.invokestatic 187, 3) := by decide +kernel
theorem dX5_wisher_103 : decode cX5_wisher 103 = .ok (.ireturn, 1) := by decide +kernel
theorem dX5_wisher_104 : decode cX5_wisher 104 = .ok (.aload_n 0, 1) := by decide +kernel
theorem dX5_wisher_105 : decode cX5_wisher 105 = .ok (.getfield 33, 3) := by decide +kernel
theorem dX5_wisher_108 : decode cX5_wisher 108 = .ok (.aload_n 0, 1) := by decide +kernel
theorem dX5_wisher_109 : decode cX5_wisher 109 = .ok (.getfield 26, 3) := by decide +kernel
theorem dX5_wisher_112 : decode cX5_wisher 112 = .ok (.iload_n 1, 1) := by decide +kernel
theorem dX5_wisher_113 : decode cX5_wisher 113 = .ok (.invokevirtual 202, 3) := by decide +kernel
theorem dX5_wisher_116 : decode cX5_wisher 116 = .ok (.ifCond .eq 18, 3) := by decide +kernel
theorem dX5_wisher_119 : decode cX5_wisher 119 = .ok (.aload_n 0, 1) := by decide +kernel
theorem dX5_wisher_120 : decode cX5_wisher 120 = .ok (.getfield 33, 3) := by decide +kernel
theorem dX5_wisher_123 : decode cX5_wisher 123 = .ok (.aload_n 0, 1) := by decide +kernel
theorem dX5_wisher_124 : decode cX5_wisher 124 = .ok (.getfield 26, 3) := by decide +kernel
theorem dX5_wisher_127 : decode cX5_wisher 127 = .ok (.iload_n 1, 1) := by decide +kernel
theorem dX5_wisher_128 : decode cX5_wisher 128 = .ok (.invokevirtual 206, 3) := by decide +kernel
theorem dX5_wisher_131 : decode cX5_wisher 131 = .ok (.goto 4, 3) := by decide +kernel
theorem dX5_wisher_134 : decode cX5_wisher 134 = .ok (.iconst 0, 1) := by decide +kernel
theorem dX5_wisher_135 : decode cX5_wisher 135 = .ok (.ireturn, 1) := by decide +kernel
theorem dX5_wisher_136 : decode cX5_wisher 136 = .ok (.ldc 77, 2) := by decide +kernel
theorem dX5_wisher_138 : decode cX5_wisher 138 = .ok (.ireturn, 1) := by decide +kernel
theorem dX5_place_0 : decode cX5_place 0 = .ok (.aload_n 0, 1) := by decide +kernel
theorem dX5_place_1 : decode cX5_place 1 = .ok (.invokevirtual 156, 3) := by decide +kernel
theorem dX5_place_4 : decode cX5_place 4 = .ok (.ifCond .ne 6, 3) := by decide +kernel
theorem dX5_place_7 : decode cX5_place 7 = .ok (.ldc 152, 2) := by decide +kernel
theorem dX5_place_9 : decode cX5_place 9 = .ok (.ireturn, 1) := by decide +kernel
theorem dX5_place_10 : decode cX5_place 10 = .ok (.aload_n 0, 1) := by decide +kernel
theorem dX5_place_11 : decode cX5_place 11 = .ok (.iload_n 1, 1) := by decide +kernel
theorem dX5_place_12 : decode cX5_place 12 = .ok (.invokevirtual 175, 3) := by decide +kernel
theorem dX5_place_15 : decode cX5_place 15 = .ok (.ifCond .ne 6, 3) := by decide +kernel
theorem dX5_place_18 : decode cX5_place 18 = .ok (.ldc 77, 2) := by decide +kernel
theorem dX5_place_20 : decode cX5_place 20 = .ok (.ireturn, 1) := by decide +kernel
theorem dX5_place_21 : decode cX5_place 21 = .ok (.iload_n 2, 1) := by decide +kernel
theorem dX5_place_22 : decode cX5_place 22 = .ok (.tableswitch 69 0 2 #[26, 47, 59], 26) := by decide +kernel
theorem dX5_place_48 : decode cX5_place 48 = .ok (.aload_n 0, 1) := by decide +kernel
theorem dX5_place_49 : decode cX5_place 49 = .ok (.getfield 33, 3) := by decide +kernel
theorem dX5_place_52 : decode cX5_place 52 = .ok (.aload_n 0, 1) := by decide +kernel
theorem dX5_place_53 : decode cX5_place 53 = .ok (.getfield 26, 3) := by decide +kernel
theorem dX5_place_56 : decode cX5_place 56 = .ok (.invokevirtual 210, 3) := by decide +kernel
theorem dX5_place_59 : decode cX5_place 59 = .ok (.aload_n 0, 1) := by decide +kernel
theorem dX5_place_60 : decode cX5_place 60 = .ok (.getfield 33, 3) := by decide +kernel
theorem dX5_place_63 : decode cX5_place 63 = .ok (.getfield 213, 3) := by decide +kernel
theorem dX5_place_66 : decode cX5_place 66 = .ok (.iload_n 1, 1) := by decide +kernel
theorem dX5_place_67 : decode cX5_place 67 = .ok (.iaload, 1) := by decide +kernel
theorem dX5_place_68 : decode cX5_place 68 = .ok (.ireturn, 1) := by decide +kernel
theorem dX5_place_69 : decode cX5_place 69 = .ok (.aload_n 0, 1) := by decide +kernel
theorem dX5_place_70 : decode cX5_place 70 = .ok (.getfield 33, 3) := by decide +kernel
theorem dX5_place_73 : decode cX5_place 73 = .ok (.getfield 216, 3) := by decide +kernel
theorem dX5_place_76 : decode cX5_place 76 = .ok (.iload_n 1, 1) := by decide +kernel
theorem dX5_place_77 : decode cX5_place 77 = .ok (.invokestatic 187, 3) := by decide +kernel
theorem dX5_place_80 : decode cX5_place 80 = .ok (.ireturn, 1) := by decide +kernel
theorem dX5_place_81 : decode cX5_place 81 = .ok (.aload_n 0, 1) := by decide +kernel
theorem dX5_place_82 : decode cX5_place 82 = .ok (.getfield 26, 3) := by decide +kernel
theorem dX5_place_85 : decode cX5_place 85 = .ok (.getfield 219, 3) := by decide +kernel
theorem dX5_place_88 : decode cX5_place 88 = .ok (.iload_n 1, 1) := by decide +kernel
theorem dX5_place_89 : decode cX5_place 89 = .ok (.iaload, 1) := by decide +kernel
theorem dX5_place_90 : decode cX5_place 90 = .ok (.ireturn, 1) := by decide +kernel
theorem dX5_place_91 : decode cX5_place 91 = .ok (.ldc 77, 2) := by decide +kernel
theorem dX5_place_93 : decode cX5_place 93 = .ok (.ireturn, 1) := by decide +kernel
theorem dX5_far_0 : decode cX5_far 0 = .ok (.aload_n 0, 1) := by decide +kernel
theorem dX5_far_1 : decode cX5_far 1 = .ok (.invokevirtual 156, 3) := by decide +kernel
theorem dX5_far_4 : decode cX5_far 4 = .ok (.ifCond .ne 6, 3) := by decide +kernel
theorem dX5_far_7 : decode cX5_far 7 = .ok (.ldc 152, 2) := by decide +kernel
theorem dX5_far_9 : decode cX5_far 9 = .ok (.ireturn, 1) := by decide +kernel
theorem dX5_far_10 : decode cX5_far 10 = .ok (.aload_n 0, 1) := by decide +kernel
theorem dX5_far_11 : decode cX5_far 11 = .ok (.iload_n 1, 1) := by decide +kernel
theorem dX5_far_12 : decode cX5_far 12 = .ok (.invokevirtual 175, 3) := by decide +kernel
theorem dX5_far_15 : decode cX5_far 15 = .ok (.ifCond .eq 11, 3) := by decide +kernel
theorem dX5_far_18 : decode cX5_far 18 = .ok (.aload_n 0, 1) := by decide +kernel
theorem dX5_far_19 : decode cX5_far 19 = .ok (.iload_n 2, 1) := by decide +kernel
theorem dX5_far_20 : decode cX5_far 20 = .ok (.invokevirtual 175, 3) := by decide +kernel
end
section
theorem dX5_far_23 : decode cX5_far 23 = .ok (.ifCond .ne 6, 3) := by decide +kernel
theorem dX5_far_26 : decode cX5_far 26 = .ok (.ldc 77, 2) := by decide +kernel
theorem dX5_far_28 : decode cX5_far 28 = .ok (.ireturn, 1) := by decide +kernel
theorem dX5_far_29 : decode cX5_far 29 = .ok (.aload_n 0, 1) := by decide +kernel
theorem dX5_far_30 : decode cX5_far 30 = .ok (.getfield 26, 3) := by decide +kernel
theorem dX5_far_33 : decode cX5_far 33 = .ok (.iload_n 1, 1) := by decide +kernel
theorem dX5_far_34 : decode cX5_far 34 = .ok (.iload_n 2, 1) := by decide +kernel
theorem dX5_far_35 : decode cX5_far 35 = .ok (.invokevirtual 222, 3) := by decide +kernel
theorem dX5_far_38 : decode cX5_far 38 = .ok (.ireturn, 1) := by decide +kernel
theorem dX5_ahead_0 : decode cX5_ahead 0 = .ok (.aload_n 0, 1) := by decide +kernel
theorem dX5_ahead_1 : decode cX5_ahead 1 = .ok (.invokevirtual 156, 3) := by decide +kernel
theorem dX5_ahead_4 : decode cX5_ahead 4 = .ok (.ifCond .ne 6, 3) := by decide +kernel
theorem dX5_ahead_7 : decode cX5_ahead 7 = .ok (.ldc 152, 2) := by decide +kernel
theorem dX5_ahead_9 : decode cX5_ahead 9 = .ok (.ireturn, 1) := by decide +kernel
theorem dX5_ahead_10 : decode cX5_ahead 10 = .ok (.iload_n 1, 1) := by decide +kernel
theorem dX5_ahead_11 : decode cX5_ahead 11 = .ok (.iconst 0, 1) := by decide +kernel
theorem dX5_ahead_12 : decode cX5_ahead 12 = .ok (.bipush 60, 2) := by decide +kernel
theorem dX5_ahead_14 : decode cX5_ahead 14 = .ok (.invokestatic 73, 3) := by decide +kernel
theorem dX5_ahead_17 : decode cX5_ahead 17 = .ok (.ifCond .eq 12, 3) := by decide +kernel
theorem dX5_ahead_20 : decode cX5_ahead 20 = .ok (.iload_n 2, 1) := by decide +kernel
theorem dX5_ahead_21 : decode cX5_ahead 21 = .ok (.iconst 0, 1) := by decide +kernel
theorem dX5_ahead_22 : decode cX5_ahead 22 = .ok (.iconst 1, 1) := by decide +kernel
theorem dX5_ahead_23 : decode cX5_ahead 23 = .ok (.invokestatic 73, 3) := by decide +kernel
theorem dX5_ahead_26 : decode cX5_ahead 26 = .ok (.ifCond .ne 6, 3) := by decide +kernel
theorem dX5_ahead_29 : decode cX5_ahead 29 = .ok (.ldc 77, 2) := by decide +kernel
theorem dX5_ahead_31 : decode cX5_ahead 31 = .ok (.ireturn, 1) := by decide +kernel
theorem dX5_ahead_32 : decode cX5_ahead 32 = .ok (.aload_n 0, 1) := by decide +kernel
theorem dX5_ahead_33 : decode cX5_ahead 33 = .ok (.getfield 44, 3) := by decide +kernel
theorem dX5_ahead_36 : decode cX5_ahead 36 = .ok (.aload_n 0, 1) := by decide +kernel
theorem dX5_ahead_37 : decode cX5_ahead 37 = .ok (.getfield 33, 3) := by decide +kernel
theorem dX5_ahead_40 : decode cX5_ahead 40 = .ok (.invokevirtual 140, 3) := by decide +kernel
theorem dX5_ahead_43 : decode cX5_ahead 43 = .ok (.aload_n 0, 1) := by decide +kernel
theorem dX5_ahead_44 : decode cX5_ahead 44 = .ok (.getfield 44, 3) := by decide +kernel
theorem dX5_ahead_47 : decode cX5_ahead 47 = .ok (.aload_n 0, 1) := by decide +kernel
theorem dX5_ahead_48 : decode cX5_ahead 48 = .ok (.getfield 26, 3) := by decide +kernel
theorem dX5_ahead_51 : decode cX5_ahead 51 = .ok (.iload_n 1, 1) := by decide +kernel
theorem dX5_ahead_52 : decode cX5_ahead 52 = .ok (.invokevirtual 225, 3) := by decide +kernel
theorem dX5_ahead_55 : decode cX5_ahead 55 = .ok (.iload_n 2, 1) := by decide +kernel
theorem dX5_ahead_56 : decode cX5_ahead 56 = .ok (.ifCond .ne 13, 3) := by decide +kernel
theorem dX5_ahead_59 : decode cX5_ahead 59 = .ok (.aload_n 0, 1) := by decide +kernel
theorem dX5_ahead_60 : decode cX5_ahead 60 = .ok (.getfield 44, 3) := by decide +kernel
theorem dX5_ahead_63 : decode cX5_ahead 63 = .ok (.getfield 169, 3) := by decide +kernel
theorem dX5_ahead_66 : decode cX5_ahead 66 = .ok (.goto 10, 3) := by decide +kernel
theorem dX5_ahead_69 : decode cX5_ahead 69 = .ok (.aload_n 0, 1) := by decide +kernel
theorem dX5_ahead_70 : decode cX5_ahead 70 = .ok (.getfield 44, 3) := by decide +kernel
theorem dX5_ahead_73 : decode cX5_ahead 73 = .ok (.getfield 229, 3) := by decide +kernel
theorem dX5_ahead_76 : decode cX5_ahead 76 = .ok (.ireturn, 1) := by decide +kernel
theorem dX5_comes_0 : decode cX5_comes 0 = .ok (.aload_n 0, 1) := by decide +kernel
theorem dX5_comes_1 : decode cX5_comes 1 = .ok (.invokevirtual 156, 3) := by decide +kernel
theorem dX5_comes_4 : decode cX5_comes 4 = .ok (.ifCond .ne 6, 3) := by decide +kernel
theorem dX5_comes_7 : decode cX5_comes 7 = .ok (.ldc 152, 2) := by decide +kernel
theorem dX5_comes_9 : decode cX5_comes 9 = .ok (.ireturn, 1) := by decide +kernel
theorem dX5_comes_10 : decode cX5_comes 10 = .ok (.aload_n 0, 1) := by decide +kernel
theorem dX5_comes_11 : decode cX5_comes 11 = .ok (.iload_n 1, 1) := by decide +kernel
theorem dX5_comes_12 : decode cX5_comes 12 = .ok (.invokevirtual 175, 3) := by decide +kernel
theorem dX5_comes_15 : decode cX5_comes 15 = .ok (.ifCond .eq 13, 3) := by decide +kernel
theorem dX5_comes_18 : decode cX5_comes 18 = .ok (.iload_n 2, 1) := by decide +kernel
theorem dX5_comes_19 : decode cX5_comes 19 = .ok (.iconst 1, 1) := by decide +kernel
theorem dX5_comes_20 : decode cX5_comes 20 = .ok (.bipush 60, 2) := by decide +kernel
theorem dX5_comes_22 : decode cX5_comes 22 = .ok (.invokestatic 73, 3) := by decide +kernel
theorem dX5_comes_25 : decode cX5_comes 25 = .ok (.ifCond .ne 6, 3) := by decide +kernel
theorem dX5_comes_28 : decode cX5_comes 28 = .ok (.ldc 77, 2) := by decide +kernel
theorem dX5_comes_30 : decode cX5_comes 30 = .ok (.ireturn, 1) := by decide +kernel
theorem dX5_comes_31 : decode cX5_comes 31 = .ok (.aload_n 0, 1) := by decide +kernel
theorem dX5_comes_32 : decode cX5_comes 32 = .ok (.getfield 44, 3) := by decide +kernel
theorem dX5_comes_35 : decode cX5_comes 35 = .ok (.aload_n 0, 1) := by decide +kernel
theorem dX5_comes_36 : decode cX5_comes 36 = .ok (.getfield 33, 3) := by decide +kernel
theorem dX5_comes_39 : decode cX5_comes 39 = .ok (.invokevirtual 140, 3) := by decide +kernel
theorem dX5_comes_42 : decode cX5_comes 42 = .ok (.iconst 0, 1) := by decide +kernel
theorem dX5_comes_43 : decode cX5_comes 43 = .ok (.istore_n 3, 1) := by decide +kernel
theorem dX5_comes_44 : decode cX5_comes 44 = .ok (.iload_n 3, 1) := by decide +kernel
theorem dX5_comes_45 : decode cX5_comes 45 = .ok (.iload_n 2, 1) := by decide +kernel
theorem dX5_comes_46 : decode cX5_comes 46 = .ok (.if_icmp .ge 33, 3) := by decide +kernel
theorem dX5_comes_49 : decode cX5_comes 49 = .ok (.aload_n 0, 1) := by decide +kernel
theorem dX5_comes_50 : decode cX5_comes 50 = .ok (.getfield 44, 3) := by decide +kernel
theorem dX5_comes_53 : decode cX5_comes 53 = .ok (.getfield 169, 3) := by decide +kernel
theorem dX5_comes_56 : decode cX5_comes 56 = .ok (.iload_n 1, 1) := by decide +kernel
theorem dX5_comes_57 : decode cX5_comes 57 = .ok (.if_icmp .ne 5, 3) := by decide +kernel
theorem dX5_comes_60 : decode cX5_comes 60 = .ok (.iload_n 3, 1) := by decide +kernel
theorem dX5_comes_61 : decode cX5_comes 61 = .ok (.ireturn, 1) := by decide +kernel
theorem dX5_comes_62 : decode cX5_comes 62 = .ok (.aload_n 0, 1) := by decide +kernel
theorem dX5_comes_63 : decode cX5_comes 63 = .ok (.getfield 44, 3) := by decide +kernel
theorem dX5_comes_66 : decode cX5_comes 66 = .ok (.aload_n 0, 1) := by decide +kernel
theorem dX5_comes_67 : decode cX5_comes 67 = .ok (.getfield 26, 3) := by decide +kernel
theorem dX5_comes_70 : decode cX5_comes 70 = .ok (.invokevirtual 166, 3) := by decide +kernel
theorem dX5_comes_73 : decode cX5_comes 73 = .ok (.iinc 3 1, 3) := by decide +kernel
theorem dX5_comes_76 : decode cX5_comes 76 = .ok (.goto (-32), 3) := by decide +kernel
theorem dX5_comes_79 : decode cX5_comes 79 = .ok (.aload_n 0, 1) := by decide +kernel
theorem dX5_comes_80 : decode cX5_comes 80 = .ok (.getfield 44, 3) := by decide +kernel
theorem dX5_comes_83 : decode cX5_comes 83 = .ok (.getfield 169, 3) := by decide +kernel
theorem dX5_comes_86 : decode cX5_comes 86 = .ok (.iload_n 1, 1) := by decide +kernel
theorem dX5_comes_87 : decode cX5_comes 87 = .ok (.if_icmp .ne 7, 3) := by decide +kernel
theorem dX5_comes_90 : decode cX5_comes 90 = .ok (.iload_n 2, 1) := by decide +kernel
theorem dX5_comes_91 : decode cX5_comes 91 = .ok (.goto 5, 3) := by decide +kernel
theorem dX5_comes_94 : decode cX5_comes 94 = .ok (.ldc 232, 2) := by decide +kernel
theorem dX5_comes_96 : decode cX5_comes 96 = .ok (.ireturn, 1) := by decide +kernel
theorem dX5_visits_0 : decode cX5_visits 0 = .ok (.aload_n 0, 1) := by decide +kernel
theorem dX5_visits_1 : decode cX5_visits 1 = .ok (.invokevirtual 156, 3) := by decide +kernel
theorem dX5_visits_4 : decode cX5_visits 4 = .ok (.ifCond .ne 6, 3) := by decide +kernel
theorem dX5_visits_7 : decode cX5_visits 7 = .ok (.ldc 152, 2) := by decide +kernel
theorem dX5_visits_9 : decode cX5_visits 9 = .ok (.ireturn, 1) := by decide +kernel
theorem dX5_visits_10 : decode cX5_visits 10 = .ok (.iload_n 1, 1) := by decide +kernel
theorem dX5_visits_11 : decode cX5_visits 11 = .ok (.iconst 0, 1) := by decide +kernel
theorem dX5_visits_12 : decode cX5_visits 12 = .ok (.bipush 60, 2) := by decide +kernel
theorem dX5_visits_14 : decode cX5_visits 14 = .ok (.invokestatic 73, 3) := by decide +kernel
theorem dX5_visits_17 : decode cX5_visits 17 = .ok (.ifCond .ne 6, 3) := by decide +kernel
theorem dX5_visits_20 : decode cX5_visits 20 = .ok (.ldc 77, 2) := by decide +kernel
theorem dX5_visits_22 : decode cX5_visits 22 = .ok (.ireturn, 1) := by decide +kernel
theorem dX5_visits_23 : decode cX5_visits 23 = .ok (.aload_n 0, 1) := by decide +kernel
theorem dX5_visits_24 : decode cX5_visits 24 = .ok (.getfield 44, 3) := by decide +kernel
theorem dX5_visits_27 : decode cX5_visits 27 = .ok (.aload_n 0, 1) := by decide +kernel
theorem dX5_visits_28 : decode cX5_visits 28 = .ok (.getfield 33, 3) := by decide +kernel
theorem dX5_visits_31 : decode cX5_visits 31 = .ok (.invokevirtual 140, 3) := by decide +kernel
theorem dX5_visits_34 : decode cX5_visits 34 = .ok (.iconst 1, 1) := by decide +kernel
theorem dX5_visits_35 : decode cX5_visits 35 = .ok (.aload_n 0, 1) := by decide +kernel
theorem dX5_visits_36 : decode cX5_visits 36 = .ok (.getfield 44, 3) := by decide +kernel
theorem dX5_visits_39 : decode cX5_visits 39 = .ok (.getfield 169, 3) := by decide +kernel
theorem dX5_visits_42 : decode cX5_visits 42 = .ok (.ishl, 1) := by decide +kernel
theorem dX5_visits_43 : decode cX5_visits 43 = .ok (.istore_n 2, 1) := by decide +kernel
theorem dX5_visits_44 : decode cX5_visits 44 = .ok (.iconst 0, 1) := by decide +kernel
theorem dX5_visits_45 : decode cX5_visits 45 = .ok (.istore_n 3, 1) := by decide +kernel
theorem dX5_visits_46 : decode cX5_visits 46 = .ok (.iload_n 3, 1) := by decide +kernel
theorem dX5_visits_47 : decode cX5_visits 47 = .ok (.iload_n 1, 1) := by decide +kernel
theorem dX5_visits_48 : decode cX5_visits 48 = .ok (.if_icmp .ge 32, 3) := by decide +kernel
theorem dX5_visits_51 : decode cX5_visits 51 = .ok (.aload_n 0, 1) := by decide +kernel
theorem dX5_visits_52 : decode cX5_visits 52 = .ok (.getfield 44, 3) := by decide +kernel
theorem dX5_visits_55 : decode cX5_visits 55 = .ok (.aload_n 0, 1) := by decide +kernel
theorem dX5_visits_56 : decode cX5_visits 56 = .ok (.getfield 26, 3) := by decide +kernel
theorem dX5_visits_59 : decode cX5_visits 59 = .ok (.invokevirtual 166, 3) := by decide +kernel
theorem dX5_visits_62 : decode cX5_visits 62 = .ok (.iload_n 2, 1) := by decide +kernel
theorem dX5_visits_63 : decode cX5_visits 63 = .ok (.iconst 1, 1) := by decide +kernel
theorem dX5_visits_64 : decode cX5_visits 64 = .ok (.aload_n 0, 1) := by decide +kernel
theorem dX5_visits_65 : decode cX5_visits 65 = .ok (.getfield 44, 3) := by decide +kernel
theorem dX5_visits_68 : decode cX5_visits 68 = .ok (.getfield 169, 3) := by decide +kernel
theorem dX5_visits_71 : decode cX5_visits 71 = .ok (.ishl, 1) := by decide +kernel
theorem dX5_visits_72 : decode cX5_visits 72 = .ok (.ior, 1) := by decide +kernel
theorem dX5_visits_73 : decode cX5_visits 73 = .ok (.istore_n 2, 1) := by decide +kernel
theorem dX5_visits_74 : decode cX5_visits 74 = .ok (.iinc 3 1, 3) := by decide +kernel
theorem dX5_visits_77 : decode cX5_visits 77 = .ok (.goto (-31), 3) := by decide +kernel
theorem dX5_visits_80 : decode cX5_visits 80 = .ok (.iload_n 2, 1) := by decide +kernel
theorem dX5_visits_81 : decode cX5_visits 81 = .ok (.ireturn, 1) := by decide +kernel
theorem dX5_fewest_0 : decode cX5_fewest 0 = .ok (.aload_n 0, 1) := by decide +kernel
theorem dX5_fewest_1 : decode cX5_fewest 1 = .ok (.invokevirtual 156, 3) := by decide +kernel
theorem dX5_fewest_4 : decode cX5_fewest 4 = .ok (.ifCond .ne 6, 3) := by decide +kernel
theorem dX5_fewest_7 : decode cX5_fewest 7 = .ok (.ldc 152, 2) := by decide +kernel
theorem dX5_fewest_9 : decode cX5_fewest 9 = .ok (.ireturn, 1) := by decide +kernel
theorem dX5_fewest_10 : decode cX5_fewest 10 = .ok (.aload_n 0, 1) := by decide +kernel
theorem dX5_fewest_11 : decode cX5_fewest 11 = .ok (.iload_n 1, 1) := by decide +kernel
theorem dX5_fewest_12 : decode cX5_fewest 12 = .ok (.invokevirtual 175, 3) := by decide +kernel
theorem dX5_fewest_15 : decode cX5_fewest 15 = .ok (.ifCond .eq 22, 3) := by decide +kernel
theorem dX5_fewest_18 : decode cX5_fewest 18 = .ok (.iload_n 2, 1) := by decide +kernel
theorem dX5_fewest_19 : decode cX5_fewest 19 = .ok (.iconst 1, 1) := by decide +kernel
theorem dX5_fewest_20 : decode cX5_fewest 20 = .ok (.bipush 24, 2) := by decide +kernel
theorem dX5_fewest_22 : decode cX5_fewest 22 = .ok (.invokestatic 73, 3) := by decide +kernel
theorem dX5_fewest_25 : decode cX5_fewest 25 = .ok (.ifCond .eq 12, 3) := by decide +kernel
theorem dX5_fewest_28 : decode cX5_fewest 28 = .ok (.iload_n 3, 1) := by decide +kernel
theorem dX5_fewest_29 : decode cX5_fewest 29 = .ok (.iconst 0, 1) := by decide +kernel
theorem dX5_fewest_30 : decode cX5_fewest 30 = .ok (.iconst 1, 1) := by decide +kernel
theorem dX5_fewest_31 : decode cX5_fewest 31 = .ok (.invokestatic 73, 3) := by decide +kernel
theorem dX5_fewest_34 : decode cX5_fewest 34 = .ok (.ifCond .ne 6, 3) := by decide +kernel
theorem dX5_fewest_37 : decode cX5_fewest 37 = .ok (.ldc 77, 2) := by decide +kernel
theorem dX5_fewest_39 : decode cX5_fewest 39 = .ok (.ireturn, 1) := by decide +kernel
theorem dX5_fewest_40 : decode cX5_fewest 40 = .ok (.bipush 7, 2) := by decide +kernel
theorem dX5_fewest_42 : decode cX5_fewest 42 = .ok (.istore 4, 2) := by decide +kernel
theorem dX5_fewest_44 : decode cX5_fewest 44 = .ok (.iconst 0, 1) := by decide +kernel
theorem dX5_fewest_45 : decode cX5_fewest 45 = .ok (.istore 5, 2) := by decide +kernel
theorem dX5_fewest_47 : decode cX5_fewest 47 = .ok (.iconst 0, 1) := by decide +kernel
theorem dX5_fewest_48 : decode cX5_fewest 48 = .ok (.istore 6, 2) := by decide +kernel
theorem dX5_fewest_50 : decode cX5_fewest 50 = .ok (.iload 6, 2) := by decide +kernel
theorem dX5_fewest_52 : decode cX5_fewest 52 = .ok (.aload_n 0, 1) := by decide +kernel
theorem dX5_fewest_53 : decode cX5_fewest 53 = .ok (.getfield 26, 3) := by decide +kernel
theorem dX5_fewest_56 : decode cX5_fewest 56 = .ok (.invokevirtual 233, 3) := by decide +kernel
theorem dX5_fewest_59 : decode cX5_fewest 59 = .ok (.if_icmp .gt 41, 3) := by decide +kernel
theorem dX5_fewest_62 : decode cX5_fewest 62 = .ok (.iload 6, 2) := by decide +kernel
theorem dX5_fewest_64 : decode cX5_fewest 64 = .ok (.invokestatic 191, 3) := by decide +kernel
theorem dX5_fewest_67 : decode cX5_fewest 67 = .ok (.iload 4, 2) := by decide +kernel
theorem dX5_fewest_69 : decode cX5_fewest 69 = .ok (.if_icmp .ge 25, 3) := by decide +kernel
theorem dX5_fewest_72 : decode cX5_fewest 72 = .ok (.aload_n 0, 1) := by decide +kernel
theorem dX5_fewest_73 : decode cX5_fewest 73 = .ok (.iload 6, 2) := by decide +kernel
theorem dX5_fewest_75 : decode cX5_fewest 75 = .ok (.iload_n 1, 1) := by decide +kernel
theorem dX5_fewest_76 : decode cX5_fewest 76 = .ok (.iload_n 2, 1) := by decide +kernel
theorem dX5_fewest_77 : decode cX5_fewest 77 = .ok (.invokevirtual 237, 3) := by decide +kernel
theorem dX5_fewest_80 : decode cX5_fewest 80 = .ok (.ifCond .eq 14, 3) := by decide +kernel
theorem dX5_fewest_83 : decode cX5_fewest 83 = .ok (.iload 6, 2) := by decide +kernel
theorem dX5_fewest_85 : decode cX5_fewest 85 = .ok (.invokestatic 191, 3) := by decide +kernel
theorem dX5_fewest_88 : decode cX5_fewest 88 = .ok (.istore 4, 2) := by decide +kernel
theorem dX5_fewest_90 : decode cX5_fewest 90 = .ok (.iload 6, 2) := by decide +kernel
theorem dX5_fewest_92 : decode cX5_fewest 92 = .ok (.istore 5, 2) := by decide +kernel
theorem dX5_fewest_94 : decode cX5_fewest 94 = .ok (.iinc 6 1, 3) := by decide +kernel
theorem dX5_fewest_97 : decode cX5_fewest 97 = .ok (.goto (-47), 3) := by decide +kernel
theorem dX5_fewest_100 : decode cX5_fewest 100 = .ok (.iload 4, 2) := by decide +kernel
theorem dX5_fewest_102 : decode cX5_fewest 102 = .ok (.bipush 6, 2) := by decide +kernel
theorem dX5_fewest_104 : decode cX5_fewest 104 = .ok (.if_icmp .le 6, 3) := by decide +kernel
theorem dX5_fewest_107 : decode cX5_fewest 107 = .ok (.ldc 232, 2) := by decide +kernel
theorem dX5_fewest_109 : decode cX5_fewest 109 = .ok (.ireturn, 1) := by decide +kernel
theorem dX5_fewest_110 : decode cX5_fewest 110 = .ok (.iload_n 3, 1) := by decide +kernel
theorem dX5_fewest_111 : decode cX5_fewest 111 = .ok (.ifCond .ne 8, 3) := by decide +kernel
theorem dX5_fewest_114 : decode cX5_fewest 114 = .ok (.iload 4, 2) := by decide +kernel
theorem dX5_fewest_116 : decode cX5_fewest 116 = .ok (.goto 5, 3) := by decide +kernel
theorem dX5_fewest_119 : decode cX5_fewest 119 = .ok (.iload 5, 2) := by decide +kernel
theorem dX5_fewest_121 : decode cX5_fewest 121 = .ok (.ireturn, 1) := by decide +kernel
theorem dX5_hard_0 : decode cX5_hard 0 = .ok (.aload_n 0, 1) := by decide +kernel
theorem dX5_hard_1 : decode cX5_hard 1 = .ok (.iload_n 1, 1) := by decide +kernel
theorem dX5_hard_2 : decode cX5_hard 2 = .ok (.invokevirtual 172, 3) := by decide +kernel
theorem dX5_hard_5 : decode cX5_hard 5 = .ok (.ifCond .eq 13, 3) := by decide +kernel
theorem dX5_hard_8 : decode cX5_hard 8 = .ok (.iload_n 2, 1) := by decide +kernel
theorem dX5_hard_9 : decode cX5_hard 9 = .ok (.iconst 1, 1) := by decide +kernel
theorem dX5_hard_10 : decode cX5_hard 10 = .ok (.bipush 24, 2) := by decide +kernel
theorem dX5_hard_12 : decode cX5_hard 12 = .ok (.invokestatic 73, 3) := by decide +kernel
theorem dX5_hard_15 : decode cX5_hard 15 = .ok (.ifCond .ne 6, 3) := by decide +kernel
theorem dX5_hard_18 : decode cX5_hard 18 = .ok (.ldc 77, 2) := by decide +kernel
theorem dX5_hard_20 : decode cX5_hard 20 = .ok (.ireturn, 1) := by decide +kernel
theorem dX5_hard_21 : decode cX5_hard 21 = .ok (.iconst 0, 1) := by decide +kernel
theorem dX5_hard_22 : decode cX5_hard 22 = .ok (.istore_n 3, 1) := by decide +kernel
theorem dX5_hard_23 : decode cX5_hard 23 = .ok (.iload_n 3, 1) := by decide +kernel
theorem dX5_hard_24 : decode cX5_hard 24 = .ok (.bipush 40, 2) := by decide +kernel
theorem dX5_hard_26 : decode cX5_hard 26 = .ok (.if_icmp .gt 63, 3) := by decide +kernel
theorem dX5_hard_29 : decode cX5_hard 29 = .ok (.aload_n 0, 1) := by decide +kernel
theorem dX5_hard_30 : decode cX5_hard 30 = .ok (.getfield 44, 3) := by decide +kernel
theorem dX5_hard_33 : decode cX5_hard 33 = .ok (.aload_n 0, 1) := by decide +kernel
theorem dX5_hard_34 : decode cX5_hard 34 = .ok (.getfield 33, 3) := by decide +kernel
theorem dX5_hard_37 : decode cX5_hard 37 = .ok (.invokevirtual 140, 3) := by decide +kernel
theorem dX5_hard_40 : decode cX5_hard 40 = .ok (.aload_n 0, 1) := by decide +kernel
theorem dX5_hard_41 : decode cX5_hard 41 = .ok (.getfield 44, 3) := by decide +kernel
theorem dX5_hard_44 : decode cX5_hard 44 = .ok (.getfield 181, 3) := by decide +kernel
theorem dX5_hard_47 : decode cX5_hard 47 = .ok (.iload_n 1, 1) := by decide +kernel
theorem dX5_hard_48 : decode cX5_hard 48 = .ok (.iload_n 3, 1) := by decide +kernel
theorem dX5_hard_49 : decode cX5_hard 49 = .ok (.iastore, 1) := by decide +kernel
theorem dX5_hard_50 : decode cX5_hard 50 = .ok (.aload_n 0, 1) := by decide +kernel
theorem dX5_hard_51 : decode cX5_hard 51 = .ok (.getfield 44, 3) := by decide +kernel
theorem dX5_hard_54 : decode cX5_hard 54 = .ok (.aload_n 0, 1) := by decide +kernel
theorem dX5_hard_55 : decode cX5_hard 55 = .ok (.getfield 26, 3) := by decide +kernel
theorem dX5_hard_58 : decode cX5_hard 58 = .ok (.iload_n 2, 1) := by decide +kernel
theorem dX5_hard_59 : decode cX5_hard 59 = .ok (.invokevirtual 225, 3) := by decide +kernel
theorem dX5_hard_62 : decode cX5_hard 62 = .ok (.aload_n 0, 1) := by decide +kernel
theorem dX5_hard_63 : decode cX5_hard 63 = .ok (.getfield 44, 3) := by decide +kernel
theorem dX5_hard_66 : decode cX5_hard 66 = .ok (.getfield 169, 3) := by decide +kernel
theorem dX5_hard_69 : decode cX5_hard 69 = .ok (.aload_n 0, 1) := by decide +kernel
theorem dX5_hard_70 : decode cX5_hard 70 = .ok (.getfield 44, 3) := by decide +kernel
theorem dX5_hard_73 : decode cX5_hard 73 = .ok (.getfield 178, 3) := by decide +kernel
theorem dX5_hard_76 : decode cX5_hard 76 = .ok (.iload_n 1, 1) := by decide +kernel
theorem dX5_hard_77 : decode cX5_hard 77 = .ok (.iaload, 1) := by decide +kernel
theorem dX5_hard_78 : decode cX5_hard 78 = .ok (.if_icmp .ne 5, 3) := by decide +kernel
theorem dX5_hard_81 : decode cX5_hard 81 = .ok (.iload_n 3, 1) := by decide +kernel
theorem dX5_hard_82 : decode cX5_hard 82 = .ok (.ireturn, 1) := by decide +kernel
theorem dX5_hard_83 : decode cX5_hard 83 = .ok (.iinc 3 1, 3) := by decide +kernel
theorem dX5_hard_86 : decode cX5_hard 86 = .ok (.goto (-63), 3) := by decide +kernel
theorem dX5_hard_89 : decode cX5_hard 89 = .ok (.ldc 232, 2) := by decide +kernel
theorem dX5_hard_91 : decode cX5_hard 91 = .ok (.ireturn, 1) := by decide +kernel
theorem dX5_stolen_0 : decode cX5_stolen 0 = .ok (.aload_n 0, 1) := by decide +kernel
theorem dX5_stolen_1 : decode cX5_stolen 1 = .ok (.invokevirtual 156, 3) := by decide +kernel
theorem dX5_stolen_4 : decode cX5_stolen 4 = .ok (.ifCond .ne 6, 3) := by decide +kernel
theorem dX5_stolen_7 : decode cX5_stolen 7 = .ok (.ldc 152, 2) := by decide +kernel
theorem dX5_stolen_9 : decode cX5_stolen 9 = .ok (.ireturn, 1) := by decide +kernel
theorem dX5_stolen_10 : decode cX5_stolen 10 = .ok (.aload_n 0, 1) := by decide +kernel
theorem dX5_stolen_11 : decode cX5_stolen 11 = .ok (.iload_n 1, 1) := by decide +kernel
theorem dX5_stolen_12 : decode cX5_stolen 12 = .ok (.invokevirtual 175, 3) := by decide +kernel
theorem dX5_stolen_15 : decode cX5_stolen 15 = .ok (.ifCond .eq 23, 3) := by decide +kernel
theorem dX5_stolen_18 : decode cX5_stolen 18 = .ok (.iload_n 2, 1) := by decide +kernel
theorem dX5_stolen_19 : decode cX5_stolen 19 = .ok (.iconst 0, 1) := by decide +kernel
theorem dX5_stolen_20 : decode cX5_stolen 20 = .ok (.bipush 60, 2) := by decide +kernel
theorem dX5_stolen_22 : decode cX5_stolen 22 = .ok (.invokestatic 73, 3) := by decide +kernel
theorem dX5_stolen_25 : decode cX5_stolen 25 = .ok (.ifCond .eq 13, 3) := by decide +kernel
theorem dX5_stolen_28 : decode cX5_stolen 28 = .ok (.iload_n 3, 1) := by decide +kernel
theorem dX5_stolen_29 : decode cX5_stolen 29 = .ok (.iconst 1, 1) := by decide +kernel
theorem dX5_stolen_30 : decode cX5_stolen 30 = .ok (.bipush 24, 2) := by decide +kernel
theorem dX5_stolen_32 : decode cX5_stolen 32 = .ok (.invokestatic 73, 3) := by decide +kernel
theorem dX5_stolen_35 : decode cX5_stolen 35 = .ok (.ifCond .ne 6, 3) := by decide +kernel
theorem dX5_stolen_38 : decode cX5_stolen 38 = .ok (.ldc 77, 2) := by decide +kernel
theorem dX5_stolen_40 : decode cX5_stolen 40 = .ok (.ireturn, 1) := by decide +kernel
theorem dX5_stolen_41 : decode cX5_stolen 41 = .ok (.aload_n 0, 1) := by decide +kernel
theorem dX5_stolen_42 : decode cX5_stolen 42 = .ok (.getfield 44, 3) := by decide +kernel
theorem dX5_stolen_45 : decode cX5_stolen 45 = .ok (.aload_n 0, 1) := by decide +kernel
theorem dX5_stolen_46 : decode cX5_stolen 46 = .ok (.getfield 33, 3) := by decide +kernel
theorem dX5_stolen_49 : decode cX5_stolen 49 = .ok (.invokevirtual 140, 3) := by decide +kernel
theorem dX5_stolen_52 : decode cX5_stolen 52 = .ok (.iconst 0, 1) := by decide +kernel
theorem dX5_stolen_53 : decode cX5_stolen 53 = .ok (.istore 4, 2) := by decide +kernel
theorem dX5_stolen_55 : decode cX5_stolen 55 = .ok (.iconst 0, 1) := by decide +kernel
theorem dX5_stolen_56 : decode cX5_stolen 56 = .ok (.istore 5, 2) := by decide +kernel
theorem dX5_stolen_58 : decode cX5_stolen 58 = .ok (.iload 5, 2) := by decide +kernel
theorem dX5_stolen_60 : decode cX5_stolen 60 = .ok (.iload_n 3, 1) := by decide +kernel
theorem dX5_stolen_61 : decode cX5_stolen 61 = .ok (.if_icmp .ge 68, 3) := by decide +kernel
theorem dX5_stolen_64 : decode cX5_stolen 64 = .ok (.aload_n 0, 1) := by decide +kernel
theorem dX5_stolen_65 : decode cX5_stolen 65 = .ok (.getfield 44, 3) := by decide +kernel
theorem dX5_stolen_68 : decode cX5_stolen 68 = .ok (.aload_n 0, 1) := by decide +kernel
theorem dX5_stolen_69 : decode cX5_stolen 69 = .ok (.getfield 26, 3) := by decide +kernel
theorem dX5_stolen_72 : decode cX5_stolen 72 = .ok (.invokevirtual 210, 3) := by decide +kernel
theorem dX5_stolen_75 : decode cX5_stolen 75 = .ok (.aload_n 0, 1) := by decide +kernel
theorem dX5_stolen_76 : decode cX5_stolen 76 = .ok (.getfield 44, 3) := by decide +kernel
theorem dX5_stolen_79 : decode cX5_stolen 79 = .ok (.getfield 213, 3) := by decide +kernel
theorem dX5_stolen_82 : decode cX5_stolen 82 = .ok (.iload_n 1, 1) := by decide +kernel
theorem dX5_stolen_83 : decode cX5_stolen 83 = .ok (.dup2, 1) := by decide +kernel
theorem dX5_stolen_84 : decode cX5_stolen 84 = .ok (.iaload, 1) := by decide +kernel
theorem dX5_stolen_85 : decode cX5_stolen 85 = .ok (.iload_n 2, 1) := by decide +kernel
theorem dX5_stolen_86 : decode cX5_stolen 86 = .ok (.iadd, 1) := by decide +kernel
theorem dX5_stolen_87 : decode cX5_stolen 87 = .ok (.iastore, 1) := by decide +kernel
theorem dX5_stolen_88 : decode cX5_stolen 88 = .ok (.aload_n 0, 1) := by decide +kernel
theorem dX5_stolen_89 : decode cX5_stolen 89 = .ok (.getfield 44, 3) := by decide +kernel
theorem dX5_stolen_92 : decode cX5_stolen 92 = .ok (.aload_n 0, 1) := by decide +kernel
theorem dX5_stolen_93 : decode cX5_stolen 93 = .ok (.getfield 26, 3) := by decide +kernel
theorem dX5_stolen_96 : decode cX5_stolen 96 = .ok (.invokevirtual 240, 3) := by decide +kernel
theorem dX5_stolen_99 : decode cX5_stolen 99 = .ok (.iload_n 1, 1) := by decide +kernel
theorem dX5_stolen_100 : decode cX5_stolen 100 = .ok (.if_icmp .ne 12, 3) := by decide +kernel
theorem dX5_stolen_103 : decode cX5_stolen 103 = .ok (.iload 4, 2) := by decide +kernel
theorem dX5_stolen_105 : decode cX5_stolen 105 = .ok (.iconst 1, 1) := by decide +kernel
theorem dX5_stolen_106 : decode cX5_stolen 106 = .ok (.iload 5, 2) := by decide +kernel
theorem dX5_stolen_108 : decode cX5_stolen 108 = .ok (.ishl, 1) := by decide +kernel
theorem dX5_stolen_109 : decode cX5_stolen 109 = .ok (.ior, 1) := by decide +kernel
theorem dX5_stolen_110 : decode cX5_stolen 110 = .ok (.istore 4, 2) := by decide +kernel
theorem dX5_stolen_112 : decode cX5_stolen 112 = .ok (.aload_n 0, 1) := by decide +kernel
theorem dX5_stolen_113 : decode cX5_stolen 113 = .ok (.getfield 44, 3) := by decide +kernel
theorem dX5_stolen_116 : decode cX5_stolen 116 = .ok (.aload_n 0, 1) := by decide +kernel
theorem dX5_stolen_117 : decode cX5_stolen 117 = .ok (.getfield 26, 3) := by decide +kernel
theorem dX5_stolen_120 : decode cX5_stolen 120 = .ok (.invokevirtual 166, 3) := by decide +kernel
theorem dX5_stolen_123 : decode cX5_stolen 123 = .ok (.iinc 5 1, 3) := by decide +kernel
theorem dX5_stolen_126 : decode cX5_stolen 126 = .ok (.goto (-68), 3) := by decide +kernel
theorem dX5_stolen_129 : decode cX5_stolen 129 = .ok (.iload 4, 2) := by decide +kernel
theorem dX5_stolen_131 : decode cX5_stolen 131 = .ok (.ireturn, 1) := by decide +kernel
theorem dX5_seen_0 : decode cX5_seen 0 = .ok (.aload_n 0, 1) := by decide +kernel
theorem dX5_seen_1 : decode cX5_seen 1 = .ok (.invokevirtual 156, 3) := by decide +kernel
theorem dX5_seen_4 : decode cX5_seen 4 = .ok (.ifCond .ne 6, 3) := by decide +kernel
theorem dX5_seen_7 : decode cX5_seen 7 = .ok (.ldc 152, 2) := by decide +kernel
theorem dX5_seen_9 : decode cX5_seen 9 = .ok (.ireturn, 1) := by decide +kernel
theorem dX5_seen_10 : decode cX5_seen 10 = .ok (.iload_n 1, 1) := by decide +kernel
theorem dX5_seen_11 : decode cX5_seen 11 = .ok (.invokestatic 69, 3) := by decide +kernel
theorem dX5_seen_14 : decode cX5_seen 14 = .ok (.ifCond .eq 23, 3) := by decide +kernel
theorem dX5_seen_17 : decode cX5_seen 17 = .ok (.iload_n 3, 1) := by decide +kernel
theorem dX5_seen_18 : decode cX5_seen 18 = .ok (.iconst 1, 1) := by decide +kernel
theorem dX5_seen_19 : decode cX5_seen 19 = .ok (.bipush 12, 2) := by decide +kernel
theorem dX5_seen_21 : decode cX5_seen 21 = .ok (.invokestatic 73, 3) := by decide +kernel
theorem dX5_seen_24 : decode cX5_seen 24 = .ok (.ifCond .eq 13, 3) := by decide +kernel
theorem dX5_seen_27 : decode cX5_seen 27 = .ok (.iload 4, 2) := by decide +kernel
theorem dX5_seen_29 : decode cX5_seen 29 = .ok (.iconst 0, 1) := by decide +kernel
theorem dX5_seen_30 : decode cX5_seen 30 = .ok (.iconst 1, 1) := by decide +kernel
theorem dX5_seen_31 : decode cX5_seen 31 = .ok (.invokestatic 73, 3) := by decide +kernel
theorem dX5_seen_34 : decode cX5_seen 34 = .ok (.ifCond .ne 6, 3) := by decide +kernel
theorem dX5_seen_37 : decode cX5_seen 37 = .ok (.ldc 77, 2) := by decide +kernel
theorem dX5_seen_39 : decode cX5_seen 39 = .ok (.ireturn, 1) := by decide +kernel
theorem dX5_seen_40 : decode cX5_seen 40 = .ok (.aload_n 0, 1) := by decide +kernel
theorem dX5_seen_41 : decode cX5_seen 41 = .ok (.getfield 10, 3) := by decide +kernel
theorem dX5_seen_44 : decode cX5_seen 44 = .ok (.iload_n 1, 1) := by decide +kernel
theorem dX5_seen_45 : decode cX5_seen 45 = .ok (.iload_n 2, 1) := by decide +kernel
theorem dX5_seen_46 : decode cX5_seen 46 = .ok (.iload_n 3, 1) := by decide +kernel
theorem dX5_seen_47 : decode cX5_seen 47 = .ok (.invokevirtual 89, 3) := by decide +kernel
theorem dX5_seen_50 : decode cX5_seen 50 = .ok (.istore 5, 2) := by decide +kernel
theorem dX5_seen_52 : decode cX5_seen 52 = .ok (.iload 5, 2) := by decide +kernel
theorem dX5_seen_54 : decode cX5_seen 54 = .ok (.ifCond .eq 10, 3) := by decide +kernel
theorem dX5_seen_57 : decode cX5_seen 57 = .ok (.aload_n 0, 1) := by decide +kernel
theorem dX5_seen_58 : decode cX5_seen 58 = .ok (.iload 5, 2) := by decide +kernel
theorem dX5_seen_60 : decode cX5_seen 60 = .ok (.invokevirtual 78, 3) := by decide +kernel
theorem dX5_seen_63 : decode cX5_seen 63 = .ok (.ireturn, 1) := by decide +kernel
theorem dX5_seen_64 : decode cX5_seen 64 = .ok (.iconst 0, 1) := by decide +kernel
theorem dX5_seen_65 : decode cX5_seen 65 = .ok (.istore 6, 2) := by decide +kernel
theorem dX5_seen_67 : decode cX5_seen 67 = .ok (.ldc 232, 2) := by decide +kernel
theorem dX5_seen_69 : decode cX5_seen 69 = .ok (.istore 7, 2) := by decide +kernel
theorem dX5_seen_71 : decode cX5_seen 71 = .ok (.aload_n 0, 1) := by decide +kernel
theorem dX5_seen_72 : decode cX5_seen 72 = .ok (.getfield 26, 3) := by decide +kernel
theorem dX5_seen_75 : decode cX5_seen 75 = .ok (.getfield 244, 3) := by decide +kernel
theorem dX5_seen_78 : decode cX5_seen 78 = .ok (.iconst 1, 1) := by decide +kernel
theorem dX5_seen_79 : decode cX5_seen 79 = .ok (.isub, 1) := by decide +kernel
theorem dX5_seen_80 : decode cX5_seen 80 = .ok (.istore 8, 2) := by decide +kernel
theorem dX5_seen_82 : decode cX5_seen 82 = .ok (.iload 8, 2) := by decide +kernel
theorem dX5_seen_84 : decode cX5_seen 84 = .ok (.ifCond .lt 46, 3) := by decide +kernel
theorem dX5_seen_87 : decode cX5_seen 87 = .ok (.aload_n 0, 1) := by decide +kernel
theorem dX5_seen_88 : decode cX5_seen 88 = .ok (.getfield 44, 3) := by decide +kernel
theorem dX5_seen_91 : decode cX5_seen 91 = .ok (.aload_n 0, 1) := by decide +kernel
theorem dX5_seen_92 : decode cX5_seen 92 = .ok (.getfield 33, 3) := by decide +kernel
theorem dX5_seen_95 : decode cX5_seen 95 = .ok (.invokevirtual 140, 3) := by decide +kernel
theorem dX5_seen_98 : decode cX5_seen 98 = .ok (.aload_n 0, 1) := by decide +kernel
theorem dX5_seen_99 : decode cX5_seen 99 = .ok (.getfield 44, 3) := by decide +kernel
theorem dX5_seen_102 : decode cX5_seen 102 = .ok (.iload 8, 2) := by decide +kernel
theorem dX5_seen_104 : decode cX5_seen 104 = .ok (.putfield 169, 3) := by decide +kernel
theorem dX5_seen_107 : decode cX5_seen 107 = .ok (.aload_n 0, 1) := by decide +kernel
theorem dX5_seen_108 : decode cX5_seen 108 = .ok (.iload_n 1, 1) := by decide +kernel
theorem dX5_seen_109 : decode cX5_seen 109 = .ok (.iload_n 2, 1) := by decide +kernel
theorem dX5_seen_110 : decode cX5_seen 110 = .ok (.iload_n 3, 1) := by decide +kernel
theorem dX5_seen_111 : decode cX5_seen 111 = .ok (.invokevirtual 247, 3) := by decide +kernel
theorem dX5_seen_114 : decode cX5_seen 114 = .ok (.ifCond .eq 10, 3) := by decide +kernel
theorem dX5_seen_117 : decode cX5_seen 117 = .ok (.iinc 6 1, 3) := by decide +kernel
theorem dX5_seen_120 : decode cX5_seen 120 = .ok (.iload 8, 2) := by decide +kernel
theorem dX5_seen_122 : decode cX5_seen 122 = .ok (.istore 7, 2) := by decide +kernel
theorem dX5_seen_124 : decode cX5_seen 124 = .ok (.iinc 8 (-1), 3) := by decide +kernel
theorem dX5_seen_127 : decode cX5_seen 127 = .ok (.goto (-45), 3) := by decide +kernel
theorem dX5_seen_130 : decode cX5_seen 130 = .ok (.aload_n 0, 1) := by decide +kernel
theorem dX5_seen_131 : decode cX5_seen 131 = .ok (.iload 4, 2) := by decide +kernel
theorem dX5_seen_133 : decode cX5_seen 133 = .ok (.ifCond .ne 8, 3) := by decide +kernel
theorem dX5_seen_136 : decode cX5_seen 136 = .ok (.iload 6, 2) := by decide +kernel
theorem dX5_seen_138 : decode cX5_seen 138 = .ok (.goto 5, 3) := by decide +kernel
theorem dX5_seen_141 : decode cX5_seen 141 = .ok (.iload 7, 2) := by decide +kernel
theorem dX5_seen_143 : decode cX5_seen 143 = .ok (.invokevirtual 86, 3) := by decide +kernel
theorem dX5_seen_146 : decode cX5_seen 146 = .ok (.ireturn, 1) := by decide +kernel
theorem dX5_who_0 : decode cX5_who 0 = .ok (.aload_n 0, 1) := by decide +kernel
theorem dX5_who_1 : decode cX5_who 1 = .ok (.iload_n 1, 1) := by decide +kernel
theorem dX5_who_2 : decode cX5_who 2 = .ok (.invokevirtual 172, 3) := by decide +kernel
theorem dX5_who_5 : decode cX5_who 5 = .ok (.ifCond .eq 21, 3) := by decide +kernel
theorem dX5_who_8 : decode cX5_who 8 = .ok (.iload_n 2, 1) := by decide +kernel
theorem dX5_who_9 : decode cX5_who 9 = .ok (.invokestatic 69, 3) := by decide +kernel
theorem dX5_who_12 : decode cX5_who 12 = .ok (.ifCond .eq 14, 3) := by decide +kernel
theorem dX5_who_15 : decode cX5_who 15 = .ok (.iload 4, 2) := by decide +kernel
theorem dX5_who_17 : decode cX5_who 17 = .ok (.iconst 1, 1) := by decide +kernel
theorem dX5_who_18 : decode cX5_who 18 = .ok (.bipush 12, 2) := by decide +kernel
theorem dX5_who_20 : decode cX5_who 20 = .ok (.invokestatic 73, 3) := by decide +kernel
theorem dX5_who_23 : decode cX5_who 23 = .ok (.ifCond .ne 6, 3) := by decide +kernel
theorem dX5_who_26 : decode cX5_who 26 = .ok (.ldc 77, 2) := by decide +kernel
theorem dX5_who_28 : decode cX5_who 28 = .ok (.ireturn, 1) := by decide +kernel
theorem dX5_who_29 : decode cX5_who 29 = .ok (.aload_n 0, 1) := by decide +kernel
theorem dX5_who_30 : decode cX5_who 30 = .ok (.getfield 10, 3) := by decide +kernel
theorem dX5_who_33 : decode cX5_who 33 = .ok (.iload_n 2, 1) := by decide +kernel
theorem dX5_who_34 : decode cX5_who 34 = .ok (.iload_n 3, 1) := by decide +kernel
theorem dX5_who_35 : decode cX5_who 35 = .ok (.iload 4, 2) := by decide +kernel
theorem dX5_who_37 : decode cX5_who 37 = .ok (.invokevirtual 89, 3) := by decide +kernel
theorem dX5_who_40 : decode cX5_who 40 = .ok (.istore 5, 2) := by decide +kernel
theorem dX5_who_42 : decode cX5_who 42 = .ok (.iload 5, 2) := by decide +kernel
theorem dX5_who_44 : decode cX5_who 44 = .ok (.ifCond .eq 10, 3) := by decide +kernel
theorem dX5_who_47 : decode cX5_who 47 = .ok (.aload_n 0, 1) := by decide +kernel
theorem dX5_who_48 : decode cX5_who 48 = .ok (.iload 5, 2) := by decide +kernel
theorem dX5_who_50 : decode cX5_who 50 = .ok (.invokevirtual 78, 3) := by decide +kernel
theorem dX5_who_53 : decode cX5_who 53 = .ok (.ireturn, 1) := by decide +kernel
theorem dX5_who_54 : decode cX5_who 54 = .ok (.iconst 0, 1) := by decide +kernel
theorem dX5_who_55 : decode cX5_who 55 = .ok (.istore 6, 2) := by decide +kernel
theorem dX5_who_57 : decode cX5_who 57 = .ok (.iconst 1, 1) := by decide +kernel
theorem dX5_who_58 : decode cX5_who 58 = .ok (.istore 7, 2) := by decide +kernel
theorem dX5_who_60 : decode cX5_who 60 = .ok (.iload 7, 2) := by decide +kernel
theorem dX5_who_62 : decode cX5_who 62 = .ok (.iconst 5, 1) := by decide +kernel
theorem dX5_who_63 : decode cX5_who 63 = .ok (.if_icmp .gt 50, 3) := by decide +kernel
theorem dX5_who_66 : decode cX5_who 66 = .ok (.aload_n 0, 1) := by decide +kernel
theorem dX5_who_67 : decode cX5_who 67 = .ok (.getfield 44, 3) := by decide +kernel
theorem dX5_who_70 : decode cX5_who 70 = .ok (.aload_n 0, 1) := by decide +kernel
theorem dX5_who_71 : decode cX5_who 71 = .ok (.getfield 33, 3) := by decide +kernel
theorem dX5_who_74 : decode cX5_who 74 = .ok (.invokevirtual 140, 3) := by decide +kernel
theorem dX5_who_77 : decode cX5_who 77 = .ok (.aload_n 0, 1) := by decide +kernel
theorem dX5_who_78 : decode cX5_who 78 = .ok (.getfield 44, 3) := by decide +kernel
theorem dX5_who_81 : decode cX5_who 81 = .ok (.iload_n 1, 1) := by decide +kernel
theorem dX5_who_82 : decode cX5_who 82 = .ok (.iload 7, 2) := by decide +kernel
theorem dX5_who_84 : decode cX5_who 84 = .ok (.invokevirtual 250, 3) := by decide +kernel
theorem dX5_who_87 : decode cX5_who 87 = .ok (.aload_n 0, 1) := by decide +kernel
theorem dX5_who_88 : decode cX5_who 88 = .ok (.iload_n 2, 1) := by decide +kernel
theorem dX5_who_89 : decode cX5_who 89 = .ok (.iload_n 3, 1) := by decide +kernel
theorem dX5_who_90 : decode cX5_who 90 = .ok (.iload 4, 2) := by decide +kernel
theorem dX5_who_92 : decode cX5_who 92 = .ok (.invokevirtual 247, 3) := by decide +kernel
theorem dX5_who_95 : decode cX5_who 95 = .ok (.ifCond .eq 12, 3) := by decide +kernel
theorem dX5_who_98 : decode cX5_who 98 = .ok (.iload 6, 2) := by decide +kernel
theorem dX5_who_100 : decode cX5_who 100 = .ok (.iconst 1, 1) := by decide +kernel
theorem dX5_who_101 : decode cX5_who 101 = .ok (.iload 7, 2) := by decide +kernel
theorem dX5_who_103 : decode cX5_who 103 = .ok (.ishl, 1) := by decide +kernel
theorem dX5_who_104 : decode cX5_who 104 = .ok (.ior, 1) := by decide +kernel
theorem dX5_who_105 : decode cX5_who 105 = .ok (.istore 6, 2) := by decide +kernel
theorem dX5_who_107 : decode cX5_who 107 = .ok (.iinc 7 1, 3) := by decide +kernel
theorem dX5_who_110 : decode cX5_who 110 = .ok (.goto (-50), 3) := by decide +kernel
theorem dX5_who_113 : decode cX5_who 113 = .ok (.aload_n 0, 1) := by decide +kernel
theorem dX5_who_114 : decode cX5_who 114 = .ok (.iload 6, 2) := by decide +kernel
theorem dX5_who_116 : decode cX5_who 116 = .ok (.invokevirtual 86, 3) := by decide +kernel
theorem dX5_who_119 : decode cX5_who 119 = .ok (.ireturn, 1) := by decide +kernel
theorem dX5_round_0 : decode cX5_round 0 = .ok (.aload_n 0, 1) := by decide +kernel
theorem dX5_round_1 : decode cX5_round 1 = .ok (.invokevirtual 156, 3) := by decide +kernel
theorem dX5_round_4 : decode cX5_round 4 = .ok (.ifCond .ne 6, 3) := by decide +kernel
theorem dX5_round_7 : decode cX5_round 7 = .ok (.ldc 152, 2) := by decide +kernel
theorem dX5_round_9 : decode cX5_round 9 = .ok (.ireturn, 1) := by decide +kernel
theorem dX5_round_10 : decode cX5_round 10 = .ok (.iload_n 1, 1) := by decide +kernel
theorem dX5_round_11 : decode cX5_round 11 = .ok (.iconst 0, 1) := by decide +kernel
theorem dX5_round_12 : decode cX5_round 12 = .ok (.iconst 1, 1) := by decide +kernel
theorem dX5_round_13 : decode cX5_round 13 = .ok (.invokestatic 73, 3) := by decide +kernel
theorem dX5_round_16 : decode cX5_round 16 = .ok (.ifCond .ne 6, 3) := by decide +kernel
theorem dX5_round_19 : decode cX5_round 19 = .ok (.ldc 77, 2) := by decide +kernel
theorem dX5_round_21 : decode cX5_round 21 = .ok (.ireturn, 1) := by decide +kernel
theorem dX5_round_22 : decode cX5_round 22 = .ok (.aload_n 0, 1) := by decide +kernel
theorem dX5_round_23 : decode cX5_round 23 = .ok (.getfield 44, 3) := by decide +kernel
theorem dX5_round_26 : decode cX5_round 26 = .ok (.aload_n 0, 1) := by decide +kernel
theorem dX5_round_27 : decode cX5_round 27 = .ok (.getfield 33, 3) := by decide +kernel
theorem dX5_round_30 : decode cX5_round 30 = .ok (.invokevirtual 140, 3) := by decide +kernel
theorem dX5_round_33 : decode cX5_round 33 = .ok (.aload_n 0, 1) := by decide +kernel
theorem dX5_round_34 : decode cX5_round 34 = .ok (.getfield 61, 3) := by decide +kernel
theorem dX5_round_37 : decode cX5_round 37 = .ok (.iconst 0, 1) := by decide +kernel
theorem dX5_round_38 : decode cX5_round 38 = .ok (.aload_n 0, 1) := by decide +kernel
theorem dX5_round_39 : decode cX5_round 39 = .ok (.getfield 44, 3) := by decide +kernel
theorem dX5_round_42 : decode cX5_round 42 = .ok (.invokevirtual 254, 3) := by decide +kernel
theorem dX5_round_45 : decode cX5_round 45 = .ok (.lastore, 1) := by decide +kernel
theorem dX5_round_46 : decode cX5_round 46 = .ok (.iconst 1, 1) := by decide +kernel
theorem dX5_round_47 : decode cX5_round 47 = .ok (.istore_n 2, 1) := by decide +kernel
theorem dX5_round_48 : decode cX5_round 48 = .ok (.iload_n 2, 1) := by decide +kernel
theorem dX5_round_49 : decode cX5_round 49 = .ok (.bipush 100, 2) := by decide +kernel
theorem dX5_round_51 : decode cX5_round 51 = .ok (.if_icmp .gt 72, 3) := by decide +kernel
theorem dX5_round_54 : decode cX5_round 54 = .ok (.aload_n 0, 1) := by decide +kernel
theorem dX5_round_55 : decode cX5_round 55 = .ok (.getfield 44, 3) := by decide +kernel
theorem dX5_round_58 : decode cX5_round 58 = .ok (.aload_n 0, 1) := by decide +kernel
theorem dX5_round_59 : decode cX5_round 59 = .ok (.getfield 26, 3) := by decide +kernel
theorem dX5_round_62 : decode cX5_round 62 = .ok (.invokevirtual 166, 3) := by decide +kernel
theorem dX5_round_65 : decode cX5_round 65 = .ok (.aload_n 0, 1) := by decide +kernel
theorem dX5_round_66 : decode cX5_round 66 = .ok (.getfield 61, 3) := by decide +kernel
theorem dX5_round_69 : decode cX5_round 69 = .ok (.iload_n 2, 1) := by decide +kernel
theorem dX5_round_70 : decode cX5_round 70 = .ok (.aload_n 0, 1) := by decide +kernel
theorem dX5_round_71 : decode cX5_round 71 = .ok (.getfield 44, 3) := by decide +kernel
theorem dX5_round_74 : decode cX5_round 74 = .ok (.invokevirtual 254, 3) := by decide +kernel
theorem dX5_round_77 : decode cX5_round 77 = .ok (.lastore, 1) := by decide +kernel
theorem dX5_round_78 : decode cX5_round 78 = .ok (.iconst 0, 1) := by decide +kernel
theorem dX5_round_79 : decode cX5_round 79 = .ok (.istore_n 3, 1) := by decide +kernel
theorem dX5_round_80 : decode cX5_round 80 = .ok (.iload_n 3, 1) := by decide +kernel
theorem dX5_round_81 : decode cX5_round 81 = .ok (.iload_n 2, 1) := by decide +kernel
theorem dX5_round_82 : decode cX5_round 82 = .ok (.if_icmp .ge 35, 3) := by decide +kernel
theorem dX5_round_85 : decode cX5_round 85 = .ok (.aload_n 0, 1) := by decide +kernel
theorem dX5_round_86 : decode cX5_round 86 = .ok (.getfield 61, 3) := by decide +kernel
theorem dX5_round_89 : decode cX5_round 89 = .ok (.iload_n 3, 1) := by decide +kernel
theorem dX5_round_90 : decode cX5_round 90 = .ok (.laload, 1) := by decide +kernel
theorem dX5_round_91 : decode cX5_round 91 = .ok (.aload_n 0, 1) := by decide +kernel
theorem dX5_round_92 : decode cX5_round 92 = .ok (.getfield 61, 3) := by decide +kernel
theorem dX5_round_95 : decode cX5_round 95 = .ok (.iload_n 2, 1) := by decide +kernel
theorem dX5_round_96 : decode cX5_round 96 = .ok (.laload, 1) := by decide +kernel
theorem dX5_round_97 : decode cX5_round 97 = .ok (.lcmp, 1) := by decide +kernel
theorem dX5_round_98 : decode cX5_round 98 = .ok (.ifCond .ne 13, 3) := by decide +kernel
theorem dX5_round_101 : decode cX5_round 101 = .ok (.iload_n 1, 1) := by decide +kernel
theorem dX5_round_102 : decode cX5_round 102 = .ok (.ifCond .ne 7, 3) := by decide +kernel
theorem dX5_round_105 : decode cX5_round 105 = .ok (.iload_n 2, 1) := by decide +kernel
theorem dX5_round_106 : decode cX5_round 106 = .ok (.goto 4, 3) := by decide +kernel
theorem dX5_round_109 : decode cX5_round 109 = .ok (.iload_n 3, 1) := by decide +kernel
theorem dX5_round_110 : decode cX5_round 110 = .ok (.ireturn, 1) := by decide +kernel
theorem dX5_round_111 : decode cX5_round 111 = .ok (.iinc 3 1, 3) := by decide +kernel
theorem dX5_round_114 : decode cX5_round 114 = .ok (.goto (-34), 3) := by decide +kernel
theorem dX5_round_117 : decode cX5_round 117 = .ok (.iinc 2 1, 3) := by decide +kernel
theorem dX5_round_120 : decode cX5_round 120 = .ok (.goto (-72), 3) := by decide +kernel
theorem dX5_round_123 : decode cX5_round 123 = .ok (.ldc 232, 2) := by decide +kernel
theorem dX5_round_125 : decode cX5_round 125 = .ok (.ireturn, 1) := by decide +kernel
theorem dX5_half_0 : decode cX5_half 0 = .ok (.aload_n 0, 1) := by decide +kernel
theorem dX5_half_1 : decode cX5_half 1 = .ok (.invokevirtual 156, 3) := by decide +kernel
theorem dX5_half_4 : decode cX5_half 4 = .ok (.ifCond .ne 6, 3) := by decide +kernel
theorem dX5_half_7 : decode cX5_half 7 = .ok (.ldc 152, 2) := by decide +kernel
theorem dX5_half_9 : decode cX5_half 9 = .ok (.ireturn, 1) := by decide +kernel
theorem dX5_half_10 : decode cX5_half 10 = .ok (.iload_n 1, 1) := by decide +kernel
theorem dX5_half_11 : decode cX5_half 11 = .ok (.iconst 1, 1) := by decide +kernel
theorem dX5_half_12 : decode cX5_half 12 = .ok (.bipush 60, 2) := by decide +kernel
theorem dX5_half_14 : decode cX5_half 14 = .ok (.invokestatic 73, 3) := by decide +kernel
theorem dX5_half_17 : decode cX5_half 17 = .ok (.ifCond .ne 6, 3) := by decide +kernel
theorem dX5_half_20 : decode cX5_half 20 = .ok (.ldc 77, 2) := by decide +kernel
theorem dX5_half_22 : decode cX5_half 22 = .ok (.ireturn, 1) := by decide +kernel
theorem dX5_half_23 : decode cX5_half 23 = .ok (.aload_n 0, 1) := by decide +kernel
theorem dX5_half_24 : decode cX5_half 24 = .ok (.getfield 44, 3) := by decide +kernel
theorem dX5_half_27 : decode cX5_half 27 = .ok (.aload_n 0, 1) := by decide +kernel
theorem dX5_half_28 : decode cX5_half 28 = .ok (.getfield 33, 3) := by decide +kernel
theorem dX5_half_31 : decode cX5_half 31 = .ok (.invokevirtual 140, 3) := by decide +kernel
theorem dX5_half_34 : decode cX5_half 34 = .ok (.iconst 0, 1) := by decide +kernel
theorem dX5_half_35 : decode cX5_half 35 = .ok (.istore_n 2, 1) := by decide +kernel
theorem dX5_half_36 : decode cX5_half 36 = .ok (.iload_n 2, 1) := by decide +kernel
theorem dX5_half_37 : decode cX5_half 37 = .ok (.iload_n 1, 1) := by decide +kernel
theorem dX5_half_38 : decode cX5_half 38 = .ok (.if_icmp .ge 39, 3) := by decide +kernel
theorem dX5_half_41 : decode cX5_half 41 = .ok (.aload_n 0, 1) := by decide +kernel
theorem dX5_half_42 : decode cX5_half 42 = .ok (.getfield 44, 3) := by decide +kernel
theorem dX5_half_45 : decode cX5_half 45 = .ok (.aload_n 0, 1) := by decide +kernel
theorem dX5_half_46 : decode cX5_half 46 = .ok (.getfield 26, 3) := by decide +kernel
theorem dX5_half_49 : decode cX5_half 49 = .ok (.invokevirtual 166, 3) := by decide +kernel
theorem dX5_half_52 : decode cX5_half 52 = .ok (.aload_n 0, 1) := by decide +kernel
theorem dX5_half_53 : decode cX5_half 53 = .ok (.getfield 44, 3) := by decide +kernel
theorem dX5_half_56 : decode cX5_half 56 = .ok (.getfield 258, 3) := by decide +kernel
theorem dX5_half_59 : decode cX5_half 59 = .ok (.aload_n 0, 1) := by decide +kernel
theorem dX5_half_60 : decode cX5_half 60 = .ok (.getfield 33, 3) := by decide +kernel
theorem dX5_half_63 : decode cX5_half 63 = .ok (.getfield 258, 3) := by decide +kernel
theorem dX5_half_66 : decode cX5_half 66 = .ok (.if_icmp .le 5, 3) := by decide +kernel
theorem dX5_half_69 : decode cX5_half 69 = .ok (.iload_n 2, 1) := by decide +kernel
theorem dX5_half_70 : decode cX5_half 70 = .ok (.ireturn, 1) := by decide +kernel
theorem dX5_half_71 : decode cX5_half 71 = .ok (.iinc 2 1, 3) := by decide +kernel
theorem dX5_half_74 : decode cX5_half 74 = .ok (.goto (-38), 3) := by decide +kernel
theorem dX5_half_77 : decode cX5_half 77 = .ok (.ldc 232, 2) := by decide +kernel
theorem dX5_half_79 : decode cX5_half 79 = .ok (.ireturn, 1) := by decide +kernel
theorem dX5_awake_0 : decode cX5_awake 0 = .ok (.aload_n 0, 1) := by decide +kernel
theorem dX5_awake_1 : decode cX5_awake 1 = .ok (.invokevirtual 156, 3) := by decide +kernel
theorem dX5_awake_4 : decode cX5_awake 4 = .ok (.ifCond .ne 7, 3) := by decide +kernel
theorem dX5_awake_7 : decode cX5_awake 7 = .ok (.ldc2_w 261, 3) := by decide +kernel
theorem dX5_awake_10 : decode cX5_awake 10 = .ok (.lreturn, 1) := by decide +kernel
theorem dX5_awake_11 : decode cX5_awake 11 = .ok (.iload_n 1, 1) := by decide +kernel
theorem dX5_awake_12 : decode cX5_awake 12 = .ok (.iconst 0, 1) := by decide +kernel
theorem dX5_awake_13 : decode cX5_awake 13 = .ok (.bipush 10, 2) := by decide +kernel
theorem dX5_awake_15 : decode cX5_awake 15 = .ok (.invokestatic 73, 3) := by decide +kernel
theorem dX5_awake_18 : decode cX5_awake 18 = .ok (.ifCond .eq 12, 3) := by decide +kernel
theorem dX5_awake_21 : decode cX5_awake 21 = .ok (.iload_n 2, 1) := by decide +kernel
theorem dX5_awake_22 : decode cX5_awake 22 = .ok (.iconst 0, 1) := by decide +kernel
theorem dX5_awake_23 : decode cX5_awake 23 = .ok (.iconst 1, 1) := by decide +kernel
theorem dX5_awake_24 : decode cX5_awake 24 = .ok (.invokestatic 73, 3) := by decide +kernel
theorem dX5_awake_27 : decode cX5_awake 27 = .ok (.ifCond .ne 7, 3) := by decide +kernel
theorem dX5_awake_30 : decode cX5_awake 30 = .ok (.ldc2_w 263, 3) := by decide +kernel
theorem dX5_awake_33 : decode cX5_awake 33 = .ok (.lreturn, 1) := by decide +kernel
theorem dX5_awake_34 : decode cX5_awake 34 = .ok (.aload_n 0, 1) := by decide +kernel
theorem dX5_awake_35 : decode cX5_awake 35 = .ok (.getfield 33, 3) := by decide +kernel
theorem dX5_awake_38 : decode cX5_awake 38 = .ok (.aload_n 0, 1) := by decide +kernel
theorem dX5_awake_39 : decode cX5_awake 39 = .ok (.getfield 26, 3) := by decide +kernel
theorem dX5_awake_42 : decode cX5_awake 42 = .ok (.invokevirtual 265, 3) := by decide +kernel
theorem dX5_awake_45 : decode cX5_awake 45 = .ok (.istore_n 3, 1) := by decide +kernel
theorem dX5_awake_46 : decode cX5_awake 46 = .ok (.iload_n 3, 1) := by decide +kernel
theorem dX5_awake_47 : decode cX5_awake 47 = .ok (.invokestatic 191, 3) := by decide +kernel
theorem dX5_awake_50 : decode cX5_awake 50 = .ok (.istore 4, 2) := by decide +kernel
theorem dX5_awake_52 : decode cX5_awake 52 = .ok (.lconst 0, 1) := by decide +kernel
theorem dX5_awake_53 : decode cX5_awake 53 = .ok (.lstore 5, 2) := by decide +kernel
theorem dX5_awake_55 : decode cX5_awake 55 = .ok (.aload_n 0, 1) := by decide +kernel
theorem dX5_awake_56 : decode cX5_awake 56 = .ok (.getfield 44, 3) := by decide +kernel
theorem dX5_awake_59 : decode cX5_awake 59 = .ok (.aload_n 0, 1) := by decide +kernel
theorem dX5_awake_60 : decode cX5_awake 60 = .ok (.getfield 33, 3) := by decide +kernel
theorem dX5_awake_63 : decode cX5_awake 63 = .ok (.invokevirtual 140, 3) := by decide +kernel
theorem dX5_awake_66 : decode cX5_awake 66 = .ok (.iconst 0, 1) := by decide +kernel
theorem dX5_awake_67 : decode cX5_awake 67 = .ok (.istore 7, 2) := by decide +kernel
theorem dX5_awake_69 : decode cX5_awake 69 = .ok (.iload 7, 2) := by decide +kernel
theorem dX5_awake_71 : decode cX5_awake 71 = .ok (.iload_n 3, 1) := by decide +kernel
theorem dX5_awake_72 : decode cX5_awake 72 = .ok (.if_icmp .gt 58, 3) := by decide +kernel
theorem dX5_awake_75 : decode cX5_awake 75 = .ok (.iload 7, 2) := by decide +kernel
theorem dX5_awake_77 : decode cX5_awake 77 = .ok (.iload_n 3, 1) := by decide +kernel
theorem dX5_awake_78 : decode cX5_awake 78 = .ok (.iconst (-1), 1) := by decide +kernel
theorem dX5_awake_79 : decode cX5_awake 79 = .ok (.ixor, 1) := by decide +kernel
theorem dX5_awake_80 : decode cX5_awake 80 = .ok (.iand, 1) := by decide +kernel
theorem dX5_awake_81 : decode cX5_awake 81 = .ok (.ifCond .ne 43, 3) := by decide +kernel
theorem dX5_awake_84 : decode cX5_awake 84 = .ok (.aload_n 0, 1) := by decide +kernel
theorem dX5_awake_85 : decode cX5_awake 85 = .ok (.iload 7, 2) := by decide +kernel
theorem dX5_awake_87 : decode cX5_awake 87 = .ok (.invokevirtual 268, 3) := by decide +kernel
theorem dX5_awake_90 : decode cX5_awake 90 = .ok (.ifCond .eq 34, 3) := by decide +kernel
theorem dX5_awake_93 : decode cX5_awake 93 = .ok (.iload 7, 2) := by decide +kernel
theorem dX5_awake_95 : decode cX5_awake 95 = .ok (.invokestatic 191, 3) := by decide +kernel
theorem dX5_awake_98 : decode cX5_awake 98 = .ok (.istore 8, 2) := by decide +kernel
theorem dX5_awake_100 : decode cX5_awake 100 = .ok (.lload 5, 2) := by decide +kernel
theorem dX5_awake_102 : decode cX5_awake 102 = .ok (.iload_n 1, 1) := by decide +kernel
theorem dX5_awake_103 : decode cX5_awake 103 = .ok (.iload 8, 2) := by decide +kernel
theorem dX5_awake_105 : decode cX5_awake 105 = .ok (.invokestatic 271, 3) := by decide +kernel
theorem dX5_awake_108 : decode cX5_awake 108 = .ok (.bipush 10, 2) := by decide +kernel
theorem dX5_awake_110 : decode cX5_awake 110 = .ok (.iload_n 1, 1) := by decide +kernel
theorem dX5_awake_111 : decode cX5_awake 111 = .ok (.isub, 1) := by decide +kernel
theorem dX5_awake_112 : decode cX5_awake 112 = .ok (.iload 4, 2) := by decide +kernel
theorem dX5_awake_114 : decode cX5_awake 114 = .ok (.iload 8, 2) := by decide +kernel
theorem dX5_awake_116 : decode cX5_awake 116 = .ok (.isub, 1) := by decide +kernel
theorem dX5_awake_117 : decode cX5_awake 117 = .ok (.invokestatic 271, 3) := by decide +kernel
theorem dX5_awake_120 : decode cX5_awake 120 = .ok (.lmul, 1) := by decide +kernel
theorem dX5_awake_121 : decode cX5_awake 121 = .ok (.ladd, 1) := by decide +kernel
theorem dX5_awake_122 : decode cX5_awake 122 = .ok (.lstore 5, 2) := by decide +kernel
theorem dX5_awake_124 : decode cX5_awake 124 = .ok (.iinc 7 1, 3) := by decide +kernel
theorem dX5_awake_127 : decode cX5_awake 127 = .ok (.goto (-58), 3) := by decide +kernel
theorem dX5_awake_130 : decode cX5_awake 130 = .ok (.bipush 10, 2) := by decide +kernel
theorem dX5_awake_132 : decode cX5_awake 132 = .ok (.iload 4, 2) := by decide +kernel
theorem dX5_awake_134 : decode cX5_awake 134 = .ok (.invokestatic 271, 3) := by decide +kernel
theorem dX5_awake_137 : decode cX5_awake 137 = .ok (.lstore 7, 2) := by decide +kernel
theorem dX5_awake_139 : decode cX5_awake 139 = .ok (.lload 7, 2) := by decide +kernel
theorem dX5_awake_141 : decode cX5_awake 141 = .ok (.lload 5, 2) := by decide +kernel
theorem dX5_awake_143 : decode cX5_awake 143 = .ok (.invokestatic 275, 3) := by decide +kernel
theorem dX5_awake_146 : decode cX5_awake 146 = .ok (.lstore 9, 2) := by decide +kernel
theorem dX5_awake_148 : decode cX5_awake 148 = .ok (.iload_n 2, 1) := by decide +kernel
theorem dX5_awake_149 : decode cX5_awake 149 = .ok (.ifCond .ne 8, 3) := by decide +kernel
theorem dX5_awake_152 : decode cX5_awake 152 = .ok (.lload 5, 2) := by decide +kernel
theorem dX5_awake_154 : decode cX5_awake 154 = .ok (.goto 5, 3) := by decide +kernel
theorem dX5_awake_157 : decode cX5_awake 157 = .ok (.lload 7, 2) := by decide +kernel
theorem dX5_awake_159 : decode cX5_awake 159 = .ok (.lstore 11, 2) := by decide +kernel
theorem dX5_awake_161 : decode cX5_awake 161 = .ok (.lload 9, 2) := by decide +kernel
theorem dX5_awake_163 : decode cX5_awake 163 = .ok (.lconst 0, 1) := by decide +kernel
theorem dX5_awake_164 : decode cX5_awake 164 = .ok (.lcmp, 1) := by decide +kernel
theorem dX5_awake_165 : decode cX5_awake 165 = .ok (.ifCond .ne 8, 3) := by decide +kernel
theorem dX5_awake_168 : decode cX5_awake 168 = .ok (.lload 11, 2) := by decide +kernel
theorem dX5_awake_170 : decode cX5_awake 170 = .ok (.goto 8, 3) := by decide +kernel
theorem dX5_awake_173 : decode cX5_awake 173 = .ok (.lload 11, 2) := by decide +kernel
theorem dX5_awake_175 : decode cX5_awake 175 = .ok (.lload 9, 2) := by decide +kernel
theorem dX5_awake_177 : decode cX5_awake 177 = .ok (.ldiv, 1) := by decide +kernel
theorem dX5_awake_178 : decode cX5_awake 178 = .ok (.lreturn, 1) := by decide +kernel
theorem dX5_drawn_0 : decode cX5_drawn 0 = .ok (.aload_n 0, 1) := by decide +kernel
theorem dX5_drawn_1 : decode cX5_drawn 1 = .ok (.invokevirtual 156, 3) := by decide +kernel
theorem dX5_drawn_4 : decode cX5_drawn 4 = .ok (.ifCond .ne 6, 3) := by decide +kernel
theorem dX5_drawn_7 : decode cX5_drawn 7 = .ok (.ldc 152, 2) := by decide +kernel
theorem dX5_drawn_9 : decode cX5_drawn 9 = .ok (.ireturn, 1) := by decide +kernel
theorem dX5_drawn_10 : decode cX5_drawn 10 = .ok (.iload_n 1, 1) := by decide +kernel
theorem dX5_drawn_11 : decode cX5_drawn 11 = .ok (.iconst 0, 1) := by decide +kernel
theorem dX5_drawn_12 : decode cX5_drawn 12 = .ok (.bipush 60, 2) := by decide +kernel
theorem dX5_drawn_14 : decode cX5_drawn 14 = .ok (.invokestatic 73, 3) := by decide +kernel
theorem dX5_drawn_17 : decode cX5_drawn 17 = .ok (.ifCond .eq 23, 3) := by decide +kernel
theorem dX5_drawn_20 : decode cX5_drawn 20 = .ok (.iload_n 2, 1) := by decide +kernel
theorem dX5_drawn_21 : decode cX5_drawn 21 = .ok (.iconst 1, 1) := by decide +kernel
theorem dX5_drawn_22 : decode cX5_drawn 22 = .ok (.ldc_w 279, 3) := by decide +kernel
theorem dX5_drawn_25 : decode cX5_drawn 25 = .ok (.invokestatic 73, 3) := by decide +kernel
theorem dX5_drawn_28 : decode cX5_drawn 28 = .ok (.ifCond .eq 12, 3) := by decide +kernel
theorem dX5_drawn_31 : decode cX5_drawn 31 = .ok (.iload_n 3, 1) := by decide +kernel
theorem dX5_drawn_32 : decode cX5_drawn 32 = .ok (.iconst 0, 1) := by decide +kernel
theorem dX5_drawn_33 : decode cX5_drawn 33 = .ok (.iconst 1, 1) := by decide +kernel
theorem dX5_drawn_34 : decode cX5_drawn 34 = .ok (.invokestatic 73, 3) := by decide +kernel
theorem dX5_drawn_37 : decode cX5_drawn 37 = .ok (.ifCond .ne 6, 3) := by decide +kernel
theorem dX5_drawn_40 : decode cX5_drawn 40 = .ok (.ldc 77, 2) := by decide +kernel
theorem dX5_drawn_42 : decode cX5_drawn 42 = .ok (.ireturn, 1) := by decide +kernel
theorem dX5_drawn_43 : decode cX5_drawn 43 = .ok (.aload_n 0, 1) := by decide +kernel
theorem dX5_drawn_44 : decode cX5_drawn 44 = .ok (.getfield 44, 3) := by decide +kernel
theorem dX5_drawn_47 : decode cX5_drawn 47 = .ok (.aload_n 0, 1) := by decide +kernel
theorem dX5_drawn_48 : decode cX5_drawn 48 = .ok (.getfield 33, 3) := by decide +kernel
theorem dX5_drawn_51 : decode cX5_drawn 51 = .ok (.invokevirtual 140, 3) := by decide +kernel
theorem dX5_drawn_54 : decode cX5_drawn 54 = .ok (.iload_n 2, 1) := by decide +kernel
theorem dX5_drawn_55 : decode cX5_drawn 55 = .ok (.i2l, 1) := by decide +kernel
theorem dX5_drawn_56 : decode cX5_drawn 56 = .ok (.lstore 4, 2) := by decide +kernel
theorem dX5_drawn_58 : decode cX5_drawn 58 = .ok (.iconst 0, 1) := by decide +kernel
theorem dX5_drawn_59 : decode cX5_drawn 59 = .ok (.istore 6, 2) := by decide +kernel
theorem dX5_drawn_61 : decode cX5_drawn 61 = .ok (.iload 6, 2) := by decide +kernel
theorem dX5_drawn_63 : decode cX5_drawn 63 = .ok (.iload_n 1, 1) := by decide +kernel
theorem dX5_drawn_64 : decode cX5_drawn 64 = .ok (.if_icmp .ge 84, 3) := by decide +kernel
theorem dX5_drawn_67 : decode cX5_drawn 67 = .ok (.lload 4, 2) := by decide +kernel
theorem dX5_drawn_69 : decode cX5_drawn 69 = .ok (.ldc2_w 280, 3) := by decide +kernel
theorem dX5_drawn_72 : decode cX5_drawn 72 = .ok (.lmul, 1) := by decide +kernel
theorem dX5_drawn_73 : decode cX5_drawn 73 = .ok (.ldc2_w 282, 3) := by decide +kernel
theorem dX5_drawn_76 : decode cX5_drawn 76 = .ok (.lrem, 1) := by decide +kernel
theorem dX5_drawn_77 : decode cX5_drawn 77 = .ok (.lstore 4, 2) := by decide +kernel
theorem dX5_drawn_79 : decode cX5_drawn 79 = .ok (.aload_n 0, 1) := by decide +kernel
theorem dX5_drawn_80 : decode cX5_drawn 80 = .ok (.getfield 26, 3) := by decide +kernel
theorem dX5_drawn_83 : decode cX5_drawn 83 = .ok (.getfield 146, 3) := by decide +kernel
theorem dX5_drawn_86 : decode cX5_drawn 86 = .ok (.ifCond .le 45, 3) := by decide +kernel
theorem dX5_drawn_89 : decode cX5_drawn 89 = .ok (.aload_n 0, 1) := by decide +kernel
theorem dX5_drawn_90 : decode cX5_drawn 90 = .ok (.getfield 26, 3) := by decide +kernel
theorem dX5_drawn_93 : decode cX5_drawn 93 = .ok (.getfield 244, 3) := by decide +kernel
theorem dX5_drawn_96 : decode cX5_drawn 96 = .ok (.ifCond .le 35, 3) := by decide +kernel
theorem dX5_drawn_99 : decode cX5_drawn 99 = .ok (.aload_n 0, 1) := by decide +kernel
theorem dX5_drawn_100 : decode cX5_drawn 100 = .ok (.getfield 44, 3) := by decide +kernel
theorem dX5_drawn_103 : decode cX5_drawn 103 = .ok (.getfield 178, 3) := by decide +kernel
theorem dX5_drawn_106 : decode cX5_drawn 106 = .ok (.lload 4, 2) := by decide +kernel
theorem dX5_drawn_108 : decode cX5_drawn 108 = .ok (.aload_n 0, 1) := by decide +kernel
theorem dX5_drawn_109 : decode cX5_drawn 109 = .ok (.getfield 26, 3) := by decide +kernel
theorem dX5_drawn_112 : decode cX5_drawn 112 = .ok (.getfield 146, 3) := by decide +kernel
theorem dX5_drawn_115 : decode cX5_drawn 115 = .ok (.i2l, 1) := by decide +kernel
theorem dX5_drawn_116 : decode cX5_drawn 116 = .ok (.lrem, 1) := by decide +kernel
theorem dX5_drawn_117 : decode cX5_drawn 117 = .ok (.l2i, 1) := by decide +kernel
theorem dX5_drawn_118 : decode cX5_drawn 118 = .ok (.lload 4, 2) := by decide +kernel
theorem dX5_drawn_120 : decode cX5_drawn 120 = .ok (.aload_n 0, 1) := by decide +kernel
theorem dX5_drawn_121 : decode cX5_drawn 121 = .ok (.getfield 26, 3) := by decide +kernel
theorem dX5_drawn_124 : decode cX5_drawn 124 = .ok (.getfield 244, 3) := by decide +kernel
theorem dX5_drawn_127 : decode cX5_drawn 127 = .ok (.i2l, 1) := by decide +kernel
theorem dX5_drawn_128 : decode cX5_drawn 128 = .ok (.lrem, 1) := by decide +kernel
theorem dX5_drawn_129 : decode cX5_drawn 129 = .ok (.l2i, 1) := by decide +kernel
theorem dX5_drawn_130 : decode cX5_drawn 130 = .ok (.iastore, 1) := by decide +kernel
theorem dX5_drawn_131 : decode cX5_drawn 131 = .ok (.aload_n 0, 1) := by decide +kernel
theorem dX5_drawn_132 : decode cX5_drawn 132 = .ok (.getfield 44, 3) := by decide +kernel
theorem dX5_drawn_135 : decode cX5_drawn 135 = .ok (.aload_n 0, 1) := by decide +kernel
theorem dX5_drawn_136 : decode cX5_drawn 136 = .ok (.getfield 26, 3) := by decide +kernel
theorem dX5_drawn_139 : decode cX5_drawn 139 = .ok (.invokevirtual 166, 3) := by decide +kernel
theorem dX5_drawn_142 : decode cX5_drawn 142 = .ok (.iinc 6 1, 3) := by decide +kernel
theorem dX5_drawn_145 : decode cX5_drawn 145 = .ok (.goto (-84), 3) := by decide +kernel
theorem dX5_drawn_148 : decode cX5_drawn 148 = .ok (.iload_n 3, 1) := by decide +kernel
theorem dX5_drawn_149 : decode cX5_drawn 149 = .ok (.ifCond .ne 13, 3) := by decide +kernel
theorem dX5_drawn_152 : decode cX5_drawn 152 = .ok (.aload_n 0, 1) := by decide +kernel
theorem dX5_drawn_153 : decode cX5_drawn 153 = .ok (.getfield 44, 3) := by decide +kernel
theorem dX5_drawn_156 : decode cX5_drawn 156 = .ok (.getfield 169, 3) := by decide +kernel
theorem dX5_drawn_159 : decode cX5_drawn 159 = .ok (.goto 18, 3) := by decide +kernel
theorem dX5_drawn_162 : decode cX5_drawn 162 = .ok (.aload_n 0, 1) := by decide +kernel
theorem dX5_drawn_163 : decode cX5_drawn 163 = .ok (.getfield 44, 3) := by decide +kernel
theorem dX5_drawn_166 : decode cX5_drawn 166 = .ok (.getfield 229, 3) := by decide +kernel
theorem dX5_drawn_169 : decode cX5_drawn 169 = .ok (.aload_n 0, 1) := by decide +kernel
theorem dX5_drawn_170 : decode cX5_drawn 170 = .ok (.getfield 33, 3) := by decide +kernel
theorem dX5_drawn_173 : decode cX5_drawn 173 = .ok (.getfield 229, 3) := by decide +kernel
theorem dX5_drawn_176 : decode cX5_drawn 176 = .ok (.isub, 1) := by decide +kernel
theorem dX5_drawn_177 : decode cX5_drawn 177 = .ok (.ireturn, 1) := by decide +kernel
theorem dX5_image_0 : decode cX5_image 0 = .ok (.iload_n 1, 1) := by decide +kernel
theorem dX5_image_1 : decode cX5_image 1 = .ok (.iconst 0, 1) := by decide +kernel
theorem dX5_image_2 : decode cX5_image 2 = .ok (.iconst 1, 1) := by decide +kernel
theorem dX5_image_3 : decode cX5_image 3 = .ok (.invokestatic 73, 3) := by decide +kernel
theorem dX5_image_6 : decode cX5_image 6 = .ok (.ifCond .ne 6, 3) := by decide +kernel
theorem dX5_image_9 : decode cX5_image 9 = .ok (.ldc 77, 2) := by decide +kernel
theorem dX5_image_11 : decode cX5_image 11 = .ok (.ireturn, 1) := by decide +kernel
theorem dX5_image_12 : decode cX5_image 12 = .ok (.aload_n 0, 1) := by decide +kernel
theorem dX5_image_13 : decode cX5_image 13 = .ok (.invokevirtual 156, 3) := by decide +kernel
theorem dX5_image_16 : decode cX5_image 16 = .ok (.ifCond .ne 6, 3) := by decide +kernel
theorem dX5_image_19 : decode cX5_image 19 = .ok (.ldc 152, 2) := by decide +kernel
theorem dX5_image_21 : decode cX5_image 21 = .ok (.ireturn, 1) := by decide +kernel
theorem dX5_image_22 : decode cX5_image 22 = .ok (.aload_n 0, 1) := by decide +kernel
theorem dX5_image_23 : decode cX5_image 23 = .ok (.getfield 53, 3) := by decide +kernel
theorem dX5_image_26 : decode cX5_image 26 = .ok (.iload_n 1, 1) := by decide +kernel
theorem dX5_image_27 : decode cX5_image 27 = .ok (.aaload, 1) := by decide +kernel
theorem dX5_image_28 : decode cX5_image 28 = .ok (.aload_n 0, 1) := by decide +kernel
theorem dX5_image_29 : decode cX5_image 29 = .ok (.getfield 26, 3) := by decide +kernel
theorem dX5_image_32 : decode cX5_image 32 = .ok (.invokevirtual 136, 3) := by decide +kernel
theorem dX5_image_35 : decode cX5_image 35 = .ok (.aload_n 0, 1) := by decide +kernel
theorem dX5_image_36 : decode cX5_image 36 = .ok (.getfield 57, 3) := by decide +kernel
theorem dX5_image_39 : decode cX5_image 39 = .ok (.iload_n 1, 1) := by decide +kernel
theorem dX5_image_40 : decode cX5_image 40 = .ok (.aaload, 1) := by decide +kernel
theorem dX5_image_41 : decode cX5_image 41 = .ok (.aload_n 0, 1) := by decide +kernel
theorem dX5_image_42 : decode cX5_image 42 = .ok (.getfield 33, 3) := by decide +kernel
theorem dX5_image_45 : decode cX5_image 45 = .ok (.invokevirtual 140, 3) := by decide +kernel
theorem dX5_image_48 : decode cX5_image 48 = .ok (.aload_n 0, 1) := by decide +kernel
theorem dX5_image_49 : decode cX5_image 49 = .ok (.dup, 1) := by decide +kernel
theorem dX5_image_50 : decode cX5_image 50 = .ok (.getfield 284, 3) := by decide +kernel
theorem dX5_image_53 : decode cX5_image 53 = .ok (.iconst 1, 1) := by decide +kernel
theorem dX5_image_54 : decode cX5_image 54 = .ok (.iload_n 1, 1) := by decide +kernel
theorem dX5_image_55 : decode cX5_image 55 = .ok (.ishl, 1) := by decide +kernel
theorem dX5_image_56 : decode cX5_image 56 = .ok (.ior, 1) := by decide +kernel
theorem dX5_image_57 : decode cX5_image 57 = .ok (.putfield 284, 3) := by decide +kernel
theorem dX5_image_60 : decode cX5_image 60 = .ok (.iconst 1, 1) := by decide +kernel
theorem dX5_image_61 : decode cX5_image 61 = .ok (.ireturn, 1) := by decide +kernel
theorem dX5_restore_0 : decode cX5_restore 0 = .ok (.iload_n 1, 1) := by decide +kernel
theorem dX5_restore_1 : decode cX5_restore 1 = .ok (.iconst 0, 1) := by decide +kernel
theorem dX5_restore_2 : decode cX5_restore 2 = .ok (.iconst 1, 1) := by decide +kernel
theorem dX5_restore_3 : decode cX5_restore 3 = .ok (.invokestatic 73, 3) := by decide +kernel
theorem dX5_restore_6 : decode cX5_restore 6 = .ok (.ifCond .ne 6, 3) := by decide +kernel
theorem dX5_restore_9 : decode cX5_restore 9 = .ok (.ldc 77, 2) := by decide +kernel
theorem dX5_restore_11 : decode cX5_restore 11 = .ok (.ireturn, 1) := by decide +kernel
theorem dX5_restore_12 : decode cX5_restore 12 = .ok (.aload_n 0, 1) := by decide +kernel
theorem dX5_restore_13 : decode cX5_restore 13 = .ok (.getfield 284, 3) := by decide +kernel
theorem dX5_restore_16 : decode cX5_restore 16 = .ok (.iload_n 1, 1) := by decide +kernel
theorem dX5_restore_17 : decode cX5_restore 17 = .ok (.invokestatic 187, 3) := by decide +kernel
theorem dX5_restore_20 : decode cX5_restore 20 = .ok (.ifCond .ne 6, 3) := by decide +kernel
theorem dX5_restore_23 : decode cX5_restore 23 = .ok (.ldc 152, 2) := by decide +kernel
theorem dX5_restore_25 : decode cX5_restore 25 = .ok (.ireturn, 1) := by decide +kernel
theorem dX5_restore_26 : decode cX5_restore 26 = .ok (.aload_n 0, 1) := by decide +kernel
theorem dX5_restore_27 : decode cX5_restore 27 = .ok (.getfield 26, 3) := by decide +kernel
theorem dX5_restore_30 : decode cX5_restore 30 = .ok (.aload_n 0, 1) := by decide +kernel
theorem dX5_restore_31 : decode cX5_restore 31 = .ok (.getfield 53, 3) := by decide +kernel
theorem dX5_restore_34 : decode cX5_restore 34 = .ok (.iload_n 1, 1) := by decide +kernel
theorem dX5_restore_35 : decode cX5_restore 35 = .ok (.aaload, 1) := by decide +kernel
theorem dX5_restore_36 : decode cX5_restore 36 = .ok (.invokevirtual 136, 3) := by decide +kernel
theorem dX5_restore_39 : decode cX5_restore 39 = .ok (.aload_n 0, 1) := by decide +kernel
theorem dX5_restore_40 : decode cX5_restore 40 = .ok (.getfield 33, 3) := by decide +kernel
theorem dX5_restore_43 : decode cX5_restore 43 = .ok (.aload_n 0, 1) := by decide +kernel
theorem dX5_restore_44 : decode cX5_restore 44 = .ok (.getfield 57, 3) := by decide +kernel
theorem dX5_restore_47 : decode cX5_restore 47 = .ok (.iload_n 1, 1) := by decide +kernel
theorem dX5_restore_48 : decode cX5_restore 48 = .ok (.aaload, 1) := by decide +kernel
theorem dX5_restore_49 : decode cX5_restore 49 = .ok (.invokevirtual 140, 3) := by decide +kernel
theorem dX5_restore_52 : decode cX5_restore 52 = .ok (.aload_n 0, 1) := by decide +kernel
theorem dX5_restore_53 : decode cX5_restore 53 = .ok (.getfield 40, 3) := by decide +kernel
theorem dX5_restore_56 : decode cX5_restore 56 = .ok (.invokevirtual 143, 3) := by decide +kernel
theorem dX5_restore_59 : decode cX5_restore 59 = .ok (.iconst 1, 1) := by decide +kernel
theorem dX5_restore_60 : decode cX5_restore 60 = .ok (.ireturn, 1) := by decide +kernel
theorem dX5_kind_0 : decode cX5_kind 0 = .ok (.aload_n 0, 1) := by decide +kernel
theorem dX5_kind_1 : decode cX5_kind 1 = .ok (.iload_n 1, 1) := by decide +kernel
theorem dX5_kind_2 : decode cX5_kind 2 = .ok (.invokevirtual 172, 3) := by decide +kernel
theorem dX5_kind_5 : decode cX5_kind 5 = .ok (.ifCond .eq 15, 3) := by decide +kernel
theorem dX5_kind_8 : decode cX5_kind 8 = .ok (.aload_n 0, 1) := by decide +kernel
theorem dX5_kind_9 : decode cX5_kind 9 = .ok (.getfield 33, 3) := by decide +kernel
theorem dX5_kind_12 : decode cX5_kind 12 = .ok (.getfield 287, 3) := by decide +kernel
theorem dX5_kind_15 : decode cX5_kind 15 = .ok (.iload_n 1, 1) := by decide +kernel
theorem dX5_kind_16 : decode cX5_kind 16 = .ok (.iaload, 1) := by decide +kernel
theorem dX5_kind_17 : decode cX5_kind 17 = .ok (.goto 5, 3) := by decide +kernel
theorem dX5_kind_20 : decode cX5_kind 20 = .ok (.ldc 77, 2) := by decide +kernel
theorem dX5_kind_22 : decode cX5_kind 22 = .ok (.ireturn, 1) := by decide +kernel
theorem dX5_as_0 : decode cX5_as 0 = .ok (.aload_n 0, 1) := by decide +kernel
theorem dX5_as_1 : decode cX5_as 1 = .ok (.iload_n 1, 1) := by decide +kernel
theorem dX5_as_2 : decode cX5_as 2 = .ok (.invokevirtual 172, 3) := by decide +kernel
theorem dX5_as_5 : decode cX5_as 5 = .ok (.ifCond .eq 12, 3) := by decide +kernel
theorem dX5_as_8 : decode cX5_as 8 = .ok (.iload_n 2, 1) := by decide +kernel
theorem dX5_as_9 : decode cX5_as 9 = .ok (.iconst 0, 1) := by decide +kernel
theorem dX5_as_10 : decode cX5_as 10 = .ok (.iconst 5, 1) := by decide +kernel
theorem dX5_as_11 : decode cX5_as 11 = .ok (.invokestatic 73, 3) := by decide +kernel
theorem dX5_as_14 : decode cX5_as 14 = .ok (.ifCond .ne 6, 3) := by decide +kernel
theorem dX5_as_17 : decode cX5_as 17 = .ok (.ldc 77, 2) := by decide +kernel
theorem dX5_as_19 : decode cX5_as 19 = .ok (.ireturn, 1) := by decide +kernel
theorem dX5_as_20 : decode cX5_as 20 = .ok (.aload_n 0, 1) := by decide +kernel
theorem dX5_as_21 : decode cX5_as 21 = .ok (.getfield 33, 3) := by decide +kernel
theorem dX5_as_24 : decode cX5_as 24 = .ok (.getfield 287, 3) := by decide +kernel
theorem dX5_as_27 : decode cX5_as 27 = .ok (.iload_n 1, 1) := by decide +kernel
theorem dX5_as_28 : decode cX5_as 28 = .ok (.iaload, 1) := by decide +kernel
theorem dX5_as_29 : decode cX5_as 29 = .ok (.iload_n 2, 1) := by decide +kernel
theorem dX5_as_30 : decode cX5_as 30 = .ok (.invokestatic 290, 3) := by decide +kernel
theorem dX5_as_33 : decode cX5_as 33 = .ok (.ifCond .eq 11, 3) := by decide +kernel
theorem dX5_as_36 : decode cX5_as 36 = .ok (.aload_n 0, 1) := by decide +kernel
theorem dX5_as_37 : decode cX5_as 37 = .ok (.iload_n 1, 1) := by decide +kernel
theorem dX5_as_38 : decode cX5_as 38 = .ok (.invokevirtual 86, 3) := by decide +kernel
theorem dX5_as_41 : decode cX5_as 41 = .ok (.goto 8, 3) := by decide +kernel
theorem dX5_as_44 : decode cX5_as 44 = .ok (.aload_n 0, 1) := by decide +kernel
theorem dX5_as_45 : decode cX5_as 45 = .ok (.iconst 3, 1) := by decide +kernel
theorem dX5_as_46 : decode cX5_as 46 = .ok (.invokevirtual 78, 3) := by decide +kernel
theorem dX5_as_49 : decode cX5_as 49 = .ok (.ireturn, 1) := by decide +kernel
theorem dX5_ask_0 : decode cX5_ask 0 = .ok (.aload_n 0, 1) := by decide +kernel
theorem dX5_ask_1 : decode cX5_ask 1 = .ok (.iload_n 1, 1) := by decide +kernel
theorem dX5_ask_2 : decode cX5_ask 2 = .ok (.invokevirtual 172, 3) := by decide +kernel
theorem dX5_ask_5 : decode cX5_ask 5 = .ok (.ifCond .eq 12, 3) := by decide +kernel
theorem dX5_ask_8 : decode cX5_ask 8 = .ok (.iload_n 2, 1) := by decide +kernel
theorem dX5_ask_9 : decode cX5_ask 9 = .ok (.iconst 0, 1) := by decide +kernel
theorem dX5_ask_10 : decode cX5_ask 10 = .ok (.iconst 1, 1) := by decide +kernel
theorem dX5_ask_11 : decode cX5_ask 11 = .ok (.invokestatic 73, 3) := by decide +kernel
theorem dX5_ask_14 : decode cX5_ask 14 = .ok (.ifCond .ne 6, 3) := by decide +kernel
theorem dX5_ask_17 : decode cX5_ask 17 = .ok (.ldc 77, 2) := by decide +kernel
theorem dX5_ask_19 : decode cX5_ask 19 = .ok (.ireturn, 1) := by decide +kernel
theorem dX5_ask_20 : decode cX5_ask 20 = .ok (.aload_n 0, 1) := by decide +kernel
theorem dX5_ask_21 : decode cX5_ask 21 = .ok (.iconst 0, 1) := by decide +kernel
theorem dX5_ask_22 : decode cX5_ask 22 = .ok (.putfield 294, 3) := by decide +kernel
theorem dX5_ask_25 : decode cX5_ask 25 = .ok (.aload_n 0, 1) := by decide +kernel
theorem dX5_ask_26 : decode cX5_ask 26 = .ok (.getfield 33, 3) := by decide +kernel
theorem dX5_ask_29 : decode cX5_ask 29 = .ok (.getfield 287, 3) := by decide +kernel
theorem dX5_ask_32 : decode cX5_ask 32 = .ok (.iload_n 1, 1) := by decide +kernel
theorem dX5_ask_33 : decode cX5_ask 33 = .ok (.iaload, 1) := by decide +kernel
theorem dX5_ask_34 : decode cX5_ask 34 = .ok (.iconst 1, 1) := by decide +kernel
theorem dX5_ask_35 : decode cX5_ask 35 = .ok (.invokestatic 290, 3) := by decide +kernel
theorem dX5_ask_38 : decode cX5_ask 38 = .ok (.istore_n 3, 1) := by decide +kernel
theorem dX5_ask_39 : decode cX5_ask 39 = .ok (.iload_n 2, 1) := by decide +kernel
theorem dX5_ask_40 : decode cX5_ask 40 = .ok (.ifCond .ne 21, 3) := by decide +kernel
theorem dX5_ask_43 : decode cX5_ask 43 = .ok (.iload_n 3, 1) := by decide +kernel
theorem dX5_ask_44 : decode cX5_ask 44 = .ok (.ifCond .eq 11, 3) := by decide +kernel
theorem dX5_ask_47 : decode cX5_ask 47 = .ok (.aload_n 0, 1) := by decide +kernel
theorem dX5_ask_48 : decode cX5_ask 48 = .ok (.iload_n 1, 1) := by decide +kernel
theorem dX5_ask_49 : decode cX5_ask 49 = .ok (.invokevirtual 297, 3) := by decide +kernel
theorem dX5_ask_52 : decode cX5_ask 52 = .ok (.goto 8, 3) := by decide +kernel
theorem dX5_ask_55 : decode cX5_ask 55 = .ok (.aload_n 0, 1) := by decide +kernel
theorem dX5_ask_56 : decode cX5_ask 56 = .ok (.iload_n 1, 1) := by decide +kernel
theorem dX5_ask_57 : decode cX5_ask 57 = .ok (.invokevirtual 300, 3) := by decide +kernel
theorem dX5_ask_60 : decode cX5_ask 60 = .ok (.ireturn, 1) := by decide +kernel
theorem dX5_ask_61 : decode cX5_ask 61 = .ok (.iload_n 3, 1) := by decide +kernel
theorem dX5_ask_62 : decode cX5_ask 62 = .ok (.ifCond .eq 11, 3) := by decide +kernel
theorem dX5_ask_65 : decode cX5_ask 65 = .ok (.aload_n 0, 1) := by decide +kernel
theorem dX5_ask_66 : decode cX5_ask 66 = .ok (.iload_n 1, 1) := by decide +kernel
theorem dX5_ask_67 : decode cX5_ask 67 = .ok (.invokevirtual 303, 3) := by decide +kernel
theorem dX5_ask_70 : decode cX5_ask 70 = .ok (.goto 8, 3) := by decide +kernel
theorem dX5_ask_73 : decode cX5_ask 73 = .ok (.aload_n 0, 1) := by decide +kernel
theorem dX5_ask_74 : decode cX5_ask 74 = .ok (.iload_n 1, 1) := by decide +kernel
theorem dX5_ask_75 : decode cX5_ask 75 = .ok (.invokevirtual 306, 3) := by decide +kernel
theorem dX5_ask_78 : decode cX5_ask 78 = .ok (.ireturn, 1) := by decide +kernel
theorem dX5_trace_0 : decode cX5_trace 0 = .ok (.iload_n 1, 1) := by decide +kernel
theorem dX5_trace_1 : decode cX5_trace 1 = .ok (.iconst 0, 1) := by decide +kernel
theorem dX5_trace_2 : decode cX5_trace 2 = .ok (.aload_n 0, 1) := by decide +kernel
theorem dX5_trace_3 : decode cX5_trace 3 = .ok (.getfield 294, 3) := by decide +kernel
theorem dX5_trace_6 : decode cX5_trace 6 = .ok (.iconst 1, 1) := by decide +kernel
theorem dX5_trace_7 : decode cX5_trace 7 = .ok (.isub, 1) := by decide +kernel
theorem dX5_trace_8 : decode cX5_trace 8 = .ok (.invokestatic 73, 3) := by decide +kernel
theorem dX5_trace_11 : decode cX5_trace 11 = .ok (.ifCond .eq 12, 3) := by decide +kernel
theorem dX5_trace_14 : decode cX5_trace 14 = .ok (.aload_n 0, 1) := by decide +kernel
theorem dX5_trace_15 : decode cX5_trace 15 = .ok (.getfield 65, 3) := by decide +kernel
theorem dX5_trace_18 : decode cX5_trace 18 = .ok (.iload_n 1, 1) := by decide +kernel
theorem dX5_trace_19 : decode cX5_trace 19 = .ok (.iaload, 1) := by decide +kernel
theorem dX5_trace_20 : decode cX5_trace 20 = .ok (.goto 5, 3) := by decide +kernel
theorem dX5_trace_23 : decode cX5_trace 23 = .ok (.ldc 232, 2) := by decide +kernel
theorem dX5_trace_25 : decode cX5_trace 25 = .ok (.ireturn, 1) := by decide +kernel
theorem dX5_count_0 : decode cX5_count 0 = .ok (.iload_n 1, 1) := by decide +kernel
theorem dX5_count_1 : decode cX5_count 1 = .ok (.tableswitch 146 0 9 #[55, 63, 71, 79, 87, 95, 114, 122, 130, 138], 55) := by decide +kernel
theorem dX5_count_56 : decode cX5_count 56 = .ok (.aload_n 0, 1) := by decide +kernel
theorem dX5_count_57 : decode cX5_count 57 = .ok (.getfield 10, 3) := by decide +kernel
theorem dX5_count_60 : decode cX5_count 60 = .ok (.invokevirtual 309, 3) := by decide +kernel
theorem dX5_count_63 : decode cX5_count 63 = .ok (.ireturn, 1) := by decide +kernel
theorem dX5_count_64 : decode cX5_count 64 = .ok (.aload_n 0, 1) := by decide +kernel
theorem dX5_count_65 : decode cX5_count 65 = .ok (.getfield 26, 3) := by decide +kernel
theorem dX5_count_68 : decode cX5_count 68 = .ok (.getfield 244, 3) := by decide +kernel
theorem dX5_count_71 : decode cX5_count 71 = .ok (.ireturn, 1) := by decide +kernel
theorem dX5_count_72 : decode cX5_count 72 = .ok (.aload_n 0, 1) := by decide +kernel
theorem dX5_count_73 : decode cX5_count 73 = .ok (.getfield 26, 3) := by decide +kernel
theorem dX5_count_76 : decode cX5_count 76 = .ok (.getfield 312, 3) := by decide +kernel
theorem dX5_count_79 : decode cX5_count 79 = .ok (.ireturn, 1) := by decide +kernel
theorem dX5_count_80 : decode cX5_count 80 = .ok (.aload_n 0, 1) := by decide +kernel
theorem dX5_count_81 : decode cX5_count 81 = .ok (.getfield 26, 3) := by decide +kernel
theorem dX5_count_84 : decode cX5_count 84 = .ok (.getfield 146, 3) := by decide +kernel
theorem dX5_count_87 : decode cX5_count 87 = .ok (.ireturn, 1) := by decide +kernel
theorem dX5_count_88 : decode cX5_count 88 = .ok (.aload_n 0, 1) := by decide +kernel
theorem dX5_count_89 : decode cX5_count 89 = .ok (.getfield 33, 3) := by decide +kernel
theorem dX5_count_92 : decode cX5_count 92 = .ok (.getfield 160, 3) := by decide +kernel
theorem dX5_count_95 : decode cX5_count 95 = .ok (.ireturn, 1) := by decide +kernel
theorem dX5_count_96 : decode cX5_count 96 = .ok (.aload_n 0, 1) := by decide +kernel
theorem dX5_count_97 : decode cX5_count 97 = .ok (.invokevirtual 156, 3) := by decide +kernel
theorem dX5_count_100 : decode cX5_count 100 = .ok (.ifCond .eq 13, 3) := by decide +kernel
theorem dX5_count_103 : decode cX5_count 103 = .ok (.aload_n 0, 1) := by decide +kernel
theorem dX5_count_104 : decode cX5_count 104 = .ok (.getfield 33, 3) := by decide +kernel
theorem dX5_count_107 : decode cX5_count 107 = .ok (.getfield 169, 3) := by decide +kernel
theorem dX5_count_110 : decode cX5_count 110 = .ok (.goto 4, 3) := by decide +kernel
theorem dX5_count_113 : decode cX5_count 113 = .ok (.iconst (-1), 1) := by decide +kernel
theorem dX5_count_114 : decode cX5_count 114 = .ok (.ireturn, 1) := by decide +kernel
theorem dX5_count_115 : decode cX5_count 115 = .ok (.aload_n 0, 1) := by decide +kernel
theorem dX5_count_116 : decode cX5_count 116 = .ok (.getfield 33, 3) := by decide +kernel
theorem dX5_count_119 : decode cX5_count 119 = .ok (.getfield 229, 3) := by decide +kernel
theorem dX5_count_122 : decode cX5_count 122 = .ok (.ireturn, 1) := by decide +kernel
theorem dX5_count_123 : decode cX5_count 123 = .ok (.aload_n 0, 1) := by decide +kernel
theorem dX5_count_124 : decode cX5_count 124 = .ok (.getfield 33, 3) := by decide +kernel
theorem dX5_count_127 : decode cX5_count 127 = .ok (.getfield 258, 3) := by decide +kernel
theorem dX5_count_130 : decode cX5_count 130 = .ok (.ireturn, 1) := by decide +kernel
theorem dX5_count_131 : decode cX5_count 131 = .ok (.aload_n 0, 1) := by decide +kernel
theorem dX5_count_132 : decode cX5_count 132 = .ok (.getfield 40, 3) := by decide +kernel
theorem dX5_count_135 : decode cX5_count 135 = .ok (.getfield 149, 3) := by decide +kernel
theorem dX5_count_138 : decode cX5_count 138 = .ok (.ireturn, 1) := by decide +kernel
theorem dX5_count_139 : decode cX5_count 139 = .ok (.aload_n 0, 1) := by decide +kernel
theorem dX5_count_140 : decode cX5_count 140 = .ok (.getfield 19, 3) := by decide +kernel
theorem dX5_count_143 : decode cX5_count 143 = .ok (.getfield 115, 3) := by decide +kernel
theorem dX5_count_146 : decode cX5_count 146 = .ok (.ireturn, 1) := by decide +kernel
theorem dX5_count_147 : decode cX5_count 147 = .ok (.ldc 77, 2) := by decide +kernel
theorem dX5_count_149 : decode cX5_count 149 = .ok (.ireturn, 1) := by decide +kernel
theorem dX5_status_0 : decode cX5_status 0 = .ok (.aload_n 0, 1) := by decide +kernel
theorem dX5_status_1 : decode cX5_status 1 = .ok (.getfield 315, 3) := by decide +kernel
theorem dX5_status_4 : decode cX5_status 4 = .ok (.ireturn, 1) := by decide +kernel
theorem dX5_within_0 : decode cX5_within 0 = .ok (.iload_n 0, 1) := by decide +kernel
theorem dX5_within_1 : decode cX5_within 1 = .ok (.iload_n 1, 1) := by decide +kernel
theorem dX5_within_2 : decode cX5_within 2 = .ok (.if_icmp .lt 12, 3) := by decide +kernel
theorem dX5_within_5 : decode cX5_within 5 = .ok (.iload_n 0, 1) := by decide +kernel
theorem dX5_within_6 : decode cX5_within 6 = .ok (.iload_n 2, 1) := by decide +kernel
theorem dX5_within_7 : decode cX5_within 7 = .ok (.if_icmp .gt 7, 3) := by decide +kernel
theorem dX5_within_10 : decode cX5_within 10 = .ok (.iconst 1, 1) := by decide +kernel
theorem dX5_within_11 : decode cX5_within 11 = .ok (.goto 4, 3) := by decide +kernel
theorem dX5_within_14 : decode cX5_within 14 = .ok (.iconst 0, 1) := by decide +kernel
theorem dX5_within_15 : decode cX5_within 15 = .ok (.ireturn, 1) := by decide +kernel
theorem dX5_bit_0 : decode cX5_bit 0 = .ok (.iload_n 0, 1) := by decide +kernel
theorem dX5_bit_1 : decode cX5_bit 1 = .ok (.iload_n 1, 1) := by decide +kernel
theorem dX5_bit_2 : decode cX5_bit 2 = .ok (.ishr, 1) := by decide +kernel
theorem dX5_bit_3 : decode cX5_bit 3 = .ok (.iconst 1, 1) := by decide +kernel
theorem dX5_bit_4 : decode cX5_bit 4 = .ok (.iand, 1) := by decide +kernel
theorem dX5_bit_5 : decode cX5_bit 5 = .ok (.ireturn, 1) := by decide +kernel
theorem dX5_isRow_0 : decode cX5_isRow 0 = .ok (.iload_n 0, 1) := by decide +kernel
theorem dX5_isRow_1 : decode cX5_isRow 1 = .ok (.iconst 0, 1) := by decide +kernel
theorem dX5_isRow_2 : decode cX5_isRow 2 = .ok (.bipush 7, 2) := by decide +kernel
theorem dX5_isRow_4 : decode cX5_isRow 4 = .ok (.invokestatic 73, 3) := by decide +kernel
theorem dX5_isRow_7 : decode cX5_isRow 7 = .ok (.ireturn, 1) := by decide +kernel
theorem dX5_hasLand_0 : decode cX5_hasLand 0 = .ok (.aload_n 0, 1) := by decide +kernel
theorem dX5_hasLand_1 : decode cX5_hasLand 1 = .ok (.getfield 26, 3) := by decide +kernel
theorem dX5_hasLand_4 : decode cX5_hasLand 4 = .ok (.getfield 244, 3) := by decide +kernel
theorem dX5_hasLand_7 : decode cX5_hasLand 7 = .ok (.ifCond .le 7, 3) := by decide +kernel
theorem dX5_hasLand_10 : decode cX5_hasLand 10 = .ok (.iconst 1, 1) := by decide +kernel
theorem dX5_hasLand_11 : decode cX5_hasLand 11 = .ok (.goto 4, 3) := by decide +kernel
theorem dX5_hasLand_14 : decode cX5_hasLand 14 = .ok (.iconst 0, 1) := by decide +kernel
theorem dX5_hasLand_15 : decode cX5_hasLand 15 = .ok (.ireturn, 1) := by decide +kernel
theorem dX5_isPlace_0 : decode cX5_isPlace 0 = .ok (.iload_n 1, 1) := by decide +kernel
theorem dX5_isPlace_1 : decode cX5_isPlace 1 = .ok (.iconst 0, 1) := by decide +kernel
theorem dX5_isPlace_2 : decode cX5_isPlace 2 = .ok (.aload_n 0, 1) := by decide +kernel
theorem dX5_isPlace_3 : decode cX5_isPlace 3 = .ok (.getfield 26, 3) := by decide +kernel
theorem dX5_isPlace_6 : decode cX5_isPlace 6 = .ok (.getfield 244, 3) := by decide +kernel
theorem dX5_isPlace_9 : decode cX5_isPlace 9 = .ok (.iconst 1, 1) := by decide +kernel
theorem dX5_isPlace_10 : decode cX5_isPlace 10 = .ok (.isub, 1) := by decide +kernel
theorem dX5_isPlace_11 : decode cX5_isPlace 11 = .ok (.invokestatic 73, 3) := by decide +kernel
theorem dX5_isPlace_14 : decode cX5_isPlace 14 = .ok (.ireturn, 1) := by decide +kernel
theorem dX5_isWisher_0 : decode cX5_isWisher 0 = .ok (.iload_n 1, 1) := by decide +kernel
theorem dX5_isWisher_1 : decode cX5_isWisher 1 = .ok (.iconst 0, 1) := by decide +kernel
theorem dX5_isWisher_2 : decode cX5_isWisher 2 = .ok (.aload_n 0, 1) := by decide +kernel
theorem dX5_isWisher_3 : decode cX5_isWisher 3 = .ok (.getfield 26, 3) := by decide +kernel
theorem dX5_isWisher_6 : decode cX5_isWisher 6 = .ok (.getfield 146, 3) := by decide +kernel
theorem dX5_isWisher_9 : decode cX5_isWisher 9 = .ok (.iconst 1, 1) := by decide +kernel
theorem dX5_isWisher_10 : decode cX5_isWisher 10 = .ok (.isub, 1) := by decide +kernel
theorem dX5_isWisher_11 : decode cX5_isWisher 11 = .ok (.invokestatic 73, 3) := by decide +kernel
theorem dX5_isWisher_14 : decode cX5_isWisher 14 = .ok (.ireturn, 1) := by decide +kernel
theorem dX5_found_0 : decode cX5_found 0 = .ok (.aload_n 0, 1) := by decide +kernel
theorem dX5_found_1 : decode cX5_found 1 = .ok (.iload_n 1, 1) := by decide +kernel
theorem dX5_found_2 : decode cX5_found 2 = .ok (.putfield 315, 3) := by decide +kernel
theorem dX5_found_5 : decode cX5_found 5 = .ok (.ldc_w 318, 3) := by decide +kernel
theorem dX5_found_8 : decode cX5_found 8 = .ok (.iload_n 1, 1) := by decide +kernel
theorem dX5_found_9 : decode cX5_found 9 = .ok (.isub, 1) := by decide +kernel
theorem dX5_found_10 : decode cX5_found 10 = .ok (.ireturn, 1) := by decide +kernel
theorem dX5_fine_0 : decode cX5_fine 0 = .ok (.aload_n 0, 1) := by decide +kernel
theorem dX5_fine_1 : decode cX5_fine 1 = .ok (.iconst 0, 1) := by decide +kernel
theorem dX5_fine_2 : decode cX5_fine 2 = .ok (.putfield 315, 3) := by decide +kernel
theorem dX5_fine_5 : decode cX5_fine 5 = .ok (.iload_n 1, 1) := by decide +kernel
theorem dX5_fine_6 : decode cX5_fine 6 = .ok (.ireturn, 1) := by decide +kernel
theorem dX5_isThereBy_0 : decode cX5_isThereBy 0 = .ok (.aload_n 0, 1) := by decide +kernel
theorem dX5_isThereBy_1 : decode cX5_isThereBy 1 = .ok (.getfield 44, 3) := by decide +kernel
theorem dX5_isThereBy_4 : decode cX5_isThereBy 4 = .ok (.aload_n 0, 1) := by decide +kernel
theorem dX5_isThereBy_5 : decode cX5_isThereBy 5 = .ok (.getfield 33, 3) := by decide +kernel
theorem dX5_isThereBy_8 : decode cX5_isThereBy 8 = .ok (.invokevirtual 140, 3) := by decide +kernel
theorem dX5_isThereBy_11 : decode cX5_isThereBy 11 = .ok (.aload_n 0, 1) := by decide +kernel
theorem dX5_isThereBy_12 : decode cX5_isThereBy 12 = .ok (.getfield 44, 3) := by decide +kernel
theorem dX5_isThereBy_15 : decode cX5_isThereBy 15 = .ok (.dup, 1) := by decide +kernel
theorem dX5_isThereBy_16 : decode cX5_isThereBy 16 = .ok (.getfield 184, 3) := by decide +kernel
theorem dX5_isThereBy_19 : decode cX5_isThereBy 19 = .ok (.aload_n 0, 1) := by decide +kernel
theorem dX5_isThereBy_20 : decode cX5_isThereBy 20 = .ok (.getfield 26, 3) := by decide +kernel
theorem dX5_isThereBy_23 : decode cX5_isThereBy 23 = .ok (.invokevirtual 233, 3) := by decide +kernel
theorem dX5_isThereBy_26 : decode cX5_isThereBy 26 = .ok (.iload_n 1, 1) := by decide +kernel
theorem dX5_isThereBy_27 : decode cX5_isThereBy 27 = .ok (.iconst (-1), 1) := by decide +kernel
theorem dX5_isThereBy_28 : decode cX5_isThereBy 28 = .ok (.ixor, 1) := by decide +kernel
theorem dX5_isThereBy_29 : decode cX5_isThereBy 29 = .ok (.iand, 1) := by decide +kernel
theorem dX5_isThereBy_30 : decode cX5_isThereBy 30 = .ok (.ior, 1) := by decide +kernel
theorem dX5_isThereBy_31 : decode cX5_isThereBy 31 = .ok (.putfield 184, 3) := by decide +kernel
theorem dX5_isThereBy_34 : decode cX5_isThereBy 34 = .ok (.aload_n 0, 1) := by decide +kernel
theorem dX5_isThereBy_35 : decode cX5_isThereBy 35 = .ok (.getfield 44, 3) := by decide +kernel
theorem dX5_isThereBy_38 : decode cX5_isThereBy 38 = .ok (.aload_n 0, 1) := by decide +kernel
theorem dX5_isThereBy_39 : decode cX5_isThereBy 39 = .ok (.getfield 26, 3) := by decide +kernel
theorem dX5_isThereBy_42 : decode cX5_isThereBy 42 = .ok (.iload_n 3, 1) := by decide +kernel
theorem dX5_isThereBy_43 : decode cX5_isThereBy 43 = .ok (.invokevirtual 225, 3) := by decide +kernel
theorem dX5_isThereBy_46 : decode cX5_isThereBy 46 = .ok (.aload_n 0, 1) := by decide +kernel
theorem dX5_isThereBy_47 : decode cX5_isThereBy 47 = .ok (.getfield 44, 3) := by decide +kernel
theorem dX5_isThereBy_50 : decode cX5_isThereBy 50 = .ok (.getfield 169, 3) := by decide +kernel
theorem dX5_isThereBy_53 : decode cX5_isThereBy 53 = .ok (.iload_n 2, 1) := by decide +kernel
theorem dX5_isThereBy_54 : decode cX5_isThereBy 54 = .ok (.if_icmp .ne 7, 3) := by decide +kernel
theorem dX5_isThereBy_57 : decode cX5_isThereBy 57 = .ok (.iconst 1, 1) := by decide +kernel
theorem dX5_isThereBy_58 : decode cX5_isThereBy 58 = .ok (.goto 4, 3) := by decide +kernel
theorem dX5_isThereBy_61 : decode cX5_isThereBy 61 = .ok (.iconst 0, 1) := by decide +kernel
theorem dX5_isThereBy_62 : decode cX5_isThereBy 62 = .ok (.ireturn, 1) := by decide +kernel
theorem dX5_comesAsTold_0 : decode cX5_comesAsTold 0 = .ok (.iconst 0, 1) := by decide +kernel
theorem dX5_comesAsTold_1 : decode cX5_comesAsTold 1 = .ok (.istore 4, 2) := by decide +kernel
theorem dX5_comesAsTold_3 : decode cX5_comesAsTold 3 = .ok (.iload 4, 2) := by decide +kernel
theorem dX5_comesAsTold_5 : decode cX5_comesAsTold 5 = .ok (.iload_n 3, 1) := by decide +kernel
theorem dX5_comesAsTold_6 : decode cX5_comesAsTold 6 = .ok (.if_icmp .ge 56, 3) := by decide +kernel
theorem dX5_comesAsTold_9 : decode cX5_comesAsTold 9 = .ok (.aload_n 0, 1) := by decide +kernel
theorem dX5_comesAsTold_10 : decode cX5_comesAsTold 10 = .ok (.getfield 44, 3) := by decide +kernel
theorem dX5_comesAsTold_13 : decode cX5_comesAsTold 13 = .ok (.aload_n 0, 1) := by decide +kernel
theorem dX5_comesAsTold_14 : decode cX5_comesAsTold 14 = .ok (.getfield 26, 3) := by decide +kernel
theorem dX5_comesAsTold_17 : decode cX5_comesAsTold 17 = .ok (.invokevirtual 166, 3) := by decide +kernel
theorem dX5_comesAsTold_20 : decode cX5_comesAsTold 20 = .ok (.aload_n 0, 1) := by decide +kernel
theorem dX5_comesAsTold_21 : decode cX5_comesAsTold 21 = .ok (.getfield 10, 3) := by decide +kernel
theorem dX5_comesAsTold_24 : decode cX5_comesAsTold 24 = .ok (.getfield 102, 3) := by decide +kernel
theorem dX5_comesAsTold_27 : decode cX5_comesAsTold 27 = .ok (.iload_n 1, 1) := by decide +kernel
theorem dX5_comesAsTold_28 : decode cX5_comesAsTold 28 = .ok (.aaload, 1) := by decide +kernel
theorem dX5_comesAsTold_29 : decode cX5_comesAsTold 29 = .ok (.iload_n 2, 1) := by decide +kernel
theorem dX5_comesAsTold_30 : decode cX5_comesAsTold 30 = .ok (.iload 4, 2) := by decide +kernel
theorem dX5_comesAsTold_32 : decode cX5_comesAsTold 32 = .ok (.iadd, 1) := by decide +kernel
theorem dX5_comesAsTold_33 : decode cX5_comesAsTold 33 = .ok (.iaload, 1) := by decide +kernel
theorem dX5_comesAsTold_34 : decode cX5_comesAsTold 34 = .ok (.istore 5, 2) := by decide +kernel
theorem dX5_comesAsTold_36 : decode cX5_comesAsTold 36 = .ok (.iload 5, 2) := by decide +kernel
theorem dX5_comesAsTold_38 : decode cX5_comesAsTold 38 = .ok (.iconst (-1), 1) := by decide +kernel
theorem dX5_comesAsTold_39 : decode cX5_comesAsTold 39 = .ok (.if_icmp .eq 17, 3) := by decide +kernel
theorem dX5_comesAsTold_42 : decode cX5_comesAsTold 42 = .ok (.iload 5, 2) := by decide +kernel
theorem dX5_comesAsTold_44 : decode cX5_comesAsTold 44 = .ok (.aload_n 0, 1) := by decide +kernel
theorem dX5_comesAsTold_45 : decode cX5_comesAsTold 45 = .ok (.getfield 44, 3) := by decide +kernel
theorem dX5_comesAsTold_48 : decode cX5_comesAsTold 48 = .ok (.getfield 169, 3) := by decide +kernel
theorem dX5_comesAsTold_51 : decode cX5_comesAsTold 51 = .ok (.if_icmp .eq 5, 3) := by decide +kernel
theorem dX5_comesAsTold_54 : decode cX5_comesAsTold 54 = .ok (.iconst 0, 1) := by decide +kernel
theorem dX5_comesAsTold_55 : decode cX5_comesAsTold 55 = .ok (.ireturn, 1) := by decide +kernel
theorem dX5_comesAsTold_56 : decode cX5_comesAsTold 56 = .ok (.iinc 4 1, 3) := by decide +kernel
theorem dX5_comesAsTold_59 : decode cX5_comesAsTold 59 = .ok (.goto (-56), 3) := by decide +kernel
theorem dX5_comesAsTold_62 : decode cX5_comesAsTold 62 = .ok (.iconst 1, 1) := by decide +kernel
theorem dX5_comesAsTold_63 : decode cX5_comesAsTold 63 = .ok (.ireturn, 1) := by decide +kernel
theorem dX5_goesBy_0 : decode cX5_goesBy 0 = .ok (.aload_n 0, 1) := by decide +kernel
theorem dX5_goesBy_1 : decode cX5_goesBy 1 = .ok (.getfield 44, 3) := by decide +kernel
theorem dX5_goesBy_4 : decode cX5_goesBy 4 = .ok (.aload_n 0, 1) := by decide +kernel
theorem dX5_goesBy_5 : decode cX5_goesBy 5 = .ok (.getfield 26, 3) := by decide +kernel
theorem dX5_goesBy_8 : decode cX5_goesBy 8 = .ok (.invokevirtual 233, 3) := by decide +kernel
theorem dX5_goesBy_11 : decode cX5_goesBy 11 = .ok (.iload_n 1, 1) := by decide +kernel
theorem dX5_goesBy_12 : decode cX5_goesBy 12 = .ok (.iconst (-1), 1) := by decide +kernel
theorem dX5_goesBy_13 : decode cX5_goesBy 13 = .ok (.ixor, 1) := by decide +kernel
theorem dX5_goesBy_14 : decode cX5_goesBy 14 = .ok (.iand, 1) := by decide +kernel
theorem dX5_goesBy_15 : decode cX5_goesBy 15 = .ok (.putfield 184, 3) := by decide +kernel
theorem dX5_goesBy_18 : decode cX5_goesBy 18 = .ok (.aload_n 0, 1) := by decide +kernel
theorem dX5_goesBy_19 : decode cX5_goesBy 19 = .ok (.getfield 44, 3) := by decide +kernel
theorem dX5_goesBy_22 : decode cX5_goesBy 22 = .ok (.aload_n 0, 1) := by decide +kernel
theorem dX5_goesBy_23 : decode cX5_goesBy 23 = .ok (.getfield 26, 3) := by decide +kernel
theorem dX5_goesBy_26 : decode cX5_goesBy 26 = .ok (.invokevirtual 210, 3) := by decide +kernel
theorem dX5_goesBy_29 : decode cX5_goesBy 29 = .ok (.aload_n 0, 1) := by decide +kernel
theorem dX5_goesBy_30 : decode cX5_goesBy 30 = .ok (.getfield 44, 3) := by decide +kernel
theorem dX5_goesBy_33 : decode cX5_goesBy 33 = .ok (.aload_n 0, 1) := by decide +kernel
theorem dX5_goesBy_34 : decode cX5_goesBy 34 = .ok (.getfield 26, 3) := by decide +kernel
theorem dX5_goesBy_37 : decode cX5_goesBy 37 = .ok (.invokevirtual 240, 3) := by decide +kernel
theorem dX5_goesBy_40 : decode cX5_goesBy 40 = .ok (.aload_n 0, 1) := by decide +kernel
theorem dX5_goesBy_41 : decode cX5_goesBy 41 = .ok (.getfield 44, 3) := by decide +kernel
theorem dX5_goesBy_44 : decode cX5_goesBy 44 = .ok (.getfield 169, 3) := by decide +kernel
theorem dX5_goesBy_47 : decode cX5_goesBy 47 = .ok (.if_icmp .eq 7, 3) := by decide +kernel
theorem dX5_goesBy_50 : decode cX5_goesBy 50 = .ok (.iconst 1, 1) := by decide +kernel
theorem dX5_goesBy_51 : decode cX5_goesBy 51 = .ok (.goto 4, 3) := by decide +kernel
theorem dX5_goesBy_54 : decode cX5_goesBy 54 = .ok (.iconst 0, 1) := by decide +kernel
theorem dX5_goesBy_55 : decode cX5_goesBy 55 = .ok (.ireturn, 1) := by decide +kernel
theorem dX5_power_0 : decode cX5_power 0 = .ok (.lconst 1, 1) := by decide +kernel
theorem dX5_power_1 : decode cX5_power 1 = .ok (.lstore_n 2, 1) := by decide +kernel
theorem dX5_power_2 : decode cX5_power 2 = .ok (.iconst 0, 1) := by decide +kernel
theorem dX5_power_3 : decode cX5_power 3 = .ok (.istore 4, 2) := by decide +kernel
theorem dX5_power_5 : decode cX5_power 5 = .ok (.iload 4, 2) := by decide +kernel
theorem dX5_power_7 : decode cX5_power 7 = .ok (.iload_n 1, 1) := by decide +kernel
theorem dX5_power_8 : decode cX5_power 8 = .ok (.if_icmp .ge 14, 3) := by decide +kernel
theorem dX5_power_11 : decode cX5_power 11 = .ok (.lload_n 2, 1) := by decide +kernel
theorem dX5_power_12 : decode cX5_power 12 = .ok (.iload_n 0, 1) := by decide +kernel
theorem dX5_power_13 : decode cX5_power 13 = .ok (.i2l, 1) := by decide +kernel
theorem dX5_power_14 : decode cX5_power 14 = .ok (.lmul, 1) := by decide +kernel
theorem dX5_power_15 : decode cX5_power 15 = .ok (.lstore_n 2, 1) := by decide +kernel
theorem dX5_power_16 : decode cX5_power 16 = .ok (.iinc 4 1, 3) := by decide +kernel
theorem dX5_power_19 : decode cX5_power 19 = .ok (.goto (-14), 3) := by decide +kernel
theorem dX5_power_22 : decode cX5_power 22 = .ok (.lload_n 2, 1) := by decide +kernel
theorem dX5_power_23 : decode cX5_power 23 = .ok (.lreturn, 1) := by decide +kernel
theorem dX5_commonDivisor_0 : decode cX5_commonDivisor 0 = .ok (.iconst 0, 1) := by decide +kernel
theorem dX5_commonDivisor_1 : decode cX5_commonDivisor 1 = .ok (.istore 4, 2) := by decide +kernel
theorem dX5_commonDivisor_3 : decode cX5_commonDivisor 3 = .ok (.iload 4, 2) := by decide +kernel
theorem dX5_commonDivisor_5 : decode cX5_commonDivisor 5 = .ok (.bipush 100, 2) := by decide +kernel
theorem dX5_commonDivisor_7 : decode cX5_commonDivisor 7 = .ok (.if_icmp .ge 25, 3) := by decide +kernel
theorem dX5_commonDivisor_10 : decode cX5_commonDivisor 10 = .ok (.lload_n 2, 1) := by decide +kernel
theorem dX5_commonDivisor_11 : decode cX5_commonDivisor 11 = .ok (.lconst 0, 1) := by decide +kernel
theorem dX5_commonDivisor_12 : decode cX5_commonDivisor 12 = .ok (.lcmp, 1) := by decide +kernel
theorem dX5_commonDivisor_13 : decode cX5_commonDivisor 13 = .ok (.ifCond .eq 19, 3) := by decide +kernel
theorem dX5_commonDivisor_16 : decode cX5_commonDivisor 16 = .ok (.lload_n 0, 1) := by decide +kernel
theorem dX5_commonDivisor_17 : decode cX5_commonDivisor 17 = .ok (.lload_n 2, 1) := by decide +kernel
theorem dX5_commonDivisor_18 : decode cX5_commonDivisor 18 = .ok (.lrem, 1) := by decide +kernel
theorem dX5_commonDivisor_19 : decode cX5_commonDivisor 19 = .ok (.lstore 5, 2) := by decide +kernel
theorem dX5_commonDivisor_21 : decode cX5_commonDivisor 21 = .ok (.lload_n 2, 1) := by decide +kernel
theorem dX5_commonDivisor_22 : decode cX5_commonDivisor 22 = .ok (.lstore_n 0, 1) := by decide +kernel
theorem dX5_commonDivisor_23 : decode cX5_commonDivisor 23 = .ok (.lload 5, 2) := by decide +kernel
theorem dX5_commonDivisor_25 : decode cX5_commonDivisor 25 = .ok (.lstore_n 2, 1) := by decide +kernel
theorem dX5_commonDivisor_26 : decode cX5_commonDivisor 26 = .ok (.iinc 4 1, 3) := by decide +kernel
theorem dX5_commonDivisor_29 : decode cX5_commonDivisor 29 = .ok (.goto (-26), 3) := by decide +kernel
theorem dX5_commonDivisor_32 : decode cX5_commonDivisor 32 = .ok (.lload_n 0, 1) := by decide +kernel
theorem dX5_commonDivisor_33 : decode cX5_commonDivisor 33 = .ok (.lreturn, 1) := by decide +kernel
theorem dX5_readText_0 : decode cX5_readText 0 = .ok (.aload_n 0, 1) := by decide +kernel
theorem dX5_readText_1 : decode cX5_readText 1 = .ok (.getfield 19, 3) := by decide +kernel
theorem dX5_readText_4 : decode cX5_readText 4 = .ok (.invokevirtual 319, 3) := by decide +kernel
theorem dX5_readText_7 : decode cX5_readText 7 = .ok (.aload_n 0, 1) := by decide +kernel
theorem dX5_readText_8 : decode cX5_readText 8 = .ok (.getfield 47, 3) := by decide +kernel
theorem dX5_readText_11 : decode cX5_readText 11 = .ok (.invokevirtual 322, 3) := by decide +kernel
theorem dX5_readText_14 : decode cX5_readText 14 = .ok (.aload_n 0, 1) := by decide +kernel
theorem dX5_readText_15 : decode cX5_readText 15 = .ok (.invokevirtual 325, 3) := by decide +kernel
theorem dX5_readText_18 : decode cX5_readText 18 = .ok (.iconst 0, 1) := by decide +kernel
theorem dX5_readText_19 : decode cX5_readText 19 = .ok (.istore_n 1, 1) := by decide +kernel
theorem dX5_readText_20 : decode cX5_readText 20 = .ok (.iload_n 1, 1) := by decide +kernel
theorem dX5_readText_21 : decode cX5_readText 21 = .ok (.bipush 120, 2) := by decide +kernel
theorem dX5_readText_23 : decode cX5_readText 23 = .ok (.if_icmp .ge 58, 3) := by decide +kernel
theorem dX5_readText_26 : decode cX5_readText 26 = .ok (.aload_n 0, 1) := by decide +kernel
theorem dX5_readText_27 : decode cX5_readText 27 = .ok (.getfield 19, 3) := by decide +kernel
theorem dX5_readText_30 : decode cX5_readText 30 = .ok (.invokevirtual 328, 3) := by decide +kernel
theorem dX5_readText_33 : decode cX5_readText 33 = .ok (.ifCond .eq 48, 3) := by decide +kernel
theorem dX5_readText_36 : decode cX5_readText 36 = .ok (.aload_n 0, 1) := by decide +kernel
theorem dX5_readText_37 : decode cX5_readText 37 = .ok (.getfield 19, 3) := by decide +kernel
theorem dX5_readText_40 : decode cX5_readText 40 = .ok (.invokevirtual 331, 3) := by decide +kernel
theorem dX5_readText_43 : decode cX5_readText 43 = .ok (.istore_n 2, 1) := by decide +kernel
theorem dX5_readText_44 : decode cX5_readText 44 = .ok (.iload_n 2, 1) := by decide +kernel
theorem dX5_readText_45 : decode cX5_readText 45 = .ok (.bipush 114, 2) := by decide +kernel
theorem dX5_readText_47 : decode cX5_readText 47 = .ok (.if_icmp .ne 20, 3) := by decide +kernel
theorem dX5_readText_50 : decode cX5_readText 50 = .ok (.aload_n 0, 1) := by decide +kernel
theorem dX5_readText_51 : decode cX5_readText 51 = .ok (.getfield 47, 3) := by decide +kernel
theorem dX5_readText_54 : decode cX5_readText 54 = .ok (.getfield 146, 3) := by decide +kernel
theorem dX5_readText_57 : decode cX5_readText 57 = .ok (.ifCond .ne 10, 3) := by decide +kernel
theorem dX5_readText_60 : decode cX5_readText 60 = .ok (.aload_n 0, 1) := by decide +kernel
theorem dX5_readText_61 : decode cX5_readText 61 = .ok (.invokevirtual 334, 3) := by decide +kernel
theorem dX5_readText_64 : decode cX5_readText 64 = .ok (.goto 11, 3) := by decide +kernel
theorem dX5_readText_67 : decode cX5_readText 67 = .ok (.aload_n 0, 1) := by decide +kernel
theorem dX5_readText_68 : decode cX5_readText 68 = .ok (.iload_n 2, 1) := by decide +kernel
theorem dX5_readText_69 : decode cX5_readText 69 = .ok (.invokestatic 337, 3) := by decide +kernel
theorem dX5_readText_72 : decode cX5_readText 72 = .ok (.invokevirtual 340, 3) := by decide +kernel
theorem dX5_readText_75 : decode cX5_readText 75 = .ok (.iinc 1 1, 3) := by decide +kernel
theorem dX5_readText_78 : decode cX5_readText 78 = .ok (.goto (-58), 3) := by decide +kernel
theorem dX5_readText_81 : decode cX5_readText 81 = .ok (.aload_n 0, 1) := by decide +kernel
theorem dX5_readText_82 : decode cX5_readText 82 = .ok (.getfield 47, 3) := by decide +kernel
theorem dX5_readText_85 : decode cX5_readText 85 = .ok (.invokevirtual 344, 3) := by decide +kernel
theorem dX5_readText_88 : decode cX5_readText 88 = .ok (.return_, 1) := by decide +kernel
theorem dX5_readLaw_0 : decode cX5_readLaw 0 = .ok (.aload_n 0, 1) := by decide +kernel
theorem dX5_readLaw_1 : decode cX5_readLaw 1 = .ok (.getfield 19, 3) := by decide +kernel
theorem dX5_readLaw_4 : decode cX5_readLaw 4 = .ok (.bipush 99, 2) := by decide +kernel
theorem dX5_readLaw_6 : decode cX5_readLaw 6 = .ok (.invokevirtual 347, 3) := by decide +kernel
theorem dX5_readLaw_9 : decode cX5_readLaw 9 = .ok (.aload_n 0, 1) := by decide +kernel
theorem dX5_readLaw_10 : decode cX5_readLaw 10 = .ok (.getfield 47, 3) := by decide +kernel
theorem dX5_readLaw_13 : decode cX5_readLaw 13 = .ok (.aload_n 0, 1) := by decide +kernel
theorem dX5_readLaw_14 : decode cX5_readLaw 14 = .ok (.getfield 19, 3) := by decide +kernel
theorem dX5_readLaw_17 : decode cX5_readLaw 17 = .ok (.iconst 2, 1) := by decide +kernel
theorem dX5_readLaw_18 : decode cX5_readLaw 18 = .ok (.bipush 6, 2) := by decide +kernel
theorem dX5_readLaw_20 : decode cX5_readLaw 20 = .ok (.invokevirtual 350, 3) := by decide +kernel
theorem dX5_readLaw_23 : decode cX5_readLaw 23 = .ok (.putfield 244, 3) := by decide +kernel
theorem dX5_readLaw_26 : decode cX5_readLaw 26 = .ok (.aload_n 0, 1) := by decide +kernel
theorem dX5_readLaw_27 : decode cX5_readLaw 27 = .ok (.getfield 19, 3) := by decide +kernel
theorem dX5_readLaw_30 : decode cX5_readLaw 30 = .ok (.bipush 44, 2) := by decide +kernel
theorem dX5_readLaw_32 : decode cX5_readLaw 32 = .ok (.invokevirtual 347, 3) := by decide +kernel
theorem dX5_readLaw_35 : decode cX5_readLaw 35 = .ok (.aload_n 0, 1) := by decide +kernel
theorem dX5_readLaw_36 : decode cX5_readLaw 36 = .ok (.getfield 50, 3) := by decide +kernel
theorem dX5_readLaw_39 : decode cX5_readLaw 39 = .ok (.aload_n 0, 1) := by decide +kernel
theorem dX5_readLaw_40 : decode cX5_readLaw 40 = .ok (.getfield 19, 3) := by decide +kernel
theorem dX5_readLaw_43 : decode cX5_readLaw 43 = .ok (.iconst 0, 1) := by decide +kernel
theorem dX5_readLaw_44 : decode cX5_readLaw 44 = .ok (.aload_n 0, 1) := by decide +kernel
theorem dX5_readLaw_45 : decode cX5_readLaw 45 = .ok (.getfield 47, 3) := by decide +kernel
theorem dX5_readLaw_48 : decode cX5_readLaw 48 = .ok (.getfield 244, 3) := by decide +kernel
theorem dX5_readLaw_51 : decode cX5_readLaw 51 = .ok (.iconst 1, 1) := by decide +kernel
theorem dX5_readLaw_52 : decode cX5_readLaw 52 = .ok (.isub, 1) := by decide +kernel
theorem dX5_readLaw_53 : decode cX5_readLaw 53 = .ok (.invokevirtual 350, 3) := by decide +kernel
theorem dX5_readLaw_56 : decode cX5_readLaw 56 = .ok (.invokevirtual 353, 3) := by decide +kernel
theorem dX5_readLaw_59 : decode cX5_readLaw 59 = .ok (.aload_n 0, 1) := by decide +kernel
theorem dX5_readLaw_60 : decode cX5_readLaw 60 = .ok (.getfield 19, 3) := by decide +kernel
theorem dX5_readLaw_63 : decode cX5_readLaw 63 = .ok (.bipush 44, 2) := by decide +kernel
theorem dX5_readLaw_65 : decode cX5_readLaw 65 = .ok (.invokevirtual 347, 3) := by decide +kernel
theorem dX5_readLaw_68 : decode cX5_readLaw 68 = .ok (.aload_n 0, 1) := by decide +kernel
theorem dX5_readLaw_69 : decode cX5_readLaw 69 = .ok (.getfield 47, 3) := by decide +kernel
theorem dX5_readLaw_72 : decode cX5_readLaw 72 = .ok (.aload_n 0, 1) := by decide +kernel
theorem dX5_readLaw_73 : decode cX5_readLaw 73 = .ok (.getfield 19, 3) := by decide +kernel
theorem dX5_readLaw_76 : decode cX5_readLaw 76 = .ok (.iconst 0, 1) := by decide +kernel
theorem dX5_readLaw_77 : decode cX5_readLaw 77 = .ok (.bipush 20, 2) := by decide +kernel
theorem dX5_readLaw_79 : decode cX5_readLaw 79 = .ok (.invokevirtual 350, 3) := by decide +kernel
theorem dX5_readLaw_82 : decode cX5_readLaw 82 = .ok (.putfield 355, 3) := by decide +kernel
theorem dX5_readLaw_85 : decode cX5_readLaw 85 = .ok (.aload_n 0, 1) := by decide +kernel
theorem dX5_readLaw_86 : decode cX5_readLaw 86 = .ok (.getfield 19, 3) := by decide +kernel
theorem dX5_readLaw_89 : decode cX5_readLaw 89 = .ok (.bipush 44, 2) := by decide +kernel
theorem dX5_readLaw_91 : decode cX5_readLaw 91 = .ok (.invokevirtual 347, 3) := by decide +kernel
theorem dX5_readLaw_94 : decode cX5_readLaw 94 = .ok (.aload_n 0, 1) := by decide +kernel
theorem dX5_readLaw_95 : decode cX5_readLaw 95 = .ok (.getfield 47, 3) := by decide +kernel
theorem dX5_readLaw_98 : decode cX5_readLaw 98 = .ok (.aload_n 0, 1) := by decide +kernel
theorem dX5_readLaw_99 : decode cX5_readLaw 99 = .ok (.getfield 19, 3) := by decide +kernel
theorem dX5_readLaw_102 : decode cX5_readLaw 102 = .ok (.iconst 0, 1) := by decide +kernel
theorem dX5_readLaw_103 : decode cX5_readLaw 103 = .ok (.iconst 5, 1) := by decide +kernel
theorem dX5_readLaw_104 : decode cX5_readLaw 104 = .ok (.invokevirtual 350, 3) := by decide +kernel
theorem dX5_readLaw_107 : decode cX5_readLaw 107 = .ok (.putfield 358, 3) := by decide +kernel
theorem dX5_readLaw_110 : decode cX5_readLaw 110 = .ok (.aload_n 0, 1) := by decide +kernel
theorem dX5_readLaw_111 : decode cX5_readLaw 111 = .ok (.getfield 19, 3) := by decide +kernel
theorem dX5_readLaw_114 : decode cX5_readLaw 114 = .ok (.bipush 59, 2) := by decide +kernel
theorem dX5_readLaw_116 : decode cX5_readLaw 116 = .ok (.invokevirtual 347, 3) := by decide +kernel
theorem dX5_readLaw_119 : decode cX5_readLaw 119 = .ok (.return_, 1) := by decide +kernel
theorem dX5_readRoad_0 : decode cX5_readRoad 0 = .ok (.aload_n 0, 1) := by decide +kernel
theorem dX5_readRoad_1 : decode cX5_readRoad 1 = .ok (.getfield 47, 3) := by decide +kernel
theorem dX5_readRoad_4 : decode cX5_readRoad 4 = .ok (.getfield 312, 3) := by decide +kernel
theorem dX5_readRoad_7 : decode cX5_readRoad 7 = .ok (.bipush 10, 2) := by decide +kernel
theorem dX5_readRoad_9 : decode cX5_readRoad 9 = .ok (.if_icmp .lt 19, 3) := by decide +kernel
theorem dX5_readRoad_12 : decode cX5_readRoad 12 = .ok (.aload_n 0, 1) := by decide +kernel
theorem dX5_readRoad_13 : decode cX5_readRoad 13 = .ok (.getfield 19, 3) := by decide +kernel
theorem dX5_readRoad_16 : decode cX5_readRoad 16 = .ok (.iconst 3, 1) := by decide +kernel
theorem dX5_readRoad_17 : decode cX5_readRoad 17 = .ok (.aload_n 0, 1) := by decide +kernel
theorem dX5_readRoad_18 : decode cX5_readRoad 18 = .ok (.getfield 19, 3) := by decide +kernel
theorem dX5_readRoad_21 : decode cX5_readRoad 21 = .ok (.getfield 361, 3) := by decide +kernel
theorem dX5_readRoad_24 : decode cX5_readRoad 24 = .ok (.invokevirtual 364, 3) := by decide +kernel
theorem dX5_readRoad_27 : decode cX5_readRoad 27 = .ok (.return_, 1) := by decide +kernel
theorem dX5_readRoad_28 : decode cX5_readRoad 28 = .ok (.aload_n 0, 1) := by decide +kernel
theorem dX5_readRoad_29 : decode cX5_readRoad 29 = .ok (.getfield 19, 3) := by decide +kernel
theorem dX5_readRoad_32 : decode cX5_readRoad 32 = .ok (.bipush 114, 2) := by decide +kernel
theorem dX5_readRoad_34 : decode cX5_readRoad 34 = .ok (.invokevirtual 347, 3) := by decide +kernel
theorem dX5_readRoad_37 : decode cX5_readRoad 37 = .ok (.aload_n 0, 1) := by decide +kernel
theorem dX5_readRoad_38 : decode cX5_readRoad 38 = .ok (.getfield 19, 3) := by decide +kernel
theorem dX5_readRoad_41 : decode cX5_readRoad 41 = .ok (.iconst 0, 1) := by decide +kernel
theorem dX5_readRoad_42 : decode cX5_readRoad 42 = .ok (.aload_n 0, 1) := by decide +kernel
theorem dX5_readRoad_43 : decode cX5_readRoad 43 = .ok (.getfield 47, 3) := by decide +kernel
theorem dX5_readRoad_46 : decode cX5_readRoad 46 = .ok (.getfield 244, 3) := by decide +kernel
theorem dX5_readRoad_49 : decode cX5_readRoad 49 = .ok (.iconst 1, 1) := by decide +kernel
theorem dX5_readRoad_50 : decode cX5_readRoad 50 = .ok (.isub, 1) := by decide +kernel
theorem dX5_readRoad_51 : decode cX5_readRoad 51 = .ok (.invokevirtual 350, 3) := by decide +kernel
theorem dX5_readRoad_54 : decode cX5_readRoad 54 = .ok (.istore_n 1, 1) := by decide +kernel
theorem dX5_readRoad_55 : decode cX5_readRoad 55 = .ok (.aload_n 0, 1) := by decide +kernel
theorem dX5_readRoad_56 : decode cX5_readRoad 56 = .ok (.getfield 19, 3) := by decide +kernel
theorem dX5_readRoad_59 : decode cX5_readRoad 59 = .ok (.bipush 44, 2) := by decide +kernel
theorem dX5_readRoad_61 : decode cX5_readRoad 61 = .ok (.invokevirtual 347, 3) := by decide +kernel
theorem dX5_readRoad_64 : decode cX5_readRoad 64 = .ok (.aload_n 0, 1) := by decide +kernel
theorem dX5_readRoad_65 : decode cX5_readRoad 65 = .ok (.getfield 19, 3) := by decide +kernel
theorem dX5_readRoad_68 : decode cX5_readRoad 68 = .ok (.getfield 361, 3) := by decide +kernel
theorem dX5_readRoad_71 : decode cX5_readRoad 71 = .ok (.istore_n 2, 1) := by decide +kernel
theorem dX5_readRoad_72 : decode cX5_readRoad 72 = .ok (.aload_n 0, 1) := by decide +kernel
theorem dX5_readRoad_73 : decode cX5_readRoad 73 = .ok (.getfield 19, 3) := by decide +kernel
theorem dX5_readRoad_76 : decode cX5_readRoad 76 = .ok (.iconst 0, 1) := by decide +kernel
theorem dX5_readRoad_77 : decode cX5_readRoad 77 = .ok (.aload_n 0, 1) := by decide +kernel
theorem dX5_readRoad_78 : decode cX5_readRoad 78 = .ok (.getfield 47, 3) := by decide +kernel
theorem dX5_readRoad_81 : decode cX5_readRoad 81 = .ok (.getfield 244, 3) := by decide +kernel
theorem dX5_readRoad_84 : decode cX5_readRoad 84 = .ok (.iconst 1, 1) := by decide +kernel
theorem dX5_readRoad_85 : decode cX5_readRoad 85 = .ok (.isub, 1) := by decide +kernel
theorem dX5_readRoad_86 : decode cX5_readRoad 86 = .ok (.invokevirtual 350, 3) := by decide +kernel
theorem dX5_readRoad_89 : decode cX5_readRoad 89 = .ok (.istore_n 3, 1) := by decide +kernel
theorem dX5_readRoad_90 : decode cX5_readRoad 90 = .ok (.aload_n 0, 1) := by decide +kernel
theorem dX5_readRoad_91 : decode cX5_readRoad 91 = .ok (.getfield 19, 3) := by decide +kernel
theorem dX5_readRoad_94 : decode cX5_readRoad 94 = .ok (.getfield 126, 3) := by decide +kernel
theorem dX5_readRoad_97 : decode cX5_readRoad 97 = .ok (.ifCond .ne 24, 3) := by decide +kernel
theorem dX5_readRoad_100 : decode cX5_readRoad 100 = .ok (.aload_n 0, 1) := by decide +kernel
theorem dX5_readRoad_101 : decode cX5_readRoad 101 = .ok (.getfield 47, 3) := by decide +kernel
theorem dX5_readRoad_104 : decode cX5_readRoad 104 = .ok (.iload_n 1, 1) := by decide +kernel
theorem dX5_readRoad_105 : decode cX5_readRoad 105 = .ok (.iload_n 3, 1) := by decide +kernel
theorem dX5_readRoad_106 : decode cX5_readRoad 106 = .ok (.invokevirtual 367, 3) := by decide +kernel
theorem dX5_readRoad_109 : decode cX5_readRoad 109 = .ok (.ifCond .ne 12, 3) := by decide +kernel
theorem dX5_readRoad_112 : decode cX5_readRoad 112 = .ok (.aload_n 0, 1) := by decide +kernel
theorem dX5_readRoad_113 : decode cX5_readRoad 113 = .ok (.getfield 19, 3) := by decide +kernel
theorem dX5_readRoad_116 : decode cX5_readRoad 116 = .ok (.iconst 2, 1) := by decide +kernel
theorem dX5_readRoad_117 : decode cX5_readRoad 117 = .ok (.iload_n 2, 1) := by decide +kernel
theorem dX5_readRoad_118 : decode cX5_readRoad 118 = .ok (.invokevirtual 364, 3) := by decide +kernel
theorem dX5_readRoad_121 : decode cX5_readRoad 121 = .ok (.aload_n 0, 1) := by decide +kernel
theorem dX5_readRoad_122 : decode cX5_readRoad 122 = .ok (.getfield 19, 3) := by decide +kernel
theorem dX5_readRoad_125 : decode cX5_readRoad 125 = .ok (.bipush 59, 2) := by decide +kernel
theorem dX5_readRoad_127 : decode cX5_readRoad 127 = .ok (.invokevirtual 347, 3) := by decide +kernel
theorem dX5_readRoad_130 : decode cX5_readRoad 130 = .ok (.return_, 1) := by decide +kernel
theorem dX5_readWisher_0 : decode cX5_readWisher 0 = .ok (.iload_n 1, 1) := by decide +kernel
theorem dX5_readWisher_1 : decode cX5_readWisher 1 = .ok (.ifCond .ne 19, 3) := by decide +kernel
theorem dX5_readWisher_4 : decode cX5_readWisher 4 = .ok (.aload_n 0, 1) := by decide +kernel
theorem dX5_readWisher_5 : decode cX5_readWisher 5 = .ok (.getfield 19, 3) := by decide +kernel
theorem dX5_readWisher_8 : decode cX5_readWisher 8 = .ok (.iconst 1, 1) := by decide +kernel
theorem dX5_readWisher_9 : decode cX5_readWisher 9 = .ok (.aload_n 0, 1) := by decide +kernel
theorem dX5_readWisher_10 : decode cX5_readWisher 10 = .ok (.getfield 19, 3) := by decide +kernel
theorem dX5_readWisher_13 : decode cX5_readWisher 13 = .ok (.getfield 361, 3) := by decide +kernel
theorem dX5_readWisher_16 : decode cX5_readWisher 16 = .ok (.invokevirtual 364, 3) := by decide +kernel
theorem dX5_readWisher_19 : decode cX5_readWisher 19 = .ok (.return_, 1) := by decide +kernel
theorem dX5_readWisher_20 : decode cX5_readWisher 20 = .ok (.aload_n 0, 1) := by decide +kernel
theorem dX5_readWisher_21 : decode cX5_readWisher 21 = .ok (.getfield 47, 3) := by decide +kernel
theorem dX5_readWisher_24 : decode cX5_readWisher 24 = .ok (.getfield 146, 3) := by decide +kernel
theorem dX5_readWisher_27 : decode cX5_readWisher 27 = .ok (.istore_n 2, 1) := by decide +kernel
theorem dX5_readWisher_28 : decode cX5_readWisher 28 = .ok (.iload_n 2, 1) := by decide +kernel
theorem dX5_readWisher_29 : decode cX5_readWisher 29 = .ok (.bipush 6, 2) := by decide +kernel
theorem dX5_readWisher_31 : decode cX5_readWisher 31 = .ok (.if_icmp .lt 19, 3) := by decide +kernel
theorem dX5_readWisher_34 : decode cX5_readWisher 34 = .ok (.aload_n 0, 1) := by decide +kernel
theorem dX5_readWisher_35 : decode cX5_readWisher 35 = .ok (.getfield 19, 3) := by decide +kernel
theorem dX5_readWisher_38 : decode cX5_readWisher 38 = .ok (.iconst 3, 1) := by decide +kernel
theorem dX5_readWisher_39 : decode cX5_readWisher 39 = .ok (.aload_n 0, 1) := by decide +kernel
theorem dX5_readWisher_40 : decode cX5_readWisher 40 = .ok (.getfield 19, 3) := by decide +kernel
theorem dX5_readWisher_43 : decode cX5_readWisher 43 = .ok (.getfield 361, 3) := by decide +kernel
theorem dX5_readWisher_46 : decode cX5_readWisher 46 = .ok (.invokevirtual 364, 3) := by decide +kernel
theorem dX5_readWisher_49 : decode cX5_readWisher 49 = .ok (.return_, 1) := by decide +kernel
theorem dX5_readWisher_50 : decode cX5_readWisher 50 = .ok (.aload_n 0, 1) := by decide +kernel
theorem dX5_readWisher_51 : decode cX5_readWisher 51 = .ok (.getfield 19, 3) := by decide +kernel
theorem dX5_readWisher_54 : decode cX5_readWisher 54 = .ok (.dup, 1) := by decide +kernel
theorem dX5_readWisher_55 : decode cX5_readWisher 55 = .ok (.getfield 361, 3) := by decide +kernel
theorem dX5_readWisher_58 : decode cX5_readWisher 58 = .ok (.iconst 1, 1) := by decide +kernel
theorem dX5_readWisher_59 : decode cX5_readWisher 59 = .ok (.iadd, 1) := by decide +kernel
theorem dX5_readWisher_60 : decode cX5_readWisher 60 = .ok (.putfield 361, 3) := by decide +kernel
theorem dX5_readWisher_63 : decode cX5_readWisher 63 = .ok (.aload_n 0, 1) := by decide +kernel
theorem dX5_readWisher_64 : decode cX5_readWisher 64 = .ok (.getfield 50, 3) := by decide +kernel
theorem dX5_readWisher_67 : decode cX5_readWisher 67 = .ok (.getfield 287, 3) := by decide +kernel
theorem dX5_readWisher_70 : decode cX5_readWisher 70 = .ok (.iload_n 2, 1) := by decide +kernel
theorem dX5_readWisher_71 : decode cX5_readWisher 71 = .ok (.iload_n 1, 1) := by decide +kernel
theorem dX5_readWisher_72 : decode cX5_readWisher 72 = .ok (.iastore, 1) := by decide +kernel
theorem dX5_readWisher_73 : decode cX5_readWisher 73 = .ok (.aload_n 0, 1) := by decide +kernel
theorem dX5_readWisher_74 : decode cX5_readWisher 74 = .ok (.getfield 47, 3) := by decide +kernel
theorem dX5_readWisher_77 : decode cX5_readWisher 77 = .ok (.getfield 196, 3) := by decide +kernel
theorem dX5_readWisher_80 : decode cX5_readWisher 80 = .ok (.iload_n 2, 1) := by decide +kernel
theorem dX5_readWisher_81 : decode cX5_readWisher 81 = .ok (.aload_n 0, 1) := by decide +kernel
theorem dX5_readWisher_82 : decode cX5_readWisher 82 = .ok (.getfield 19, 3) := by decide +kernel
theorem dX5_readWisher_85 : decode cX5_readWisher 85 = .ok (.iconst 0, 1) := by decide +kernel
theorem dX5_readWisher_86 : decode cX5_readWisher 86 = .ok (.aload_n 0, 1) := by decide +kernel
theorem dX5_readWisher_87 : decode cX5_readWisher 87 = .ok (.getfield 47, 3) := by decide +kernel
theorem dX5_readWisher_90 : decode cX5_readWisher 90 = .ok (.getfield 244, 3) := by decide +kernel
theorem dX5_readWisher_93 : decode cX5_readWisher 93 = .ok (.iconst 1, 1) := by decide +kernel
theorem dX5_readWisher_94 : decode cX5_readWisher 94 = .ok (.isub, 1) := by decide +kernel
theorem dX5_readWisher_95 : decode cX5_readWisher 95 = .ok (.invokevirtual 350, 3) := by decide +kernel
theorem dX5_readWisher_98 : decode cX5_readWisher 98 = .ok (.iastore, 1) := by decide +kernel
theorem dX5_readWisher_99 : decode cX5_readWisher 99 = .ok (.aload_n 0, 1) := by decide +kernel
theorem dX5_readWisher_100 : decode cX5_readWisher 100 = .ok (.getfield 19, 3) := by decide +kernel
theorem dX5_readWisher_103 : decode cX5_readWisher 103 = .ok (.bipush 44, 2) := by decide +kernel
theorem dX5_readWisher_105 : decode cX5_readWisher 105 = .ok (.invokevirtual 347, 3) := by decide +kernel
theorem dX5_readWisher_108 : decode cX5_readWisher 108 = .ok (.aload_n 0, 1) := by decide +kernel
theorem dX5_readWisher_109 : decode cX5_readWisher 109 = .ok (.getfield 50, 3) := by decide +kernel
theorem dX5_readWisher_112 : decode cX5_readWisher 112 = .ok (.getfield 178, 3) := by decide +kernel
theorem dX5_readWisher_115 : decode cX5_readWisher 115 = .ok (.iload_n 2, 1) := by decide +kernel
theorem dX5_readWisher_116 : decode cX5_readWisher 116 = .ok (.aload_n 0, 1) := by decide +kernel
theorem dX5_readWisher_117 : decode cX5_readWisher 117 = .ok (.getfield 19, 3) := by decide +kernel
theorem dX5_readWisher_120 : decode cX5_readWisher 120 = .ok (.iconst 0, 1) := by decide +kernel
theorem dX5_readWisher_121 : decode cX5_readWisher 121 = .ok (.aload_n 0, 1) := by decide +kernel
theorem dX5_readWisher_122 : decode cX5_readWisher 122 = .ok (.getfield 47, 3) := by decide +kernel
theorem dX5_readWisher_125 : decode cX5_readWisher 125 = .ok (.getfield 244, 3) := by decide +kernel
theorem dX5_readWisher_128 : decode cX5_readWisher 128 = .ok (.iconst 1, 1) := by decide +kernel
theorem dX5_readWisher_129 : decode cX5_readWisher 129 = .ok (.isub, 1) := by decide +kernel
theorem dX5_readWisher_130 : decode cX5_readWisher 130 = .ok (.invokevirtual 350, 3) := by decide +kernel
theorem dX5_readWisher_133 : decode cX5_readWisher 133 = .ok (.iastore, 1) := by decide +kernel
theorem dX5_readWisher_134 : decode cX5_readWisher 134 = .ok (.aload_n 0, 1) := by decide +kernel
theorem dX5_readWisher_135 : decode cX5_readWisher 135 = .ok (.getfield 19, 3) := by decide +kernel
theorem dX5_readWisher_138 : decode cX5_readWisher 138 = .ok (.bipush 44, 2) := by decide +kernel
theorem dX5_readWisher_140 : decode cX5_readWisher 140 = .ok (.invokevirtual 347, 3) := by decide +kernel
theorem dX5_readWisher_143 : decode cX5_readWisher 143 = .ok (.aload_n 0, 1) := by decide +kernel
theorem dX5_readWisher_144 : decode cX5_readWisher 144 = .ok (.getfield 50, 3) := by decide +kernel
theorem dX5_readWisher_147 : decode cX5_readWisher 147 = .ok (.getfield 181, 3) := by decide +kernel
theorem dX5_readWisher_150 : decode cX5_readWisher 150 = .ok (.iload_n 2, 1) := by decide +kernel
theorem dX5_readWisher_151 : decode cX5_readWisher 151 = .ok (.aload_n 0, 1) := by decide +kernel
theorem dX5_readWisher_152 : decode cX5_readWisher 152 = .ok (.getfield 19, 3) := by decide +kernel
theorem dX5_readWisher_155 : decode cX5_readWisher 155 = .ok (.iconst 0, 1) := by decide +kernel
theorem dX5_readWisher_156 : decode cX5_readWisher 156 = .ok (.bipush 40, 2) := by decide +kernel
theorem dX5_readWisher_158 : decode cX5_readWisher 158 = .ok (.invokevirtual 350, 3) := by decide +kernel
theorem dX5_readWisher_161 : decode cX5_readWisher 161 = .ok (.iastore, 1) := by decide +kernel
theorem dX5_readWisher_162 : decode cX5_readWisher 162 = .ok (.aload_n 0, 1) := by decide +kernel
theorem dX5_readWisher_163 : decode cX5_readWisher 163 = .ok (.getfield 19, 3) := by decide +kernel
theorem dX5_readWisher_166 : decode cX5_readWisher 166 = .ok (.bipush 44, 2) := by decide +kernel
theorem dX5_readWisher_168 : decode cX5_readWisher 168 = .ok (.invokevirtual 347, 3) := by decide +kernel
theorem dX5_readWisher_171 : decode cX5_readWisher 171 = .ok (.aload_n 0, 1) := by decide +kernel
theorem dX5_readWisher_172 : decode cX5_readWisher 172 = .ok (.getfield 47, 3) := by decide +kernel
theorem dX5_readWisher_175 : decode cX5_readWisher 175 = .ok (.getfield 370, 3) := by decide +kernel
theorem dX5_readWisher_178 : decode cX5_readWisher 178 = .ok (.iload_n 2, 1) := by decide +kernel
theorem dX5_readWisher_179 : decode cX5_readWisher 179 = .ok (.aload_n 0, 1) := by decide +kernel
theorem dX5_readWisher_180 : decode cX5_readWisher 180 = .ok (.getfield 19, 3) := by decide +kernel
theorem dX5_readWisher_183 : decode cX5_readWisher 183 = .ok (.iconst 0, 1) := by decide +kernel
theorem dX5_readWisher_184 : decode cX5_readWisher 184 = .ok (.iconst 5, 1) := by decide +kernel
theorem dX5_readWisher_185 : decode cX5_readWisher 185 = .ok (.invokevirtual 350, 3) := by decide +kernel
theorem dX5_readWisher_188 : decode cX5_readWisher 188 = .ok (.iastore, 1) := by decide +kernel
theorem dX5_readWisher_189 : decode cX5_readWisher 189 = .ok (.aload_n 0, 1) := by decide +kernel
theorem dX5_readWisher_190 : decode cX5_readWisher 190 = .ok (.getfield 19, 3) := by decide +kernel
theorem dX5_readWisher_193 : decode cX5_readWisher 193 = .ok (.bipush 44, 2) := by decide +kernel
theorem dX5_readWisher_195 : decode cX5_readWisher 195 = .ok (.invokevirtual 347, 3) := by decide +kernel
theorem dX5_readWisher_198 : decode cX5_readWisher 198 = .ok (.aload_n 0, 1) := by decide +kernel
theorem dX5_readWisher_199 : decode cX5_readWisher 199 = .ok (.getfield 47, 3) := by decide +kernel
theorem dX5_readWisher_202 : decode cX5_readWisher 202 = .ok (.getfield 373, 3) := by decide +kernel
theorem dX5_readWisher_205 : decode cX5_readWisher 205 = .ok (.iload_n 2, 1) := by decide +kernel
theorem dX5_readWisher_206 : decode cX5_readWisher 206 = .ok (.aload_n 0, 1) := by decide +kernel
theorem dX5_readWisher_207 : decode cX5_readWisher 207 = .ok (.getfield 19, 3) := by decide +kernel
theorem dX5_readWisher_210 : decode cX5_readWisher 210 = .ok (.iconst 1, 1) := by decide +kernel
theorem dX5_readWisher_211 : decode cX5_readWisher 211 = .ok (.bipush 6, 2) := by decide +kernel
theorem dX5_readWisher_213 : decode cX5_readWisher 213 = .ok (.invokevirtual 350, 3) := by decide +kernel
theorem dX5_readWisher_216 : decode cX5_readWisher 216 = .ok (.iastore, 1) := by decide +kernel
theorem dX5_readWisher_217 : decode cX5_readWisher 217 = .ok (.aload_n 0, 1) := by decide +kernel
theorem dX5_readWisher_218 : decode cX5_readWisher 218 = .ok (.getfield 19, 3) := by decide +kernel
theorem dX5_readWisher_221 : decode cX5_readWisher 221 = .ok (.bipush 59, 2) := by decide +kernel
theorem dX5_readWisher_223 : decode cX5_readWisher 223 = .ok (.invokevirtual 347, 3) := by decide +kernel
theorem dX5_readWisher_226 : decode cX5_readWisher 226 = .ok (.aload_n 0, 1) := by decide +kernel
theorem dX5_readWisher_227 : decode cX5_readWisher 227 = .ok (.getfield 47, 3) := by decide +kernel
theorem dX5_readWisher_230 : decode cX5_readWisher 230 = .ok (.dup, 1) := by decide +kernel
theorem dX5_readWisher_231 : decode cX5_readWisher 231 = .ok (.getfield 146, 3) := by decide +kernel
theorem dX5_readWisher_234 : decode cX5_readWisher 234 = .ok (.iconst 1, 1) := by decide +kernel
theorem dX5_readWisher_235 : decode cX5_readWisher 235 = .ok (.iadd, 1) := by decide +kernel
theorem dX5_readWisher_236 : decode cX5_readWisher 236 = .ok (.putfield 146, 3) := by decide +kernel
theorem dX5_readWisher_239 : decode cX5_readWisher 239 = .ok (.return_, 1) := by decide +kernel
theorem dX5_sortOf_0 : decode cX5_sortOf 0 = .ok (.iload_n 0, 1) := by decide +kernel
theorem dX5_sortOf_1 : decode cX5_sortOf 1 = .ok (.lookupswitch 61 #[(97, 51), (98, 59), (107, 57), (116, 55), (119, 53)], 51) := by decide +kernel
theorem dX5_sortOf_52 : decode cX5_sortOf 52 = .ok (.iconst 1, 1) := by decide +kernel
theorem dX5_sortOf_53 : decode cX5_sortOf 53 = .ok (.ireturn, 1) := by decide +kernel
theorem dX5_sortOf_54 : decode cX5_sortOf 54 = .ok (.iconst 2, 1) := by decide +kernel
theorem dX5_sortOf_55 : decode cX5_sortOf 55 = .ok (.ireturn, 1) := by decide +kernel
theorem dX5_sortOf_56 : decode cX5_sortOf 56 = .ok (.iconst 3, 1) := by decide +kernel
theorem dX5_sortOf_57 : decode cX5_sortOf 57 = .ok (.ireturn, 1) := by decide +kernel
theorem dX5_sortOf_58 : decode cX5_sortOf 58 = .ok (.iconst 4, 1) := by decide +kernel
theorem dX5_sortOf_59 : decode cX5_sortOf 59 = .ok (.ireturn, 1) := by decide +kernel
theorem dX5_sortOf_60 : decode cX5_sortOf 60 = .ok (.iconst 5, 1) := by decide +kernel
theorem dX5_sortOf_61 : decode cX5_sortOf 61 = .ok (.ireturn, 1) := by decide +kernel
theorem dX5_sortOf_62 : decode cX5_sortOf 62 = .ok (.iconst 0, 1) := by decide +kernel
theorem dX5_sortOf_63 : decode cX5_sortOf 63 = .ok (.ireturn, 1) := by decide +kernel
theorem dX5_isA_0 : decode cX5_isA 0 = .ok (.iload_n 1, 1) := by decide +kernel
theorem dX5_isA_1 : decode cX5_isA 1 = .ok (.tableswitch 74 0 4 #[35, 37, 74, 74, 58], 35) := by decide +kernel
theorem dX5_isA_36 : decode cX5_isA 36 = .ok (.iconst 1, 1) := by decide +kernel
theorem dX5_isA_37 : decode cX5_isA 37 = .ok (.ireturn, 1) := by decide +kernel
theorem dX5_isA_38 : decode cX5_isA 38 = .ok (.iload_n 0, 1) := by decide +kernel
theorem dX5_isA_39 : decode cX5_isA 39 = .ok (.iconst 1, 1) := by decide +kernel
theorem dX5_isA_40 : decode cX5_isA 40 = .ok (.if_icmp .eq 13, 3) := by decide +kernel
theorem dX5_isA_43 : decode cX5_isA 43 = .ok (.iload_n 0, 1) := by decide +kernel
theorem dX5_isA_44 : decode cX5_isA 44 = .ok (.iconst 2, 1) := by decide +kernel
theorem dX5_isA_45 : decode cX5_isA 45 = .ok (.if_icmp .eq 8, 3) := by decide +kernel
theorem dX5_isA_48 : decode cX5_isA 48 = .ok (.iload_n 0, 1) := by decide +kernel
theorem dX5_isA_49 : decode cX5_isA 49 = .ok (.iconst 3, 1) := by decide +kernel
theorem dX5_isA_50 : decode cX5_isA 50 = .ok (.if_icmp .ne 7, 3) := by decide +kernel
theorem dX5_isA_53 : decode cX5_isA 53 = .ok (.iconst 1, 1) := by decide +kernel
theorem dX5_isA_54 : decode cX5_isA 54 = .ok (.goto 4, 3) := by decide +kernel
theorem dX5_isA_57 : decode cX5_isA 57 = .ok (.iconst 0, 1) := by decide +kernel
theorem dX5_isA_58 : decode cX5_isA 58 = .ok (.ireturn, 1) := by decide +kernel
theorem dX5_isA_59 : decode cX5_isA 59 = .ok (.iload_n 0, 1) := by decide +kernel
theorem dX5_isA_60 : decode cX5_isA 60 = .ok (.iconst 4, 1) := by decide +kernel
theorem dX5_isA_61 : decode cX5_isA 61 = .ok (.if_icmp .eq 8, 3) := by decide +kernel
theorem dX5_isA_64 : decode cX5_isA 64 = .ok (.iload_n 0, 1) := by decide +kernel
theorem dX5_isA_65 : decode cX5_isA 65 = .ok (.iconst 5, 1) := by decide +kernel
theorem dX5_isA_66 : decode cX5_isA 66 = .ok (.if_icmp .ne 7, 3) := by decide +kernel
theorem dX5_isA_69 : decode cX5_isA 69 = .ok (.iconst 1, 1) := by decide +kernel
theorem dX5_isA_70 : decode cX5_isA 70 = .ok (.goto 4, 3) := by decide +kernel
theorem dX5_isA_73 : decode cX5_isA 73 = .ok (.iconst 0, 1) := by decide +kernel
theorem dX5_isA_74 : decode cX5_isA 74 = .ok (.ireturn, 1) := by decide +kernel
theorem dX5_isA_75 : decode cX5_isA 75 = .ok (.iload_n 0, 1) := by decide +kernel
theorem dX5_isA_76 : decode cX5_isA 76 = .ok (.iload_n 1, 1) := by decide +kernel
theorem dX5_isA_77 : decode cX5_isA 77 = .ok (.if_icmp .ne 7, 3) := by decide +kernel
theorem dX5_isA_80 : decode cX5_isA 80 = .ok (.iconst 1, 1) := by decide +kernel
theorem dX5_isA_81 : decode cX5_isA 81 = .ok (.goto 4, 3) := by decide +kernel
theorem dX5_isA_84 : decode cX5_isA 84 = .ok (.iconst 0, 1) := by decide +kernel
theorem dX5_isA_85 : decode cX5_isA 85 = .ok (.ireturn, 1) := by decide +kernel
theorem dX5_leave_0 : decode cX5_leave 0 = .ok (.aload_n 0, 1) := by decide +kernel
theorem dX5_leave_1 : decode cX5_leave 1 = .ok (.getfield 294, 3) := by decide +kernel
theorem dX5_leave_4 : decode cX5_leave 4 = .ok (.bipush 16, 2) := by decide +kernel
theorem dX5_leave_6 : decode cX5_leave 6 = .ok (.if_icmp .ge 23, 3) := by decide +kernel
theorem dX5_leave_9 : decode cX5_leave 9 = .ok (.aload_n 0, 1) := by decide +kernel
theorem dX5_leave_10 : decode cX5_leave 10 = .ok (.getfield 65, 3) := by decide +kernel
theorem dX5_leave_13 : decode cX5_leave 13 = .ok (.aload_n 0, 1) := by decide +kernel
theorem dX5_leave_14 : decode cX5_leave 14 = .ok (.getfield 294, 3) := by decide +kernel
theorem dX5_leave_17 : decode cX5_leave 17 = .ok (.iload_n 1, 1) := by decide +kernel
theorem dX5_leave_18 : decode cX5_leave 18 = .ok (.iastore, 1) := by decide +kernel
theorem dX5_leave_19 : decode cX5_leave 19 = .ok (.aload_n 0, 1) := by decide +kernel
theorem dX5_leave_20 : decode cX5_leave 20 = .ok (.dup, 1) := by decide +kernel
theorem dX5_leave_21 : decode cX5_leave 21 = .ok (.getfield 294, 3) := by decide +kernel
theorem dX5_leave_24 : decode cX5_leave 24 = .ok (.iconst 1, 1) := by decide +kernel
theorem dX5_leave_25 : decode cX5_leave 25 = .ok (.iadd, 1) := by decide +kernel
theorem dX5_leave_26 : decode cX5_leave 26 = .ok (.putfield 294, 3) := by decide +kernel
theorem dX5_leave_29 : decode cX5_leave 29 = .ok (.return_, 1) := by decide +kernel
theorem dX5_grownSize_0 : decode cX5_grownSize 0 = .ok (.aload_n 0, 1) := by decide +kernel
theorem dX5_grownSize_1 : decode cX5_grownSize 1 = .ok (.getfield 33, 3) := by decide +kernel
theorem dX5_grownSize_4 : decode cX5_grownSize 4 = .ok (.getfield 287, 3) := by decide +kernel
theorem dX5_grownSize_7 : decode cX5_grownSize 7 = .ok (.iload_n 1, 1) := by decide +kernel
theorem dX5_grownSize_8 : decode cX5_grownSize 8 = .ok (.iaload, 1) := by decide +kernel
theorem dX5_grownSize_9 : decode cX5_grownSize 9 = .ok (.iconst 2, 1) := by decide +kernel
theorem dX5_grownSize_10 : decode cX5_grownSize 10 = .ok (.if_icmp .ne 16, 3) := by decide +kernel
theorem dX5_grownSize_13 : decode cX5_grownSize 13 = .ok (.aload_n 0, 1) := by decide +kernel
theorem dX5_grownSize_14 : decode cX5_grownSize 14 = .ok (.bipush 12, 2) := by decide +kernel
theorem dX5_grownSize_16 : decode cX5_grownSize 16 = .ok (.invokevirtual 376, 3) := by decide +kernel
theorem dX5_grownSize_19 : decode cX5_grownSize 19 = .ok (.aload_n 0, 1) := by decide +kernel
theorem dX5_grownSize_20 : decode cX5_grownSize 20 = .ok (.iload_n 1, 1) := by decide +kernel
theorem dX5_grownSize_21 : decode cX5_grownSize 21 = .ok (.invokevirtual 379, 3) := by decide +kernel
theorem dX5_grownSize_24 : decode cX5_grownSize 24 = .ok (.ineg, 1) := by decide +kernel
theorem dX5_grownSize_25 : decode cX5_grownSize 25 = .ok (.ireturn, 1) := by decide +kernel
theorem dX5_grownSize_26 : decode cX5_grownSize 26 = .ok (.aload_n 0, 1) := by decide +kernel
theorem dX5_grownSize_27 : decode cX5_grownSize 27 = .ok (.iload_n 1, 1) := by decide +kernel
theorem dX5_grownSize_28 : decode cX5_grownSize 28 = .ok (.invokevirtual 379, 3) := by decide +kernel
theorem dX5_grownSize_31 : decode cX5_grownSize 31 = .ok (.ireturn, 1) := by decide +kernel
theorem dX5_sizeOfGrown_0 : decode cX5_sizeOfGrown 0 = .ok (.aload_n 0, 1) := by decide +kernel
theorem dX5_sizeOfGrown_1 : decode cX5_sizeOfGrown 1 = .ok (.bipush 11, 2) := by decide +kernel
theorem dX5_sizeOfGrown_3 : decode cX5_sizeOfGrown 3 = .ok (.invokevirtual 376, 3) := by decide +kernel
theorem dX5_sizeOfGrown_6 : decode cX5_sizeOfGrown 6 = .ok (.aload_n 0, 1) := by decide +kernel
theorem dX5_sizeOfGrown_7 : decode cX5_sizeOfGrown 7 = .ok (.iload_n 1, 1) := by decide +kernel
theorem dX5_sizeOfGrown_8 : decode cX5_sizeOfGrown 8 = .ok (.invokevirtual 382, 3) := by decide +kernel
theorem dX5_sizeOfGrown_11 : decode cX5_sizeOfGrown 11 = .ok (.istore_n 2, 1) := by decide +kernel
theorem dX5_sizeOfGrown_12 : decode cX5_sizeOfGrown 12 = .ok (.iload_n 2, 1) := by decide +kernel
theorem dX5_sizeOfGrown_13 : decode cX5_sizeOfGrown 13 = .ok (.aload_n 0, 1) := by decide +kernel
theorem dX5_sizeOfGrown_14 : decode cX5_sizeOfGrown 14 = .ok (.iload_n 1, 1) := by decide +kernel
theorem dX5_sizeOfGrown_15 : decode cX5_sizeOfGrown 15 = .ok (.invokevirtual 303, 3) := by decide +kernel
theorem dX5_sizeOfGrown_18 : decode cX5_sizeOfGrown 18 = .ok (.iadd, 1) := by decide +kernel
theorem dX5_sizeOfGrown_19 : decode cX5_sizeOfGrown 19 = .ok (.ireturn, 1) := by decide +kernel
theorem dX5_childSize_0 : decode cX5_childSize 0 = .ok (.aload_n 0, 1) := by decide +kernel
theorem dX5_childSize_1 : decode cX5_childSize 1 = .ok (.getfield 33, 3) := by decide +kernel
theorem dX5_childSize_4 : decode cX5_childSize 4 = .ok (.getfield 287, 3) := by decide +kernel
theorem dX5_childSize_7 : decode cX5_childSize 7 = .ok (.iload_n 1, 1) := by decide +kernel
theorem dX5_childSize_8 : decode cX5_childSize 8 = .ok (.iaload, 1) := by decide +kernel
theorem dX5_childSize_9 : decode cX5_childSize 9 = .ok (.iconst 5, 1) := by decide +kernel
theorem dX5_childSize_10 : decode cX5_childSize 10 = .ok (.if_icmp .ne 17, 3) := by decide +kernel
theorem dX5_childSize_13 : decode cX5_childSize 13 = .ok (.aload_n 0, 1) := by decide +kernel
theorem dX5_childSize_14 : decode cX5_childSize 14 = .ok (.bipush 14, 2) := by decide +kernel
theorem dX5_childSize_16 : decode cX5_childSize 16 = .ok (.invokevirtual 376, 3) := by decide +kernel
theorem dX5_childSize_19 : decode cX5_childSize 19 = .ok (.iconst 2, 1) := by decide +kernel
theorem dX5_childSize_20 : decode cX5_childSize 20 = .ok (.aload_n 0, 1) := by decide +kernel
theorem dX5_childSize_21 : decode cX5_childSize 21 = .ok (.iload_n 1, 1) := by decide +kernel
theorem dX5_childSize_22 : decode cX5_childSize 22 = .ok (.invokevirtual 385, 3) := by decide +kernel
theorem dX5_childSize_25 : decode cX5_childSize 25 = .ok (.imul, 1) := by decide +kernel
theorem dX5_childSize_26 : decode cX5_childSize 26 = .ok (.ireturn, 1) := by decide +kernel
theorem dX5_childSize_27 : decode cX5_childSize 27 = .ok (.aload_n 0, 1) := by decide +kernel
theorem dX5_childSize_28 : decode cX5_childSize 28 = .ok (.iload_n 1, 1) := by decide +kernel
theorem dX5_childSize_29 : decode cX5_childSize 29 = .ok (.invokevirtual 385, 3) := by decide +kernel
theorem dX5_childSize_32 : decode cX5_childSize 32 = .ok (.ireturn, 1) := by decide +kernel
theorem dX5_sizeOfChild_0 : decode cX5_sizeOfChild 0 = .ok (.aload_n 0, 1) := by decide +kernel
theorem dX5_sizeOfChild_1 : decode cX5_sizeOfChild 1 = .ok (.bipush 13, 2) := by decide +kernel
theorem dX5_sizeOfChild_3 : decode cX5_sizeOfChild 3 = .ok (.invokevirtual 376, 3) := by decide +kernel
theorem dX5_sizeOfChild_6 : decode cX5_sizeOfChild 6 = .ok (.aload_n 0, 1) := by decide +kernel
theorem dX5_sizeOfChild_7 : decode cX5_sizeOfChild 7 = .ok (.iload_n 1, 1) := by decide +kernel
theorem dX5_sizeOfChild_8 : decode cX5_sizeOfChild 8 = .ok (.invokevirtual 382, 3) := by decide +kernel
theorem dX5_sizeOfChild_11 : decode cX5_sizeOfChild 11 = .ok (.bipush 100, 2) := by decide +kernel
theorem dX5_sizeOfChild_13 : decode cX5_sizeOfChild 13 = .ok (.isub, 1) := by decide +kernel
theorem dX5_sizeOfChild_14 : decode cX5_sizeOfChild 14 = .ok (.ireturn, 1) := by decide +kernel
theorem dX5_lentSize_0 : decode cX5_lentSize 0 = .ok (.aload_n 0, 1) := by decide +kernel
theorem dX5_lentSize_1 : decode cX5_lentSize 1 = .ok (.bipush 10, 2) := by decide +kernel
theorem dX5_lentSize_3 : decode cX5_lentSize 3 = .ok (.invokevirtual 376, 3) := by decide +kernel
theorem dX5_lentSize_6 : decode cX5_lentSize 6 = .ok (.aload_n 0, 1) := by decide +kernel
theorem dX5_lentSize_7 : decode cX5_lentSize 7 = .ok (.getfield 33, 3) := by decide +kernel
theorem dX5_lentSize_10 : decode cX5_lentSize 10 = .ok (.getfield 181, 3) := by decide +kernel
theorem dX5_lentSize_13 : decode cX5_lentSize 13 = .ok (.iload_n 1, 1) := by decide +kernel
theorem dX5_lentSize_14 : decode cX5_lentSize 14 = .ok (.iaload, 1) := by decide +kernel
theorem dX5_lentSize_15 : decode cX5_lentSize 15 = .ok (.ireturn, 1) := by decide +kernel
theorem dX5_grownMark_0 : decode cX5_grownMark 0 = .ok (.aload_n 0, 1) := by decide +kernel
theorem dX5_grownMark_1 : decode cX5_grownMark 1 = .ok (.getfield 33, 3) := by decide +kernel
theorem dX5_grownMark_4 : decode cX5_grownMark 4 = .ok (.getfield 287, 3) := by decide +kernel
theorem dX5_grownMark_7 : decode cX5_grownMark 7 = .ok (.iload_n 1, 1) := by decide +kernel
theorem dX5_grownMark_8 : decode cX5_grownMark 8 = .ok (.iaload, 1) := by decide +kernel
theorem dX5_grownMark_9 : decode cX5_grownMark 9 = .ok (.lookupswitch 57 #[(2, 27), (3, 41)], 27) := by decide +kernel
theorem dX5_grownMark_36 : decode cX5_grownMark 36 = .ok (.aload_n 0, 1) := by decide +kernel
theorem dX5_grownMark_37 : decode cX5_grownMark 37 = .ok (.bipush 24, 2) := by decide +kernel
theorem dX5_grownMark_39 : decode cX5_grownMark 39 = .ok (.invokevirtual 376, 3) := by decide +kernel
theorem dX5_grownMark_42 : decode cX5_grownMark 42 = .ok (.iconst 2, 1) := by decide +kernel
theorem dX5_grownMark_43 : decode cX5_grownMark 43 = .ok (.aload_n 0, 1) := by decide +kernel
theorem dX5_grownMark_44 : decode cX5_grownMark 44 = .ok (.iload_n 1, 1) := by decide +kernel
theorem dX5_grownMark_45 : decode cX5_grownMark 45 = .ok (.invokevirtual 388, 3) := by decide +kernel
theorem dX5_grownMark_48 : decode cX5_grownMark 48 = .ok (.imul, 1) := by decide +kernel
theorem dX5_grownMark_49 : decode cX5_grownMark 49 = .ok (.ireturn, 1) := by decide +kernel
theorem dX5_grownMark_50 : decode cX5_grownMark 50 = .ok (.aload_n 0, 1) := by decide +kernel
theorem dX5_grownMark_51 : decode cX5_grownMark 51 = .ok (.bipush 22, 2) := by decide +kernel
theorem dX5_grownMark_53 : decode cX5_grownMark 53 = .ok (.invokevirtual 376, 3) := by decide +kernel
theorem dX5_grownMark_56 : decode cX5_grownMark 56 = .ok (.aload_n 0, 1) := by decide +kernel
theorem dX5_grownMark_57 : decode cX5_grownMark 57 = .ok (.iload_n 1, 1) := by decide +kernel
theorem dX5_grownMark_58 : decode cX5_grownMark 58 = .ok (.invokevirtual 388, 3) := by decide +kernel
theorem dX5_grownMark_61 : decode cX5_grownMark 61 = .ok (.sipush 1000, 3) := by decide +kernel
theorem dX5_grownMark_64 : decode cX5_grownMark 64 = .ok (.isub, 1) := by decide +kernel
theorem dX5_grownMark_65 : decode cX5_grownMark 65 = .ok (.ireturn, 1) := by decide +kernel
theorem dX5_grownMark_66 : decode cX5_grownMark 66 = .ok (.aload_n 0, 1) := by decide +kernel
theorem dX5_grownMark_67 : decode cX5_grownMark 67 = .ok (.iload_n 1, 1) := by decide +kernel
theorem dX5_grownMark_68 : decode cX5_grownMark 68 = .ok (.invokevirtual 388, 3) := by decide +kernel
theorem dX5_grownMark_71 : decode cX5_grownMark 71 = .ok (.ireturn, 1) := by decide +kernel
theorem dX5_markOfGrown_0 : decode cX5_markOfGrown 0 = .ok (.aload_n 0, 1) := by decide +kernel
theorem dX5_markOfGrown_1 : decode cX5_markOfGrown 1 = .ok (.bipush 21, 2) := by decide +kernel
theorem dX5_markOfGrown_3 : decode cX5_markOfGrown 3 = .ok (.invokevirtual 376, 3) := by decide +kernel
theorem dX5_markOfGrown_6 : decode cX5_markOfGrown 6 = .ok (.aload_n 0, 1) := by decide +kernel
theorem dX5_markOfGrown_7 : decode cX5_markOfGrown 7 = .ok (.iload_n 1, 1) := by decide +kernel
theorem dX5_markOfGrown_8 : decode cX5_markOfGrown 8 = .ok (.invokevirtual 391, 3) := by decide +kernel
theorem dX5_markOfGrown_11 : decode cX5_markOfGrown 11 = .ok (.aload_n 0, 1) := by decide +kernel
theorem dX5_markOfGrown_12 : decode cX5_markOfGrown 12 = .ok (.getfield 33, 3) := by decide +kernel
theorem dX5_markOfGrown_15 : decode cX5_markOfGrown 15 = .ok (.getfield 199, 3) := by decide +kernel
theorem dX5_markOfGrown_18 : decode cX5_markOfGrown 18 = .ok (.iload_n 1, 1) := by decide +kernel
theorem dX5_markOfGrown_19 : decode cX5_markOfGrown 19 = .ok (.iaload, 1) := by decide +kernel
theorem dX5_markOfGrown_20 : decode cX5_markOfGrown 20 = .ok (.iadd, 1) := by decide +kernel
theorem dX5_markOfGrown_21 : decode cX5_markOfGrown 21 = .ok (.ireturn, 1) := by decide +kernel
theorem dX5_childMark_0 : decode cX5_childMark 0 = .ok (.aload_n 0, 1) := by decide +kernel
theorem dX5_childMark_1 : decode cX5_childMark 1 = .ok (.bipush 23, 2) := by decide +kernel
theorem dX5_childMark_3 : decode cX5_childMark 3 = .ok (.invokevirtual 376, 3) := by decide +kernel
theorem dX5_childMark_6 : decode cX5_childMark 6 = .ok (.aload_n 0, 1) := by decide +kernel
theorem dX5_childMark_7 : decode cX5_childMark 7 = .ok (.iload_n 1, 1) := by decide +kernel
theorem dX5_childMark_8 : decode cX5_childMark 8 = .ok (.invokevirtual 391, 3) := by decide +kernel
theorem dX5_childMark_11 : decode cX5_childMark 11 = .ok (.istore_n 2, 1) := by decide +kernel
theorem dX5_childMark_12 : decode cX5_childMark 12 = .ok (.iload_n 2, 1) := by decide +kernel
theorem dX5_childMark_13 : decode cX5_childMark 13 = .ok (.aload_n 0, 1) := by decide +kernel
theorem dX5_childMark_14 : decode cX5_childMark 14 = .ok (.iload_n 1, 1) := by decide +kernel
theorem dX5_childMark_15 : decode cX5_childMark 15 = .ok (.invokevirtual 300, 3) := by decide +kernel
theorem dX5_childMark_18 : decode cX5_childMark 18 = .ok (.isub, 1) := by decide +kernel
theorem dX5_childMark_19 : decode cX5_childMark 19 = .ok (.ireturn, 1) := by decide +kernel
theorem dX5_lentMark_0 : decode cX5_lentMark 0 = .ok (.aload_n 0, 1) := by decide +kernel
theorem dX5_lentMark_1 : decode cX5_lentMark 1 = .ok (.bipush 20, 2) := by decide +kernel
theorem dX5_lentMark_3 : decode cX5_lentMark 3 = .ok (.invokevirtual 376, 3) := by decide +kernel
theorem dX5_lentMark_6 : decode cX5_lentMark 6 = .ok (.iload_n 1, 1) := by decide +kernel
theorem dX5_lentMark_7 : decode cX5_lentMark 7 = .ok (.ireturn, 1) := by decide +kernel
theorem dX6_init_0 : decode cX6_init 0 = .ok (.aload_n 0, 1) := by decide +kernel
theorem dX6_init_1 : decode cX6_init 1 = .ok (.invokespecial 1, 3) := by decide +kernel
theorem dX6_init_4 : decode cX6_init 4 = .ok (.aload_n 0, 1) := by decide +kernel
theorem dX6_init_5 : decode cX6_init 5 = .ok (.bipush 8, 2) := by decide +kernel
theorem dX6_init_7 : decode cX6_init 7 = .ok (.newarray .int, 2) := by decide +kernel
theorem dX6_init_9 : decode cX6_init 9 = .ok (.dup, 1) := by decide +kernel
theorem dX6_init_10 : decode cX6_init 10 = .ok (.iconst 0, 1) := by decide +kernel
theorem dX6_init_11 : decode cX6_init 11 = .ok (.iconst (-1), 1) := by decide +kernel
theorem dX6_init_12 : decode cX6_init 12 = .ok (.iastore, 1) := by decide +kernel
theorem dX6_init_13 : decode cX6_init 13 = .ok (.dup, 1) := by decide +kernel
theorem dX6_init_14 : decode cX6_init 14 = .ok (.iconst 1, 1) := by decide +kernel
theorem dX6_init_15 : decode cX6_init 15 = .ok (.iconst (-1), 1) := by decide +kernel
theorem dX6_init_16 : decode cX6_init 16 = .ok (.iastore, 1) := by decide +kernel
theorem dX6_init_17 : decode cX6_init 17 = .ok (.dup, 1) := by decide +kernel
theorem dX6_init_18 : decode cX6_init 18 = .ok (.iconst 2, 1) := by decide +kernel
theorem dX6_init_19 : decode cX6_init 19 = .ok (.iconst (-1), 1) := by decide +kernel
theorem dX6_init_20 : decode cX6_init 20 = .ok (.iastore, 1) := by decide +kernel
theorem dX6_init_21 : decode cX6_init 21 = .ok (.dup, 1) := by decide +kernel
theorem dX6_init_22 : decode cX6_init 22 = .ok (.iconst 3, 1) := by decide +kernel
theorem dX6_init_23 : decode cX6_init 23 = .ok (.iconst (-1), 1) := by decide +kernel
theorem dX6_init_24 : decode cX6_init 24 = .ok (.iastore, 1) := by decide +kernel
theorem dX6_init_25 : decode cX6_init 25 = .ok (.dup, 1) := by decide +kernel
theorem dX6_init_26 : decode cX6_init 26 = .ok (.iconst 4, 1) := by decide +kernel
theorem dX6_init_27 : decode cX6_init 27 = .ok (.iconst (-1), 1) := by decide +kernel
theorem dX6_init_28 : decode cX6_init 28 = .ok (.iastore, 1) := by decide +kernel
theorem dX6_init_29 : decode cX6_init 29 = .ok (.dup, 1) := by decide +kernel
theorem dX6_init_30 : decode cX6_init 30 = .ok (.iconst 5, 1) := by decide +kernel
theorem dX6_init_31 : decode cX6_init 31 = .ok (.iconst (-1), 1) := by decide +kernel
theorem dX6_init_32 : decode cX6_init 32 = .ok (.iastore, 1) := by decide +kernel
theorem dX6_init_33 : decode cX6_init 33 = .ok (.dup, 1) := by decide +kernel
theorem dX6_init_34 : decode cX6_init 34 = .ok (.bipush 6, 2) := by decide +kernel
theorem dX6_init_36 : decode cX6_init 36 = .ok (.iconst (-1), 1) := by decide +kernel
theorem dX6_init_37 : decode cX6_init 37 = .ok (.iastore, 1) := by decide +kernel
theorem dX6_init_38 : decode cX6_init 38 = .ok (.dup, 1) := by decide +kernel
theorem dX6_init_39 : decode cX6_init 39 = .ok (.bipush 7, 2) := by decide +kernel
theorem dX6_init_41 : decode cX6_init 41 = .ok (.iconst (-1), 1) := by decide +kernel
theorem dX6_init_42 : decode cX6_init 42 = .ok (.iastore, 1) := by decide +kernel
theorem dX6_init_43 : decode cX6_init 43 = .ok (.putfield 7, 3) := by decide +kernel
theorem dX6_init_46 : decode cX6_init 46 = .ok (.aload_n 0, 1) := by decide +kernel
theorem dX6_init_47 : decode cX6_init 47 = .ok (.bipush 8, 2) := by decide +kernel
theorem dX6_init_49 : decode cX6_init 49 = .ok (.newarray .int, 2) := by decide +kernel
theorem dX6_init_51 : decode cX6_init 51 = .ok (.putfield 13, 3) := by decide +kernel
theorem dX6_init_54 : decode cX6_init 54 = .ok (.aload_n 0, 1) := by decide +kernel
theorem dX6_init_55 : decode cX6_init 55 = .ok (.sipush 320, 3) := by decide +kernel
theorem dX6_init_58 : decode cX6_init 58 = .ok (.newarray .int, 2) := by decide +kernel
theorem dX6_init_60 : decode cX6_init 60 = .ok (.putfield 16, 3) := by decide +kernel
theorem dX6_init_63 : decode cX6_init 63 = .ok (.aload_n 0, 1) := by decide +kernel
theorem dX6_init_64 : decode cX6_init 64 = .ok (.bipush 64, 2) := by decide +kernel
theorem dX6_init_66 : decode cX6_init 66 = .ok (.newarray .int, 2) := by decide +kernel
theorem dX6_init_68 : decode cX6_init 68 = .ok (.putfield 19, 3) := by decide +kernel
theorem dX6_init_71 : decode cX6_init 71 = .ok (.aload_n 0, 1) := by decide +kernel
theorem dX6_init_72 : decode cX6_init 72 = .ok (.bipush 64, 2) := by decide +kernel
theorem dX6_init_74 : decode cX6_init 74 = .ok (.newarray .int, 2) := by decide +kernel
theorem dX6_init_76 : decode cX6_init 76 = .ok (.putfield 22, 3) := by decide +kernel
theorem dX6_init_79 : decode cX6_init 79 = .ok (.aload_n 0, 1) := by decide +kernel
theorem dX6_init_80 : decode cX6_init 80 = .ok (.bipush 64, 2) := by decide +kernel
theorem dX6_init_82 : decode cX6_init 82 = .ok (.newarray .int, 2) := by decide +kernel
theorem dX6_init_84 : decode cX6_init 84 = .ok (.putfield 25, 3) := by decide +kernel
theorem dX6_init_87 : decode cX6_init 87 = .ok (.aload_n 0, 1) := by decide +kernel
theorem dX6_init_88 : decode cX6_init 88 = .ok (.sipush 1536, 3) := by decide +kernel
theorem dX6_init_91 : decode cX6_init 91 = .ok (.newarray .int, 2) := by decide +kernel
theorem dX6_init_93 : decode cX6_init 93 = .ok (.putfield 28, 3) := by decide +kernel
theorem dX6_init_96 : decode cX6_init 96 = .ok (.aload_n 0, 1) := by decide +kernel
theorem dX6_init_97 : decode cX6_init 97 = .ok (.bipush 120, 2) := by decide +kernel
theorem dX6_init_99 : decode cX6_init 99 = .ok (.newarray .int, 2) := by decide +kernel
theorem dX6_init_101 : decode cX6_init 101 = .ok (.putfield 31, 3) := by decide +kernel
theorem dX6_init_104 : decode cX6_init 104 = .ok (.aload_n 0, 1) := by decide +kernel
theorem dX6_init_105 : decode cX6_init 105 = .ok (.bipush 36, 2) := by decide +kernel
theorem dX6_init_107 : decode cX6_init 107 = .ok (.newarray .int, 2) := by decide +kernel
end
section
theorem dX6_init_109 : decode cX6_init 109 = .ok (.putfield 34, 3) := by decide +kernel
theorem dX6_init_112 : decode cX6_init 112 = .ok (.aload_n 0, 1) := by decide +kernel
theorem dX6_init_113 : decode cX6_init 113 = .ok (.bipush 6, 2) := by decide +kernel
theorem dX6_init_115 : decode cX6_init 115 = .ok (.newarray .int, 2) := by decide +kernel
theorem dX6_init_117 : decode cX6_init 117 = .ok (.putfield 37, 3) := by decide +kernel
theorem dX6_init_120 : decode cX6_init 120 = .ok (.aload_n 0, 1) := by decide +kernel
theorem dX6_init_121 : decode cX6_init 121 = .ok (.bipush 101, 2) := by decide +kernel
theorem dX6_init_123 : decode cX6_init 123 = .ok (.newarray .long, 2) := by decide +kernel
theorem dX6_init_125 : decode cX6_init 125 = .ok (.putfield 40, 3) := by decide +kernel
theorem dX6_init_128 : decode cX6_init 128 = .ok (.aload_n 0, 1) := by decide +kernel
theorem dX6_init_129 : decode cX6_init 129 = .ok (.iconst 2, 1) := by decide +kernel
theorem dX6_init_130 : decode cX6_init 130 = .ok (.newarray .boolean, 2) := by decide +kernel
theorem dX6_init_132 : decode cX6_init 132 = .ok (.putfield 44, 3) := by decide +kernel
theorem dX6_init_135 : decode cX6_init 135 = .ok (.aload_n 0, 1) := by decide +kernel
theorem dX6_init_136 : decode cX6_init 136 = .ok (.sipush 128, 3) := by decide +kernel
theorem dX6_init_139 : decode cX6_init 139 = .ok (.newarray .int, 2) := by decide +kernel
theorem dX6_init_141 : decode cX6_init 141 = .ok (.putfield 48, 3) := by decide +kernel
theorem dX6_init_144 : decode cX6_init 144 = .ok (.aload_n 0, 1) := by decide +kernel
theorem dX6_init_145 : decode cX6_init 145 = .ok (.bipush 16, 2) := by decide +kernel
theorem dX6_init_147 : decode cX6_init 147 = .ok (.newarray .int, 2) := by decide +kernel
theorem dX6_init_149 : decode cX6_init 149 = .ok (.putfield 51, 3) := by decide +kernel
theorem dX6_init_152 : decode cX6_init 152 = .ok (.return_, 1) := by decide +kernel
theorem dX6_in_0 : decode cX6_in 0 = .ok (.lload_n 0, 1) := by decide +kernel
theorem dX6_in_1 : decode cX6_in 1 = .ok (.lload_n 2, 1) := by decide +kernel
theorem dX6_in_2 : decode cX6_in 2 = .ok (.lcmp, 1) := by decide +kernel
theorem dX6_in_3 : decode cX6_in 3 = .ok (.ifCond .lt 14, 3) := by decide +kernel
theorem dX6_in_6 : decode cX6_in 6 = .ok (.lload_n 0, 1) := by decide +kernel
theorem dX6_in_7 : decode cX6_in 7 = .ok (.lload 4, 2) := by decide +kernel
theorem dX6_in_9 : decode cX6_in 9 = .ok (.lcmp, 1) := by decide +kernel
theorem dX6_in_10 : decode cX6_in 10 = .ok (.ifCond .gt 7, 3) := by decide +kernel
theorem dX6_in_13 : decode cX6_in 13 = .ok (.iconst 1, 1) := by decide +kernel
theorem dX6_in_14 : decode cX6_in 14 = .ok (.goto 4, 3) := by decide +kernel
theorem dX6_in_17 : decode cX6_in 17 = .ok (.iconst 0, 1) := by decide +kernel
theorem dX6_in_18 : decode cX6_in 18 = .ok (.ireturn, 1) := by decide +kernel
theorem dX6_finding_0 : decode cX6_finding 0 = .ok (.aload_n 0, 1) := by decide +kernel
theorem dX6_finding_1 : decode cX6_finding 1 = .ok (.iload_n 1, 1) := by decide +kernel
theorem dX6_finding_2 : decode cX6_finding 2 = .ok (.putfield 58, 3) := by decide +kernel
theorem dX6_finding_5 : decode cX6_finding 5 = .ok (.ldc 61, 2) := by decide +kernel
theorem dX6_finding_7 : decode cX6_finding 7 = .ok (.iload_n 1, 1) := by decide +kernel
theorem dX6_finding_8 : decode cX6_finding 8 = .ok (.isub, 1) := by decide +kernel
theorem dX6_finding_9 : decode cX6_finding 9 = .ok (.ireturn, 1) := by decide +kernel
theorem dX6_isRow_0 : decode cX6_isRow 0 = .ok (.iload_n 0, 1) := by decide +kernel
theorem dX6_isRow_1 : decode cX6_isRow 1 = .ok (.i2l, 1) := by decide +kernel
theorem dX6_isRow_2 : decode cX6_isRow 2 = .ok (.lconst 0, 1) := by decide +kernel
theorem dX6_isRow_3 : decode cX6_isRow 3 = .ok (.ldc2_w 62, 3) := by decide +kernel
theorem dX6_isRow_6 : decode cX6_isRow 6 = .ok (.invokestatic 64, 3) := by decide +kernel
theorem dX6_isRow_9 : decode cX6_isRow 9 = .ok (.ireturn, 1) := by decide +kernel
theorem dX6_row_0 : decode cX6_row 0 = .ok (.aload_n 0, 1) := by decide +kernel
theorem dX6_row_1 : decode cX6_row 1 = .ok (.iconst 0, 1) := by decide +kernel
theorem dX6_row_2 : decode cX6_row 2 = .ok (.putfield 54, 3) := by decide +kernel
theorem dX6_row_5 : decode cX6_row 5 = .ok (.iload_n 1, 1) := by decide +kernel
theorem dX6_row_6 : decode cX6_row 6 = .ok (.invokestatic 68, 3) := by decide +kernel
theorem dX6_row_9 : decode cX6_row 9 = .ok (.ifCond .eq 21, 3) := by decide +kernel
theorem dX6_row_12 : decode cX6_row 12 = .ok (.iload_n 2, 1) := by decide +kernel
theorem dX6_row_13 : decode cX6_row 13 = .ok (.i2l, 1) := by decide +kernel
theorem dX6_row_14 : decode cX6_row 14 = .ok (.lconst 0, 1) := by decide +kernel
theorem dX6_row_15 : decode cX6_row 15 = .ok (.ldc2_w 72, 3) := by decide +kernel
theorem dX6_row_18 : decode cX6_row 18 = .ok (.invokestatic 64, 3) := by decide +kernel
theorem dX6_row_21 : decode cX6_row 21 = .ok (.ifCond .eq 9, 3) := by decide +kernel
theorem dX6_row_24 : decode cX6_row 24 = .ok (.iload_n 3, 1) := by decide +kernel
theorem dX6_row_25 : decode cX6_row 25 = .ok (.bipush 40, 2) := by decide +kernel
theorem dX6_row_27 : decode cX6_row 27 = .ok (.if_icmp .le 6, 3) := by decide +kernel
theorem dX6_row_30 : decode cX6_row 30 = .ok (.ldc 74, 2) := by decide +kernel
theorem dX6_row_32 : decode cX6_row 32 = .ok (.ireturn, 1) := by decide +kernel
theorem dX6_row_33 : decode cX6_row 33 = .ok (.aload_n 0, 1) := by decide +kernel
theorem dX6_row_34 : decode cX6_row 34 = .ok (.iconst 0, 1) := by decide +kernel
theorem dX6_row_35 : decode cX6_row 35 = .ok (.putfield 58, 3) := by decide +kernel
theorem dX6_row_38 : decode cX6_row 38 = .ok (.iload_n 3, 1) := by decide +kernel
theorem dX6_row_39 : decode cX6_row 39 = .ok (.ifCond .ge 9, 3) := by decide +kernel
theorem dX6_row_42 : decode cX6_row 42 = .ok (.aload_n 0, 1) := by decide +kernel
theorem dX6_row_43 : decode cX6_row 43 = .ok (.iconst 4, 1) := by decide +kernel
theorem dX6_row_44 : decode cX6_row 44 = .ok (.invokevirtual 75, 3) := by decide +kernel
theorem dX6_row_47 : decode cX6_row 47 = .ok (.ireturn, 1) := by decide +kernel
theorem dX6_row_48 : decode cX6_row 48 = .ok (.aload_n 0, 1) := by decide +kernel
theorem dX6_row_49 : decode cX6_row 49 = .ok (.getfield 7, 3) := by decide +kernel
theorem dX6_row_52 : decode cX6_row 52 = .ok (.iload_n 1, 1) := by decide +kernel
theorem dX6_row_53 : decode cX6_row 53 = .ok (.iload_n 2, 1) := by decide +kernel
theorem dX6_row_54 : decode cX6_row 54 = .ok (.iastore, 1) := by decide +kernel
theorem dX6_row_55 : decode cX6_row 55 = .ok (.aload_n 0, 1) := by decide +kernel
theorem dX6_row_56 : decode cX6_row 56 = .ok (.getfield 13, 3) := by decide +kernel
theorem dX6_row_59 : decode cX6_row 59 = .ok (.iload_n 1, 1) := by decide +kernel
theorem dX6_row_60 : decode cX6_row 60 = .ok (.iload_n 3, 1) := by decide +kernel
theorem dX6_row_61 : decode cX6_row 61 = .ok (.iastore, 1) := by decide +kernel
theorem dX6_row_62 : decode cX6_row 62 = .ok (.iconst 0, 1) := by decide +kernel
theorem dX6_row_63 : decode cX6_row 63 = .ok (.istore 4, 2) := by decide +kernel
theorem dX6_row_65 : decode cX6_row 65 = .ok (.iload 4, 2) := by decide +kernel
theorem dX6_row_67 : decode cX6_row 67 = .ok (.bipush 40, 2) := by decide +kernel
theorem dX6_row_69 : decode cX6_row 69 = .ok (.if_icmp .ge 22, 3) := by decide +kernel
theorem dX6_row_72 : decode cX6_row 72 = .ok (.aload_n 0, 1) := by decide +kernel
theorem dX6_row_73 : decode cX6_row 73 = .ok (.getfield 16, 3) := by decide +kernel
theorem dX6_row_76 : decode cX6_row 76 = .ok (.bipush 40, 2) := by decide +kernel
theorem dX6_row_78 : decode cX6_row 78 = .ok (.iload_n 1, 1) := by decide +kernel
theorem dX6_row_79 : decode cX6_row 79 = .ok (.imul, 1) := by decide +kernel
theorem dX6_row_80 : decode cX6_row 80 = .ok (.iload 4, 2) := by decide +kernel
theorem dX6_row_82 : decode cX6_row 82 = .ok (.iadd, 1) := by decide +kernel
theorem dX6_row_83 : decode cX6_row 83 = .ok (.iconst 0, 1) := by decide +kernel
theorem dX6_row_84 : decode cX6_row 84 = .ok (.iastore, 1) := by decide +kernel
theorem dX6_row_85 : decode cX6_row 85 = .ok (.iinc 4 1, 3) := by decide +kernel
theorem dX6_row_88 : decode cX6_row 88 = .ok (.goto (-23), 3) := by decide +kernel
theorem dX6_row_91 : decode cX6_row 91 = .ok (.iload_n 3, 1) := by decide +kernel
theorem dX6_row_92 : decode cX6_row 92 = .ok (.ireturn, 1) := by decide +kernel
theorem dX6_set_0 : decode cX6_set 0 = .ok (.aload_n 0, 1) := by decide +kernel
theorem dX6_set_1 : decode cX6_set 1 = .ok (.iconst 0, 1) := by decide +kernel
theorem dX6_set_2 : decode cX6_set 2 = .ok (.putfield 54, 3) := by decide +kernel
theorem dX6_set_5 : decode cX6_set 5 = .ok (.iload_n 1, 1) := by decide +kernel
theorem dX6_set_6 : decode cX6_set 6 = .ok (.invokestatic 68, 3) := by decide +kernel
theorem dX6_set_9 : decode cX6_set 9 = .ok (.ifCond .ne 6, 3) := by decide +kernel
theorem dX6_set_12 : decode cX6_set 12 = .ok (.ldc 74, 2) := by decide +kernel
theorem dX6_set_14 : decode cX6_set 14 = .ok (.ireturn, 1) := by decide +kernel
theorem dX6_set_15 : decode cX6_set 15 = .ok (.aload_n 0, 1) := by decide +kernel
theorem dX6_set_16 : decode cX6_set 16 = .ok (.iconst 0, 1) := by decide +kernel
theorem dX6_set_17 : decode cX6_set 17 = .ok (.putfield 58, 3) := by decide +kernel
theorem dX6_set_20 : decode cX6_set 20 = .ok (.aload_n 0, 1) := by decide +kernel
theorem dX6_set_21 : decode cX6_set 21 = .ok (.getfield 7, 3) := by decide +kernel
theorem dX6_set_24 : decode cX6_set 24 = .ok (.iload_n 1, 1) := by decide +kernel
theorem dX6_set_25 : decode cX6_set 25 = .ok (.iaload, 1) := by decide +kernel
theorem dX6_set_26 : decode cX6_set 26 = .ok (.ifCond .ge 9, 3) := by decide +kernel
theorem dX6_set_29 : decode cX6_set 29 = .ok (.aload_n 0, 1) := by decide +kernel
theorem dX6_set_30 : decode cX6_set 30 = .ok (.iconst 1, 1) := by decide +kernel
theorem dX6_set_31 : decode cX6_set 31 = .ok (.invokevirtual 75, 3) := by decide +kernel
theorem dX6_set_34 : decode cX6_set 34 = .ok (.ireturn, 1) := by decide +kernel
theorem dX6_set_35 : decode cX6_set 35 = .ok (.iload_n 2, 1) := by decide +kernel
theorem dX6_set_36 : decode cX6_set 36 = .ok (.i2l, 1) := by decide +kernel
theorem dX6_set_37 : decode cX6_set 37 = .ok (.lconst 0, 1) := by decide +kernel
theorem dX6_set_38 : decode cX6_set 38 = .ok (.aload_n 0, 1) := by decide +kernel
theorem dX6_set_39 : decode cX6_set 39 = .ok (.getfield 13, 3) := by decide +kernel
theorem dX6_set_42 : decode cX6_set 42 = .ok (.iload_n 1, 1) := by decide +kernel
theorem dX6_set_43 : decode cX6_set 43 = .ok (.iaload, 1) := by decide +kernel
theorem dX6_set_44 : decode cX6_set 44 = .ok (.iconst 1, 1) := by decide +kernel
theorem dX6_set_45 : decode cX6_set 45 = .ok (.isub, 1) := by decide +kernel
theorem dX6_set_46 : decode cX6_set 46 = .ok (.i2l, 1) := by decide +kernel
theorem dX6_set_47 : decode cX6_set 47 = .ok (.invokestatic 64, 3) := by decide +kernel
theorem dX6_set_50 : decode cX6_set 50 = .ok (.ifCond .ne 9, 3) := by decide +kernel
theorem dX6_set_53 : decode cX6_set 53 = .ok (.aload_n 0, 1) := by decide +kernel
theorem dX6_set_54 : decode cX6_set 54 = .ok (.iconst 2, 1) := by decide +kernel
theorem dX6_set_55 : decode cX6_set 55 = .ok (.invokevirtual 75, 3) := by decide +kernel
theorem dX6_set_58 : decode cX6_set 58 = .ok (.ireturn, 1) := by decide +kernel
theorem dX6_set_59 : decode cX6_set 59 = .ok (.aload_n 0, 1) := by decide +kernel
theorem dX6_set_60 : decode cX6_set 60 = .ok (.getfield 16, 3) := by decide +kernel
theorem dX6_set_63 : decode cX6_set 63 = .ok (.bipush 40, 2) := by decide +kernel
theorem dX6_set_65 : decode cX6_set 65 = .ok (.iload_n 1, 1) := by decide +kernel
theorem dX6_set_66 : decode cX6_set 66 = .ok (.imul, 1) := by decide +kernel
theorem dX6_set_67 : decode cX6_set 67 = .ok (.iload_n 2, 1) := by decide +kernel
theorem dX6_set_68 : decode cX6_set 68 = .ok (.iadd, 1) := by decide +kernel
theorem dX6_set_69 : decode cX6_set 69 = .ok (.aload_n 0, 1) := by decide +kernel
theorem dX6_set_70 : decode cX6_set 70 = .ok (.getfield 7, 3) := by decide +kernel
theorem dX6_set_73 : decode cX6_set 73 = .ok (.iload_n 1, 1) := by decide +kernel
theorem dX6_set_74 : decode cX6_set 74 = .ok (.iaload, 1) := by decide +kernel
theorem dX6_set_75 : decode cX6_set 75 = .ok (.ifCond .ne 8, 3) := by decide +kernel
theorem dX6_set_78 : decode cX6_set 78 = .ok (.iload_n 3, 1) := by decide +kernel
theorem dX6_set_79 : decode cX6_set 79 = .ok (.i2b, 1) := by decide +kernel
theorem dX6_set_80 : decode cX6_set 80 = .ok (.goto 19, 3) := by decide +kernel
theorem dX6_set_83 : decode cX6_set 83 = .ok (.aload_n 0, 1) := by decide +kernel
theorem dX6_set_84 : decode cX6_set 84 = .ok (.getfield 7, 3) := by decide +kernel
theorem dX6_set_87 : decode cX6_set 87 = .ok (.iload_n 1, 1) := by decide +kernel
theorem dX6_set_88 : decode cX6_set 88 = .ok (.iaload, 1) := by decide +kernel
theorem dX6_set_89 : decode cX6_set 89 = .ok (.iconst 1, 1) := by decide +kernel
theorem dX6_set_90 : decode cX6_set 90 = .ok (.if_icmp .ne 8, 3) := by decide +kernel
theorem dX6_set_93 : decode cX6_set 93 = .ok (.iload_n 3, 1) := by decide +kernel
theorem dX6_set_94 : decode cX6_set 94 = .ok (.i2s, 1) := by decide +kernel
theorem dX6_set_95 : decode cX6_set 95 = .ok (.goto 4, 3) := by decide +kernel
theorem dX6_set_98 : decode cX6_set 98 = .ok (.iload_n 3, 1) := by decide +kernel
theorem dX6_set_99 : decode cX6_set 99 = .ok (.iastore, 1) := by decide +kernel
theorem dX6_set_100 : decode cX6_set 100 = .ok (.aload_n 0, 1) := by decide +kernel
theorem dX6_set_101 : decode cX6_set 101 = .ok (.getfield 16, 3) := by decide +kernel
theorem dX6_set_104 : decode cX6_set 104 = .ok (.bipush 40, 2) := by decide +kernel
theorem dX6_set_106 : decode cX6_set 106 = .ok (.iload_n 1, 1) := by decide +kernel
theorem dX6_set_107 : decode cX6_set 107 = .ok (.imul, 1) := by decide +kernel
theorem dX6_set_108 : decode cX6_set 108 = .ok (.iload_n 2, 1) := by decide +kernel
theorem dX6_set_109 : decode cX6_set 109 = .ok (.iadd, 1) := by decide +kernel
theorem dX6_set_110 : decode cX6_set 110 = .ok (.iaload, 1) := by decide +kernel
theorem dX6_set_111 : decode cX6_set 111 = .ok (.ireturn, 1) := by decide +kernel
theorem dX6_copy_0 : decode cX6_copy 0 = .ok (.aload_n 0, 1) := by decide +kernel
theorem dX6_copy_1 : decode cX6_copy 1 = .ok (.iconst 0, 1) := by decide +kernel
theorem dX6_copy_2 : decode cX6_copy 2 = .ok (.putfield 54, 3) := by decide +kernel
theorem dX6_copy_5 : decode cX6_copy 5 = .ok (.iload_n 1, 1) := by decide +kernel
theorem dX6_copy_6 : decode cX6_copy 6 = .ok (.invokestatic 68, 3) := by decide +kernel
theorem dX6_copy_9 : decode cX6_copy 9 = .ok (.ifCond .eq 10, 3) := by decide +kernel
theorem dX6_copy_12 : decode cX6_copy 12 = .ok (.iload_n 3, 1) := by decide +kernel
theorem dX6_copy_13 : decode cX6_copy 13 = .ok (.invokestatic 68, 3) := by decide +kernel
theorem dX6_copy_16 : decode cX6_copy 16 = .ok (.ifCond .ne 6, 3) := by decide +kernel
theorem dX6_copy_19 : decode cX6_copy 19 = .ok (.ldc 74, 2) := by decide +kernel
theorem dX6_copy_21 : decode cX6_copy 21 = .ok (.ireturn, 1) := by decide +kernel
theorem dX6_copy_22 : decode cX6_copy 22 = .ok (.aload_n 0, 1) := by decide +kernel
theorem dX6_copy_23 : decode cX6_copy 23 = .ok (.iconst 0, 1) := by decide +kernel
theorem dX6_copy_24 : decode cX6_copy 24 = .ok (.putfield 58, 3) := by decide +kernel
theorem dX6_copy_27 : decode cX6_copy 27 = .ok (.aload_n 0, 1) := by decide +kernel
theorem dX6_copy_28 : decode cX6_copy 28 = .ok (.getfield 7, 3) := by decide +kernel
theorem dX6_copy_31 : decode cX6_copy 31 = .ok (.iload_n 1, 1) := by decide +kernel
theorem dX6_copy_32 : decode cX6_copy 32 = .ok (.iaload, 1) := by decide +kernel
theorem dX6_copy_33 : decode cX6_copy 33 = .ok (.ifCond .lt 12, 3) := by decide +kernel
theorem dX6_copy_36 : decode cX6_copy 36 = .ok (.aload_n 0, 1) := by decide +kernel
theorem dX6_copy_37 : decode cX6_copy 37 = .ok (.getfield 7, 3) := by decide +kernel
theorem dX6_copy_40 : decode cX6_copy 40 = .ok (.iload_n 3, 1) := by decide +kernel
theorem dX6_copy_41 : decode cX6_copy 41 = .ok (.iaload, 1) := by decide +kernel
theorem dX6_copy_42 : decode cX6_copy 42 = .ok (.ifCond .ge 9, 3) := by decide +kernel
theorem dX6_copy_45 : decode cX6_copy 45 = .ok (.aload_n 0, 1) := by decide +kernel
theorem dX6_copy_46 : decode cX6_copy 46 = .ok (.iconst 1, 1) := by decide +kernel
theorem dX6_copy_47 : decode cX6_copy 47 = .ok (.invokevirtual 75, 3) := by decide +kernel
theorem dX6_copy_50 : decode cX6_copy 50 = .ok (.ireturn, 1) := by decide +kernel
theorem dX6_copy_51 : decode cX6_copy 51 = .ok (.aload_n 0, 1) := by decide +kernel
theorem dX6_copy_52 : decode cX6_copy 52 = .ok (.getfield 7, 3) := by decide +kernel
theorem dX6_copy_55 : decode cX6_copy 55 = .ok (.iload_n 1, 1) := by decide +kernel
theorem dX6_copy_56 : decode cX6_copy 56 = .ok (.iaload, 1) := by decide +kernel
theorem dX6_copy_57 : decode cX6_copy 57 = .ok (.aload_n 0, 1) := by decide +kernel
theorem dX6_copy_58 : decode cX6_copy 58 = .ok (.getfield 7, 3) := by decide +kernel
theorem dX6_copy_61 : decode cX6_copy 61 = .ok (.iload_n 3, 1) := by decide +kernel
theorem dX6_copy_62 : decode cX6_copy 62 = .ok (.iaload, 1) := by decide +kernel
theorem dX6_copy_63 : decode cX6_copy 63 = .ok (.if_icmp .eq 9, 3) := by decide +kernel
theorem dX6_copy_66 : decode cX6_copy 66 = .ok (.aload_n 0, 1) := by decide +kernel
theorem dX6_copy_67 : decode cX6_copy 67 = .ok (.iconst 5, 1) := by decide +kernel
theorem dX6_copy_68 : decode cX6_copy 68 = .ok (.invokevirtual 75, 3) := by decide +kernel
theorem dX6_copy_71 : decode cX6_copy 71 = .ok (.ireturn, 1) := by decide +kernel
theorem dX6_copy_72 : decode cX6_copy 72 = .ok (.iload_n 2, 1) := by decide +kernel
theorem dX6_copy_73 : decode cX6_copy 73 = .ok (.ifCond .lt 48, 3) := by decide +kernel
theorem dX6_copy_76 : decode cX6_copy 76 = .ok (.iload 4, 2) := by decide +kernel
theorem dX6_copy_78 : decode cX6_copy 78 = .ok (.ifCond .lt 43, 3) := by decide +kernel
theorem dX6_copy_81 : decode cX6_copy 81 = .ok (.iload 5, 2) := by decide +kernel
theorem dX6_copy_83 : decode cX6_copy 83 = .ok (.ifCond .lt 38, 3) := by decide +kernel
theorem dX6_copy_86 : decode cX6_copy 86 = .ok (.iload_n 2, 1) := by decide +kernel
theorem dX6_copy_87 : decode cX6_copy 87 = .ok (.i2l, 1) := by decide +kernel
theorem dX6_copy_88 : decode cX6_copy 88 = .ok (.iload 5, 2) := by decide +kernel
theorem dX6_copy_90 : decode cX6_copy 90 = .ok (.i2l, 1) := by decide +kernel
theorem dX6_copy_91 : decode cX6_copy 91 = .ok (.ladd, 1) := by decide +kernel
theorem dX6_copy_92 : decode cX6_copy 92 = .ok (.aload_n 0, 1) := by decide +kernel
theorem dX6_copy_93 : decode cX6_copy 93 = .ok (.getfield 13, 3) := by decide +kernel
theorem dX6_copy_96 : decode cX6_copy 96 = .ok (.iload_n 1, 1) := by decide +kernel
theorem dX6_copy_97 : decode cX6_copy 97 = .ok (.iaload, 1) := by decide +kernel
theorem dX6_copy_98 : decode cX6_copy 98 = .ok (.i2l, 1) := by decide +kernel
theorem dX6_copy_99 : decode cX6_copy 99 = .ok (.lcmp, 1) := by decide +kernel
theorem dX6_copy_100 : decode cX6_copy 100 = .ok (.ifCond .gt 21, 3) := by decide +kernel
theorem dX6_copy_103 : decode cX6_copy 103 = .ok (.iload 4, 2) := by decide +kernel
theorem dX6_copy_105 : decode cX6_copy 105 = .ok (.i2l, 1) := by decide +kernel
theorem dX6_copy_106 : decode cX6_copy 106 = .ok (.iload 5, 2) := by decide +kernel
theorem dX6_copy_108 : decode cX6_copy 108 = .ok (.i2l, 1) := by decide +kernel
theorem dX6_copy_109 : decode cX6_copy 109 = .ok (.ladd, 1) := by decide +kernel
theorem dX6_copy_110 : decode cX6_copy 110 = .ok (.aload_n 0, 1) := by decide +kernel
theorem dX6_copy_111 : decode cX6_copy 111 = .ok (.getfield 13, 3) := by decide +kernel
theorem dX6_copy_114 : decode cX6_copy 114 = .ok (.iload_n 3, 1) := by decide +kernel
theorem dX6_copy_115 : decode cX6_copy 115 = .ok (.iaload, 1) := by decide +kernel
theorem dX6_copy_116 : decode cX6_copy 116 = .ok (.i2l, 1) := by decide +kernel
theorem dX6_copy_117 : decode cX6_copy 117 = .ok (.lcmp, 1) := by decide +kernel
theorem dX6_copy_118 : decode cX6_copy 118 = .ok (.ifCond .le 9, 3) := by decide +kernel
theorem dX6_copy_121 : decode cX6_copy 121 = .ok (.aload_n 0, 1) := by decide +kernel
theorem dX6_copy_122 : decode cX6_copy 122 = .ok (.iconst 2, 1) := by decide +kernel
theorem dX6_copy_123 : decode cX6_copy 123 = .ok (.invokevirtual 75, 3) := by decide +kernel
theorem dX6_copy_126 : decode cX6_copy 126 = .ok (.ireturn, 1) := by decide +kernel
theorem dX6_copy_127 : decode cX6_copy 127 = .ok (.iload_n 2, 1) := by decide +kernel
theorem dX6_copy_128 : decode cX6_copy 128 = .ok (.iload 4, 2) := by decide +kernel
theorem dX6_copy_130 : decode cX6_copy 130 = .ok (.if_icmp .lt 7, 3) := by decide +kernel
theorem dX6_copy_133 : decode cX6_copy 133 = .ok (.iconst 1, 1) := by decide +kernel
theorem dX6_copy_134 : decode cX6_copy 134 = .ok (.goto 4, 3) := by decide +kernel
theorem dX6_copy_137 : decode cX6_copy 137 = .ok (.iconst 0, 1) := by decide +kernel
theorem dX6_copy_138 : decode cX6_copy 138 = .ok (.istore 6, 2) := by decide +kernel
theorem dX6_copy_140 : decode cX6_copy 140 = .ok (.iconst 0, 1) := by decide +kernel
theorem dX6_copy_141 : decode cX6_copy 141 = .ok (.istore 7, 2) := by decide +kernel
theorem dX6_copy_143 : decode cX6_copy 143 = .ok (.iload 7, 2) := by decide +kernel
theorem dX6_copy_145 : decode cX6_copy 145 = .ok (.iload 5, 2) := by decide +kernel
theorem dX6_copy_147 : decode cX6_copy 147 = .ok (.if_icmp .ge 57, 3) := by decide +kernel
theorem dX6_copy_150 : decode cX6_copy 150 = .ok (.iload 6, 2) := by decide +kernel
theorem dX6_copy_152 : decode cX6_copy 152 = .ok (.ifCond .eq 8, 3) := by decide +kernel
theorem dX6_copy_155 : decode cX6_copy 155 = .ok (.iload 7, 2) := by decide +kernel
theorem dX6_copy_157 : decode cX6_copy 157 = .ok (.goto 10, 3) := by decide +kernel
theorem dX6_copy_160 : decode cX6_copy 160 = .ok (.iload 5, 2) := by decide +kernel
theorem dX6_copy_162 : decode cX6_copy 162 = .ok (.iconst 1, 1) := by decide +kernel
theorem dX6_copy_163 : decode cX6_copy 163 = .ok (.isub, 1) := by decide +kernel
theorem dX6_copy_164 : decode cX6_copy 164 = .ok (.iload 7, 2) := by decide +kernel
theorem dX6_copy_166 : decode cX6_copy 166 = .ok (.isub, 1) := by decide +kernel
theorem dX6_copy_167 : decode cX6_copy 167 = .ok (.istore 8, 2) := by decide +kernel
theorem dX6_copy_169 : decode cX6_copy 169 = .ok (.aload_n 0, 1) := by decide +kernel
theorem dX6_copy_170 : decode cX6_copy 170 = .ok (.getfield 16, 3) := by decide +kernel
theorem dX6_copy_173 : decode cX6_copy 173 = .ok (.bipush 40, 2) := by decide +kernel
theorem dX6_copy_175 : decode cX6_copy 175 = .ok (.iload_n 3, 1) := by decide +kernel
theorem dX6_copy_176 : decode cX6_copy 176 = .ok (.imul, 1) := by decide +kernel
theorem dX6_copy_177 : decode cX6_copy 177 = .ok (.iload 4, 2) := by decide +kernel
theorem dX6_copy_179 : decode cX6_copy 179 = .ok (.iadd, 1) := by decide +kernel
theorem dX6_copy_180 : decode cX6_copy 180 = .ok (.iload 8, 2) := by decide +kernel
theorem dX6_copy_182 : decode cX6_copy 182 = .ok (.iadd, 1) := by decide +kernel
theorem dX6_copy_183 : decode cX6_copy 183 = .ok (.aload_n 0, 1) := by decide +kernel
theorem dX6_copy_184 : decode cX6_copy 184 = .ok (.getfield 16, 3) := by decide +kernel
theorem dX6_copy_187 : decode cX6_copy 187 = .ok (.bipush 40, 2) := by decide +kernel
theorem dX6_copy_189 : decode cX6_copy 189 = .ok (.iload_n 1, 1) := by decide +kernel
theorem dX6_copy_190 : decode cX6_copy 190 = .ok (.imul, 1) := by decide +kernel
theorem dX6_copy_191 : decode cX6_copy 191 = .ok (.iload_n 2, 1) := by decide +kernel
theorem dX6_copy_192 : decode cX6_copy 192 = .ok (.iadd, 1) := by decide +kernel
theorem dX6_copy_193 : decode cX6_copy 193 = .ok (.iload 8, 2) := by decide +kernel
theorem dX6_copy_195 : decode cX6_copy 195 = .ok (.iadd, 1) := by decide +kernel
theorem dX6_copy_196 : decode cX6_copy 196 = .ok (.iaload, 1) := by decide +kernel
theorem dX6_copy_197 : decode cX6_copy 197 = .ok (.iastore, 1) := by decide +kernel
theorem dX6_copy_198 : decode cX6_copy 198 = .ok (.iinc 7 1, 3) := by decide +kernel
theorem dX6_copy_201 : decode cX6_copy 201 = .ok (.goto (-58), 3) := by decide +kernel
theorem dX6_copy_204 : decode cX6_copy 204 = .ok (.iload 5, 2) := by decide +kernel
theorem dX6_copy_206 : decode cX6_copy 206 = .ok (.ireturn, 1) := by decide +kernel
theorem dX6_drop_0 : decode cX6_drop 0 = .ok (.aload_n 0, 1) := by decide +kernel
theorem dX6_drop_1 : decode cX6_drop 1 = .ok (.iconst 0, 1) := by decide +kernel
theorem dX6_drop_2 : decode cX6_drop 2 = .ok (.putfield 54, 3) := by decide +kernel
theorem dX6_drop_5 : decode cX6_drop 5 = .ok (.iload_n 1, 1) := by decide +kernel
theorem dX6_drop_6 : decode cX6_drop 6 = .ok (.invokestatic 68, 3) := by decide +kernel
theorem dX6_drop_9 : decode cX6_drop 9 = .ok (.ifCond .ne 6, 3) := by decide +kernel
theorem dX6_drop_12 : decode cX6_drop 12 = .ok (.ldc 74, 2) := by decide +kernel
theorem dX6_drop_14 : decode cX6_drop 14 = .ok (.ireturn, 1) := by decide +kernel
theorem dX6_drop_15 : decode cX6_drop 15 = .ok (.aload_n 0, 1) := by decide +kernel
theorem dX6_drop_16 : decode cX6_drop 16 = .ok (.iconst 0, 1) := by decide +kernel
theorem dX6_drop_17 : decode cX6_drop 17 = .ok (.putfield 58, 3) := by decide +kernel
theorem dX6_drop_20 : decode cX6_drop 20 = .ok (.aload_n 0, 1) := by decide +kernel
theorem dX6_drop_21 : decode cX6_drop 21 = .ok (.getfield 7, 3) := by decide +kernel
theorem dX6_drop_24 : decode cX6_drop 24 = .ok (.iload_n 1, 1) := by decide +kernel
theorem dX6_drop_25 : decode cX6_drop 25 = .ok (.iaload, 1) := by decide +kernel
theorem dX6_drop_26 : decode cX6_drop 26 = .ok (.ifCond .ge 9, 3) := by decide +kernel
theorem dX6_drop_29 : decode cX6_drop 29 = .ok (.aload_n 0, 1) := by decide +kernel
theorem dX6_drop_30 : decode cX6_drop 30 = .ok (.iconst 1, 1) := by decide +kernel
theorem dX6_drop_31 : decode cX6_drop 31 = .ok (.invokevirtual 75, 3) := by decide +kernel
theorem dX6_drop_34 : decode cX6_drop 34 = .ok (.ireturn, 1) := by decide +kernel
theorem dX6_drop_35 : decode cX6_drop 35 = .ok (.aload_n 0, 1) := by decide +kernel
theorem dX6_drop_36 : decode cX6_drop 36 = .ok (.getfield 7, 3) := by decide +kernel
theorem dX6_drop_39 : decode cX6_drop 39 = .ok (.iload_n 1, 1) := by decide +kernel
theorem dX6_drop_40 : decode cX6_drop 40 = .ok (.iconst (-1), 1) := by decide +kernel
theorem dX6_drop_41 : decode cX6_drop 41 = .ok (.iastore, 1) := by decide +kernel
theorem dX6_drop_42 : decode cX6_drop 42 = .ok (.aload_n 0, 1) := by decide +kernel
theorem dX6_drop_43 : decode cX6_drop 43 = .ok (.getfield 13, 3) := by decide +kernel
theorem dX6_drop_46 : decode cX6_drop 46 = .ok (.iload_n 1, 1) := by decide +kernel
theorem dX6_drop_47 : decode cX6_drop 47 = .ok (.iaload, 1) := by decide +kernel
theorem dX6_drop_48 : decode cX6_drop 48 = .ok (.ireturn, 1) := by decide +kernel
theorem dX6_feed_0 : decode cX6_feed 0 = .ok (.aload_n 0, 1) := by decide +kernel
theorem dX6_feed_1 : decode cX6_feed 1 = .ok (.iconst 0, 1) := by decide +kernel
theorem dX6_feed_2 : decode cX6_feed 2 = .ok (.putfield 54, 3) := by decide +kernel
theorem dX6_feed_5 : decode cX6_feed 5 = .ok (.iload_n 1, 1) := by decide +kernel
theorem dX6_feed_6 : decode cX6_feed 6 = .ok (.i2l, 1) := by decide +kernel
theorem dX6_feed_7 : decode cX6_feed 7 = .ok (.lconst 0, 1) := by decide +kernel
theorem dX6_feed_8 : decode cX6_feed 8 = .ok (.ldc2_w 79, 3) := by decide +kernel
theorem dX6_feed_11 : decode cX6_feed 11 = .ok (.invokestatic 64, 3) := by decide +kernel
theorem dX6_feed_14 : decode cX6_feed 14 = .ok (.ifCond .ne 6, 3) := by decide +kernel
theorem dX6_feed_17 : decode cX6_feed 17 = .ok (.ldc 74, 2) := by decide +kernel
theorem dX6_feed_19 : decode cX6_feed 19 = .ok (.ireturn, 1) := by decide +kernel
theorem dX6_feed_20 : decode cX6_feed 20 = .ok (.aload_n 0, 1) := by decide +kernel
theorem dX6_feed_21 : decode cX6_feed 21 = .ok (.getfield 81, 3) := by decide +kernel
theorem dX6_feed_24 : decode cX6_feed 24 = .ok (.bipush 120, 2) := by decide +kernel
theorem dX6_feed_26 : decode cX6_feed 26 = .ok (.if_icmp .ne 6, 3) := by decide +kernel
theorem dX6_feed_29 : decode cX6_feed 29 = .ok (.ldc 84, 2) := by decide +kernel
theorem dX6_feed_31 : decode cX6_feed 31 = .ok (.ireturn, 1) := by decide +kernel
theorem dX6_feed_32 : decode cX6_feed 32 = .ok (.aload_n 0, 1) := by decide +kernel
theorem dX6_feed_33 : decode cX6_feed 33 = .ok (.getfield 31, 3) := by decide +kernel
theorem dX6_feed_36 : decode cX6_feed 36 = .ok (.aload_n 0, 1) := by decide +kernel
theorem dX6_feed_37 : decode cX6_feed 37 = .ok (.getfield 81, 3) := by decide +kernel
theorem dX6_feed_40 : decode cX6_feed 40 = .ok (.iload_n 1, 1) := by decide +kernel
theorem dX6_feed_41 : decode cX6_feed 41 = .ok (.iastore, 1) := by decide +kernel
theorem dX6_feed_42 : decode cX6_feed 42 = .ok (.aload_n 0, 1) := by decide +kernel
theorem dX6_feed_43 : decode cX6_feed 43 = .ok (.dup, 1) := by decide +kernel
theorem dX6_feed_44 : decode cX6_feed 44 = .ok (.getfield 81, 3) := by decide +kernel
theorem dX6_feed_47 : decode cX6_feed 47 = .ok (.iconst 1, 1) := by decide +kernel
theorem dX6_feed_48 : decode cX6_feed 48 = .ok (.iadd, 1) := by decide +kernel
theorem dX6_feed_49 : decode cX6_feed 49 = .ok (.putfield 81, 3) := by decide +kernel
theorem dX6_feed_52 : decode cX6_feed 52 = .ok (.aload_n 0, 1) := by decide +kernel
theorem dX6_feed_53 : decode cX6_feed 53 = .ok (.getfield 81, 3) := by decide +kernel
theorem dX6_feed_56 : decode cX6_feed 56 = .ok (.ireturn, 1) := by decide +kernel
theorem dX6_bad_0 : decode cX6_bad 0 = .ok (.aload_n 0, 1) := by decide +kernel
theorem dX6_bad_1 : decode cX6_bad 1 = .ok (.getfield 85, 3) := by decide +kernel
theorem dX6_bad_4 : decode cX6_bad 4 = .ok (.ifCond .ne 16, 3) := by decide +kernel
theorem dX6_bad_7 : decode cX6_bad 7 = .ok (.aload_n 0, 1) := by decide +kernel
theorem dX6_bad_8 : decode cX6_bad 8 = .ok (.iload_n 1, 1) := by decide +kernel
theorem dX6_bad_9 : decode cX6_bad 9 = .ok (.putfield 85, 3) := by decide +kernel
theorem dX6_bad_12 : decode cX6_bad 12 = .ok (.aload_n 0, 1) := by decide +kernel
theorem dX6_bad_13 : decode cX6_bad 13 = .ok (.aload_n 0, 1) := by decide +kernel
theorem dX6_bad_14 : decode cX6_bad 14 = .ok (.getfield 88, 3) := by decide +kernel
theorem dX6_bad_17 : decode cX6_bad 17 = .ok (.putfield 91, 3) := by decide +kernel
theorem dX6_bad_20 : decode cX6_bad 20 = .ok (.return_, 1) := by decide +kernel
theorem dX6_nextToken_0 : decode cX6_nextToken 0 = .ok (.aload_n 0, 1) := by decide +kernel
theorem dX6_nextToken_1 : decode cX6_nextToken 1 = .ok (.aload_n 0, 1) := by decide +kernel
theorem dX6_nextToken_2 : decode cX6_nextToken 2 = .ok (.getfield 94, 3) := by decide +kernel
theorem dX6_nextToken_5 : decode cX6_nextToken 5 = .ok (.putfield 88, 3) := by decide +kernel
theorem dX6_nextToken_8 : decode cX6_nextToken 8 = .ok (.aload_n 0, 1) := by decide +kernel
theorem dX6_nextToken_9 : decode cX6_nextToken 9 = .ok (.aload_n 0, 1) := by decide +kernel
theorem dX6_nextToken_10 : decode cX6_nextToken 10 = .ok (.getfield 94, 3) := by decide +kernel
theorem dX6_nextToken_13 : decode cX6_nextToken 13 = .ok (.aload_n 0, 1) := by decide +kernel
theorem dX6_nextToken_14 : decode cX6_nextToken 14 = .ok (.getfield 81, 3) := by decide +kernel
theorem dX6_nextToken_17 : decode cX6_nextToken 17 = .ok (.if_icmp .ge 15, 3) := by decide +kernel
theorem dX6_nextToken_20 : decode cX6_nextToken 20 = .ok (.aload_n 0, 1) := by decide +kernel
theorem dX6_nextToken_21 : decode cX6_nextToken 21 = .ok (.getfield 31, 3) := by decide +kernel
theorem dX6_nextToken_24 : decode cX6_nextToken 24 = .ok (.aload_n 0, 1) := by decide +kernel
theorem dX6_nextToken_25 : decode cX6_nextToken 25 = .ok (.getfield 94, 3) := by decide +kernel
theorem dX6_nextToken_28 : decode cX6_nextToken 28 = .ok (.iaload, 1) := by decide +kernel
theorem dX6_nextToken_29 : decode cX6_nextToken 29 = .ok (.goto 5, 3) := by decide +kernel
theorem dX6_nextToken_32 : decode cX6_nextToken 32 = .ok (.ldc 97, 2) := by decide +kernel
theorem dX6_nextToken_34 : decode cX6_nextToken 34 = .ok (.putfield 98, 3) := by decide +kernel
theorem dX6_nextToken_37 : decode cX6_nextToken 37 = .ok (.aload_n 0, 1) := by decide +kernel
theorem dX6_nextToken_38 : decode cX6_nextToken 38 = .ok (.aload_n 0, 1) := by decide +kernel
theorem dX6_nextToken_39 : decode cX6_nextToken 39 = .ok (.getfield 94, 3) := by decide +kernel
theorem dX6_nextToken_42 : decode cX6_nextToken 42 = .ok (.aload_n 0, 1) := by decide +kernel
theorem dX6_nextToken_43 : decode cX6_nextToken 43 = .ok (.getfield 81, 3) := by decide +kernel
theorem dX6_nextToken_46 : decode cX6_nextToken 46 = .ok (.if_icmp .ne 7, 3) := by decide +kernel
theorem dX6_nextToken_49 : decode cX6_nextToken 49 = .ok (.iconst 1, 1) := by decide +kernel
theorem dX6_nextToken_50 : decode cX6_nextToken 50 = .ok (.goto 68, 3) := by decide +kernel
theorem dX6_nextToken_53 : decode cX6_nextToken 53 = .ok (.aload_n 0, 1) := by decide +kernel
theorem dX6_nextToken_54 : decode cX6_nextToken 54 = .ok (.getfield 98, 3) := by decide +kernel
theorem dX6_nextToken_57 : decode cX6_nextToken 57 = .ok (.i2l, 1) := by decide +kernel
theorem dX6_nextToken_58 : decode cX6_nextToken 58 = .ok (.ldc2_w 101, 3) := by decide +kernel
theorem dX6_nextToken_61 : decode cX6_nextToken 61 = .ok (.ldc2_w 103, 3) := by decide +kernel
theorem dX6_nextToken_64 : decode cX6_nextToken 64 = .ok (.invokestatic 64, 3) := by decide +kernel
theorem dX6_nextToken_67 : decode cX6_nextToken 67 = .ok (.ifCond .eq 7, 3) := by decide +kernel
theorem dX6_nextToken_70 : decode cX6_nextToken 70 = .ok (.iconst 2, 1) := by decide +kernel
theorem dX6_nextToken_71 : decode cX6_nextToken 71 = .ok (.goto 47, 3) := by decide +kernel
theorem dX6_nextToken_74 : decode cX6_nextToken 74 = .ok (.aload_n 0, 1) := by decide +kernel
theorem dX6_nextToken_75 : decode cX6_nextToken 75 = .ok (.getfield 98, 3) := by decide +kernel
theorem dX6_nextToken_78 : decode cX6_nextToken 78 = .ok (.i2l, 1) := by decide +kernel
theorem dX6_nextToken_79 : decode cX6_nextToken 79 = .ok (.ldc2_w 105, 3) := by decide +kernel
theorem dX6_nextToken_82 : decode cX6_nextToken 82 = .ok (.ldc2_w 107, 3) := by decide +kernel
theorem dX6_nextToken_85 : decode cX6_nextToken 85 = .ok (.invokestatic 64, 3) := by decide +kernel
theorem dX6_nextToken_88 : decode cX6_nextToken 88 = .ok (.ifCond .eq 7, 3) := by decide +kernel
theorem dX6_nextToken_91 : decode cX6_nextToken 91 = .ok (.iconst 3, 1) := by decide +kernel
theorem dX6_nextToken_92 : decode cX6_nextToken 92 = .ok (.goto 26, 3) := by decide +kernel
theorem dX6_nextToken_95 : decode cX6_nextToken 95 = .ok (.aload_n 0, 1) := by decide +kernel
theorem dX6_nextToken_96 : decode cX6_nextToken 96 = .ok (.getfield 98, 3) := by decide +kernel
theorem dX6_nextToken_99 : decode cX6_nextToken 99 = .ok (.bipush 44, 2) := by decide +kernel
theorem dX6_nextToken_101 : decode cX6_nextToken 101 = .ok (.if_icmp .eq 12, 3) := by decide +kernel
theorem dX6_nextToken_104 : decode cX6_nextToken 104 = .ok (.aload_n 0, 1) := by decide +kernel
theorem dX6_nextToken_105 : decode cX6_nextToken 105 = .ok (.getfield 98, 3) := by decide +kernel
theorem dX6_nextToken_108 : decode cX6_nextToken 108 = .ok (.bipush 59, 2) := by decide +kernel
theorem dX6_nextToken_110 : decode cX6_nextToken 110 = .ok (.if_icmp .ne 7, 3) := by decide +kernel
theorem dX6_nextToken_113 : decode cX6_nextToken 113 = .ok (.iconst 4, 1) := by decide +kernel
theorem dX6_nextToken_114 : decode cX6_nextToken 114 = .ok (.goto 4, 3) := by decide +kernel
theorem dX6_nextToken_117 : decode cX6_nextToken 117 = .ok (.iconst 0, 1) := by decide +kernel
theorem dX6_nextToken_118 : decode cX6_nextToken 118 = .ok (.putfield 109, 3) := by decide +kernel
theorem dX6_nextToken_121 : decode cX6_nextToken 121 = .ok (.aload_n 0, 1) := by decide +kernel
theorem dX6_nextToken_122 : decode cX6_nextToken 122 = .ok (.dup, 1) := by decide +kernel
theorem dX6_nextToken_123 : decode cX6_nextToken 123 = .ok (.getfield 94, 3) := by decide +kernel
theorem dX6_nextToken_126 : decode cX6_nextToken 126 = .ok (.aload_n 0, 1) := by decide +kernel
theorem dX6_nextToken_127 : decode cX6_nextToken 127 = .ok (.getfield 94, 3) := by decide +kernel
theorem dX6_nextToken_130 : decode cX6_nextToken 130 = .ok (.aload_n 0, 1) := by decide +kernel
theorem dX6_nextToken_131 : decode cX6_nextToken 131 = .ok (.getfield 81, 3) := by decide +kernel
theorem dX6_nextToken_134 : decode cX6_nextToken 134 = .ok (.if_icmp .ge 7, 3) := by decide +kernel
theorem dX6_nextToken_137 : decode cX6_nextToken 137 = .ok (.iconst 1, 1) := by decide +kernel
theorem dX6_nextToken_138 : decode cX6_nextToken 138 = .ok (.goto 4, 3) := by decide +kernel
theorem dX6_nextToken_141 : decode cX6_nextToken 141 = .ok (.iconst 0, 1) := by decide +kernel
theorem dX6_nextToken_142 : decode cX6_nextToken 142 = .ok (.iadd, 1) := by decide +kernel
theorem dX6_nextToken_143 : decode cX6_nextToken 143 = .ok (.putfield 94, 3) := by decide +kernel
theorem dX6_nextToken_146 : decode cX6_nextToken 146 = .ok (.aload_n 0, 1) := by decide +kernel
theorem dX6_nextToken_147 : decode cX6_nextToken 147 = .ok (.getfield 109, 3) := by decide +kernel
theorem dX6_nextToken_150 : decode cX6_nextToken 150 = .ok (.iconst 3, 1) := by decide +kernel
theorem dX6_nextToken_151 : decode cX6_nextToken 151 = .ok (.if_icmp .ne 126, 3) := by decide +kernel
theorem dX6_nextToken_154 : decode cX6_nextToken 154 = .ok (.aload_n 0, 1) := by decide +kernel
theorem dX6_nextToken_155 : decode cX6_nextToken 155 = .ok (.dup, 1) := by decide +kernel
theorem dX6_nextToken_156 : decode cX6_nextToken 156 = .ok (.getfield 98, 3) := by decide +kernel
theorem dX6_nextToken_159 : decode cX6_nextToken 159 = .ok (.bipush 48, 2) := by decide +kernel
theorem dX6_nextToken_161 : decode cX6_nextToken 161 = .ok (.isub, 1) := by decide +kernel
theorem dX6_nextToken_162 : decode cX6_nextToken 162 = .ok (.putfield 98, 3) := by decide +kernel
theorem dX6_nextToken_165 : decode cX6_nextToken 165 = .ok (.aload_n 0, 1) := by decide +kernel
theorem dX6_nextToken_166 : decode cX6_nextToken 166 = .ok (.getfield 94, 3) := by decide +kernel
theorem dX6_nextToken_169 : decode cX6_nextToken 169 = .ok (.aload_n 0, 1) := by decide +kernel
theorem dX6_nextToken_170 : decode cX6_nextToken 170 = .ok (.getfield 81, 3) := by decide +kernel
theorem dX6_nextToken_173 : decode cX6_nextToken 173 = .ok (.if_icmp .ge 82, 3) := by decide +kernel
theorem dX6_nextToken_176 : decode cX6_nextToken 176 = .ok (.aload_n 0, 1) := by decide +kernel
theorem dX6_nextToken_177 : decode cX6_nextToken 177 = .ok (.getfield 31, 3) := by decide +kernel
theorem dX6_nextToken_180 : decode cX6_nextToken 180 = .ok (.aload_n 0, 1) := by decide +kernel
theorem dX6_nextToken_181 : decode cX6_nextToken 181 = .ok (.getfield 94, 3) := by decide +kernel
theorem dX6_nextToken_184 : decode cX6_nextToken 184 = .ok (.iaload, 1) := by decide +kernel
theorem dX6_nextToken_185 : decode cX6_nextToken 185 = .ok (.i2l, 1) := by decide +kernel
theorem dX6_nextToken_186 : decode cX6_nextToken 186 = .ok (.ldc2_w 105, 3) := by decide +kernel
theorem dX6_nextToken_189 : decode cX6_nextToken 189 = .ok (.ldc2_w 107, 3) := by decide +kernel
theorem dX6_nextToken_192 : decode cX6_nextToken 192 = .ok (.invokestatic 64, 3) := by decide +kernel
theorem dX6_nextToken_195 : decode cX6_nextToken 195 = .ok (.ifCond .eq 60, 3) := by decide +kernel
theorem dX6_nextToken_198 : decode cX6_nextToken 198 = .ok (.aload_n 0, 1) := by decide +kernel
theorem dX6_nextToken_199 : decode cX6_nextToken 199 = .ok (.aload_n 0, 1) := by decide +kernel
theorem dX6_nextToken_200 : decode cX6_nextToken 200 = .ok (.getfield 94, 3) := by decide +kernel
theorem dX6_nextToken_203 : decode cX6_nextToken 203 = .ok (.aload_n 0, 1) := by decide +kernel
theorem dX6_nextToken_204 : decode cX6_nextToken 204 = .ok (.getfield 88, 3) := by decide +kernel
theorem dX6_nextToken_207 : decode cX6_nextToken 207 = .ok (.isub, 1) := by decide +kernel
theorem dX6_nextToken_208 : decode cX6_nextToken 208 = .ok (.iconst 2, 1) := by decide +kernel
theorem dX6_nextToken_209 : decode cX6_nextToken 209 = .ok (.if_icmp .ge 26, 3) := by decide +kernel
theorem dX6_nextToken_212 : decode cX6_nextToken 212 = .ok (.bipush 10, 2) := by decide +kernel
theorem dX6_nextToken_214 : decode cX6_nextToken 214 = .ok (.aload_n 0, 1) := by decide +kernel
theorem dX6_nextToken_215 : decode cX6_nextToken 215 = .ok (.getfield 98, 3) := by decide +kernel
theorem dX6_nextToken_218 : decode cX6_nextToken 218 = .ok (.imul, 1) := by decide +kernel
theorem dX6_nextToken_219 : decode cX6_nextToken 219 = .ok (.aload_n 0, 1) := by decide +kernel
theorem dX6_nextToken_220 : decode cX6_nextToken 220 = .ok (.getfield 31, 3) := by decide +kernel
theorem dX6_nextToken_223 : decode cX6_nextToken 223 = .ok (.aload_n 0, 1) := by decide +kernel
theorem dX6_nextToken_224 : decode cX6_nextToken 224 = .ok (.getfield 94, 3) := by decide +kernel
theorem dX6_nextToken_227 : decode cX6_nextToken 227 = .ok (.iaload, 1) := by decide +kernel
theorem dX6_nextToken_228 : decode cX6_nextToken 228 = .ok (.iadd, 1) := by decide +kernel
theorem dX6_nextToken_229 : decode cX6_nextToken 229 = .ok (.bipush 48, 2) := by decide +kernel
theorem dX6_nextToken_231 : decode cX6_nextToken 231 = .ok (.isub, 1) := by decide +kernel
theorem dX6_nextToken_232 : decode cX6_nextToken 232 = .ok (.goto 7, 3) := by decide +kernel
theorem dX6_nextToken_235 : decode cX6_nextToken 235 = .ok (.aload_n 0, 1) := by decide +kernel
theorem dX6_nextToken_236 : decode cX6_nextToken 236 = .ok (.getfield 98, 3) := by decide +kernel
theorem dX6_nextToken_239 : decode cX6_nextToken 239 = .ok (.putfield 98, 3) := by decide +kernel
theorem dX6_nextToken_242 : decode cX6_nextToken 242 = .ok (.aload_n 0, 1) := by decide +kernel
theorem dX6_nextToken_243 : decode cX6_nextToken 243 = .ok (.dup, 1) := by decide +kernel
theorem dX6_nextToken_244 : decode cX6_nextToken 244 = .ok (.getfield 94, 3) := by decide +kernel
theorem dX6_nextToken_247 : decode cX6_nextToken 247 = .ok (.iconst 1, 1) := by decide +kernel
theorem dX6_nextToken_248 : decode cX6_nextToken 248 = .ok (.iadd, 1) := by decide +kernel
theorem dX6_nextToken_249 : decode cX6_nextToken 249 = .ok (.putfield 94, 3) := by decide +kernel
theorem dX6_nextToken_252 : decode cX6_nextToken 252 = .ok (.goto (-87), 3) := by decide +kernel
theorem dX6_nextToken_255 : decode cX6_nextToken 255 = .ok (.aload_n 0, 1) := by decide +kernel
theorem dX6_nextToken_256 : decode cX6_nextToken 256 = .ok (.aload_n 0, 1) := by decide +kernel
theorem dX6_nextToken_257 : decode cX6_nextToken 257 = .ok (.getfield 94, 3) := by decide +kernel
theorem dX6_nextToken_260 : decode cX6_nextToken 260 = .ok (.aload_n 0, 1) := by decide +kernel
theorem dX6_nextToken_261 : decode cX6_nextToken 261 = .ok (.getfield 88, 3) := by decide +kernel
theorem dX6_nextToken_264 : decode cX6_nextToken 264 = .ok (.isub, 1) := by decide +kernel
theorem dX6_nextToken_265 : decode cX6_nextToken 265 = .ok (.iconst 2, 1) := by decide +kernel
theorem dX6_nextToken_266 : decode cX6_nextToken 266 = .ok (.if_icmp .le 7, 3) := by decide +kernel
theorem dX6_nextToken_269 : decode cX6_nextToken 269 = .ok (.iconst 0, 1) := by decide +kernel
theorem dX6_nextToken_270 : decode cX6_nextToken 270 = .ok (.goto 4, 3) := by decide +kernel
theorem dX6_nextToken_273 : decode cX6_nextToken 273 = .ok (.iconst 3, 1) := by decide +kernel
theorem dX6_nextToken_274 : decode cX6_nextToken 274 = .ok (.putfield 109, 3) := by decide +kernel
theorem dX6_nextToken_277 : decode cX6_nextToken 277 = .ok (.return_, 1) := by decide +kernel
theorem dX6_must_0 : decode cX6_must 0 = .ok (.iload_n 1, 1) := by decide +kernel
theorem dX6_must_1 : decode cX6_must 1 = .ok (.ifCond .ne 8, 3) := by decide +kernel
theorem dX6_must_4 : decode cX6_must 4 = .ok (.aload_n 0, 1) := by decide +kernel
theorem dX6_must_5 : decode cX6_must 5 = .ok (.iconst 1, 1) := by decide +kernel
theorem dX6_must_6 : decode cX6_must 6 = .ok (.invokevirtual 112, 3) := by decide +kernel
theorem dX6_must_9 : decode cX6_must 9 = .ok (.aload_n 0, 1) := by decide +kernel
theorem dX6_must_10 : decode cX6_must 10 = .ok (.getfield 85, 3) := by decide +kernel
theorem dX6_must_13 : decode cX6_must 13 = .ok (.ifCond .ne 7, 3) := by decide +kernel
theorem dX6_must_16 : decode cX6_must 16 = .ok (.aload_n 0, 1) := by decide +kernel
theorem dX6_must_17 : decode cX6_must 17 = .ok (.invokevirtual 116, 3) := by decide +kernel
theorem dX6_must_20 : decode cX6_must 20 = .ok (.return_, 1) := by decide +kernel
theorem dX6_isLetter_0 : decode cX6_isLetter 0 = .ok (.aload_n 0, 1) := by decide +kernel
theorem dX6_isLetter_1 : decode cX6_isLetter 1 = .ok (.getfield 85, 3) := by decide +kernel
theorem dX6_isLetter_4 : decode cX6_isLetter 4 = .ok (.ifCond .ne 23, 3) := by decide +kernel
theorem dX6_isLetter_7 : decode cX6_isLetter 7 = .ok (.aload_n 0, 1) := by decide +kernel
theorem dX6_isLetter_8 : decode cX6_isLetter 8 = .ok (.getfield 109, 3) := by decide +kernel
theorem dX6_isLetter_11 : decode cX6_isLetter 11 = .ok (.iconst 2, 1) := by decide +kernel
theorem dX6_isLetter_12 : decode cX6_isLetter 12 = .ok (.if_icmp .ne 15, 3) := by decide +kernel
theorem dX6_isLetter_15 : decode cX6_isLetter 15 = .ok (.aload_n 0, 1) := by decide +kernel
theorem dX6_isLetter_16 : decode cX6_isLetter 16 = .ok (.getfield 98, 3) := by decide +kernel
theorem dX6_isLetter_19 : decode cX6_isLetter 19 = .ok (.iload_n 1, 1) := by decide +kernel
theorem dX6_isLetter_20 : decode cX6_isLetter 20 = .ok (.if_icmp .ne 7, 3) := by decide +kernel
theorem dX6_isLetter_23 : decode cX6_isLetter 23 = .ok (.iconst 1, 1) := by decide +kernel
theorem dX6_isLetter_24 : decode cX6_isLetter 24 = .ok (.goto 4, 3) := by decide +kernel
theorem dX6_isLetter_27 : decode cX6_isLetter 27 = .ok (.iconst 0, 1) := by decide +kernel
theorem dX6_isLetter_28 : decode cX6_isLetter 28 = .ok (.ireturn, 1) := by decide +kernel
theorem dX6_number_0 : decode cX6_number 0 = .ok (.aload_n 0, 1) := by decide +kernel
theorem dX6_number_1 : decode cX6_number 1 = .ok (.getfield 85, 3) := by decide +kernel
theorem dX6_number_4 : decode cX6_number 4 = .ok (.ifCond .ne 16, 3) := by decide +kernel
theorem dX6_number_7 : decode cX6_number 7 = .ok (.aload_n 0, 1) := by decide +kernel
theorem dX6_number_8 : decode cX6_number 8 = .ok (.getfield 109, 3) := by decide +kernel
theorem dX6_number_11 : decode cX6_number 11 = .ok (.iconst 3, 1) := by decide +kernel
theorem dX6_number_12 : decode cX6_number 12 = .ok (.if_icmp .eq 8, 3) := by decide +kernel
theorem dX6_number_15 : decode cX6_number 15 = .ok (.aload_n 0, 1) := by decide +kernel
theorem dX6_number_16 : decode cX6_number 16 = .ok (.iconst 1, 1) := by decide +kernel
theorem dX6_number_17 : decode cX6_number 17 = .ok (.invokevirtual 112, 3) := by decide +kernel
theorem dX6_number_20 : decode cX6_number 20 = .ok (.aload_n 0, 1) := by decide +kernel
theorem dX6_number_21 : decode cX6_number 21 = .ok (.getfield 85, 3) := by decide +kernel
theorem dX6_number_24 : decode cX6_number 24 = .ok (.ifCond .ne 23, 3) := by decide +kernel
theorem dX6_number_27 : decode cX6_number 27 = .ok (.aload_n 0, 1) := by decide +kernel
theorem dX6_number_28 : decode cX6_number 28 = .ok (.getfield 98, 3) := by decide +kernel
theorem dX6_number_31 : decode cX6_number 31 = .ok (.i2l, 1) := by decide +kernel
theorem dX6_number_32 : decode cX6_number 32 = .ok (.iload_n 1, 1) := by decide +kernel
theorem dX6_number_33 : decode cX6_number 33 = .ok (.i2l, 1) := by decide +kernel
theorem dX6_number_34 : decode cX6_number 34 = .ok (.iload_n 2, 1) := by decide +kernel
theorem dX6_number_35 : decode cX6_number 35 = .ok (.i2l, 1) := by decide +kernel
theorem dX6_number_36 : decode cX6_number 36 = .ok (.invokestatic 64, 3) := by decide +kernel
theorem dX6_number_39 : decode cX6_number 39 = .ok (.ifCond .ne 8, 3) := by decide +kernel
theorem dX6_number_42 : decode cX6_number 42 = .ok (.aload_n 0, 1) := by decide +kernel
theorem dX6_number_43 : decode cX6_number 43 = .ok (.iconst 2, 1) := by decide +kernel
theorem dX6_number_44 : decode cX6_number 44 = .ok (.invokevirtual 112, 3) := by decide +kernel
theorem dX6_number_47 : decode cX6_number 47 = .ok (.aload_n 0, 1) := by decide +kernel
theorem dX6_number_48 : decode cX6_number 48 = .ok (.getfield 85, 3) := by decide +kernel
theorem dX6_number_51 : decode cX6_number 51 = .ok (.ifCond .ne 10, 3) := by decide +kernel
theorem dX6_number_54 : decode cX6_number 54 = .ok (.aload_n 0, 1) := by decide +kernel
theorem dX6_number_55 : decode cX6_number 55 = .ok (.getfield 98, 3) := by decide +kernel
theorem dX6_number_58 : decode cX6_number 58 = .ok (.goto 4, 3) := by decide +kernel
theorem dX6_number_61 : decode cX6_number 61 = .ok (.iload_n 1, 1) := by decide +kernel
theorem dX6_number_62 : decode cX6_number 62 = .ok (.istore_n 3, 1) := by decide +kernel
theorem dX6_number_63 : decode cX6_number 63 = .ok (.aload_n 0, 1) := by decide +kernel
theorem dX6_number_64 : decode cX6_number 64 = .ok (.iconst 1, 1) := by decide +kernel
theorem dX6_number_65 : decode cX6_number 65 = .ok (.invokevirtual 119, 3) := by decide +kernel
theorem dX6_number_68 : decode cX6_number 68 = .ok (.iload_n 3, 1) := by decide +kernel
theorem dX6_number_69 : decode cX6_number 69 = .ok (.ireturn, 1) := by decide +kernel
theorem dX6_mustSign_0 : decode cX6_mustSign 0 = .ok (.aload_n 0, 1) := by decide +kernel
theorem dX6_mustSign_1 : decode cX6_mustSign 1 = .ok (.aload_n 0, 1) := by decide +kernel
theorem dX6_mustSign_2 : decode cX6_mustSign 2 = .ok (.getfield 109, 3) := by decide +kernel
theorem dX6_mustSign_5 : decode cX6_mustSign 5 = .ok (.iconst 4, 1) := by decide +kernel
theorem dX6_mustSign_6 : decode cX6_mustSign 6 = .ok (.if_icmp .ne 15, 3) := by decide +kernel
theorem dX6_mustSign_9 : decode cX6_mustSign 9 = .ok (.aload_n 0, 1) := by decide +kernel
theorem dX6_mustSign_10 : decode cX6_mustSign 10 = .ok (.getfield 98, 3) := by decide +kernel
theorem dX6_mustSign_13 : decode cX6_mustSign 13 = .ok (.iload_n 1, 1) := by decide +kernel
theorem dX6_mustSign_14 : decode cX6_mustSign 14 = .ok (.if_icmp .ne 7, 3) := by decide +kernel
theorem dX6_mustSign_17 : decode cX6_mustSign 17 = .ok (.iconst 1, 1) := by decide +kernel
theorem dX6_mustSign_18 : decode cX6_mustSign 18 = .ok (.goto 4, 3) := by decide +kernel
theorem dX6_mustSign_21 : decode cX6_mustSign 21 = .ok (.iconst 0, 1) := by decide +kernel
theorem dX6_mustSign_22 : decode cX6_mustSign 22 = .ok (.invokevirtual 119, 3) := by decide +kernel
theorem dX6_mustSign_25 : decode cX6_mustSign 25 = .ok (.return_, 1) := by decide +kernel
theorem dX6_begin_0 : decode cX6_begin 0 = .ok (.aload_n 0, 1) := by decide +kernel
theorem dX6_begin_1 : decode cX6_begin 1 = .ok (.iconst 0, 1) := by decide +kernel
theorem dX6_begin_2 : decode cX6_begin 2 = .ok (.putfield 94, 3) := by decide +kernel
theorem dX6_begin_5 : decode cX6_begin 5 = .ok (.aload_n 0, 1) := by decide +kernel
theorem dX6_begin_6 : decode cX6_begin 6 = .ok (.iconst 0, 1) := by decide +kernel
theorem dX6_begin_7 : decode cX6_begin 7 = .ok (.putfield 85, 3) := by decide +kernel
theorem dX6_begin_10 : decode cX6_begin 10 = .ok (.aload_n 0, 1) := by decide +kernel
theorem dX6_begin_11 : decode cX6_begin 11 = .ok (.invokevirtual 116, 3) := by decide +kernel
theorem dX6_begin_14 : decode cX6_begin 14 = .ok (.return_, 1) := by decide +kernel
theorem dX6_failed_0 : decode cX6_failed 0 = .ok (.aload_n 0, 1) := by decide +kernel
theorem dX6_failed_1 : decode cX6_failed 1 = .ok (.getfield 85, 3) := by decide +kernel
theorem dX6_failed_4 : decode cX6_failed 4 = .ok (.ifCond .ne 16, 3) := by decide +kernel
theorem dX6_failed_7 : decode cX6_failed 7 = .ok (.aload_n 0, 1) := by decide +kernel
theorem dX6_failed_8 : decode cX6_failed 8 = .ok (.getfield 109, 3) := by decide +kernel
theorem dX6_failed_11 : decode cX6_failed 11 = .ok (.iconst 1, 1) := by decide +kernel
theorem dX6_failed_12 : decode cX6_failed 12 = .ok (.if_icmp .eq 8, 3) := by decide +kernel
theorem dX6_failed_15 : decode cX6_failed 15 = .ok (.aload_n 0, 1) := by decide +kernel
theorem dX6_failed_16 : decode cX6_failed 16 = .ok (.iconst 1, 1) := by decide +kernel
theorem dX6_failed_17 : decode cX6_failed 17 = .ok (.invokevirtual 112, 3) := by decide +kernel
theorem dX6_failed_20 : decode cX6_failed 20 = .ok (.aload_n 0, 1) := by decide +kernel
theorem dX6_failed_21 : decode cX6_failed 21 = .ok (.iconst 0, 1) := by decide +kernel
theorem dX6_failed_22 : decode cX6_failed 22 = .ok (.putfield 81, 3) := by decide +kernel
theorem dX6_failed_25 : decode cX6_failed 25 = .ok (.aload_n 0, 1) := by decide +kernel
theorem dX6_failed_26 : decode cX6_failed 26 = .ok (.aload_n 0, 1) := by decide +kernel
theorem dX6_failed_27 : decode cX6_failed 27 = .ok (.getfield 85, 3) := by decide +kernel
theorem dX6_failed_30 : decode cX6_failed 30 = .ok (.ifCond .le 10, 3) := by decide +kernel
theorem dX6_failed_33 : decode cX6_failed 33 = .ok (.aload_n 0, 1) := by decide +kernel
theorem dX6_failed_34 : decode cX6_failed 34 = .ok (.getfield 85, 3) := by decide +kernel
theorem dX6_failed_37 : decode cX6_failed 37 = .ok (.goto 7, 3) := by decide +kernel
theorem dX6_failed_40 : decode cX6_failed 40 = .ok (.aload_n 0, 1) := by decide +kernel
theorem dX6_failed_41 : decode cX6_failed 41 = .ok (.getfield 123, 3) := by decide +kernel
theorem dX6_failed_44 : decode cX6_failed 44 = .ok (.putfield 123, 3) := by decide +kernel
theorem dX6_failed_47 : decode cX6_failed 47 = .ok (.aload_n 0, 1) := by decide +kernel
theorem dX6_failed_48 : decode cX6_failed 48 = .ok (.getfield 85, 3) := by decide +kernel
theorem dX6_failed_51 : decode cX6_failed 51 = .ok (.ifCond .le 7, 3) := by decide +kernel
theorem dX6_failed_54 : decode cX6_failed 54 = .ok (.iconst 1, 1) := by decide +kernel
theorem dX6_failed_55 : decode cX6_failed 55 = .ok (.goto 4, 3) := by decide +kernel
theorem dX6_failed_58 : decode cX6_failed 58 = .ok (.iconst 0, 1) := by decide +kernel
theorem dX6_failed_59 : decode cX6_failed 59 = .ok (.ireturn, 1) := by decide +kernel
theorem dX6_fault_0 : decode cX6_fault 0 = .ok (.aload_n 0, 1) := by decide +kernel
theorem dX6_fault_1 : decode cX6_fault 1 = .ok (.iconst 0, 1) := by decide +kernel
theorem dX6_fault_2 : decode cX6_fault 2 = .ok (.putfield 54, 3) := by decide +kernel
theorem dX6_fault_5 : decode cX6_fault 5 = .ok (.aload_n 0, 1) := by decide +kernel
theorem dX6_fault_6 : decode cX6_fault 6 = .ok (.getfield 123, 3) := by decide +kernel
theorem dX6_fault_9 : decode cX6_fault 9 = .ok (.ireturn, 1) := by decide +kernel
theorem dX6_kindBy_0 : decode cX6_kindBy 0 = .ok (.iload_n 0, 1) := by decide +kernel
theorem dX6_kindBy_1 : decode cX6_kindBy 1 = .ok (.bipush 97, 2) := by decide +kernel
theorem dX6_kindBy_3 : decode cX6_kindBy 3 = .ok (.if_icmp .ne 7, 3) := by decide +kernel
theorem dX6_kindBy_6 : decode cX6_kindBy 6 = .ok (.iconst 1, 1) := by decide +kernel
theorem dX6_kindBy_7 : decode cX6_kindBy 7 = .ok (.goto 45, 3) := by decide +kernel
theorem dX6_kindBy_10 : decode cX6_kindBy 10 = .ok (.iload_n 0, 1) := by decide +kernel
theorem dX6_kindBy_11 : decode cX6_kindBy 11 = .ok (.bipush 119, 2) := by decide +kernel
theorem dX6_kindBy_13 : decode cX6_kindBy 13 = .ok (.if_icmp .ne 7, 3) := by decide +kernel
theorem dX6_kindBy_16 : decode cX6_kindBy 16 = .ok (.iconst 2, 1) := by decide +kernel
theorem dX6_kindBy_17 : decode cX6_kindBy 17 = .ok (.goto 35, 3) := by decide +kernel
theorem dX6_kindBy_20 : decode cX6_kindBy 20 = .ok (.iload_n 0, 1) := by decide +kernel
theorem dX6_kindBy_21 : decode cX6_kindBy 21 = .ok (.bipush 116, 2) := by decide +kernel
theorem dX6_kindBy_23 : decode cX6_kindBy 23 = .ok (.if_icmp .ne 7, 3) := by decide +kernel
theorem dX6_kindBy_26 : decode cX6_kindBy 26 = .ok (.iconst 3, 1) := by decide +kernel
theorem dX6_kindBy_27 : decode cX6_kindBy 27 = .ok (.goto 25, 3) := by decide +kernel
theorem dX6_kindBy_30 : decode cX6_kindBy 30 = .ok (.iload_n 0, 1) := by decide +kernel
theorem dX6_kindBy_31 : decode cX6_kindBy 31 = .ok (.bipush 107, 2) := by decide +kernel
theorem dX6_kindBy_33 : decode cX6_kindBy 33 = .ok (.if_icmp .ne 7, 3) := by decide +kernel
theorem dX6_kindBy_36 : decode cX6_kindBy 36 = .ok (.iconst 4, 1) := by decide +kernel
theorem dX6_kindBy_37 : decode cX6_kindBy 37 = .ok (.goto 15, 3) := by decide +kernel
theorem dX6_kindBy_40 : decode cX6_kindBy 40 = .ok (.iload_n 0, 1) := by decide +kernel
theorem dX6_kindBy_41 : decode cX6_kindBy 41 = .ok (.bipush 98, 2) := by decide +kernel
theorem dX6_kindBy_43 : decode cX6_kindBy 43 = .ok (.if_icmp .ne 7, 3) := by decide +kernel
theorem dX6_kindBy_46 : decode cX6_kindBy 46 = .ok (.iconst 5, 1) := by decide +kernel
theorem dX6_kindBy_47 : decode cX6_kindBy 47 = .ok (.goto 5, 3) := by decide +kernel
theorem dX6_kindBy_50 : decode cX6_kindBy 50 = .ok (.ldc 97, 2) := by decide +kernel
theorem dX6_kindBy_52 : decode cX6_kindBy 52 = .ok (.ireturn, 1) := by decide +kernel
theorem dX6_readRoad_0 : decode cX6_readRoad 0 = .ok (.aload_n 0, 1) := by decide +kernel
theorem dX6_readRoad_1 : decode cX6_readRoad 1 = .ok (.getfield 22, 3) := by decide +kernel
theorem dX6_readRoad_4 : decode cX6_readRoad 4 = .ok (.iconst 4, 1) := by decide +kernel
theorem dX6_readRoad_5 : decode cX6_readRoad 5 = .ok (.iaload, 1) := by decide +kernel
theorem dX6_readRoad_6 : decode cX6_readRoad 6 = .ok (.bipush 10, 2) := by decide +kernel
theorem dX6_readRoad_8 : decode cX6_readRoad 8 = .ok (.if_icmp .ne 8, 3) := by decide +kernel
theorem dX6_readRoad_11 : decode cX6_readRoad 11 = .ok (.aload_n 0, 1) := by decide +kernel
theorem dX6_readRoad_12 : decode cX6_readRoad 12 = .ok (.iconst 3, 1) := by decide +kernel
theorem dX6_readRoad_13 : decode cX6_readRoad 13 = .ok (.invokevirtual 112, 3) := by decide +kernel
theorem dX6_readRoad_16 : decode cX6_readRoad 16 = .ok (.aload_n 0, 1) := by decide +kernel
theorem dX6_readRoad_17 : decode cX6_readRoad 17 = .ok (.iconst 1, 1) := by decide +kernel
theorem dX6_readRoad_18 : decode cX6_readRoad 18 = .ok (.invokevirtual 119, 3) := by decide +kernel
theorem dX6_readRoad_21 : decode cX6_readRoad 21 = .ok (.aload_n 0, 1) := by decide +kernel
theorem dX6_readRoad_22 : decode cX6_readRoad 22 = .ok (.iconst 0, 1) := by decide +kernel
theorem dX6_readRoad_23 : decode cX6_readRoad 23 = .ok (.aload_n 0, 1) := by decide +kernel
theorem dX6_readRoad_24 : decode cX6_readRoad 24 = .ok (.getfield 22, 3) := by decide +kernel
theorem dX6_readRoad_27 : decode cX6_readRoad 27 = .ok (.iconst 0, 1) := by decide +kernel
theorem dX6_readRoad_28 : decode cX6_readRoad 28 = .ok (.iaload, 1) := by decide +kernel
theorem dX6_readRoad_29 : decode cX6_readRoad 29 = .ok (.iconst 1, 1) := by decide +kernel
theorem dX6_readRoad_30 : decode cX6_readRoad 30 = .ok (.isub, 1) := by decide +kernel
theorem dX6_readRoad_31 : decode cX6_readRoad 31 = .ok (.invokevirtual 126, 3) := by decide +kernel
theorem dX6_readRoad_34 : decode cX6_readRoad 34 = .ok (.istore_n 1, 1) := by decide +kernel
theorem dX6_readRoad_35 : decode cX6_readRoad 35 = .ok (.aload_n 0, 1) := by decide +kernel
theorem dX6_readRoad_36 : decode cX6_readRoad 36 = .ok (.bipush 44, 2) := by decide +kernel
theorem dX6_readRoad_38 : decode cX6_readRoad 38 = .ok (.invokevirtual 130, 3) := by decide +kernel
theorem dX6_readRoad_41 : decode cX6_readRoad 41 = .ok (.aload_n 0, 1) := by decide +kernel
theorem dX6_readRoad_42 : decode cX6_readRoad 42 = .ok (.getfield 85, 3) := by decide +kernel
theorem dX6_readRoad_45 : decode cX6_readRoad 45 = .ok (.ifCond .ne 57, 3) := by decide +kernel
theorem dX6_readRoad_48 : decode cX6_readRoad 48 = .ok (.aload_n 0, 1) := by decide +kernel
theorem dX6_readRoad_49 : decode cX6_readRoad 49 = .ok (.getfield 109, 3) := by decide +kernel
theorem dX6_readRoad_52 : decode cX6_readRoad 52 = .ok (.iconst 3, 1) := by decide +kernel
theorem dX6_readRoad_53 : decode cX6_readRoad 53 = .ok (.if_icmp .ne 49, 3) := by decide +kernel
theorem dX6_readRoad_56 : decode cX6_readRoad 56 = .ok (.aload_n 0, 1) := by decide +kernel
theorem dX6_readRoad_57 : decode cX6_readRoad 57 = .ok (.getfield 98, 3) := by decide +kernel
theorem dX6_readRoad_60 : decode cX6_readRoad 60 = .ok (.iload_n 1, 1) := by decide +kernel
theorem dX6_readRoad_61 : decode cX6_readRoad 61 = .ok (.if_icmp .eq 36, 3) := by decide +kernel
theorem dX6_readRoad_64 : decode cX6_readRoad 64 = .ok (.aload_n 0, 1) := by decide +kernel
theorem dX6_readRoad_65 : decode cX6_readRoad 65 = .ok (.getfield 98, 3) := by decide +kernel
theorem dX6_readRoad_68 : decode cX6_readRoad 68 = .ok (.aload_n 0, 1) := by decide +kernel
theorem dX6_readRoad_69 : decode cX6_readRoad 69 = .ok (.getfield 22, 3) := by decide +kernel
theorem dX6_readRoad_72 : decode cX6_readRoad 72 = .ok (.iconst 0, 1) := by decide +kernel
theorem dX6_readRoad_73 : decode cX6_readRoad 73 = .ok (.iaload, 1) := by decide +kernel
theorem dX6_readRoad_74 : decode cX6_readRoad 74 = .ok (.if_icmp .ge 28, 3) := by decide +kernel
theorem dX6_readRoad_77 : decode cX6_readRoad 77 = .ok (.aload_n 0, 1) := by decide +kernel
theorem dX6_readRoad_78 : decode cX6_readRoad 78 = .ok (.getfield 22, 3) := by decide +kernel
theorem dX6_readRoad_81 : decode cX6_readRoad 81 = .ok (.bipush 10, 2) := by decide +kernel
theorem dX6_readRoad_83 : decode cX6_readRoad 83 = .ok (.iload_n 1, 1) := by decide +kernel
theorem dX6_readRoad_84 : decode cX6_readRoad 84 = .ok (.iadd, 1) := by decide +kernel
theorem dX6_readRoad_85 : decode cX6_readRoad 85 = .ok (.iaload, 1) := by decide +kernel
theorem dX6_readRoad_86 : decode cX6_readRoad 86 = .ok (.aload_n 0, 1) := by decide +kernel
theorem dX6_readRoad_87 : decode cX6_readRoad 87 = .ok (.getfield 98, 3) := by decide +kernel
theorem dX6_readRoad_90 : decode cX6_readRoad 90 = .ok (.ishr, 1) := by decide +kernel
theorem dX6_readRoad_91 : decode cX6_readRoad 91 = .ok (.iconst 1, 1) := by decide +kernel
theorem dX6_readRoad_92 : decode cX6_readRoad 92 = .ok (.iand, 1) := by decide +kernel
theorem dX6_readRoad_93 : decode cX6_readRoad 93 = .ok (.iconst 1, 1) := by decide +kernel
theorem dX6_readRoad_94 : decode cX6_readRoad 94 = .ok (.if_icmp .ne 8, 3) := by decide +kernel
theorem dX6_readRoad_97 : decode cX6_readRoad 97 = .ok (.aload_n 0, 1) := by decide +kernel
theorem dX6_readRoad_98 : decode cX6_readRoad 98 = .ok (.iconst 2, 1) := by decide +kernel
theorem dX6_readRoad_99 : decode cX6_readRoad 99 = .ok (.invokevirtual 112, 3) := by decide +kernel
theorem dX6_readRoad_102 : decode cX6_readRoad 102 = .ok (.aload_n 0, 1) := by decide +kernel
theorem dX6_readRoad_103 : decode cX6_readRoad 103 = .ok (.iconst 0, 1) := by decide +kernel
theorem dX6_readRoad_104 : decode cX6_readRoad 104 = .ok (.aload_n 0, 1) := by decide +kernel
theorem dX6_readRoad_105 : decode cX6_readRoad 105 = .ok (.getfield 22, 3) := by decide +kernel
theorem dX6_readRoad_108 : decode cX6_readRoad 108 = .ok (.iconst 0, 1) := by decide +kernel
theorem dX6_readRoad_109 : decode cX6_readRoad 109 = .ok (.iaload, 1) := by decide +kernel
theorem dX6_readRoad_110 : decode cX6_readRoad 110 = .ok (.iconst 1, 1) := by decide +kernel
theorem dX6_readRoad_111 : decode cX6_readRoad 111 = .ok (.isub, 1) := by decide +kernel
theorem dX6_readRoad_112 : decode cX6_readRoad 112 = .ok (.invokevirtual 126, 3) := by decide +kernel
theorem dX6_readRoad_115 : decode cX6_readRoad 115 = .ok (.istore_n 2, 1) := by decide +kernel
theorem dX6_readRoad_116 : decode cX6_readRoad 116 = .ok (.aload_n 0, 1) := by decide +kernel
theorem dX6_readRoad_117 : decode cX6_readRoad 117 = .ok (.bipush 59, 2) := by decide +kernel
theorem dX6_readRoad_119 : decode cX6_readRoad 119 = .ok (.invokevirtual 130, 3) := by decide +kernel
theorem dX6_readRoad_122 : decode cX6_readRoad 122 = .ok (.aload_n 0, 1) := by decide +kernel
theorem dX6_readRoad_123 : decode cX6_readRoad 123 = .ok (.getfield 85, 3) := by decide +kernel
theorem dX6_readRoad_126 : decode cX6_readRoad 126 = .ok (.ifCond .ne 43, 3) := by decide +kernel
theorem dX6_readRoad_129 : decode cX6_readRoad 129 = .ok (.aload_n 0, 1) := by decide +kernel
theorem dX6_readRoad_130 : decode cX6_readRoad 130 = .ok (.getfield 22, 3) := by decide +kernel
theorem dX6_readRoad_133 : decode cX6_readRoad 133 = .ok (.bipush 10, 2) := by decide +kernel
theorem dX6_readRoad_135 : decode cX6_readRoad 135 = .ok (.iload_n 1, 1) := by decide +kernel
theorem dX6_readRoad_136 : decode cX6_readRoad 136 = .ok (.iadd, 1) := by decide +kernel
theorem dX6_readRoad_137 : decode cX6_readRoad 137 = .ok (.dup2, 1) := by decide +kernel
theorem dX6_readRoad_138 : decode cX6_readRoad 138 = .ok (.iaload, 1) := by decide +kernel
theorem dX6_readRoad_139 : decode cX6_readRoad 139 = .ok (.iconst 1, 1) := by decide +kernel
theorem dX6_readRoad_140 : decode cX6_readRoad 140 = .ok (.iload_n 2, 1) := by decide +kernel
theorem dX6_readRoad_141 : decode cX6_readRoad 141 = .ok (.ishl, 1) := by decide +kernel
theorem dX6_readRoad_142 : decode cX6_readRoad 142 = .ok (.ior, 1) := by decide +kernel
theorem dX6_readRoad_143 : decode cX6_readRoad 143 = .ok (.iastore, 1) := by decide +kernel
theorem dX6_readRoad_144 : decode cX6_readRoad 144 = .ok (.aload_n 0, 1) := by decide +kernel
theorem dX6_readRoad_145 : decode cX6_readRoad 145 = .ok (.getfield 22, 3) := by decide +kernel
theorem dX6_readRoad_148 : decode cX6_readRoad 148 = .ok (.bipush 10, 2) := by decide +kernel
theorem dX6_readRoad_150 : decode cX6_readRoad 150 = .ok (.iload_n 2, 1) := by decide +kernel
theorem dX6_readRoad_151 : decode cX6_readRoad 151 = .ok (.iadd, 1) := by decide +kernel
theorem dX6_readRoad_152 : decode cX6_readRoad 152 = .ok (.dup2, 1) := by decide +kernel
theorem dX6_readRoad_153 : decode cX6_readRoad 153 = .ok (.iaload, 1) := by decide +kernel
theorem dX6_readRoad_154 : decode cX6_readRoad 154 = .ok (.iconst 1, 1) := by decide +kernel
theorem dX6_readRoad_155 : decode cX6_readRoad 155 = .ok (.iload_n 1, 1) := by decide +kernel
theorem dX6_readRoad_156 : decode cX6_readRoad 156 = .ok (.ishl, 1) := by decide +kernel
theorem dX6_readRoad_157 : decode cX6_readRoad 157 = .ok (.ior, 1) := by decide +kernel
theorem dX6_readRoad_158 : decode cX6_readRoad 158 = .ok (.iastore, 1) := by decide +kernel
theorem dX6_readRoad_159 : decode cX6_readRoad 159 = .ok (.aload_n 0, 1) := by decide +kernel
theorem dX6_readRoad_160 : decode cX6_readRoad 160 = .ok (.getfield 22, 3) := by decide +kernel
theorem dX6_readRoad_163 : decode cX6_readRoad 163 = .ok (.iconst 4, 1) := by decide +kernel
theorem dX6_readRoad_164 : decode cX6_readRoad 164 = .ok (.dup2, 1) := by decide +kernel
theorem dX6_readRoad_165 : decode cX6_readRoad 165 = .ok (.iaload, 1) := by decide +kernel
theorem dX6_readRoad_166 : decode cX6_readRoad 166 = .ok (.iconst 1, 1) := by decide +kernel
theorem dX6_readRoad_167 : decode cX6_readRoad 167 = .ok (.iadd, 1) := by decide +kernel
theorem dX6_readRoad_168 : decode cX6_readRoad 168 = .ok (.iastore, 1) := by decide +kernel
theorem dX6_readRoad_169 : decode cX6_readRoad 169 = .ok (.return_, 1) := by decide +kernel
theorem dX6_readWisher_0 : decode cX6_readWisher 0 = .ok (.aload_n 0, 1) := by decide +kernel
theorem dX6_readWisher_1 : decode cX6_readWisher 1 = .ok (.getfield 98, 3) := by decide +kernel
theorem dX6_readWisher_4 : decode cX6_readWisher 4 = .ok (.invokestatic 133, 3) := by decide +kernel
theorem dX6_readWisher_7 : decode cX6_readWisher 7 = .ok (.istore_n 1, 1) := by decide +kernel
theorem dX6_readWisher_8 : decode cX6_readWisher 8 = .ok (.aload_n 0, 1) := by decide +kernel
theorem dX6_readWisher_9 : decode cX6_readWisher 9 = .ok (.getfield 22, 3) := by decide +kernel
theorem dX6_readWisher_12 : decode cX6_readWisher 12 = .ok (.iconst 5, 1) := by decide +kernel
theorem dX6_readWisher_13 : decode cX6_readWisher 13 = .ok (.iaload, 1) := by decide +kernel
theorem dX6_readWisher_14 : decode cX6_readWisher 14 = .ok (.bipush 6, 2) := by decide +kernel
theorem dX6_readWisher_16 : decode cX6_readWisher 16 = .ok (.if_icmp .ne 8, 3) := by decide +kernel
theorem dX6_readWisher_19 : decode cX6_readWisher 19 = .ok (.aload_n 0, 1) := by decide +kernel
theorem dX6_readWisher_20 : decode cX6_readWisher 20 = .ok (.iconst 3, 1) := by decide +kernel
theorem dX6_readWisher_21 : decode cX6_readWisher 21 = .ok (.invokevirtual 112, 3) := by decide +kernel
theorem dX6_readWisher_24 : decode cX6_readWisher 24 = .ok (.aload_n 0, 1) := by decide +kernel
theorem dX6_readWisher_25 : decode cX6_readWisher 25 = .ok (.iconst 1, 1) := by decide +kernel
theorem dX6_readWisher_26 : decode cX6_readWisher 26 = .ok (.invokevirtual 119, 3) := by decide +kernel
theorem dX6_readWisher_29 : decode cX6_readWisher 29 = .ok (.aload_n 0, 1) := by decide +kernel
theorem dX6_readWisher_30 : decode cX6_readWisher 30 = .ok (.iconst 0, 1) := by decide +kernel
theorem dX6_readWisher_31 : decode cX6_readWisher 31 = .ok (.aload_n 0, 1) := by decide +kernel
theorem dX6_readWisher_32 : decode cX6_readWisher 32 = .ok (.getfield 22, 3) := by decide +kernel
theorem dX6_readWisher_35 : decode cX6_readWisher 35 = .ok (.iconst 0, 1) := by decide +kernel
theorem dX6_readWisher_36 : decode cX6_readWisher 36 = .ok (.iaload, 1) := by decide +kernel
theorem dX6_readWisher_37 : decode cX6_readWisher 37 = .ok (.iconst 1, 1) := by decide +kernel
theorem dX6_readWisher_38 : decode cX6_readWisher 38 = .ok (.isub, 1) := by decide +kernel
theorem dX6_readWisher_39 : decode cX6_readWisher 39 = .ok (.invokevirtual 126, 3) := by decide +kernel
theorem dX6_readWisher_42 : decode cX6_readWisher 42 = .ok (.istore_n 2, 1) := by decide +kernel
theorem dX6_readWisher_43 : decode cX6_readWisher 43 = .ok (.aload_n 0, 1) := by decide +kernel
theorem dX6_readWisher_44 : decode cX6_readWisher 44 = .ok (.bipush 44, 2) := by decide +kernel
theorem dX6_readWisher_46 : decode cX6_readWisher 46 = .ok (.invokevirtual 130, 3) := by decide +kernel
theorem dX6_readWisher_49 : decode cX6_readWisher 49 = .ok (.aload_n 0, 1) := by decide +kernel
theorem dX6_readWisher_50 : decode cX6_readWisher 50 = .ok (.iconst 0, 1) := by decide +kernel
theorem dX6_readWisher_51 : decode cX6_readWisher 51 = .ok (.aload_n 0, 1) := by decide +kernel
theorem dX6_readWisher_52 : decode cX6_readWisher 52 = .ok (.getfield 22, 3) := by decide +kernel
theorem dX6_readWisher_55 : decode cX6_readWisher 55 = .ok (.iconst 0, 1) := by decide +kernel
theorem dX6_readWisher_56 : decode cX6_readWisher 56 = .ok (.iaload, 1) := by decide +kernel
theorem dX6_readWisher_57 : decode cX6_readWisher 57 = .ok (.iconst 1, 1) := by decide +kernel
theorem dX6_readWisher_58 : decode cX6_readWisher 58 = .ok (.isub, 1) := by decide +kernel
theorem dX6_readWisher_59 : decode cX6_readWisher 59 = .ok (.invokevirtual 126, 3) := by decide +kernel
theorem dX6_readWisher_62 : decode cX6_readWisher 62 = .ok (.istore_n 3, 1) := by decide +kernel
theorem dX6_readWisher_63 : decode cX6_readWisher 63 = .ok (.aload_n 0, 1) := by decide +kernel
theorem dX6_readWisher_64 : decode cX6_readWisher 64 = .ok (.bipush 44, 2) := by decide +kernel
theorem dX6_readWisher_66 : decode cX6_readWisher 66 = .ok (.invokevirtual 130, 3) := by decide +kernel
theorem dX6_readWisher_69 : decode cX6_readWisher 69 = .ok (.aload_n 0, 1) := by decide +kernel
theorem dX6_readWisher_70 : decode cX6_readWisher 70 = .ok (.iconst 0, 1) := by decide +kernel
theorem dX6_readWisher_71 : decode cX6_readWisher 71 = .ok (.bipush 40, 2) := by decide +kernel
theorem dX6_readWisher_73 : decode cX6_readWisher 73 = .ok (.invokevirtual 126, 3) := by decide +kernel
theorem dX6_readWisher_76 : decode cX6_readWisher 76 = .ok (.istore 4, 2) := by decide +kernel
theorem dX6_readWisher_78 : decode cX6_readWisher 78 = .ok (.aload_n 0, 1) := by decide +kernel
theorem dX6_readWisher_79 : decode cX6_readWisher 79 = .ok (.bipush 44, 2) := by decide +kernel
theorem dX6_readWisher_81 : decode cX6_readWisher 81 = .ok (.invokevirtual 130, 3) := by decide +kernel
theorem dX6_readWisher_84 : decode cX6_readWisher 84 = .ok (.aload_n 0, 1) := by decide +kernel
theorem dX6_readWisher_85 : decode cX6_readWisher 85 = .ok (.iconst 0, 1) := by decide +kernel
theorem dX6_readWisher_86 : decode cX6_readWisher 86 = .ok (.iconst 5, 1) := by decide +kernel
theorem dX6_readWisher_87 : decode cX6_readWisher 87 = .ok (.invokevirtual 126, 3) := by decide +kernel
theorem dX6_readWisher_90 : decode cX6_readWisher 90 = .ok (.istore 5, 2) := by decide +kernel
theorem dX6_readWisher_92 : decode cX6_readWisher 92 = .ok (.aload_n 0, 1) := by decide +kernel
theorem dX6_readWisher_93 : decode cX6_readWisher 93 = .ok (.bipush 44, 2) := by decide +kernel
theorem dX6_readWisher_95 : decode cX6_readWisher 95 = .ok (.invokevirtual 130, 3) := by decide +kernel
theorem dX6_readWisher_98 : decode cX6_readWisher 98 = .ok (.aload_n 0, 1) := by decide +kernel
theorem dX6_readWisher_99 : decode cX6_readWisher 99 = .ok (.iconst 1, 1) := by decide +kernel
theorem dX6_readWisher_100 : decode cX6_readWisher 100 = .ok (.bipush 6, 2) := by decide +kernel
theorem dX6_readWisher_102 : decode cX6_readWisher 102 = .ok (.invokevirtual 126, 3) := by decide +kernel
theorem dX6_readWisher_105 : decode cX6_readWisher 105 = .ok (.istore 6, 2) := by decide +kernel
theorem dX6_readWisher_107 : decode cX6_readWisher 107 = .ok (.aload_n 0, 1) := by decide +kernel
theorem dX6_readWisher_108 : decode cX6_readWisher 108 = .ok (.bipush 59, 2) := by decide +kernel
theorem dX6_readWisher_110 : decode cX6_readWisher 110 = .ok (.invokevirtual 130, 3) := by decide +kernel
theorem dX6_readWisher_113 : decode cX6_readWisher 113 = .ok (.aload_n 0, 1) := by decide +kernel
theorem dX6_readWisher_114 : decode cX6_readWisher 114 = .ok (.getfield 85, 3) := by decide +kernel
theorem dX6_readWisher_117 : decode cX6_readWisher 117 = .ok (.ifCond .ne 88, 3) := by decide +kernel
theorem dX6_readWisher_120 : decode cX6_readWisher 120 = .ok (.bipush 16, 2) := by decide +kernel
theorem dX6_readWisher_122 : decode cX6_readWisher 122 = .ok (.bipush 8, 2) := by decide +kernel
theorem dX6_readWisher_124 : decode cX6_readWisher 124 = .ok (.aload_n 0, 1) := by decide +kernel
theorem dX6_readWisher_125 : decode cX6_readWisher 125 = .ok (.getfield 22, 3) := by decide +kernel
theorem dX6_readWisher_128 : decode cX6_readWisher 128 = .ok (.iconst 5, 1) := by decide +kernel
theorem dX6_readWisher_129 : decode cX6_readWisher 129 = .ok (.iaload, 1) := by decide +kernel
theorem dX6_readWisher_130 : decode cX6_readWisher 130 = .ok (.imul, 1) := by decide +kernel
theorem dX6_readWisher_131 : decode cX6_readWisher 131 = .ok (.iadd, 1) := by decide +kernel
theorem dX6_readWisher_132 : decode cX6_readWisher 132 = .ok (.istore 7, 2) := by decide +kernel
theorem dX6_readWisher_134 : decode cX6_readWisher 134 = .ok (.aload_n 0, 1) := by decide +kernel
theorem dX6_readWisher_135 : decode cX6_readWisher 135 = .ok (.getfield 22, 3) := by decide +kernel
theorem dX6_readWisher_138 : decode cX6_readWisher 138 = .ok (.iload 7, 2) := by decide +kernel
theorem dX6_readWisher_140 : decode cX6_readWisher 140 = .ok (.iload_n 1, 1) := by decide +kernel
theorem dX6_readWisher_141 : decode cX6_readWisher 141 = .ok (.iastore, 1) := by decide +kernel
theorem dX6_readWisher_142 : decode cX6_readWisher 142 = .ok (.aload_n 0, 1) := by decide +kernel
theorem dX6_readWisher_143 : decode cX6_readWisher 143 = .ok (.getfield 22, 3) := by decide +kernel
theorem dX6_readWisher_146 : decode cX6_readWisher 146 = .ok (.iload 7, 2) := by decide +kernel
theorem dX6_readWisher_148 : decode cX6_readWisher 148 = .ok (.iconst 1, 1) := by decide +kernel
theorem dX6_readWisher_149 : decode cX6_readWisher 149 = .ok (.iadd, 1) := by decide +kernel
theorem dX6_readWisher_150 : decode cX6_readWisher 150 = .ok (.iload_n 2, 1) := by decide +kernel
theorem dX6_readWisher_151 : decode cX6_readWisher 151 = .ok (.iastore, 1) := by decide +kernel
theorem dX6_readWisher_152 : decode cX6_readWisher 152 = .ok (.aload_n 0, 1) := by decide +kernel
theorem dX6_readWisher_153 : decode cX6_readWisher 153 = .ok (.getfield 22, 3) := by decide +kernel
theorem dX6_readWisher_156 : decode cX6_readWisher 156 = .ok (.iload 7, 2) := by decide +kernel
theorem dX6_readWisher_158 : decode cX6_readWisher 158 = .ok (.iconst 2, 1) := by decide +kernel
theorem dX6_readWisher_159 : decode cX6_readWisher 159 = .ok (.iadd, 1) := by decide +kernel
theorem dX6_readWisher_160 : decode cX6_readWisher 160 = .ok (.iload_n 3, 1) := by decide +kernel
theorem dX6_readWisher_161 : decode cX6_readWisher 161 = .ok (.iastore, 1) := by decide +kernel
theorem dX6_readWisher_162 : decode cX6_readWisher 162 = .ok (.aload_n 0, 1) := by decide +kernel
theorem dX6_readWisher_163 : decode cX6_readWisher 163 = .ok (.getfield 22, 3) := by decide +kernel
theorem dX6_readWisher_166 : decode cX6_readWisher 166 = .ok (.iload 7, 2) := by decide +kernel
theorem dX6_readWisher_168 : decode cX6_readWisher 168 = .ok (.iconst 3, 1) := by decide +kernel
theorem dX6_readWisher_169 : decode cX6_readWisher 169 = .ok (.iadd, 1) := by decide +kernel
theorem dX6_readWisher_170 : decode cX6_readWisher 170 = .ok (.iload 4, 2) := by decide +kernel
theorem dX6_readWisher_172 : decode cX6_readWisher 172 = .ok (.iastore, 1) := by decide +kernel
theorem dX6_readWisher_173 : decode cX6_readWisher 173 = .ok (.aload_n 0, 1) := by decide +kernel
theorem dX6_readWisher_174 : decode cX6_readWisher 174 = .ok (.getfield 22, 3) := by decide +kernel
theorem dX6_readWisher_177 : decode cX6_readWisher 177 = .ok (.iload 7, 2) := by decide +kernel
theorem dX6_readWisher_179 : decode cX6_readWisher 179 = .ok (.iconst 4, 1) := by decide +kernel
theorem dX6_readWisher_180 : decode cX6_readWisher 180 = .ok (.iadd, 1) := by decide +kernel
theorem dX6_readWisher_181 : decode cX6_readWisher 181 = .ok (.iload 5, 2) := by decide +kernel
theorem dX6_readWisher_183 : decode cX6_readWisher 183 = .ok (.iastore, 1) := by decide +kernel
theorem dX6_readWisher_184 : decode cX6_readWisher 184 = .ok (.aload_n 0, 1) := by decide +kernel
theorem dX6_readWisher_185 : decode cX6_readWisher 185 = .ok (.getfield 22, 3) := by decide +kernel
theorem dX6_readWisher_188 : decode cX6_readWisher 188 = .ok (.iload 7, 2) := by decide +kernel
theorem dX6_readWisher_190 : decode cX6_readWisher 190 = .ok (.iconst 5, 1) := by decide +kernel
theorem dX6_readWisher_191 : decode cX6_readWisher 191 = .ok (.iadd, 1) := by decide +kernel
theorem dX6_readWisher_192 : decode cX6_readWisher 192 = .ok (.iload 6, 2) := by decide +kernel
theorem dX6_readWisher_194 : decode cX6_readWisher 194 = .ok (.iastore, 1) := by decide +kernel
theorem dX6_readWisher_195 : decode cX6_readWisher 195 = .ok (.aload_n 0, 1) := by decide +kernel
theorem dX6_readWisher_196 : decode cX6_readWisher 196 = .ok (.getfield 22, 3) := by decide +kernel
theorem dX6_readWisher_199 : decode cX6_readWisher 199 = .ok (.iconst 5, 1) := by decide +kernel
theorem dX6_readWisher_200 : decode cX6_readWisher 200 = .ok (.dup2, 1) := by decide +kernel
theorem dX6_readWisher_201 : decode cX6_readWisher 201 = .ok (.iaload, 1) := by decide +kernel
theorem dX6_readWisher_202 : decode cX6_readWisher 202 = .ok (.iconst 1, 1) := by decide +kernel
theorem dX6_readWisher_203 : decode cX6_readWisher 203 = .ok (.iadd, 1) := by decide +kernel
theorem dX6_readWisher_204 : decode cX6_readWisher 204 = .ok (.iastore, 1) := by decide +kernel
theorem dX6_readWisher_205 : decode cX6_readWisher 205 = .ok (.return_, 1) := by decide +kernel
theorem dX6_land_0 : decode cX6_land 0 = .ok (.aload_n 0, 1) := by decide +kernel
theorem dX6_land_1 : decode cX6_land 1 = .ok (.iconst 0, 1) := by decide +kernel
theorem dX6_land_2 : decode cX6_land 2 = .ok (.putfield 54, 3) := by decide +kernel
theorem dX6_land_5 : decode cX6_land 5 = .ok (.aload_n 0, 1) := by decide +kernel
theorem dX6_land_6 : decode cX6_land 6 = .ok (.invokevirtual 136, 3) := by decide +kernel
theorem dX6_land_9 : decode cX6_land 9 = .ok (.iconst 0, 1) := by decide +kernel
theorem dX6_land_10 : decode cX6_land 10 = .ok (.istore_n 1, 1) := by decide +kernel
theorem dX6_land_11 : decode cX6_land 11 = .ok (.iload_n 1, 1) := by decide +kernel
theorem dX6_land_12 : decode cX6_land 12 = .ok (.bipush 64, 2) := by decide +kernel
theorem dX6_land_14 : decode cX6_land 14 = .ok (.if_icmp .ge 16, 3) := by decide +kernel
theorem dX6_land_17 : decode cX6_land 17 = .ok (.aload_n 0, 1) := by decide +kernel
theorem dX6_land_18 : decode cX6_land 18 = .ok (.getfield 22, 3) := by decide +kernel
theorem dX6_land_21 : decode cX6_land 21 = .ok (.iload_n 1, 1) := by decide +kernel
theorem dX6_land_22 : decode cX6_land 22 = .ok (.iconst 0, 1) := by decide +kernel
theorem dX6_land_23 : decode cX6_land 23 = .ok (.iastore, 1) := by decide +kernel
theorem dX6_land_24 : decode cX6_land 24 = .ok (.iinc 1 1, 3) := by decide +kernel
theorem dX6_land_27 : decode cX6_land 27 = .ok (.goto (-16), 3) := by decide +kernel
theorem dX6_land_30 : decode cX6_land 30 = .ok (.aload_n 0, 1) := by decide +kernel
theorem dX6_land_31 : decode cX6_land 31 = .ok (.aload_n 0, 1) := by decide +kernel
theorem dX6_land_32 : decode cX6_land 32 = .ok (.bipush 99, 2) := by decide +kernel
theorem dX6_land_34 : decode cX6_land 34 = .ok (.invokevirtual 139, 3) := by decide +kernel
theorem dX6_land_37 : decode cX6_land 37 = .ok (.invokevirtual 119, 3) := by decide +kernel
theorem dX6_land_40 : decode cX6_land 40 = .ok (.aload_n 0, 1) := by decide +kernel
theorem dX6_land_41 : decode cX6_land 41 = .ok (.getfield 22, 3) := by decide +kernel
theorem dX6_land_44 : decode cX6_land 44 = .ok (.iconst 0, 1) := by decide +kernel
theorem dX6_land_45 : decode cX6_land 45 = .ok (.aload_n 0, 1) := by decide +kernel
theorem dX6_land_46 : decode cX6_land 46 = .ok (.iconst 2, 1) := by decide +kernel
theorem dX6_land_47 : decode cX6_land 47 = .ok (.bipush 6, 2) := by decide +kernel
theorem dX6_land_49 : decode cX6_land 49 = .ok (.invokevirtual 126, 3) := by decide +kernel
theorem dX6_land_52 : decode cX6_land 52 = .ok (.iastore, 1) := by decide +kernel
theorem dX6_land_53 : decode cX6_land 53 = .ok (.aload_n 0, 1) := by decide +kernel
theorem dX6_land_54 : decode cX6_land 54 = .ok (.bipush 44, 2) := by decide +kernel
theorem dX6_land_56 : decode cX6_land 56 = .ok (.invokevirtual 130, 3) := by decide +kernel
theorem dX6_land_59 : decode cX6_land 59 = .ok (.aload_n 0, 1) := by decide +kernel
theorem dX6_land_60 : decode cX6_land 60 = .ok (.getfield 22, 3) := by decide +kernel
theorem dX6_land_63 : decode cX6_land 63 = .ok (.iconst 1, 1) := by decide +kernel
theorem dX6_land_64 : decode cX6_land 64 = .ok (.aload_n 0, 1) := by decide +kernel
theorem dX6_land_65 : decode cX6_land 65 = .ok (.iconst 0, 1) := by decide +kernel
theorem dX6_land_66 : decode cX6_land 66 = .ok (.aload_n 0, 1) := by decide +kernel
theorem dX6_land_67 : decode cX6_land 67 = .ok (.getfield 22, 3) := by decide +kernel
theorem dX6_land_70 : decode cX6_land 70 = .ok (.iconst 0, 1) := by decide +kernel
theorem dX6_land_71 : decode cX6_land 71 = .ok (.iaload, 1) := by decide +kernel
theorem dX6_land_72 : decode cX6_land 72 = .ok (.iconst 1, 1) := by decide +kernel
theorem dX6_land_73 : decode cX6_land 73 = .ok (.isub, 1) := by decide +kernel
theorem dX6_land_74 : decode cX6_land 74 = .ok (.invokevirtual 126, 3) := by decide +kernel
theorem dX6_land_77 : decode cX6_land 77 = .ok (.iastore, 1) := by decide +kernel
theorem dX6_land_78 : decode cX6_land 78 = .ok (.aload_n 0, 1) := by decide +kernel
theorem dX6_land_79 : decode cX6_land 79 = .ok (.bipush 44, 2) := by decide +kernel
theorem dX6_land_81 : decode cX6_land 81 = .ok (.invokevirtual 130, 3) := by decide +kernel
theorem dX6_land_84 : decode cX6_land 84 = .ok (.aload_n 0, 1) := by decide +kernel
theorem dX6_land_85 : decode cX6_land 85 = .ok (.getfield 22, 3) := by decide +kernel
theorem dX6_land_88 : decode cX6_land 88 = .ok (.iconst 2, 1) := by decide +kernel
theorem dX6_land_89 : decode cX6_land 89 = .ok (.aload_n 0, 1) := by decide +kernel
theorem dX6_land_90 : decode cX6_land 90 = .ok (.iconst 0, 1) := by decide +kernel
theorem dX6_land_91 : decode cX6_land 91 = .ok (.bipush 20, 2) := by decide +kernel
theorem dX6_land_93 : decode cX6_land 93 = .ok (.invokevirtual 126, 3) := by decide +kernel
theorem dX6_land_96 : decode cX6_land 96 = .ok (.iastore, 1) := by decide +kernel
theorem dX6_land_97 : decode cX6_land 97 = .ok (.aload_n 0, 1) := by decide +kernel
theorem dX6_land_98 : decode cX6_land 98 = .ok (.bipush 44, 2) := by decide +kernel
theorem dX6_land_100 : decode cX6_land 100 = .ok (.invokevirtual 130, 3) := by decide +kernel
theorem dX6_land_103 : decode cX6_land 103 = .ok (.aload_n 0, 1) := by decide +kernel
theorem dX6_land_104 : decode cX6_land 104 = .ok (.getfield 22, 3) := by decide +kernel
theorem dX6_land_107 : decode cX6_land 107 = .ok (.iconst 3, 1) := by decide +kernel
theorem dX6_land_108 : decode cX6_land 108 = .ok (.aload_n 0, 1) := by decide +kernel
theorem dX6_land_109 : decode cX6_land 109 = .ok (.iconst 0, 1) := by decide +kernel
theorem dX6_land_110 : decode cX6_land 110 = .ok (.iconst 5, 1) := by decide +kernel
theorem dX6_land_111 : decode cX6_land 111 = .ok (.invokevirtual 126, 3) := by decide +kernel
theorem dX6_land_114 : decode cX6_land 114 = .ok (.iastore, 1) := by decide +kernel
theorem dX6_land_115 : decode cX6_land 115 = .ok (.aload_n 0, 1) := by decide +kernel
theorem dX6_land_116 : decode cX6_land 116 = .ok (.bipush 59, 2) := by decide +kernel
theorem dX6_land_118 : decode cX6_land 118 = .ok (.invokevirtual 130, 3) := by decide +kernel
theorem dX6_land_121 : decode cX6_land 121 = .ok (.aload_n 0, 1) := by decide +kernel
theorem dX6_land_122 : decode cX6_land 122 = .ok (.bipush 114, 2) := by decide +kernel
theorem dX6_land_124 : decode cX6_land 124 = .ok (.invokevirtual 139, 3) := by decide +kernel
theorem dX6_land_127 : decode cX6_land 127 = .ok (.ifCond .eq 10, 3) := by decide +kernel
theorem dX6_land_130 : decode cX6_land 130 = .ok (.aload_n 0, 1) := by decide +kernel
theorem dX6_land_131 : decode cX6_land 131 = .ok (.invokevirtual 142, 3) := by decide +kernel
theorem dX6_land_134 : decode cX6_land 134 = .ok (.goto (-13), 3) := by decide +kernel
theorem dX6_land_137 : decode cX6_land 137 = .ok (.aload_n 0, 1) := by decide +kernel
theorem dX6_land_138 : decode cX6_land 138 = .ok (.getfield 85, 3) := by decide +kernel
theorem dX6_land_141 : decode cX6_land 141 = .ok (.ifCond .ne 30, 3) := by decide +kernel
theorem dX6_land_144 : decode cX6_land 144 = .ok (.aload_n 0, 1) := by decide +kernel
theorem dX6_land_145 : decode cX6_land 145 = .ok (.getfield 109, 3) := by decide +kernel
theorem dX6_land_148 : decode cX6_land 148 = .ok (.iconst 2, 1) := by decide +kernel
theorem dX6_land_149 : decode cX6_land 149 = .ok (.if_icmp .ne 22, 3) := by decide +kernel
theorem dX6_land_152 : decode cX6_land 152 = .ok (.aload_n 0, 1) := by decide +kernel
theorem dX6_land_153 : decode cX6_land 153 = .ok (.getfield 98, 3) := by decide +kernel
theorem dX6_land_156 : decode cX6_land 156 = .ok (.invokestatic 133, 3) := by decide +kernel
theorem dX6_land_159 : decode cX6_land 159 = .ok (.ldc 97, 2) := by decide +kernel
theorem dX6_land_161 : decode cX6_land 161 = .ok (.if_icmp .eq 10, 3) := by decide +kernel
theorem dX6_land_164 : decode cX6_land 164 = .ok (.aload_n 0, 1) := by decide +kernel
theorem dX6_land_165 : decode cX6_land 165 = .ok (.invokevirtual 145, 3) := by decide +kernel
theorem dX6_land_168 : decode cX6_land 168 = .ok (.goto (-31), 3) := by decide +kernel
theorem dX6_land_171 : decode cX6_land 171 = .ok (.aload_n 0, 1) := by decide +kernel
theorem dX6_land_172 : decode cX6_land 172 = .ok (.invokevirtual 148, 3) := by decide +kernel
theorem dX6_land_175 : decode cX6_land 175 = .ok (.ifCond .eq 11, 3) := by decide +kernel
theorem dX6_land_178 : decode cX6_land 178 = .ok (.ldc 152, 2) := by decide +kernel
theorem dX6_land_180 : decode cX6_land 180 = .ok (.aload_n 0, 1) := by decide +kernel
theorem dX6_land_181 : decode cX6_land 181 = .ok (.getfield 91, 3) := by decide +kernel
theorem dX6_land_184 : decode cX6_land 184 = .ok (.isub, 1) := by decide +kernel
theorem dX6_land_185 : decode cX6_land 185 = .ok (.ireturn, 1) := by decide +kernel
theorem dX6_land_186 : decode cX6_land 186 = .ok (.aload_n 0, 1) := by decide +kernel
theorem dX6_land_187 : decode cX6_land 187 = .ok (.iconst 0, 1) := by decide +kernel
theorem dX6_land_188 : decode cX6_land 188 = .ok (.putfield 153, 3) := by decide +kernel
theorem dX6_land_191 : decode cX6_land 191 = .ok (.iconst 0, 1) := by decide +kernel
theorem dX6_land_192 : decode cX6_land 192 = .ok (.istore_n 1, 1) := by decide +kernel
theorem dX6_land_193 : decode cX6_land 193 = .ok (.iload_n 1, 1) := by decide +kernel
theorem dX6_land_194 : decode cX6_land 194 = .ok (.bipush 64, 2) := by decide +kernel
theorem dX6_land_196 : decode cX6_land 196 = .ok (.if_icmp .ge 21, 3) := by decide +kernel
theorem dX6_land_199 : decode cX6_land 199 = .ok (.aload_n 0, 1) := by decide +kernel
theorem dX6_land_200 : decode cX6_land 200 = .ok (.getfield 19, 3) := by decide +kernel
theorem dX6_land_203 : decode cX6_land 203 = .ok (.iload_n 1, 1) := by decide +kernel
theorem dX6_land_204 : decode cX6_land 204 = .ok (.aload_n 0, 1) := by decide +kernel
theorem dX6_land_205 : decode cX6_land 205 = .ok (.getfield 22, 3) := by decide +kernel
theorem dX6_land_208 : decode cX6_land 208 = .ok (.iload_n 1, 1) := by decide +kernel
theorem dX6_land_209 : decode cX6_land 209 = .ok (.iaload, 1) := by decide +kernel
theorem dX6_land_210 : decode cX6_land 210 = .ok (.iastore, 1) := by decide +kernel
theorem dX6_land_211 : decode cX6_land 211 = .ok (.iinc 1 1, 3) := by decide +kernel
theorem dX6_land_214 : decode cX6_land 214 = .ok (.goto (-21), 3) := by decide +kernel
theorem dX6_land_217 : decode cX6_land 217 = .ok (.aload_n 0, 1) := by decide +kernel
theorem dX6_land_218 : decode cX6_land 218 = .ok (.invokevirtual 156, 3) := by decide +kernel
theorem dX6_land_221 : decode cX6_land 221 = .ok (.aload_n 0, 1) := by decide +kernel
theorem dX6_land_222 : decode cX6_land 222 = .ok (.getfield 19, 3) := by decide +kernel
theorem dX6_land_225 : decode cX6_land 225 = .ok (.iconst 5, 1) := by decide +kernel
theorem dX6_land_226 : decode cX6_land 226 = .ok (.iaload, 1) := by decide +kernel
theorem dX6_land_227 : decode cX6_land 227 = .ok (.ireturn, 1) := by decide +kernel
theorem dX6_isThere_0 : decode cX6_isThere 0 = .ok (.aload_n 0, 1) := by decide +kernel
theorem dX6_isThere_1 : decode cX6_isThere 1 = .ok (.getfield 19, 3) := by decide +kernel
theorem dX6_isThere_4 : decode cX6_isThere 4 = .ok (.iconst 0, 1) := by decide +kernel
theorem dX6_isThere_5 : decode cX6_isThere 5 = .ok (.iaload, 1) := by decide +kernel
theorem dX6_isThere_6 : decode cX6_isThere 6 = .ok (.ifCond .le 7, 3) := by decide +kernel
theorem dX6_isThere_9 : decode cX6_isThere 9 = .ok (.iconst 1, 1) := by decide +kernel
theorem dX6_isThere_10 : decode cX6_isThere 10 = .ok (.goto 4, 3) := by decide +kernel
theorem dX6_isThere_13 : decode cX6_isThere 13 = .ok (.iconst 0, 1) := by decide +kernel
theorem dX6_isThere_14 : decode cX6_isThere 14 = .ok (.ireturn, 1) := by decide +kernel
theorem dX6_isPlace_0 : decode cX6_isPlace 0 = .ok (.iload_n 1, 1) := by decide +kernel
theorem dX6_isPlace_1 : decode cX6_isPlace 1 = .ok (.i2l, 1) := by decide +kernel
theorem dX6_isPlace_2 : decode cX6_isPlace 2 = .ok (.lconst 0, 1) := by decide +kernel
theorem dX6_isPlace_3 : decode cX6_isPlace 3 = .ok (.aload_n 0, 1) := by decide +kernel
theorem dX6_isPlace_4 : decode cX6_isPlace 4 = .ok (.getfield 19, 3) := by decide +kernel
theorem dX6_isPlace_7 : decode cX6_isPlace 7 = .ok (.iconst 0, 1) := by decide +kernel
theorem dX6_isPlace_8 : decode cX6_isPlace 8 = .ok (.iaload, 1) := by decide +kernel
theorem dX6_isPlace_9 : decode cX6_isPlace 9 = .ok (.iconst 1, 1) := by decide +kernel
theorem dX6_isPlace_10 : decode cX6_isPlace 10 = .ok (.isub, 1) := by decide +kernel
theorem dX6_isPlace_11 : decode cX6_isPlace 11 = .ok (.i2l, 1) := by decide +kernel
theorem dX6_isPlace_12 : decode cX6_isPlace 12 = .ok (.invokestatic 64, 3) := by decide +kernel
theorem dX6_isPlace_15 : decode cX6_isPlace 15 = .ok (.ireturn, 1) := by decide +kernel
theorem dX6_isWisher_0 : decode cX6_isWisher 0 = .ok (.iload_n 1, 1) := by decide +kernel
theorem dX6_isWisher_1 : decode cX6_isWisher 1 = .ok (.i2l, 1) := by decide +kernel
theorem dX6_isWisher_2 : decode cX6_isWisher 2 = .ok (.lconst 0, 1) := by decide +kernel
theorem dX6_isWisher_3 : decode cX6_isWisher 3 = .ok (.aload_n 0, 1) := by decide +kernel
theorem dX6_isWisher_4 : decode cX6_isWisher 4 = .ok (.getfield 19, 3) := by decide +kernel
theorem dX6_isWisher_7 : decode cX6_isWisher 7 = .ok (.iconst 5, 1) := by decide +kernel
theorem dX6_isWisher_8 : decode cX6_isWisher 8 = .ok (.iaload, 1) := by decide +kernel
theorem dX6_isWisher_9 : decode cX6_isWisher 9 = .ok (.iconst 1, 1) := by decide +kernel
theorem dX6_isWisher_10 : decode cX6_isWisher 10 = .ok (.isub, 1) := by decide +kernel
theorem dX6_isWisher_11 : decode cX6_isWisher 11 = .ok (.i2l, 1) := by decide +kernel
theorem dX6_isWisher_12 : decode cX6_isWisher 12 = .ok (.invokestatic 64, 3) := by decide +kernel
theorem dX6_isWisher_15 : decode cX6_isWisher 15 = .ok (.ireturn, 1) := by decide +kernel
theorem dX6_of_0 : decode cX6_of 0 = .ok (.aload_n 0, 1) := by decide +kernel
theorem dX6_of_1 : decode cX6_of 1 = .ok (.bipush 16, 2) := by decide +kernel
theorem dX6_of_3 : decode cX6_of 3 = .ok (.bipush 8, 2) := by decide +kernel
theorem dX6_of_5 : decode cX6_of 5 = .ok (.iload_n 1, 1) := by decide +kernel
theorem dX6_of_6 : decode cX6_of 6 = .ok (.imul, 1) := by decide +kernel
theorem dX6_of_7 : decode cX6_of 7 = .ok (.iadd, 1) := by decide +kernel
theorem dX6_of_8 : decode cX6_of 8 = .ok (.iload_n 2, 1) := by decide +kernel
theorem dX6_of_9 : decode cX6_of 9 = .ok (.iadd, 1) := by decide +kernel
theorem dX6_of_10 : decode cX6_of 10 = .ok (.iaload, 1) := by decide +kernel
theorem dX6_of_11 : decode cX6_of 11 = .ok (.ireturn, 1) := by decide +kernel
theorem dX6_layFar_0 : decode cX6_layFar 0 = .ok (.iconst 0, 1) := by decide +kernel
theorem dX6_layFar_1 : decode cX6_layFar 1 = .ok (.istore_n 1, 1) := by decide +kernel
theorem dX6_layFar_2 : decode cX6_layFar 2 = .ok (.iload_n 1, 1) := by decide +kernel
theorem dX6_layFar_3 : decode cX6_layFar 3 = .ok (.aload_n 0, 1) := by decide +kernel
theorem dX6_layFar_4 : decode cX6_layFar 4 = .ok (.getfield 19, 3) := by decide +kernel
theorem dX6_layFar_7 : decode cX6_layFar 7 = .ok (.iconst 0, 1) := by decide +kernel
theorem dX6_layFar_8 : decode cX6_layFar 8 = .ok (.iaload, 1) := by decide +kernel
theorem dX6_layFar_9 : decode cX6_layFar 9 = .ok (.if_icmp .ge 182, 3) := by decide +kernel
theorem dX6_layFar_12 : decode cX6_layFar 12 = .ok (.iconst 1, 1) := by decide +kernel
theorem dX6_layFar_13 : decode cX6_layFar 13 = .ok (.iload_n 1, 1) := by decide +kernel
theorem dX6_layFar_14 : decode cX6_layFar 14 = .ok (.ishl, 1) := by decide +kernel
theorem dX6_layFar_15 : decode cX6_layFar 15 = .ok (.istore_n 2, 1) := by decide +kernel
theorem dX6_layFar_16 : decode cX6_layFar 16 = .ok (.iconst 0, 1) := by decide +kernel
theorem dX6_layFar_17 : decode cX6_layFar 17 = .ok (.istore_n 3, 1) := by decide +kernel
theorem dX6_layFar_18 : decode cX6_layFar 18 = .ok (.iload_n 3, 1) := by decide +kernel
theorem dX6_layFar_19 : decode cX6_layFar 19 = .ok (.bipush 6, 2) := by decide +kernel
theorem dX6_layFar_21 : decode cX6_layFar 21 = .ok (.if_icmp .ge 31, 3) := by decide +kernel
theorem dX6_layFar_24 : decode cX6_layFar 24 = .ok (.aload_n 0, 1) := by decide +kernel
theorem dX6_layFar_25 : decode cX6_layFar 25 = .ok (.getfield 34, 3) := by decide +kernel
theorem dX6_layFar_28 : decode cX6_layFar 28 = .ok (.bipush 6, 2) := by decide +kernel
theorem dX6_layFar_30 : decode cX6_layFar 30 = .ok (.iload_n 1, 1) := by decide +kernel
theorem dX6_layFar_31 : decode cX6_layFar 31 = .ok (.imul, 1) := by decide +kernel
theorem dX6_layFar_32 : decode cX6_layFar 32 = .ok (.iload_n 3, 1) := by decide +kernel
theorem dX6_layFar_33 : decode cX6_layFar 33 = .ok (.iadd, 1) := by decide +kernel
theorem dX6_layFar_34 : decode cX6_layFar 34 = .ok (.iload_n 1, 1) := by decide +kernel
theorem dX6_layFar_35 : decode cX6_layFar 35 = .ok (.iload_n 3, 1) := by decide +kernel
theorem dX6_layFar_36 : decode cX6_layFar 36 = .ok (.if_icmp .ne 7, 3) := by decide +kernel
theorem dX6_layFar_39 : decode cX6_layFar 39 = .ok (.iconst 0, 1) := by decide +kernel
theorem dX6_layFar_40 : decode cX6_layFar 40 = .ok (.goto 5, 3) := by decide +kernel
theorem dX6_layFar_43 : decode cX6_layFar 43 = .ok (.bipush 9, 2) := by decide +kernel
theorem dX6_layFar_45 : decode cX6_layFar 45 = .ok (.iastore, 1) := by decide +kernel
theorem dX6_layFar_46 : decode cX6_layFar 46 = .ok (.iinc 3 1, 3) := by decide +kernel
theorem dX6_layFar_49 : decode cX6_layFar 49 = .ok (.goto (-31), 3) := by decide +kernel
theorem dX6_layFar_52 : decode cX6_layFar 52 = .ok (.iconst 1, 1) := by decide +kernel
theorem dX6_layFar_53 : decode cX6_layFar 53 = .ok (.istore_n 3, 1) := by decide +kernel
theorem dX6_layFar_54 : decode cX6_layFar 54 = .ok (.iload_n 3, 1) := by decide +kernel
theorem dX6_layFar_55 : decode cX6_layFar 55 = .ok (.bipush 6, 2) := by decide +kernel
theorem dX6_layFar_57 : decode cX6_layFar 57 = .ok (.if_icmp .ge 128, 3) := by decide +kernel
theorem dX6_layFar_60 : decode cX6_layFar 60 = .ok (.iconst 0, 1) := by decide +kernel
theorem dX6_layFar_61 : decode cX6_layFar 61 = .ok (.istore 4, 2) := by decide +kernel
theorem dX6_layFar_63 : decode cX6_layFar 63 = .ok (.iconst 0, 1) := by decide +kernel
theorem dX6_layFar_64 : decode cX6_layFar 64 = .ok (.istore 5, 2) := by decide +kernel
theorem dX6_layFar_66 : decode cX6_layFar 66 = .ok (.iload 5, 2) := by decide +kernel
theorem dX6_layFar_68 : decode cX6_layFar 68 = .ok (.aload_n 0, 1) := by decide +kernel
theorem dX6_layFar_69 : decode cX6_layFar 69 = .ok (.getfield 19, 3) := by decide +kernel
theorem dX6_layFar_72 : decode cX6_layFar 72 = .ok (.iconst 0, 1) := by decide +kernel
theorem dX6_layFar_73 : decode cX6_layFar 73 = .ok (.iaload, 1) := by decide +kernel
theorem dX6_layFar_74 : decode cX6_layFar 74 = .ok (.if_icmp .ge 38, 3) := by decide +kernel
theorem dX6_layFar_77 : decode cX6_layFar 77 = .ok (.iload 4, 2) := by decide +kernel
theorem dX6_layFar_79 : decode cX6_layFar 79 = .ok (.iload_n 2, 1) := by decide +kernel
theorem dX6_layFar_80 : decode cX6_layFar 80 = .ok (.iload 5, 2) := by decide +kernel
theorem dX6_layFar_82 : decode cX6_layFar 82 = .ok (.ishr, 1) := by decide +kernel
theorem dX6_layFar_83 : decode cX6_layFar 83 = .ok (.iconst 1, 1) := by decide +kernel
theorem dX6_layFar_84 : decode cX6_layFar 84 = .ok (.iand, 1) := by decide +kernel
theorem dX6_layFar_85 : decode cX6_layFar 85 = .ok (.iconst 1, 1) := by decide +kernel
theorem dX6_layFar_86 : decode cX6_layFar 86 = .ok (.if_icmp .ne 16, 3) := by decide +kernel
theorem dX6_layFar_89 : decode cX6_layFar 89 = .ok (.aload_n 0, 1) := by decide +kernel
theorem dX6_layFar_90 : decode cX6_layFar 90 = .ok (.getfield 19, 3) := by decide +kernel
theorem dX6_layFar_93 : decode cX6_layFar 93 = .ok (.bipush 10, 2) := by decide +kernel
theorem dX6_layFar_95 : decode cX6_layFar 95 = .ok (.iload 5, 2) := by decide +kernel
theorem dX6_layFar_97 : decode cX6_layFar 97 = .ok (.iadd, 1) := by decide +kernel
theorem dX6_layFar_98 : decode cX6_layFar 98 = .ok (.iaload, 1) := by decide +kernel
theorem dX6_layFar_99 : decode cX6_layFar 99 = .ok (.goto 4, 3) := by decide +kernel
theorem dX6_layFar_102 : decode cX6_layFar 102 = .ok (.iconst 0, 1) := by decide +kernel
theorem dX6_layFar_103 : decode cX6_layFar 103 = .ok (.ior, 1) := by decide +kernel
theorem dX6_layFar_104 : decode cX6_layFar 104 = .ok (.istore 4, 2) := by decide +kernel
theorem dX6_layFar_106 : decode cX6_layFar 106 = .ok (.iinc 5 1, 3) := by decide +kernel
theorem dX6_layFar_109 : decode cX6_layFar 109 = .ok (.goto (-43), 3) := by decide +kernel
theorem dX6_layFar_112 : decode cX6_layFar 112 = .ok (.iconst 0, 1) := by decide +kernel
theorem dX6_layFar_113 : decode cX6_layFar 113 = .ok (.istore 5, 2) := by decide +kernel
theorem dX6_layFar_115 : decode cX6_layFar 115 = .ok (.iload 5, 2) := by decide +kernel
theorem dX6_layFar_117 : decode cX6_layFar 117 = .ok (.aload_n 0, 1) := by decide +kernel
theorem dX6_layFar_118 : decode cX6_layFar 118 = .ok (.getfield 19, 3) := by decide +kernel
theorem dX6_layFar_121 : decode cX6_layFar 121 = .ok (.iconst 0, 1) := by decide +kernel
theorem dX6_layFar_122 : decode cX6_layFar 122 = .ok (.iaload, 1) := by decide +kernel
theorem dX6_layFar_123 : decode cX6_layFar 123 = .ok (.if_icmp .ge 51, 3) := by decide +kernel
theorem dX6_layFar_126 : decode cX6_layFar 126 = .ok (.aload_n 0, 1) := by decide +kernel
theorem dX6_layFar_127 : decode cX6_layFar 127 = .ok (.getfield 34, 3) := by decide +kernel
theorem dX6_layFar_130 : decode cX6_layFar 130 = .ok (.bipush 6, 2) := by decide +kernel
theorem dX6_layFar_132 : decode cX6_layFar 132 = .ok (.iload_n 1, 1) := by decide +kernel
theorem dX6_layFar_133 : decode cX6_layFar 133 = .ok (.imul, 1) := by decide +kernel
theorem dX6_layFar_134 : decode cX6_layFar 134 = .ok (.iload 5, 2) := by decide +kernel
theorem dX6_layFar_136 : decode cX6_layFar 136 = .ok (.iadd, 1) := by decide +kernel
theorem dX6_layFar_137 : decode cX6_layFar 137 = .ok (.iload 4, 2) := by decide +kernel
theorem dX6_layFar_139 : decode cX6_layFar 139 = .ok (.iload_n 2, 1) := by decide +kernel
theorem dX6_layFar_140 : decode cX6_layFar 140 = .ok (.iconst (-1), 1) := by decide +kernel
theorem dX6_layFar_141 : decode cX6_layFar 141 = .ok (.ixor, 1) := by decide +kernel
theorem dX6_layFar_142 : decode cX6_layFar 142 = .ok (.iand, 1) := by decide +kernel
theorem dX6_layFar_143 : decode cX6_layFar 143 = .ok (.iload 5, 2) := by decide +kernel
theorem dX6_layFar_145 : decode cX6_layFar 145 = .ok (.ishr, 1) := by decide +kernel
theorem dX6_layFar_146 : decode cX6_layFar 146 = .ok (.iconst 1, 1) := by decide +kernel
theorem dX6_layFar_147 : decode cX6_layFar 147 = .ok (.iand, 1) := by decide +kernel
theorem dX6_layFar_148 : decode cX6_layFar 148 = .ok (.ifCond .ne 18, 3) := by decide +kernel
theorem dX6_layFar_151 : decode cX6_layFar 151 = .ok (.aload_n 0, 1) := by decide +kernel
theorem dX6_layFar_152 : decode cX6_layFar 152 = .ok (.getfield 34, 3) := by decide +kernel
theorem dX6_layFar_155 : decode cX6_layFar 155 = .ok (.bipush 6, 2) := by decide +kernel
theorem dX6_layFar_157 : decode cX6_layFar 157 = .ok (.iload_n 1, 1) := by decide +kernel
theorem dX6_layFar_158 : decode cX6_layFar 158 = .ok (.imul, 1) := by decide +kernel
theorem dX6_layFar_159 : decode cX6_layFar 159 = .ok (.iload 5, 2) := by decide +kernel
theorem dX6_layFar_161 : decode cX6_layFar 161 = .ok (.iadd, 1) := by decide +kernel
theorem dX6_layFar_162 : decode cX6_layFar 162 = .ok (.iaload, 1) := by decide +kernel
theorem dX6_layFar_163 : decode cX6_layFar 163 = .ok (.goto 4, 3) := by decide +kernel
theorem dX6_layFar_166 : decode cX6_layFar 166 = .ok (.iload_n 3, 1) := by decide +kernel
theorem dX6_layFar_167 : decode cX6_layFar 167 = .ok (.iastore, 1) := by decide +kernel
theorem dX6_layFar_168 : decode cX6_layFar 168 = .ok (.iinc 5 1, 3) := by decide +kernel
theorem dX6_layFar_171 : decode cX6_layFar 171 = .ok (.goto (-56), 3) := by decide +kernel
theorem dX6_layFar_174 : decode cX6_layFar 174 = .ok (.iload_n 2, 1) := by decide +kernel
theorem dX6_layFar_175 : decode cX6_layFar 175 = .ok (.iload 4, 2) := by decide +kernel
theorem dX6_layFar_177 : decode cX6_layFar 177 = .ok (.ior, 1) := by decide +kernel
theorem dX6_layFar_178 : decode cX6_layFar 178 = .ok (.istore_n 2, 1) := by decide +kernel
theorem dX6_layFar_179 : decode cX6_layFar 179 = .ok (.iinc 3 1, 3) := by decide +kernel
theorem dX6_layFar_182 : decode cX6_layFar 182 = .ok (.goto (-128), 3) := by decide +kernel
theorem dX6_layFar_185 : decode cX6_layFar 185 = .ok (.iinc 1 1, 3) := by decide +kernel
theorem dX6_layFar_188 : decode cX6_layFar 188 = .ok (.goto (-186), 3) := by decide +kernel
theorem dX6_layFar_191 : decode cX6_layFar 191 = .ok (.return_, 1) := by decide +kernel
theorem dX6_farBy_0 : decode cX6_farBy 0 = .ok (.aload_n 0, 1) := by decide +kernel
theorem dX6_farBy_1 : decode cX6_farBy 1 = .ok (.getfield 34, 3) := by decide +kernel
theorem dX6_farBy_4 : decode cX6_farBy 4 = .ok (.bipush 6, 2) := by decide +kernel
theorem dX6_farBy_6 : decode cX6_farBy 6 = .ok (.iload_n 1, 1) := by decide +kernel
theorem dX6_farBy_7 : decode cX6_farBy 7 = .ok (.imul, 1) := by decide +kernel
theorem dX6_farBy_8 : decode cX6_farBy 8 = .ok (.iload_n 2, 1) := by decide +kernel
theorem dX6_farBy_9 : decode cX6_farBy 9 = .ok (.iadd, 1) := by decide +kernel
theorem dX6_farBy_10 : decode cX6_farBy 10 = .ok (.iaload, 1) := by decide +kernel
theorem dX6_farBy_11 : decode cX6_farBy 11 = .ok (.ireturn, 1) := by decide +kernel
theorem dX6_wishes_0 : decode cX6_wishes 0 = .ok (.aload_n 0, 1) := by decide +kernel
theorem dX6_wishes_1 : decode cX6_wishes 1 = .ok (.iload_n 1, 1) := by decide +kernel
theorem dX6_wishes_2 : decode cX6_wishes 2 = .ok (.bipush 7, 2) := by decide +kernel
theorem dX6_wishes_4 : decode cX6_wishes 4 = .ok (.invokestatic 159, 3) := by decide +kernel
theorem dX6_wishes_7 : decode cX6_wishes 7 = .ok (.ifCond .ne 33, 3) := by decide +kernel
theorem dX6_wishes_10 : decode cX6_wishes 10 = .ok (.aload_n 0, 1) := by decide +kernel
theorem dX6_wishes_11 : decode cX6_wishes 11 = .ok (.bipush 6, 2) := by decide +kernel
theorem dX6_wishes_13 : decode cX6_wishes 13 = .ok (.iaload, 1) := by decide +kernel
theorem dX6_wishes_14 : decode cX6_wishes 14 = .ok (.bipush 6, 2) := by decide +kernel
theorem dX6_wishes_16 : decode cX6_wishes 16 = .ok (.iadd, 1) := by decide +kernel
theorem dX6_wishes_17 : decode cX6_wishes 17 = .ok (.aload_n 0, 1) := by decide +kernel
theorem dX6_wishes_18 : decode cX6_wishes 18 = .ok (.iload_n 1, 1) := by decide +kernel
theorem dX6_wishes_19 : decode cX6_wishes 19 = .ok (.iconst 4, 1) := by decide +kernel
theorem dX6_wishes_20 : decode cX6_wishes 20 = .ok (.invokestatic 159, 3) := by decide +kernel
theorem dX6_wishes_23 : decode cX6_wishes 23 = .ok (.isub, 1) := by decide +kernel
theorem dX6_wishes_24 : decode cX6_wishes 24 = .ok (.bipush 6, 2) := by decide +kernel
theorem dX6_wishes_26 : decode cX6_wishes 26 = .ok (.irem, 1) := by decide +kernel
theorem dX6_wishes_27 : decode cX6_wishes 27 = .ok (.aload_n 0, 1) := by decide +kernel
theorem dX6_wishes_28 : decode cX6_wishes 28 = .ok (.iload_n 1, 1) := by decide +kernel
theorem dX6_wishes_29 : decode cX6_wishes 29 = .ok (.iconst 5, 1) := by decide +kernel
theorem dX6_wishes_30 : decode cX6_wishes 30 = .ok (.invokestatic 159, 3) := by decide +kernel
theorem dX6_wishes_33 : decode cX6_wishes 33 = .ok (.if_icmp .ge 7, 3) := by decide +kernel
theorem dX6_wishes_36 : decode cX6_wishes 36 = .ok (.iconst 1, 1) := by decide +kernel
theorem dX6_wishes_37 : decode cX6_wishes 37 = .ok (.goto 4, 3) := by decide +kernel
theorem dX6_wishes_40 : decode cX6_wishes 40 = .ok (.iconst 0, 1) := by decide +kernel
theorem dX6_wishes_41 : decode cX6_wishes 41 = .ok (.ireturn, 1) := by decide +kernel
theorem dX6_atLeastNone_0 : decode cX6_atLeastNone 0 = .ok (.iload_n 0, 1) := by decide +kernel
theorem dX6_atLeastNone_1 : decode cX6_atLeastNone 1 = .ok (.ifCond .ge 7, 3) := by decide +kernel
theorem dX6_atLeastNone_4 : decode cX6_atLeastNone 4 = .ok (.iconst 0, 1) := by decide +kernel
theorem dX6_atLeastNone_5 : decode cX6_atLeastNone 5 = .ok (.goto 4, 3) := by decide +kernel
theorem dX6_atLeastNone_8 : decode cX6_atLeastNone 8 = .ok (.iload_n 0, 1) := by decide +kernel
theorem dX6_atLeastNone_9 : decode cX6_atLeastNone 9 = .ok (.ireturn, 1) := by decide +kernel
theorem dX6_wishBy_0 : decode cX6_wishBy 0 = .ok (.aload_n 1, 1) := by decide +kernel
theorem dX6_wishBy_1 : decode cX6_wishBy 1 = .ok (.iload_n 2, 1) := by decide +kernel
theorem dX6_wishBy_2 : decode cX6_wishBy 2 = .ok (.iconst 3, 1) := by decide +kernel
theorem dX6_wishBy_3 : decode cX6_wishBy 3 = .ok (.invokestatic 159, 3) := by decide +kernel
theorem dX6_wishBy_6 : decode cX6_wishBy 6 = .ok (.istore_n 3, 1) := by decide +kernel
theorem dX6_wishBy_7 : decode cX6_wishBy 7 = .ok (.aload_n 1, 1) := by decide +kernel
theorem dX6_wishBy_8 : decode cX6_wishBy 8 = .ok (.iload_n 2, 1) := by decide +kernel
theorem dX6_wishBy_9 : decode cX6_wishBy 9 = .ok (.bipush 6, 2) := by decide +kernel
theorem dX6_wishBy_11 : decode cX6_wishBy 11 = .ok (.invokestatic 159, 3) := by decide +kernel
theorem dX6_wishBy_14 : decode cX6_wishBy 14 = .ok (.istore 4, 2) := by decide +kernel
theorem dX6_wishBy_16 : decode cX6_wishBy 16 = .ok (.aload_n 0, 1) := by decide +kernel
theorem dX6_wishBy_17 : decode cX6_wishBy 17 = .ok (.aload_n 1, 1) := by decide +kernel
theorem dX6_wishBy_18 : decode cX6_wishBy 18 = .ok (.iload_n 2, 1) := by decide +kernel
theorem dX6_wishBy_19 : decode cX6_wishBy 19 = .ok (.iconst 1, 1) := by decide +kernel
theorem dX6_wishBy_20 : decode cX6_wishBy 20 = .ok (.invokestatic 159, 3) := by decide +kernel
theorem dX6_wishBy_23 : decode cX6_wishBy 23 = .ok (.aload_n 1, 1) := by decide +kernel
theorem dX6_wishBy_24 : decode cX6_wishBy 24 = .ok (.iload_n 2, 1) := by decide +kernel
theorem dX6_wishBy_25 : decode cX6_wishBy 25 = .ok (.iconst 2, 1) := by decide +kernel
theorem dX6_wishBy_26 : decode cX6_wishBy 26 = .ok (.invokestatic 159, 3) := by decide +kernel
theorem dX6_wishBy_29 : decode cX6_wishBy 29 = .ok (.invokevirtual 163, 3) := by decide +kernel
theorem dX6_wishBy_32 : decode cX6_wishBy 32 = .ok (.istore 5, 2) := by decide +kernel
theorem dX6_wishBy_34 : decode cX6_wishBy 34 = .ok (.aload_n 1, 1) := by decide +kernel
theorem dX6_wishBy_35 : decode cX6_wishBy 35 = .ok (.iload_n 2, 1) := by decide +kernel
theorem dX6_wishBy_36 : decode cX6_wishBy 36 = .ok (.iconst 0, 1) := by decide +kernel
theorem dX6_wishBy_37 : decode cX6_wishBy 37 = .ok (.invokestatic 159, 3) := by decide +kernel
theorem dX6_wishBy_40 : decode cX6_wishBy 40 = .ok (.tableswitch 87 1 4 #[32, 43, 51, 79], 32) := by decide +kernel
theorem dX6_wishBy_72 : decode cX6_wishBy 72 = .ok (.iload_n 3, 1) := by decide +kernel
theorem dX6_wishBy_73 : decode cX6_wishBy 73 = .ok (.iload 5, 2) := by decide +kernel
theorem dX6_wishBy_75 : decode cX6_wishBy 75 = .ok (.isub, 1) := by decide +kernel
theorem dX6_wishBy_76 : decode cX6_wishBy 76 = .ok (.iload 4, 2) := by decide +kernel
theorem dX6_wishBy_78 : decode cX6_wishBy 78 = .ok (.isub, 1) := by decide +kernel
theorem dX6_wishBy_79 : decode cX6_wishBy 79 = .ok (.invokestatic 166, 3) := by decide +kernel
theorem dX6_wishBy_82 : decode cX6_wishBy 82 = .ok (.ireturn, 1) := by decide +kernel
theorem dX6_wishBy_83 : decode cX6_wishBy 83 = .ok (.iload_n 3, 1) := by decide +kernel
theorem dX6_wishBy_84 : decode cX6_wishBy 84 = .ok (.iload 5, 2) := by decide +kernel
theorem dX6_wishBy_86 : decode cX6_wishBy 86 = .ok (.isub, 1) := by decide +kernel
theorem dX6_wishBy_87 : decode cX6_wishBy 87 = .ok (.invokestatic 166, 3) := by decide +kernel
theorem dX6_wishBy_90 : decode cX6_wishBy 90 = .ok (.ireturn, 1) := by decide +kernel
theorem dX6_wishBy_91 : decode cX6_wishBy 91 = .ok (.aload_n 1, 1) := by decide +kernel
theorem dX6_wishBy_92 : decode cX6_wishBy 92 = .ok (.bipush 6, 2) := by decide +kernel
theorem dX6_wishBy_94 : decode cX6_wishBy 94 = .ok (.iaload, 1) := by decide +kernel
theorem dX6_wishBy_95 : decode cX6_wishBy 95 = .ok (.bipush 6, 2) := by decide +kernel
theorem dX6_wishBy_97 : decode cX6_wishBy 97 = .ok (.irem, 1) := by decide +kernel
theorem dX6_wishBy_98 : decode cX6_wishBy 98 = .ok (.iconst 3, 1) := by decide +kernel
theorem dX6_wishBy_99 : decode cX6_wishBy 99 = .ok (.if_icmp .le 18, 3) := by decide +kernel
theorem dX6_wishBy_102 : decode cX6_wishBy 102 = .ok (.iconst 2, 1) := by decide +kernel
theorem dX6_wishBy_103 : decode cX6_wishBy 103 = .ok (.iload_n 3, 1) := by decide +kernel
theorem dX6_wishBy_104 : decode cX6_wishBy 104 = .ok (.iload 5, 2) := by decide +kernel
theorem dX6_wishBy_106 : decode cX6_wishBy 106 = .ok (.isub, 1) := by decide +kernel
theorem dX6_wishBy_107 : decode cX6_wishBy 107 = .ok (.iload 4, 2) := by decide +kernel
theorem dX6_wishBy_109 : decode cX6_wishBy 109 = .ok (.isub, 1) := by decide +kernel
theorem dX6_wishBy_110 : decode cX6_wishBy 110 = .ok (.invokestatic 166, 3) := by decide +kernel
theorem dX6_wishBy_113 : decode cX6_wishBy 113 = .ok (.imul, 1) := by decide +kernel
theorem dX6_wishBy_114 : decode cX6_wishBy 114 = .ok (.goto 4, 3) := by decide +kernel
theorem dX6_wishBy_117 : decode cX6_wishBy 117 = .ok (.iconst 0, 1) := by decide +kernel
theorem dX6_wishBy_118 : decode cX6_wishBy 118 = .ok (.ireturn, 1) := by decide +kernel
theorem dX6_wishBy_119 : decode cX6_wishBy 119 = .ok (.iload_n 3, 1) := by decide +kernel
theorem dX6_wishBy_120 : decode cX6_wishBy 120 = .ok (.iload 4, 2) := by decide +kernel
theorem dX6_wishBy_122 : decode cX6_wishBy 122 = .ok (.isub, 1) := by decide +kernel
theorem dX6_wishBy_123 : decode cX6_wishBy 123 = .ok (.invokestatic 166, 3) := by decide +kernel
theorem dX6_wishBy_126 : decode cX6_wishBy 126 = .ok (.ireturn, 1) := by decide +kernel
theorem dX6_wishBy_127 : decode cX6_wishBy 127 = .ok (.iload_n 3, 1) := by decide +kernel
theorem dX6_wishBy_128 : decode cX6_wishBy 128 = .ok (.iload 4, 2) := by decide +kernel
theorem dX6_wishBy_130 : decode cX6_wishBy 130 = .ok (.isub, 1) := by decide +kernel
theorem dX6_wishBy_131 : decode cX6_wishBy 131 = .ok (.invokestatic 166, 3) := by decide +kernel
theorem dX6_wishBy_134 : decode cX6_wishBy 134 = .ok (.iconst 2, 1) := by decide +kernel
theorem dX6_wishBy_135 : decode cX6_wishBy 135 = .ok (.aload_n 1, 1) := by decide +kernel
theorem dX6_wishBy_136 : decode cX6_wishBy 136 = .ok (.iload_n 2, 1) := by decide +kernel
theorem dX6_wishBy_137 : decode cX6_wishBy 137 = .ok (.iconst 5, 1) := by decide +kernel
theorem dX6_wishBy_138 : decode cX6_wishBy 138 = .ok (.invokestatic 159, 3) := by decide +kernel
theorem dX6_wishBy_141 : decode cX6_wishBy 141 = .ok (.iconst 1, 1) := by decide +kernel
theorem dX6_wishBy_142 : decode cX6_wishBy 142 = .ok (.isub, 1) := by decide +kernel
theorem dX6_wishBy_143 : decode cX6_wishBy 143 = .ok (.imul, 1) := by decide +kernel
theorem dX6_wishBy_144 : decode cX6_wishBy 144 = .ok (.iadd, 1) := by decide +kernel
theorem dX6_wishBy_145 : decode cX6_wishBy 145 = .ok (.ireturn, 1) := by decide +kernel
theorem dX6_layPulls_0 : decode cX6_layPulls 0 = .ok (.iconst 0, 1) := by decide +kernel
theorem dX6_layPulls_1 : decode cX6_layPulls 1 = .ok (.istore 5, 2) := by decide +kernel
theorem dX6_layPulls_3 : decode cX6_layPulls 3 = .ok (.iload 5, 2) := by decide +kernel
theorem dX6_layPulls_5 : decode cX6_layPulls 5 = .ok (.aload_n 1, 1) := by decide +kernel
theorem dX6_layPulls_6 : decode cX6_layPulls 6 = .ok (.iconst 0, 1) := by decide +kernel
theorem dX6_layPulls_7 : decode cX6_layPulls 7 = .ok (.iaload, 1) := by decide +kernel
theorem dX6_layPulls_8 : decode cX6_layPulls 8 = .ok (.if_icmp .ge 55, 3) := by decide +kernel
theorem dX6_layPulls_11 : decode cX6_layPulls 11 = .ok (.aload_n 0, 1) := by decide +kernel
theorem dX6_layPulls_12 : decode cX6_layPulls 12 = .ok (.getfield 37, 3) := by decide +kernel
theorem dX6_layPulls_15 : decode cX6_layPulls 15 = .ok (.iload 5, 2) := by decide +kernel
theorem dX6_layPulls_17 : decode cX6_layPulls 17 = .ok (.iload 5, 2) := by decide +kernel
theorem dX6_layPulls_19 : decode cX6_layPulls 19 = .ok (.aload_n 1, 1) := by decide +kernel
theorem dX6_layPulls_20 : decode cX6_layPulls 20 = .ok (.iconst 1, 1) := by decide +kernel
theorem dX6_layPulls_21 : decode cX6_layPulls 21 = .ok (.iaload, 1) := by decide +kernel
theorem dX6_layPulls_22 : decode cX6_layPulls 22 = .ok (.if_icmp .ne 9, 3) := by decide +kernel
theorem dX6_layPulls_25 : decode cX6_layPulls 25 = .ok (.aload_n 1, 1) := by decide +kernel
theorem dX6_layPulls_26 : decode cX6_layPulls 26 = .ok (.iconst 2, 1) := by decide +kernel
theorem dX6_layPulls_27 : decode cX6_layPulls 27 = .ok (.iaload, 1) := by decide +kernel
theorem dX6_layPulls_28 : decode cX6_layPulls 28 = .ok (.goto 15, 3) := by decide +kernel
theorem dX6_layPulls_31 : decode cX6_layPulls 31 = .ok (.bipush (-2), 2) := by decide +kernel
theorem dX6_layPulls_33 : decode cX6_layPulls 33 = .ok (.aload_n 0, 1) := by decide +kernel
theorem dX6_layPulls_34 : decode cX6_layPulls 34 = .ok (.aload_n 1, 1) := by decide +kernel
theorem dX6_layPulls_35 : decode cX6_layPulls 35 = .ok (.iconst 1, 1) := by decide +kernel
theorem dX6_layPulls_36 : decode cX6_layPulls 36 = .ok (.iaload, 1) := by decide +kernel
theorem dX6_layPulls_37 : decode cX6_layPulls 37 = .ok (.iload 5, 2) := by decide +kernel
theorem dX6_layPulls_39 : decode cX6_layPulls 39 = .ok (.invokevirtual 163, 3) := by decide +kernel
theorem dX6_layPulls_42 : decode cX6_layPulls 42 = .ok (.imul, 1) := by decide +kernel
theorem dX6_layPulls_43 : decode cX6_layPulls 43 = .ok (.iload 5, 2) := by decide +kernel
theorem dX6_layPulls_45 : decode cX6_layPulls 45 = .ok (.iload_n 3, 1) := by decide +kernel
theorem dX6_layPulls_46 : decode cX6_layPulls 46 = .ok (.if_icmp .ne 8, 3) := by decide +kernel
theorem dX6_layPulls_49 : decode cX6_layPulls 49 = .ok (.iload 4, 2) := by decide +kernel
theorem dX6_layPulls_51 : decode cX6_layPulls 51 = .ok (.goto 4, 3) := by decide +kernel
theorem dX6_layPulls_54 : decode cX6_layPulls 54 = .ok (.iconst 0, 1) := by decide +kernel
theorem dX6_layPulls_55 : decode cX6_layPulls 55 = .ok (.iadd, 1) := by decide +kernel
theorem dX6_layPulls_56 : decode cX6_layPulls 56 = .ok (.iastore, 1) := by decide +kernel
theorem dX6_layPulls_57 : decode cX6_layPulls 57 = .ok (.iinc 5 1, 3) := by decide +kernel
theorem dX6_layPulls_60 : decode cX6_layPulls 60 = .ok (.goto (-57), 3) := by decide +kernel
theorem dX6_layPulls_63 : decode cX6_layPulls 63 = .ok (.iconst 0, 1) := by decide +kernel
theorem dX6_layPulls_64 : decode cX6_layPulls 64 = .ok (.istore 5, 2) := by decide +kernel
theorem dX6_layPulls_66 : decode cX6_layPulls 66 = .ok (.iload 5, 2) := by decide +kernel
theorem dX6_layPulls_68 : decode cX6_layPulls 68 = .ok (.aload_n 1, 1) := by decide +kernel
theorem dX6_layPulls_69 : decode cX6_layPulls 69 = .ok (.iconst 5, 1) := by decide +kernel
theorem dX6_layPulls_70 : decode cX6_layPulls 70 = .ok (.iaload, 1) := by decide +kernel
theorem dX6_layPulls_71 : decode cX6_layPulls 71 = .ok (.if_icmp .ge 50, 3) := by decide +kernel
theorem dX6_layPulls_74 : decode cX6_layPulls 74 = .ok (.iload_n 2, 1) := by decide +kernel
theorem dX6_layPulls_75 : decode cX6_layPulls 75 = .ok (.iload 5, 2) := by decide +kernel
theorem dX6_layPulls_77 : decode cX6_layPulls 77 = .ok (.ishr, 1) := by decide +kernel
theorem dX6_layPulls_78 : decode cX6_layPulls 78 = .ok (.iconst 1, 1) := by decide +kernel
theorem dX6_layPulls_79 : decode cX6_layPulls 79 = .ok (.iand, 1) := by decide +kernel
theorem dX6_layPulls_80 : decode cX6_layPulls 80 = .ok (.iconst 1, 1) := by decide +kernel
theorem dX6_layPulls_81 : decode cX6_layPulls 81 = .ok (.if_icmp .ne 34, 3) := by decide +kernel
theorem dX6_layPulls_84 : decode cX6_layPulls 84 = .ok (.aload_n 1, 1) := by decide +kernel
theorem dX6_layPulls_85 : decode cX6_layPulls 85 = .ok (.iload 5, 2) := by decide +kernel
theorem dX6_layPulls_87 : decode cX6_layPulls 87 = .ok (.invokestatic 169, 3) := by decide +kernel
theorem dX6_layPulls_90 : decode cX6_layPulls 90 = .ok (.ifCond .eq 25, 3) := by decide +kernel
theorem dX6_layPulls_93 : decode cX6_layPulls 93 = .ok (.aload_n 0, 1) := by decide +kernel
theorem dX6_layPulls_94 : decode cX6_layPulls 94 = .ok (.getfield 37, 3) := by decide +kernel
theorem dX6_layPulls_97 : decode cX6_layPulls 97 = .ok (.aload_n 1, 1) := by decide +kernel
theorem dX6_layPulls_98 : decode cX6_layPulls 98 = .ok (.iload 5, 2) := by decide +kernel
theorem dX6_layPulls_100 : decode cX6_layPulls 100 = .ok (.iconst 2, 1) := by decide +kernel
theorem dX6_layPulls_101 : decode cX6_layPulls 101 = .ok (.invokestatic 159, 3) := by decide +kernel
theorem dX6_layPulls_104 : decode cX6_layPulls 104 = .ok (.dup2, 1) := by decide +kernel
theorem dX6_layPulls_105 : decode cX6_layPulls 105 = .ok (.iaload, 1) := by decide +kernel
theorem dX6_layPulls_106 : decode cX6_layPulls 106 = .ok (.aload_n 0, 1) := by decide +kernel
theorem dX6_layPulls_107 : decode cX6_layPulls 107 = .ok (.aload_n 1, 1) := by decide +kernel
theorem dX6_layPulls_108 : decode cX6_layPulls 108 = .ok (.iload 5, 2) := by decide +kernel
theorem dX6_layPulls_110 : decode cX6_layPulls 110 = .ok (.invokevirtual 173, 3) := by decide +kernel
theorem dX6_layPulls_113 : decode cX6_layPulls 113 = .ok (.iadd, 1) := by decide +kernel
theorem dX6_layPulls_114 : decode cX6_layPulls 114 = .ok (.iastore, 1) := by decide +kernel
theorem dX6_layPulls_115 : decode cX6_layPulls 115 = .ok (.iinc 5 1, 3) := by decide +kernel
theorem dX6_layPulls_118 : decode cX6_layPulls 118 = .ok (.goto (-52), 3) := by decide +kernel
theorem dX6_layPulls_121 : decode cX6_layPulls 121 = .ok (.return_, 1) := by decide +kernel
theorem dX6_goesTo_0 : decode cX6_goesTo 0 = .ok (.aload_n 1, 1) := by decide +kernel
theorem dX6_goesTo_1 : decode cX6_goesTo 1 = .ok (.iconst 1, 1) := by decide +kernel
theorem dX6_goesTo_2 : decode cX6_goesTo 2 = .ok (.iaload, 1) := by decide +kernel
theorem dX6_goesTo_3 : decode cX6_goesTo 3 = .ok (.istore_n 2, 1) := by decide +kernel
theorem dX6_goesTo_4 : decode cX6_goesTo 4 = .ok (.iconst 1, 1) := by decide +kernel
theorem dX6_goesTo_5 : decode cX6_goesTo 5 = .ok (.istore_n 3, 1) := by decide +kernel
theorem dX6_goesTo_6 : decode cX6_goesTo 6 = .ok (.iconst 0, 1) := by decide +kernel
theorem dX6_goesTo_7 : decode cX6_goesTo 7 = .ok (.istore 4, 2) := by decide +kernel
theorem dX6_goesTo_9 : decode cX6_goesTo 9 = .ok (.iload 4, 2) := by decide +kernel
theorem dX6_goesTo_11 : decode cX6_goesTo 11 = .ok (.aload_n 1, 1) := by decide +kernel
theorem dX6_goesTo_12 : decode cX6_goesTo 12 = .ok (.iconst 0, 1) := by decide +kernel
theorem dX6_goesTo_13 : decode cX6_goesTo 13 = .ok (.iaload, 1) := by decide +kernel
theorem dX6_goesTo_14 : decode cX6_goesTo 14 = .ok (.if_icmp .ge 58, 3) := by decide +kernel
theorem dX6_goesTo_17 : decode cX6_goesTo 17 = .ok (.aload_n 0, 1) := by decide +kernel
theorem dX6_goesTo_18 : decode cX6_goesTo 18 = .ok (.getfield 37, 3) := by decide +kernel
theorem dX6_goesTo_21 : decode cX6_goesTo 21 = .ok (.iload 4, 2) := by decide +kernel
theorem dX6_goesTo_23 : decode cX6_goesTo 23 = .ok (.iaload, 1) := by decide +kernel
theorem dX6_goesTo_24 : decode cX6_goesTo 24 = .ok (.aload_n 0, 1) := by decide +kernel
theorem dX6_goesTo_25 : decode cX6_goesTo 25 = .ok (.getfield 37, 3) := by decide +kernel
theorem dX6_goesTo_28 : decode cX6_goesTo 28 = .ok (.iload_n 2, 1) := by decide +kernel
theorem dX6_goesTo_29 : decode cX6_goesTo 29 = .ok (.iaload, 1) := by decide +kernel
theorem dX6_goesTo_30 : decode cX6_goesTo 30 = .ok (.if_icmp .le 11, 3) := by decide +kernel
theorem dX6_goesTo_33 : decode cX6_goesTo 33 = .ok (.iload 4, 2) := by decide +kernel
theorem dX6_goesTo_35 : decode cX6_goesTo 35 = .ok (.istore_n 2, 1) := by decide +kernel
theorem dX6_goesTo_36 : decode cX6_goesTo 36 = .ok (.iconst 1, 1) := by decide +kernel
theorem dX6_goesTo_37 : decode cX6_goesTo 37 = .ok (.istore_n 3, 1) := by decide +kernel
theorem dX6_goesTo_38 : decode cX6_goesTo 38 = .ok (.goto 28, 3) := by decide +kernel
theorem dX6_goesTo_41 : decode cX6_goesTo 41 = .ok (.iload 4, 2) := by decide +kernel
theorem dX6_goesTo_43 : decode cX6_goesTo 43 = .ok (.iload_n 2, 1) := by decide +kernel
theorem dX6_goesTo_44 : decode cX6_goesTo 44 = .ok (.if_icmp .eq 22, 3) := by decide +kernel
theorem dX6_goesTo_47 : decode cX6_goesTo 47 = .ok (.aload_n 0, 1) := by decide +kernel
theorem dX6_goesTo_48 : decode cX6_goesTo 48 = .ok (.getfield 37, 3) := by decide +kernel
theorem dX6_goesTo_51 : decode cX6_goesTo 51 = .ok (.iload 4, 2) := by decide +kernel
theorem dX6_goesTo_53 : decode cX6_goesTo 53 = .ok (.iaload, 1) := by decide +kernel
theorem dX6_goesTo_54 : decode cX6_goesTo 54 = .ok (.aload_n 0, 1) := by decide +kernel
theorem dX6_goesTo_55 : decode cX6_goesTo 55 = .ok (.getfield 37, 3) := by decide +kernel
theorem dX6_goesTo_58 : decode cX6_goesTo 58 = .ok (.iload_n 2, 1) := by decide +kernel
theorem dX6_goesTo_59 : decode cX6_goesTo 59 = .ok (.iaload, 1) := by decide +kernel
theorem dX6_goesTo_60 : decode cX6_goesTo 60 = .ok (.if_icmp .ne 6, 3) := by decide +kernel
theorem dX6_goesTo_63 : decode cX6_goesTo 63 = .ok (.iinc 3 1, 3) := by decide +kernel
theorem dX6_goesTo_66 : decode cX6_goesTo 66 = .ok (.iinc 4 1, 3) := by decide +kernel
theorem dX6_goesTo_69 : decode cX6_goesTo 69 = .ok (.goto (-60), 3) := by decide +kernel
theorem dX6_goesTo_72 : decode cX6_goesTo 72 = .ok (.iload_n 2, 1) := by decide +kernel
theorem dX6_goesTo_73 : decode cX6_goesTo 73 = .ok (.aload_n 1, 1) := by decide +kernel
theorem dX6_goesTo_74 : decode cX6_goesTo 74 = .ok (.iconst 1, 1) := by decide +kernel
theorem dX6_goesTo_75 : decode cX6_goesTo 75 = .ok (.iaload, 1) := by decide +kernel
theorem dX6_goesTo_76 : decode cX6_goesTo 76 = .ok (.if_icmp .eq 8, 3) := by decide +kernel
theorem dX6_goesTo_79 : decode cX6_goesTo 79 = .ok (.iload_n 3, 1) := by decide +kernel
theorem dX6_goesTo_80 : decode cX6_goesTo 80 = .ok (.iconst 1, 1) := by decide +kernel
theorem dX6_goesTo_81 : decode cX6_goesTo 81 = .ok (.if_icmp .ne 7, 3) := by decide +kernel
theorem dX6_goesTo_84 : decode cX6_goesTo 84 = .ok (.iload_n 2, 1) := by decide +kernel
theorem dX6_goesTo_85 : decode cX6_goesTo 85 = .ok (.goto 5, 3) := by decide +kernel
theorem dX6_goesTo_88 : decode cX6_goesTo 88 = .ok (.ldc 97, 2) := by decide +kernel
theorem dX6_goesTo_90 : decode cX6_goesTo 90 = .ok (.ireturn, 1) := by decide +kernel
theorem dX6_hour_0 : decode cX6_hour 0 = .ok (.aload_n 0, 1) := by decide +kernel
theorem dX6_hour_1 : decode cX6_hour 1 = .ok (.aload_n 1, 1) := by decide +kernel
theorem dX6_hour_2 : decode cX6_hour 2 = .ok (.bipush 63, 2) := by decide +kernel
theorem dX6_hour_4 : decode cX6_hour 4 = .ok (.iload_n 2, 1) := by decide +kernel
theorem dX6_hour_5 : decode cX6_hour 5 = .ok (.iload_n 3, 1) := by decide +kernel
theorem dX6_hour_6 : decode cX6_hour 6 = .ok (.invokevirtual 177, 3) := by decide +kernel
theorem dX6_hour_9 : decode cX6_hour 9 = .ok (.aload_n 0, 1) := by decide +kernel
theorem dX6_hour_10 : decode cX6_hour 10 = .ok (.aload_n 1, 1) := by decide +kernel
theorem dX6_hour_11 : decode cX6_hour 11 = .ok (.invokevirtual 181, 3) := by decide +kernel
theorem dX6_hour_14 : decode cX6_hour 14 = .ok (.istore 4, 2) := by decide +kernel
theorem dX6_hour_16 : decode cX6_hour 16 = .ok (.aload_n 1, 1) := by decide +kernel
theorem dX6_hour_17 : decode cX6_hour 17 = .ok (.bipush 8, 2) := by decide +kernel
theorem dX6_hour_19 : decode cX6_hour 19 = .ok (.dup2, 1) := by decide +kernel
theorem dX6_hour_20 : decode cX6_hour 20 = .ok (.iaload, 1) := by decide +kernel
theorem dX6_hour_21 : decode cX6_hour 21 = .ok (.iload 4, 2) := by decide +kernel
theorem dX6_hour_23 : decode cX6_hour 23 = .ok (.ldc 97, 2) := by decide +kernel
theorem dX6_hour_25 : decode cX6_hour 25 = .ok (.if_icmp .ne 7, 3) := by decide +kernel
theorem dX6_hour_28 : decode cX6_hour 28 = .ok (.iconst 1, 1) := by decide +kernel
theorem dX6_hour_29 : decode cX6_hour 29 = .ok (.goto 4, 3) := by decide +kernel
theorem dX6_hour_32 : decode cX6_hour 32 = .ok (.iconst 0, 1) := by decide +kernel
theorem dX6_hour_33 : decode cX6_hour 33 = .ok (.iadd, 1) := by decide +kernel
theorem dX6_hour_34 : decode cX6_hour 34 = .ok (.iastore, 1) := by decide +kernel
theorem dX6_hour_35 : decode cX6_hour 35 = .ok (.iload 4, 2) := by decide +kernel
theorem dX6_hour_37 : decode cX6_hour 37 = .ok (.ldc 97, 2) := by decide +kernel
theorem dX6_hour_39 : decode cX6_hour 39 = .ok (.if_icmp .eq 45, 3) := by decide +kernel
theorem dX6_hour_42 : decode cX6_hour 42 = .ok (.iload 4, 2) := by decide +kernel
theorem dX6_hour_44 : decode cX6_hour 44 = .ok (.aload_n 1, 1) := by decide +kernel
theorem dX6_hour_45 : decode cX6_hour 45 = .ok (.iconst 1, 1) := by decide +kernel
theorem dX6_hour_46 : decode cX6_hour 46 = .ok (.iaload, 1) := by decide +kernel
theorem dX6_hour_47 : decode cX6_hour 47 = .ok (.if_icmp .eq 37, 3) := by decide +kernel
theorem dX6_hour_50 : decode cX6_hour 50 = .ok (.aload_n 1, 1) := by decide +kernel
theorem dX6_hour_51 : decode cX6_hour 51 = .ok (.bipush 9, 2) := by decide +kernel
theorem dX6_hour_53 : decode cX6_hour 53 = .ok (.aload_n 1, 1) := by decide +kernel
theorem dX6_hour_54 : decode cX6_hour 54 = .ok (.bipush 9, 2) := by decide +kernel
theorem dX6_hour_56 : decode cX6_hour 56 = .ok (.iaload, 1) := by decide +kernel
theorem dX6_hour_57 : decode cX6_hour 57 = .ok (.iconst 1, 1) := by decide +kernel
theorem dX6_hour_58 : decode cX6_hour 58 = .ok (.aload_n 1, 1) := by decide +kernel
theorem dX6_hour_59 : decode cX6_hour 59 = .ok (.iconst 1, 1) := by decide +kernel
theorem dX6_hour_60 : decode cX6_hour 60 = .ok (.iaload, 1) := by decide +kernel
theorem dX6_hour_61 : decode cX6_hour 61 = .ok (.ishl, 1) := by decide +kernel
theorem dX6_hour_62 : decode cX6_hour 62 = .ok (.ior, 1) := by decide +kernel
theorem dX6_hour_63 : decode cX6_hour 63 = .ok (.iconst 1, 1) := by decide +kernel
theorem dX6_hour_64 : decode cX6_hour 64 = .ok (.iload 4, 2) := by decide +kernel
theorem dX6_hour_66 : decode cX6_hour 66 = .ok (.ishl, 1) := by decide +kernel
theorem dX6_hour_67 : decode cX6_hour 67 = .ok (.iconst (-1), 1) := by decide +kernel
theorem dX6_hour_68 : decode cX6_hour 68 = .ok (.ixor, 1) := by decide +kernel
theorem dX6_hour_69 : decode cX6_hour 69 = .ok (.iand, 1) := by decide +kernel
theorem dX6_hour_70 : decode cX6_hour 70 = .ok (.iastore, 1) := by decide +kernel
theorem dX6_hour_71 : decode cX6_hour 71 = .ok (.aload_n 1, 1) := by decide +kernel
theorem dX6_hour_72 : decode cX6_hour 72 = .ok (.iconst 1, 1) := by decide +kernel
theorem dX6_hour_73 : decode cX6_hour 73 = .ok (.iload 4, 2) := by decide +kernel
theorem dX6_hour_75 : decode cX6_hour 75 = .ok (.iastore, 1) := by decide +kernel
theorem dX6_hour_76 : decode cX6_hour 76 = .ok (.aload_n 1, 1) := by decide +kernel
theorem dX6_hour_77 : decode cX6_hour 77 = .ok (.bipush 7, 2) := by decide +kernel
theorem dX6_hour_79 : decode cX6_hour 79 = .ok (.dup2, 1) := by decide +kernel
theorem dX6_hour_80 : decode cX6_hour 80 = .ok (.iaload, 1) := by decide +kernel
theorem dX6_hour_81 : decode cX6_hour 81 = .ok (.iconst 1, 1) := by decide +kernel
theorem dX6_hour_82 : decode cX6_hour 82 = .ok (.iadd, 1) := by decide +kernel
theorem dX6_hour_83 : decode cX6_hour 83 = .ok (.iastore, 1) := by decide +kernel
theorem dX6_hour_84 : decode cX6_hour 84 = .ok (.iconst 0, 1) := by decide +kernel
theorem dX6_hour_85 : decode cX6_hour 85 = .ok (.istore 5, 2) := by decide +kernel
theorem dX6_hour_87 : decode cX6_hour 87 = .ok (.iload 5, 2) := by decide +kernel
theorem dX6_hour_89 : decode cX6_hour 89 = .ok (.aload_n 1, 1) := by decide +kernel
theorem dX6_hour_90 : decode cX6_hour 90 = .ok (.iconst 5, 1) := by decide +kernel
theorem dX6_hour_91 : decode cX6_hour 91 = .ok (.iaload, 1) := by decide +kernel
theorem dX6_hour_92 : decode cX6_hour 92 = .ok (.if_icmp .ge 92, 3) := by decide +kernel
theorem dX6_hour_95 : decode cX6_hour 95 = .ok (.aload_n 1, 1) := by decide +kernel
theorem dX6_hour_96 : decode cX6_hour 96 = .ok (.iload 5, 2) := by decide +kernel
theorem dX6_hour_98 : decode cX6_hour 98 = .ok (.bipush 6, 2) := by decide +kernel
theorem dX6_hour_100 : decode cX6_hour 100 = .ok (.invokestatic 159, 3) := by decide +kernel
theorem dX6_hour_103 : decode cX6_hour 103 = .ok (.istore 6, 2) := by decide +kernel
theorem dX6_hour_105 : decode cX6_hour 105 = .ok (.aload_n 1, 1) := by decide +kernel
theorem dX6_hour_106 : decode cX6_hour 106 = .ok (.iload 5, 2) := by decide +kernel
theorem dX6_hour_108 : decode cX6_hour 108 = .ok (.invokestatic 169, 3) := by decide +kernel
theorem dX6_hour_111 : decode cX6_hour 111 = .ok (.ifCond .eq 12, 3) := by decide +kernel
theorem dX6_hour_114 : decode cX6_hour 114 = .ok (.iload 6, 2) := by decide +kernel
theorem dX6_hour_116 : decode cX6_hour 116 = .ok (.aload_n 1, 1) := by decide +kernel
theorem dX6_hour_117 : decode cX6_hour 117 = .ok (.iconst 3, 1) := by decide +kernel
theorem dX6_hour_118 : decode cX6_hour 118 = .ok (.iaload, 1) := by decide +kernel
theorem dX6_hour_119 : decode cX6_hour 119 = .ok (.iadd, 1) := by decide +kernel
theorem dX6_hour_120 : decode cX6_hour 120 = .ok (.goto 7, 3) := by decide +kernel
theorem dX6_hour_123 : decode cX6_hour 123 = .ok (.iload 6, 2) := by decide +kernel
theorem dX6_hour_125 : decode cX6_hour 125 = .ok (.iconst 1, 1) := by decide +kernel
theorem dX6_hour_126 : decode cX6_hour 126 = .ok (.isub, 1) := by decide +kernel
theorem dX6_hour_127 : decode cX6_hour 127 = .ok (.istore 6, 2) := by decide +kernel
theorem dX6_hour_129 : decode cX6_hour 129 = .ok (.iload 6, 2) := by decide +kernel
theorem dX6_hour_131 : decode cX6_hour 131 = .ok (.bipush 20, 2) := by decide +kernel
theorem dX6_hour_133 : decode cX6_hour 133 = .ok (.if_icmp .le 8, 3) := by decide +kernel
theorem dX6_hour_136 : decode cX6_hour 136 = .ok (.bipush 20, 2) := by decide +kernel
theorem dX6_hour_138 : decode cX6_hour 138 = .ok (.goto 8, 3) := by decide +kernel
theorem dX6_hour_141 : decode cX6_hour 141 = .ok (.iload 6, 2) := by decide +kernel
theorem dX6_hour_143 : decode cX6_hour 143 = .ok (.invokestatic 166, 3) := by decide +kernel
theorem dX6_hour_146 : decode cX6_hour 146 = .ok (.istore 6, 2) := by decide +kernel
theorem dX6_hour_148 : decode cX6_hour 148 = .ok (.aload_n 1, 1) := by decide +kernel
theorem dX6_hour_149 : decode cX6_hour 149 = .ok (.bipush 16, 2) := by decide +kernel
theorem dX6_hour_151 : decode cX6_hour 151 = .ok (.bipush 8, 2) := by decide +kernel
theorem dX6_hour_153 : decode cX6_hour 153 = .ok (.iload 5, 2) := by decide +kernel
theorem dX6_hour_155 : decode cX6_hour 155 = .ok (.imul, 1) := by decide +kernel
theorem dX6_hour_156 : decode cX6_hour 156 = .ok (.iadd, 1) := by decide +kernel
theorem dX6_hour_157 : decode cX6_hour 157 = .ok (.bipush 6, 2) := by decide +kernel
theorem dX6_hour_159 : decode cX6_hour 159 = .ok (.iadd, 1) := by decide +kernel
theorem dX6_hour_160 : decode cX6_hour 160 = .ok (.aload_n 1, 1) := by decide +kernel
theorem dX6_hour_161 : decode cX6_hour 161 = .ok (.iload 5, 2) := by decide +kernel
theorem dX6_hour_163 : decode cX6_hour 163 = .ok (.iconst 0, 1) := by decide +kernel
theorem dX6_hour_164 : decode cX6_hour 164 = .ok (.invokestatic 159, 3) := by decide +kernel
theorem dX6_hour_167 : decode cX6_hour 167 = .ok (.iconst 2, 1) := by decide +kernel
theorem dX6_hour_168 : decode cX6_hour 168 = .ok (.if_icmp .ne 7, 3) := by decide +kernel
theorem dX6_hour_171 : decode cX6_hour 171 = .ok (.iconst 0, 1) := by decide +kernel
theorem dX6_hour_172 : decode cX6_hour 172 = .ok (.goto 5, 3) := by decide +kernel
theorem dX6_hour_175 : decode cX6_hour 175 = .ok (.iload 6, 2) := by decide +kernel
theorem dX6_hour_177 : decode cX6_hour 177 = .ok (.iastore, 1) := by decide +kernel
theorem dX6_hour_178 : decode cX6_hour 178 = .ok (.iinc 5 1, 3) := by decide +kernel
theorem dX6_hour_181 : decode cX6_hour 181 = .ok (.goto (-94), 3) := by decide +kernel
theorem dX6_hour_184 : decode cX6_hour 184 = .ok (.aload_n 1, 1) := by decide +kernel
theorem dX6_hour_185 : decode cX6_hour 185 = .ok (.bipush 6, 2) := by decide +kernel
theorem dX6_hour_187 : decode cX6_hour 187 = .ok (.dup2, 1) := by decide +kernel
theorem dX6_hour_188 : decode cX6_hour 188 = .ok (.iaload, 1) := by decide +kernel
theorem dX6_hour_189 : decode cX6_hour 189 = .ok (.iconst 1, 1) := by decide +kernel
theorem dX6_hour_190 : decode cX6_hour 190 = .ok (.iadd, 1) := by decide +kernel
theorem dX6_hour_191 : decode cX6_hour 191 = .ok (.iastore, 1) := by decide +kernel
theorem dX6_hour_192 : decode cX6_hour 192 = .ok (.return_, 1) := by decide +kernel
theorem dX6_hoursOf_0 : decode cX6_hoursOf 0 = .ok (.iconst 0, 1) := by decide +kernel
theorem dX6_hoursOf_1 : decode cX6_hoursOf 1 = .ok (.istore_n 3, 1) := by decide +kernel
theorem dX6_hoursOf_2 : decode cX6_hoursOf 2 = .ok (.iload_n 3, 1) := by decide +kernel
theorem dX6_hoursOf_3 : decode cX6_hoursOf 3 = .ok (.iload_n 2, 1) := by decide +kernel
theorem dX6_hoursOf_4 : decode cX6_hoursOf 4 = .ok (.if_icmp .ge 16, 3) := by decide +kernel
theorem dX6_hoursOf_7 : decode cX6_hoursOf 7 = .ok (.aload_n 0, 1) := by decide +kernel
theorem dX6_hoursOf_8 : decode cX6_hoursOf 8 = .ok (.aload_n 1, 1) := by decide +kernel
theorem dX6_hoursOf_9 : decode cX6_hoursOf 9 = .ok (.iconst 0, 1) := by decide +kernel
theorem dX6_hoursOf_10 : decode cX6_hoursOf 10 = .ok (.iconst 0, 1) := by decide +kernel
theorem dX6_hoursOf_11 : decode cX6_hoursOf 11 = .ok (.invokevirtual 185, 3) := by decide +kernel
theorem dX6_hoursOf_14 : decode cX6_hoursOf 14 = .ok (.iinc 3 1, 3) := by decide +kernel
theorem dX6_hoursOf_17 : decode cX6_hoursOf 17 = .ok (.goto (-15), 3) := by decide +kernel
theorem dX6_hoursOf_20 : decode cX6_hoursOf 20 = .ok (.return_, 1) := by decide +kernel
theorem dX6_layThen_0 : decode cX6_layThen 0 = .ok (.iconst 0, 1) := by decide +kernel
theorem dX6_layThen_1 : decode cX6_layThen 1 = .ok (.istore_n 1, 1) := by decide +kernel
theorem dX6_layThen_2 : decode cX6_layThen 2 = .ok (.iload_n 1, 1) := by decide +kernel
theorem dX6_layThen_3 : decode cX6_layThen 3 = .ok (.bipush 64, 2) := by decide +kernel
theorem dX6_layThen_5 : decode cX6_layThen 5 = .ok (.if_icmp .ge 21, 3) := by decide +kernel
theorem dX6_layThen_8 : decode cX6_layThen 8 = .ok (.aload_n 0, 1) := by decide +kernel
theorem dX6_layThen_9 : decode cX6_layThen 9 = .ok (.getfield 25, 3) := by decide +kernel
theorem dX6_layThen_12 : decode cX6_layThen 12 = .ok (.iload_n 1, 1) := by decide +kernel
theorem dX6_layThen_13 : decode cX6_layThen 13 = .ok (.aload_n 0, 1) := by decide +kernel
theorem dX6_layThen_14 : decode cX6_layThen 14 = .ok (.getfield 19, 3) := by decide +kernel
theorem dX6_layThen_17 : decode cX6_layThen 17 = .ok (.iload_n 1, 1) := by decide +kernel
theorem dX6_layThen_18 : decode cX6_layThen 18 = .ok (.iaload, 1) := by decide +kernel
theorem dX6_layThen_19 : decode cX6_layThen 19 = .ok (.iastore, 1) := by decide +kernel
theorem dX6_layThen_20 : decode cX6_layThen 20 = .ok (.iinc 1 1, 3) := by decide +kernel
theorem dX6_layThen_23 : decode cX6_layThen 23 = .ok (.goto (-21), 3) := by decide +kernel
theorem dX6_layThen_26 : decode cX6_layThen 26 = .ok (.return_, 1) := by decide +kernel
theorem dX6_atBehind_0 : decode cX6_atBehind 0 = .ok (.aload_n 0, 1) := by decide +kernel
theorem dX6_atBehind_1 : decode cX6_atBehind 1 = .ok (.aload_n 0, 1) := by decide +kernel
theorem dX6_atBehind_2 : decode cX6_atBehind 2 = .ok (.getfield 25, 3) := by decide +kernel
theorem dX6_atBehind_5 : decode cX6_atBehind 5 = .ok (.iload_n 1, 1) := by decide +kernel
theorem dX6_atBehind_6 : decode cX6_atBehind 6 = .ok (.invokevirtual 189, 3) := by decide +kernel
theorem dX6_atBehind_9 : decode cX6_atBehind 9 = .ok (.aload_n 0, 1) := by decide +kernel
theorem dX6_atBehind_10 : decode cX6_atBehind 10 = .ok (.getfield 25, 3) := by decide +kernel
theorem dX6_atBehind_13 : decode cX6_atBehind 13 = .ok (.iconst 1, 1) := by decide +kernel
theorem dX6_atBehind_14 : decode cX6_atBehind 14 = .ok (.iaload, 1) := by decide +kernel
theorem dX6_atBehind_15 : decode cX6_atBehind 15 = .ok (.ireturn, 1) := by decide +kernel
theorem dX6_keep_0 : decode cX6_keep 0 = .ok (.aload_n 0, 1) := by decide +kernel
theorem dX6_keep_1 : decode cX6_keep 1 = .ok (.getfield 153, 3) := by decide +kernel
theorem dX6_keep_4 : decode cX6_keep 4 = .ok (.bipush 24, 2) := by decide +kernel
theorem dX6_keep_6 : decode cX6_keep 6 = .ok (.if_icmp .ne 43, 3) := by decide +kernel
theorem dX6_keep_9 : decode cX6_keep 9 = .ok (.iconst 0, 1) := by decide +kernel
theorem dX6_keep_10 : decode cX6_keep 10 = .ok (.istore_n 1, 1) := by decide +kernel
theorem dX6_keep_11 : decode cX6_keep 11 = .ok (.iload_n 1, 1) := by decide +kernel
theorem dX6_keep_12 : decode cX6_keep 12 = .ok (.sipush 1472, 3) := by decide +kernel
theorem dX6_keep_15 : decode cX6_keep 15 = .ok (.if_icmp .ge 24, 3) := by decide +kernel
theorem dX6_keep_18 : decode cX6_keep 18 = .ok (.aload_n 0, 1) := by decide +kernel
theorem dX6_keep_19 : decode cX6_keep 19 = .ok (.getfield 28, 3) := by decide +kernel
theorem dX6_keep_22 : decode cX6_keep 22 = .ok (.iload_n 1, 1) := by decide +kernel
theorem dX6_keep_23 : decode cX6_keep 23 = .ok (.aload_n 0, 1) := by decide +kernel
theorem dX6_keep_24 : decode cX6_keep 24 = .ok (.getfield 28, 3) := by decide +kernel
theorem dX6_keep_27 : decode cX6_keep 27 = .ok (.iload_n 1, 1) := by decide +kernel
theorem dX6_keep_28 : decode cX6_keep 28 = .ok (.bipush 64, 2) := by decide +kernel
theorem dX6_keep_30 : decode cX6_keep 30 = .ok (.iadd, 1) := by decide +kernel
theorem dX6_keep_31 : decode cX6_keep 31 = .ok (.iaload, 1) := by decide +kernel
theorem dX6_keep_32 : decode cX6_keep 32 = .ok (.iastore, 1) := by decide +kernel
theorem dX6_keep_33 : decode cX6_keep 33 = .ok (.iinc 1 1, 3) := by decide +kernel
theorem dX6_keep_36 : decode cX6_keep 36 = .ok (.goto (-25), 3) := by decide +kernel
theorem dX6_keep_39 : decode cX6_keep 39 = .ok (.aload_n 0, 1) := by decide +kernel
theorem dX6_keep_40 : decode cX6_keep 40 = .ok (.dup, 1) := by decide +kernel
theorem dX6_keep_41 : decode cX6_keep 41 = .ok (.getfield 153, 3) := by decide +kernel
theorem dX6_keep_44 : decode cX6_keep 44 = .ok (.iconst 1, 1) := by decide +kernel
theorem dX6_keep_45 : decode cX6_keep 45 = .ok (.isub, 1) := by decide +kernel
theorem dX6_keep_46 : decode cX6_keep 46 = .ok (.putfield 153, 3) := by decide +kernel
theorem dX6_keep_49 : decode cX6_keep 49 = .ok (.iconst 0, 1) := by decide +kernel
theorem dX6_keep_50 : decode cX6_keep 50 = .ok (.istore_n 1, 1) := by decide +kernel
theorem dX6_keep_51 : decode cX6_keep 51 = .ok (.iload_n 1, 1) := by decide +kernel
theorem dX6_keep_52 : decode cX6_keep 52 = .ok (.bipush 64, 2) := by decide +kernel
theorem dX6_keep_54 : decode cX6_keep 54 = .ok (.if_icmp .ge 29, 3) := by decide +kernel
theorem dX6_keep_57 : decode cX6_keep 57 = .ok (.aload_n 0, 1) := by decide +kernel
theorem dX6_keep_58 : decode cX6_keep 58 = .ok (.getfield 28, 3) := by decide +kernel
theorem dX6_keep_61 : decode cX6_keep 61 = .ok (.bipush 64, 2) := by decide +kernel
theorem dX6_keep_63 : decode cX6_keep 63 = .ok (.aload_n 0, 1) := by decide +kernel
theorem dX6_keep_64 : decode cX6_keep 64 = .ok (.getfield 153, 3) := by decide +kernel
theorem dX6_keep_67 : decode cX6_keep 67 = .ok (.imul, 1) := by decide +kernel
theorem dX6_keep_68 : decode cX6_keep 68 = .ok (.iload_n 1, 1) := by decide +kernel
theorem dX6_keep_69 : decode cX6_keep 69 = .ok (.iadd, 1) := by decide +kernel
theorem dX6_keep_70 : decode cX6_keep 70 = .ok (.aload_n 0, 1) := by decide +kernel
theorem dX6_keep_71 : decode cX6_keep 71 = .ok (.getfield 19, 3) := by decide +kernel
theorem dX6_keep_74 : decode cX6_keep 74 = .ok (.iload_n 1, 1) := by decide +kernel
theorem dX6_keep_75 : decode cX6_keep 75 = .ok (.iaload, 1) := by decide +kernel
theorem dX6_keep_76 : decode cX6_keep 76 = .ok (.iastore, 1) := by decide +kernel
theorem dX6_keep_77 : decode cX6_keep 77 = .ok (.iinc 1 1, 3) := by decide +kernel
theorem dX6_keep_80 : decode cX6_keep 80 = .ok (.goto (-29), 3) := by decide +kernel
theorem dX6_keep_83 : decode cX6_keep 83 = .ok (.aload_n 0, 1) := by decide +kernel
theorem dX6_keep_84 : decode cX6_keep 84 = .ok (.dup, 1) := by decide +kernel
theorem dX6_keep_85 : decode cX6_keep 85 = .ok (.getfield 153, 3) := by decide +kernel
theorem dX6_keep_88 : decode cX6_keep 88 = .ok (.iconst 1, 1) := by decide +kernel
theorem dX6_keep_89 : decode cX6_keep 89 = .ok (.iadd, 1) := by decide +kernel
theorem dX6_keep_90 : decode cX6_keep 90 = .ok (.putfield 153, 3) := by decide +kernel
theorem dX6_keep_93 : decode cX6_keep 93 = .ok (.return_, 1) := by decide +kernel
theorem dX6_hours_0 : decode cX6_hours 0 = .ok (.aload_n 0, 1) := by decide +kernel
theorem dX6_hours_1 : decode cX6_hours 1 = .ok (.iconst 0, 1) := by decide +kernel
theorem dX6_hours_2 : decode cX6_hours 2 = .ok (.putfield 54, 3) := by decide +kernel
theorem dX6_hours_5 : decode cX6_hours 5 = .ok (.aload_n 0, 1) := by decide +kernel
theorem dX6_hours_6 : decode cX6_hours 6 = .ok (.invokevirtual 193, 3) := by decide +kernel
theorem dX6_hours_9 : decode cX6_hours 9 = .ok (.ifCond .ne 6, 3) := by decide +kernel
theorem dX6_hours_12 : decode cX6_hours 12 = .ok (.ldc 196, 2) := by decide +kernel
theorem dX6_hours_14 : decode cX6_hours 14 = .ok (.ireturn, 1) := by decide +kernel
theorem dX6_hours_15 : decode cX6_hours 15 = .ok (.iload_n 1, 1) := by decide +kernel
theorem dX6_hours_16 : decode cX6_hours 16 = .ok (.i2l, 1) := by decide +kernel
theorem dX6_hours_17 : decode cX6_hours 17 = .ok (.lconst 1, 1) := by decide +kernel
theorem dX6_hours_18 : decode cX6_hours 18 = .ok (.ldc2_w 197, 3) := by decide +kernel
theorem dX6_hours_21 : decode cX6_hours 21 = .ok (.invokestatic 64, 3) := by decide +kernel
theorem dX6_hours_24 : decode cX6_hours 24 = .ok (.ifCond .ne 6, 3) := by decide +kernel
theorem dX6_hours_27 : decode cX6_hours 27 = .ok (.ldc 74, 2) := by decide +kernel
theorem dX6_hours_29 : decode cX6_hours 29 = .ok (.ireturn, 1) := by decide +kernel
theorem dX6_hours_30 : decode cX6_hours 30 = .ok (.aload_n 0, 1) := by decide +kernel
theorem dX6_hours_31 : decode cX6_hours 31 = .ok (.getfield 19, 3) := by decide +kernel
theorem dX6_hours_34 : decode cX6_hours 34 = .ok (.bipush 6, 2) := by decide +kernel
theorem dX6_hours_36 : decode cX6_hours 36 = .ok (.iaload, 1) := by decide +kernel
theorem dX6_hours_37 : decode cX6_hours 37 = .ok (.iload_n 1, 1) := by decide +kernel
theorem dX6_hours_38 : decode cX6_hours 38 = .ok (.iadd, 1) := by decide +kernel
theorem dX6_hours_39 : decode cX6_hours 39 = .ok (.sipush 999, 3) := by decide +kernel
theorem dX6_hours_42 : decode cX6_hours 42 = .ok (.if_icmp .le 6, 3) := by decide +kernel
theorem dX6_hours_45 : decode cX6_hours 45 = .ok (.ldc 84, 2) := by decide +kernel
theorem dX6_hours_47 : decode cX6_hours 47 = .ok (.ireturn, 1) := by decide +kernel
theorem dX6_hours_48 : decode cX6_hours 48 = .ok (.iconst 0, 1) := by decide +kernel
theorem dX6_hours_49 : decode cX6_hours 49 = .ok (.istore_n 2, 1) := by decide +kernel
theorem dX6_hours_50 : decode cX6_hours 50 = .ok (.iload_n 2, 1) := by decide +kernel
theorem dX6_hours_51 : decode cX6_hours 51 = .ok (.iload_n 1, 1) := by decide +kernel
theorem dX6_hours_52 : decode cX6_hours 52 = .ok (.if_icmp .ge 23, 3) := by decide +kernel
theorem dX6_hours_55 : decode cX6_hours 55 = .ok (.aload_n 0, 1) := by decide +kernel
theorem dX6_hours_56 : decode cX6_hours 56 = .ok (.invokevirtual 199, 3) := by decide +kernel
theorem dX6_hours_59 : decode cX6_hours 59 = .ok (.aload_n 0, 1) := by decide +kernel
theorem dX6_hours_60 : decode cX6_hours 60 = .ok (.aload_n 0, 1) := by decide +kernel
theorem dX6_hours_61 : decode cX6_hours 61 = .ok (.getfield 19, 3) := by decide +kernel
theorem dX6_hours_64 : decode cX6_hours 64 = .ok (.iconst 0, 1) := by decide +kernel
theorem dX6_hours_65 : decode cX6_hours 65 = .ok (.iconst 0, 1) := by decide +kernel
theorem dX6_hours_66 : decode cX6_hours 66 = .ok (.invokevirtual 185, 3) := by decide +kernel
theorem dX6_hours_69 : decode cX6_hours 69 = .ok (.iinc 2 1, 3) := by decide +kernel
theorem dX6_hours_72 : decode cX6_hours 72 = .ok (.goto (-22), 3) := by decide +kernel
theorem dX6_hours_75 : decode cX6_hours 75 = .ok (.aload_n 0, 1) := by decide +kernel
theorem dX6_hours_76 : decode cX6_hours 76 = .ok (.getfield 19, 3) := by decide +kernel
theorem dX6_hours_79 : decode cX6_hours 79 = .ok (.iconst 1, 1) := by decide +kernel
theorem dX6_hours_80 : decode cX6_hours 80 = .ok (.iaload, 1) := by decide +kernel
theorem dX6_hours_81 : decode cX6_hours 81 = .ok (.ireturn, 1) := by decide +kernel
theorem dX6_wish_0 : decode cX6_wish 0 = .ok (.aload_n 0, 1) := by decide +kernel
theorem dX6_wish_1 : decode cX6_wish 1 = .ok (.iconst 0, 1) := by decide +kernel
theorem dX6_wish_2 : decode cX6_wish 2 = .ok (.putfield 54, 3) := by decide +kernel
theorem dX6_wish_5 : decode cX6_wish 5 = .ok (.aload_n 0, 1) := by decide +kernel
theorem dX6_wish_6 : decode cX6_wish 6 = .ok (.iload_n 1, 1) := by decide +kernel
theorem dX6_wish_7 : decode cX6_wish 7 = .ok (.invokevirtual 202, 3) := by decide +kernel
theorem dX6_wish_10 : decode cX6_wish 10 = .ok (.ifCond .eq 23, 3) := by decide +kernel
theorem dX6_wish_13 : decode cX6_wish 13 = .ok (.aload_n 0, 1) := by decide +kernel
theorem dX6_wish_14 : decode cX6_wish 14 = .ok (.iload_n 2, 1) := by decide +kernel
theorem dX6_wish_15 : decode cX6_wish 15 = .ok (.invokevirtual 205, 3) := by decide +kernel
theorem dX6_wish_18 : decode cX6_wish 18 = .ok (.ifCond .eq 15, 3) := by decide +kernel
theorem dX6_wish_21 : decode cX6_wish 21 = .ok (.iload_n 3, 1) := by decide +kernel
theorem dX6_wish_22 : decode cX6_wish 22 = .ok (.i2l, 1) := by decide +kernel
theorem dX6_wish_23 : decode cX6_wish 23 = .ok (.lconst 0, 1) := by decide +kernel
theorem dX6_wish_24 : decode cX6_wish 24 = .ok (.ldc2_w 208, 3) := by decide +kernel
theorem dX6_wish_27 : decode cX6_wish 27 = .ok (.invokestatic 64, 3) := by decide +kernel
theorem dX6_wish_30 : decode cX6_wish 30 = .ok (.ifCond .ne 6, 3) := by decide +kernel
theorem dX6_wish_33 : decode cX6_wish 33 = .ok (.ldc 74, 2) := by decide +kernel
theorem dX6_wish_35 : decode cX6_wish 35 = .ok (.ireturn, 1) := by decide +kernel
theorem dX6_wish_36 : decode cX6_wish 36 = .ok (.aload_n 0, 1) := by decide +kernel
theorem dX6_wish_37 : decode cX6_wish 37 = .ok (.invokevirtual 199, 3) := by decide +kernel
theorem dX6_wish_40 : decode cX6_wish 40 = .ok (.bipush 100, 2) := by decide +kernel
theorem dX6_wish_42 : decode cX6_wish 42 = .ok (.aload_n 0, 1) := by decide +kernel
theorem dX6_wish_43 : decode cX6_wish 43 = .ok (.getfield 19, 3) := by decide +kernel
theorem dX6_wish_46 : decode cX6_wish 46 = .ok (.iload_n 1, 1) := by decide +kernel
end
section
theorem dX6_wish_47 : decode cX6_wish 47 = .ok (.iconst 2, 1) := by decide +kernel
theorem dX6_wish_48 : decode cX6_wish 48 = .ok (.invokestatic 159, 3) := by decide +kernel
theorem dX6_wish_51 : decode cX6_wish 51 = .ok (.imul, 1) := by decide +kernel
theorem dX6_wish_52 : decode cX6_wish 52 = .ok (.aload_n 0, 1) := by decide +kernel
theorem dX6_wish_53 : decode cX6_wish 53 = .ok (.getfield 19, 3) := by decide +kernel
theorem dX6_wish_56 : decode cX6_wish 56 = .ok (.iload_n 1, 1) := by decide +kernel
theorem dX6_wish_57 : decode cX6_wish 57 = .ok (.iconst 3, 1) := by decide +kernel
theorem dX6_wish_58 : decode cX6_wish 58 = .ok (.invokestatic 159, 3) := by decide +kernel
theorem dX6_wish_61 : decode cX6_wish 61 = .ok (.iadd, 1) := by decide +kernel
theorem dX6_wish_62 : decode cX6_wish 62 = .ok (.istore 4, 2) := by decide +kernel
theorem dX6_wish_64 : decode cX6_wish 64 = .ok (.aload_n 0, 1) := by decide +kernel
theorem dX6_wish_65 : decode cX6_wish 65 = .ok (.getfield 19, 3) := by decide +kernel
theorem dX6_wish_68 : decode cX6_wish 68 = .ok (.bipush 16, 2) := by decide +kernel
theorem dX6_wish_70 : decode cX6_wish 70 = .ok (.bipush 8, 2) := by decide +kernel
theorem dX6_wish_72 : decode cX6_wish 72 = .ok (.iload_n 1, 1) := by decide +kernel
theorem dX6_wish_73 : decode cX6_wish 73 = .ok (.imul, 1) := by decide +kernel
theorem dX6_wish_74 : decode cX6_wish 74 = .ok (.iadd, 1) := by decide +kernel
theorem dX6_wish_75 : decode cX6_wish 75 = .ok (.iconst 2, 1) := by decide +kernel
theorem dX6_wish_76 : decode cX6_wish 76 = .ok (.iadd, 1) := by decide +kernel
theorem dX6_wish_77 : decode cX6_wish 77 = .ok (.iload_n 2, 1) := by decide +kernel
theorem dX6_wish_78 : decode cX6_wish 78 = .ok (.iastore, 1) := by decide +kernel
theorem dX6_wish_79 : decode cX6_wish 79 = .ok (.aload_n 0, 1) := by decide +kernel
theorem dX6_wish_80 : decode cX6_wish 80 = .ok (.getfield 19, 3) := by decide +kernel
theorem dX6_wish_83 : decode cX6_wish 83 = .ok (.bipush 16, 2) := by decide +kernel
theorem dX6_wish_85 : decode cX6_wish 85 = .ok (.bipush 8, 2) := by decide +kernel
theorem dX6_wish_87 : decode cX6_wish 87 = .ok (.iload_n 1, 1) := by decide +kernel
theorem dX6_wish_88 : decode cX6_wish 88 = .ok (.imul, 1) := by decide +kernel
theorem dX6_wish_89 : decode cX6_wish 89 = .ok (.iadd, 1) := by decide +kernel
theorem dX6_wish_90 : decode cX6_wish 90 = .ok (.iconst 3, 1) := by decide +kernel
theorem dX6_wish_91 : decode cX6_wish 91 = .ok (.iadd, 1) := by decide +kernel
theorem dX6_wish_92 : decode cX6_wish 92 = .ok (.iload_n 3, 1) := by decide +kernel
theorem dX6_wish_93 : decode cX6_wish 93 = .ok (.iastore, 1) := by decide +kernel
theorem dX6_wish_94 : decode cX6_wish 94 = .ok (.iload 4, 2) := by decide +kernel
theorem dX6_wish_96 : decode cX6_wish 96 = .ok (.ireturn, 1) := by decide +kernel
theorem dX6_rest_0 : decode cX6_rest 0 = .ok (.aload_n 0, 1) := by decide +kernel
theorem dX6_rest_1 : decode cX6_rest 1 = .ok (.iconst 0, 1) := by decide +kernel
theorem dX6_rest_2 : decode cX6_rest 2 = .ok (.putfield 54, 3) := by decide +kernel
theorem dX6_rest_5 : decode cX6_rest 5 = .ok (.aload_n 0, 1) := by decide +kernel
theorem dX6_rest_6 : decode cX6_rest 6 = .ok (.iload_n 1, 1) := by decide +kernel
theorem dX6_rest_7 : decode cX6_rest 7 = .ok (.invokevirtual 202, 3) := by decide +kernel
theorem dX6_rest_10 : decode cX6_rest 10 = .ok (.ifCond .eq 13, 3) := by decide +kernel
theorem dX6_rest_13 : decode cX6_rest 13 = .ok (.iload_n 2, 1) := by decide +kernel
theorem dX6_rest_14 : decode cX6_rest 14 = .ok (.i2l, 1) := by decide +kernel
theorem dX6_rest_15 : decode cX6_rest 15 = .ok (.lconst 0, 1) := by decide +kernel
theorem dX6_rest_16 : decode cX6_rest 16 = .ok (.lconst 1, 1) := by decide +kernel
theorem dX6_rest_17 : decode cX6_rest 17 = .ok (.invokestatic 64, 3) := by decide +kernel
theorem dX6_rest_20 : decode cX6_rest 20 = .ok (.ifCond .ne 6, 3) := by decide +kernel
theorem dX6_rest_23 : decode cX6_rest 23 = .ok (.ldc 74, 2) := by decide +kernel
theorem dX6_rest_25 : decode cX6_rest 25 = .ok (.ireturn, 1) := by decide +kernel
theorem dX6_rest_26 : decode cX6_rest 26 = .ok (.aload_n 0, 1) := by decide +kernel
theorem dX6_rest_27 : decode cX6_rest 27 = .ok (.getfield 19, 3) := by decide +kernel
theorem dX6_rest_30 : decode cX6_rest 30 = .ok (.iload_n 1, 1) := by decide +kernel
theorem dX6_rest_31 : decode cX6_rest 31 = .ok (.bipush 7, 2) := by decide +kernel
theorem dX6_rest_33 : decode cX6_rest 33 = .ok (.invokestatic 159, 3) := by decide +kernel
theorem dX6_rest_36 : decode cX6_rest 36 = .ok (.iload_n 2, 1) := by decide +kernel
theorem dX6_rest_37 : decode cX6_rest 37 = .ok (.if_icmp .ne 6, 3) := by decide +kernel
theorem dX6_rest_40 : decode cX6_rest 40 = .ok (.ldc 196, 2) := by decide +kernel
theorem dX6_rest_42 : decode cX6_rest 42 = .ok (.ireturn, 1) := by decide +kernel
theorem dX6_rest_43 : decode cX6_rest 43 = .ok (.aload_n 0, 1) := by decide +kernel
theorem dX6_rest_44 : decode cX6_rest 44 = .ok (.invokevirtual 199, 3) := by decide +kernel
theorem dX6_rest_47 : decode cX6_rest 47 = .ok (.aload_n 0, 1) := by decide +kernel
theorem dX6_rest_48 : decode cX6_rest 48 = .ok (.getfield 19, 3) := by decide +kernel
theorem dX6_rest_51 : decode cX6_rest 51 = .ok (.bipush 16, 2) := by decide +kernel
theorem dX6_rest_53 : decode cX6_rest 53 = .ok (.bipush 8, 2) := by decide +kernel
theorem dX6_rest_55 : decode cX6_rest 55 = .ok (.iload_n 1, 1) := by decide +kernel
theorem dX6_rest_56 : decode cX6_rest 56 = .ok (.imul, 1) := by decide +kernel
theorem dX6_rest_57 : decode cX6_rest 57 = .ok (.iadd, 1) := by decide +kernel
theorem dX6_rest_58 : decode cX6_rest 58 = .ok (.bipush 7, 2) := by decide +kernel
theorem dX6_rest_60 : decode cX6_rest 60 = .ok (.iadd, 1) := by decide +kernel
theorem dX6_rest_61 : decode cX6_rest 61 = .ok (.iload_n 2, 1) := by decide +kernel
theorem dX6_rest_62 : decode cX6_rest 62 = .ok (.iastore, 1) := by decide +kernel
theorem dX6_rest_63 : decode cX6_rest 63 = .ok (.iconst 0, 1) := by decide +kernel
theorem dX6_rest_64 : decode cX6_rest 64 = .ok (.istore_n 3, 1) := by decide +kernel
theorem dX6_rest_65 : decode cX6_rest 65 = .ok (.iconst 0, 1) := by decide +kernel
theorem dX6_rest_66 : decode cX6_rest 66 = .ok (.istore 4, 2) := by decide +kernel
theorem dX6_rest_68 : decode cX6_rest 68 = .ok (.iload 4, 2) := by decide +kernel
theorem dX6_rest_70 : decode cX6_rest 70 = .ok (.aload_n 0, 1) := by decide +kernel
theorem dX6_rest_71 : decode cX6_rest 71 = .ok (.getfield 19, 3) := by decide +kernel
theorem dX6_rest_74 : decode cX6_rest 74 = .ok (.iconst 5, 1) := by decide +kernel
theorem dX6_rest_75 : decode cX6_rest 75 = .ok (.iaload, 1) := by decide +kernel
theorem dX6_rest_76 : decode cX6_rest 76 = .ok (.if_icmp .ge 23, 3) := by decide +kernel
theorem dX6_rest_79 : decode cX6_rest 79 = .ok (.iload_n 3, 1) := by decide +kernel
theorem dX6_rest_80 : decode cX6_rest 80 = .ok (.aload_n 0, 1) := by decide +kernel
theorem dX6_rest_81 : decode cX6_rest 81 = .ok (.getfield 19, 3) := by decide +kernel
theorem dX6_rest_84 : decode cX6_rest 84 = .ok (.iload 4, 2) := by decide +kernel
theorem dX6_rest_86 : decode cX6_rest 86 = .ok (.bipush 7, 2) := by decide +kernel
theorem dX6_rest_88 : decode cX6_rest 88 = .ok (.invokestatic 159, 3) := by decide +kernel
theorem dX6_rest_91 : decode cX6_rest 91 = .ok (.iadd, 1) := by decide +kernel
theorem dX6_rest_92 : decode cX6_rest 92 = .ok (.istore_n 3, 1) := by decide +kernel
theorem dX6_rest_93 : decode cX6_rest 93 = .ok (.iinc 4 1, 3) := by decide +kernel
theorem dX6_rest_96 : decode cX6_rest 96 = .ok (.goto (-28), 3) := by decide +kernel
theorem dX6_rest_99 : decode cX6_rest 99 = .ok (.iload_n 3, 1) := by decide +kernel
theorem dX6_rest_100 : decode cX6_rest 100 = .ok (.ireturn, 1) := by decide +kernel
theorem dX6_undo_0 : decode cX6_undo 0 = .ok (.aload_n 0, 1) := by decide +kernel
theorem dX6_undo_1 : decode cX6_undo 1 = .ok (.iconst 0, 1) := by decide +kernel
theorem dX6_undo_2 : decode cX6_undo 2 = .ok (.putfield 54, 3) := by decide +kernel
theorem dX6_undo_5 : decode cX6_undo 5 = .ok (.aload_n 0, 1) := by decide +kernel
theorem dX6_undo_6 : decode cX6_undo 6 = .ok (.getfield 153, 3) := by decide +kernel
theorem dX6_undo_9 : decode cX6_undo 9 = .ok (.ifCond .ne 6, 3) := by decide +kernel
theorem dX6_undo_12 : decode cX6_undo 12 = .ok (.ldc 196, 2) := by decide +kernel
theorem dX6_undo_14 : decode cX6_undo 14 = .ok (.ireturn, 1) := by decide +kernel
theorem dX6_undo_15 : decode cX6_undo 15 = .ok (.aload_n 0, 1) := by decide +kernel
theorem dX6_undo_16 : decode cX6_undo 16 = .ok (.dup, 1) := by decide +kernel
theorem dX6_undo_17 : decode cX6_undo 17 = .ok (.getfield 153, 3) := by decide +kernel
theorem dX6_undo_20 : decode cX6_undo 20 = .ok (.iconst 1, 1) := by decide +kernel
theorem dX6_undo_21 : decode cX6_undo 21 = .ok (.isub, 1) := by decide +kernel
theorem dX6_undo_22 : decode cX6_undo 22 = .ok (.putfield 153, 3) := by decide +kernel
theorem dX6_undo_25 : decode cX6_undo 25 = .ok (.iconst 0, 1) := by decide +kernel
theorem dX6_undo_26 : decode cX6_undo 26 = .ok (.istore_n 1, 1) := by decide +kernel
theorem dX6_undo_27 : decode cX6_undo 27 = .ok (.iload_n 1, 1) := by decide +kernel
theorem dX6_undo_28 : decode cX6_undo 28 = .ok (.bipush 64, 2) := by decide +kernel
theorem dX6_undo_30 : decode cX6_undo 30 = .ok (.if_icmp .ge 29, 3) := by decide +kernel
theorem dX6_undo_33 : decode cX6_undo 33 = .ok (.aload_n 0, 1) := by decide +kernel
theorem dX6_undo_34 : decode cX6_undo 34 = .ok (.getfield 19, 3) := by decide +kernel
theorem dX6_undo_37 : decode cX6_undo 37 = .ok (.iload_n 1, 1) := by decide +kernel
theorem dX6_undo_38 : decode cX6_undo 38 = .ok (.aload_n 0, 1) := by decide +kernel
theorem dX6_undo_39 : decode cX6_undo 39 = .ok (.getfield 28, 3) := by decide +kernel
theorem dX6_undo_42 : decode cX6_undo 42 = .ok (.bipush 64, 2) := by decide +kernel
theorem dX6_undo_44 : decode cX6_undo 44 = .ok (.aload_n 0, 1) := by decide +kernel
theorem dX6_undo_45 : decode cX6_undo 45 = .ok (.getfield 153, 3) := by decide +kernel
theorem dX6_undo_48 : decode cX6_undo 48 = .ok (.imul, 1) := by decide +kernel
theorem dX6_undo_49 : decode cX6_undo 49 = .ok (.iload_n 1, 1) := by decide +kernel
theorem dX6_undo_50 : decode cX6_undo 50 = .ok (.iadd, 1) := by decide +kernel
theorem dX6_undo_51 : decode cX6_undo 51 = .ok (.iaload, 1) := by decide +kernel
theorem dX6_undo_52 : decode cX6_undo 52 = .ok (.iastore, 1) := by decide +kernel
theorem dX6_undo_53 : decode cX6_undo 53 = .ok (.iinc 1 1, 3) := by decide +kernel
theorem dX6_undo_56 : decode cX6_undo 56 = .ok (.goto (-29), 3) := by decide +kernel
theorem dX6_undo_59 : decode cX6_undo 59 = .ok (.aload_n 0, 1) := by decide +kernel
theorem dX6_undo_60 : decode cX6_undo 60 = .ok (.getfield 153, 3) := by decide +kernel
theorem dX6_undo_63 : decode cX6_undo 63 = .ok (.ireturn, 1) := by decide +kernel
theorem dX6_wisher_0 : decode cX6_wisher 0 = .ok (.aload_n 0, 1) := by decide +kernel
theorem dX6_wisher_1 : decode cX6_wisher 1 = .ok (.iconst 0, 1) := by decide +kernel
theorem dX6_wisher_2 : decode cX6_wisher 2 = .ok (.putfield 54, 3) := by decide +kernel
theorem dX6_wisher_5 : decode cX6_wisher 5 = .ok (.aload_n 0, 1) := by decide +kernel
theorem dX6_wisher_6 : decode cX6_wisher 6 = .ok (.iload_n 1, 1) := by decide +kernel
theorem dX6_wisher_7 : decode cX6_wisher 7 = .ok (.invokevirtual 202, 3) := by decide +kernel
theorem dX6_wisher_10 : decode cX6_wisher 10 = .ok (.ifCond .ne 6, 3) := by decide +kernel
theorem dX6_wisher_13 : decode cX6_wisher 13 = .ok (.ldc 74, 2) := by decide +kernel
theorem dX6_wisher_15 : decode cX6_wisher 15 = .ok (.ireturn, 1) := by decide +kernel
theorem dX6_wisher_16 : decode cX6_wisher 16 = .ok (.iload_n 2, 1) := by decide +kernel
theorem dX6_wisher_17 : decode cX6_wisher 17 = .ok (.tableswitch 116 0 5 #[39, 49, 59, 69, 80, 91], 39) := by decide +kernel
theorem dX6_wisher_56 : decode cX6_wisher 56 = .ok (.aload_n 0, 1) := by decide +kernel
theorem dX6_wisher_57 : decode cX6_wisher 57 = .ok (.getfield 19, 3) := by decide +kernel
theorem dX6_wisher_60 : decode cX6_wisher 60 = .ok (.iload_n 1, 1) := by decide +kernel
theorem dX6_wisher_61 : decode cX6_wisher 61 = .ok (.iconst 1, 1) := by decide +kernel
theorem dX6_wisher_62 : decode cX6_wisher 62 = .ok (.invokestatic 159, 3) := by decide +kernel
theorem dX6_wisher_65 : decode cX6_wisher 65 = .ok (.ireturn, 1) := by decide +kernel
theorem dX6_wisher_66 : decode cX6_wisher 66 = .ok (.aload_n 0, 1) := by decide +kernel
theorem dX6_wisher_67 : decode cX6_wisher 67 = .ok (.getfield 19, 3) := by decide +kernel
theorem dX6_wisher_70 : decode cX6_wisher 70 = .ok (.iload_n 1, 1) := by decide +kernel
theorem dX6_wisher_71 : decode cX6_wisher 71 = .ok (.iconst 2, 1) := by decide +kernel
theorem dX6_wisher_72 : decode cX6_wisher 72 = .ok (.invokestatic 159, 3) := by decide +kernel
theorem dX6_wisher_75 : decode cX6_wisher 75 = .ok (.ireturn, 1) := by decide +kernel
theorem dX6_wisher_76 : decode cX6_wisher 76 = .ok (.aload_n 0, 1) := by decide +kernel
theorem dX6_wisher_77 : decode cX6_wisher 77 = .ok (.getfield 19, 3) := by decide +kernel
theorem dX6_wisher_80 : decode cX6_wisher 80 = .ok (.iload_n 1, 1) := by decide +kernel
theorem dX6_wisher_81 : decode cX6_wisher 81 = .ok (.iconst 3, 1) := by decide +kernel
theorem dX6_wisher_82 : decode cX6_wisher 82 = .ok (.invokestatic 159, 3) := by decide +kernel
theorem dX6_wisher_85 : decode cX6_wisher 85 = .ok (.ireturn, 1) := by decide +kernel
theorem dX6_wisher_86 : decode cX6_wisher 86 = .ok (.aload_n 0, 1) := by decide +kernel
theorem dX6_wisher_87 : decode cX6_wisher 87 = .ok (.getfield 19, 3) := by decide +kernel
theorem dX6_wisher_90 : decode cX6_wisher 90 = .ok (.iload_n 1, 1) := by decide +kernel
theorem dX6_wisher_91 : decode cX6_wisher 91 = .ok (.bipush 6, 2) := by decide +kernel
theorem dX6_wisher_93 : decode cX6_wisher 93 = .ok (.invokestatic 159, 3) := by decide +kernel
theorem dX6_wisher_96 : decode cX6_wisher 96 = .ok (.ireturn, 1) := by decide +kernel
theorem dX6_wisher_97 : decode cX6_wisher 97 = .ok (.aload_n 0, 1) := by decide +kernel
theorem dX6_wisher_98 : decode cX6_wisher 98 = .ok (.getfield 19, 3) := by decide +kernel
theorem dX6_wisher_101 : decode cX6_wisher 101 = .ok (.iload_n 1, 1) := by decide +kernel
theorem dX6_wisher_102 : decode cX6_wisher 102 = .ok (.bipush 7, 2) := by decide +kernel
theorem dX6_wisher_104 : decode cX6_wisher 104 = .ok (.invokestatic 159, 3) := by decide +kernel
theorem dX6_wisher_107 : decode cX6_wisher 107 = .ok (.ireturn, 1) := by decide +kernel
theorem dX6_wisher_108 : decode cX6_wisher 108 = .ok (.aload_n 0, 1) := by decide +kernel
theorem dX6_wisher_109 : decode cX6_wisher 109 = .ok (.getfield 19, 3) := by decide +kernel
theorem dX6_wisher_112 : decode cX6_wisher 112 = .ok (.iload_n 1, 1) := by decide +kernel
theorem dX6_wisher_113 : decode cX6_wisher 113 = .ok (.invokestatic 169, 3) := by decide +kernel
theorem dX6_wisher_116 : decode cX6_wisher 116 = .ok (.ifCond .eq 15, 3) := by decide +kernel
theorem dX6_wisher_119 : decode cX6_wisher 119 = .ok (.aload_n 0, 1) := by decide +kernel
theorem dX6_wisher_120 : decode cX6_wisher 120 = .ok (.aload_n 0, 1) := by decide +kernel
theorem dX6_wisher_121 : decode cX6_wisher 121 = .ok (.getfield 19, 3) := by decide +kernel
theorem dX6_wisher_124 : decode cX6_wisher 124 = .ok (.iload_n 1, 1) := by decide +kernel
theorem dX6_wisher_125 : decode cX6_wisher 125 = .ok (.invokevirtual 173, 3) := by decide +kernel
theorem dX6_wisher_128 : decode cX6_wisher 128 = .ok (.goto 4, 3) := by decide +kernel
theorem dX6_wisher_131 : decode cX6_wisher 131 = .ok (.iconst 0, 1) := by decide +kernel
theorem dX6_wisher_132 : decode cX6_wisher 132 = .ok (.ireturn, 1) := by decide +kernel
theorem dX6_wisher_133 : decode cX6_wisher 133 = .ok (.ldc 74, 2) := by decide +kernel
theorem dX6_wisher_135 : decode cX6_wisher 135 = .ok (.ireturn, 1) := by decide +kernel
theorem dX6_place_0 : decode cX6_place 0 = .ok (.aload_n 0, 1) := by decide +kernel
theorem dX6_place_1 : decode cX6_place 1 = .ok (.iconst 0, 1) := by decide +kernel
theorem dX6_place_2 : decode cX6_place 2 = .ok (.putfield 54, 3) := by decide +kernel
theorem dX6_place_5 : decode cX6_place 5 = .ok (.aload_n 0, 1) := by decide +kernel
theorem dX6_place_6 : decode cX6_place 6 = .ok (.invokevirtual 193, 3) := by decide +kernel
theorem dX6_place_9 : decode cX6_place 9 = .ok (.ifCond .ne 6, 3) := by decide +kernel
theorem dX6_place_12 : decode cX6_place 12 = .ok (.ldc 196, 2) := by decide +kernel
theorem dX6_place_14 : decode cX6_place 14 = .ok (.ireturn, 1) := by decide +kernel
theorem dX6_place_15 : decode cX6_place 15 = .ok (.aload_n 0, 1) := by decide +kernel
theorem dX6_place_16 : decode cX6_place 16 = .ok (.iload_n 1, 1) := by decide +kernel
theorem dX6_place_17 : decode cX6_place 17 = .ok (.invokevirtual 205, 3) := by decide +kernel
theorem dX6_place_20 : decode cX6_place 20 = .ok (.ifCond .eq 15, 3) := by decide +kernel
theorem dX6_place_23 : decode cX6_place 23 = .ok (.iload_n 2, 1) := by decide +kernel
theorem dX6_place_24 : decode cX6_place 24 = .ok (.i2l, 1) := by decide +kernel
theorem dX6_place_25 : decode cX6_place 25 = .ok (.lconst 0, 1) := by decide +kernel
theorem dX6_place_26 : decode cX6_place 26 = .ok (.ldc2_w 72, 3) := by decide +kernel
theorem dX6_place_29 : decode cX6_place 29 = .ok (.invokestatic 64, 3) := by decide +kernel
theorem dX6_place_32 : decode cX6_place 32 = .ok (.ifCond .ne 6, 3) := by decide +kernel
theorem dX6_place_35 : decode cX6_place 35 = .ok (.ldc 74, 2) := by decide +kernel
theorem dX6_place_37 : decode cX6_place 37 = .ok (.ireturn, 1) := by decide +kernel
theorem dX6_place_38 : decode cX6_place 38 = .ok (.aload_n 0, 1) := by decide +kernel
theorem dX6_place_39 : decode cX6_place 39 = .ok (.aload_n 0, 1) := by decide +kernel
theorem dX6_place_40 : decode cX6_place 40 = .ok (.getfield 19, 3) := by decide +kernel
theorem dX6_place_43 : decode cX6_place 43 = .ok (.bipush 63, 2) := by decide +kernel
theorem dX6_place_45 : decode cX6_place 45 = .ok (.iconst 0, 1) := by decide +kernel
theorem dX6_place_46 : decode cX6_place 46 = .ok (.iconst 0, 1) := by decide +kernel
theorem dX6_place_47 : decode cX6_place 47 = .ok (.invokevirtual 177, 3) := by decide +kernel
theorem dX6_place_50 : decode cX6_place 50 = .ok (.iload_n 2, 1) := by decide +kernel
theorem dX6_place_51 : decode cX6_place 51 = .ok (.ifCond .ne 12, 3) := by decide +kernel
theorem dX6_place_54 : decode cX6_place 54 = .ok (.aload_n 0, 1) := by decide +kernel
theorem dX6_place_55 : decode cX6_place 55 = .ok (.getfield 37, 3) := by decide +kernel
theorem dX6_place_58 : decode cX6_place 58 = .ok (.iload_n 1, 1) := by decide +kernel
theorem dX6_place_59 : decode cX6_place 59 = .ok (.iaload, 1) := by decide +kernel
theorem dX6_place_60 : decode cX6_place 60 = .ok (.goto 31, 3) := by decide +kernel
theorem dX6_place_63 : decode cX6_place 63 = .ok (.iload_n 2, 1) := by decide +kernel
theorem dX6_place_64 : decode cX6_place 64 = .ok (.iconst 1, 1) := by decide +kernel
theorem dX6_place_65 : decode cX6_place 65 = .ok (.if_icmp .ne 17, 3) := by decide +kernel
theorem dX6_place_68 : decode cX6_place 68 = .ok (.aload_n 0, 1) := by decide +kernel
theorem dX6_place_69 : decode cX6_place 69 = .ok (.getfield 19, 3) := by decide +kernel
theorem dX6_place_72 : decode cX6_place 72 = .ok (.bipush 9, 2) := by decide +kernel
theorem dX6_place_74 : decode cX6_place 74 = .ok (.iaload, 1) := by decide +kernel
theorem dX6_place_75 : decode cX6_place 75 = .ok (.iload_n 1, 1) := by decide +kernel
theorem dX6_place_76 : decode cX6_place 76 = .ok (.ishr, 1) := by decide +kernel
theorem dX6_place_77 : decode cX6_place 77 = .ok (.iconst 1, 1) := by decide +kernel
theorem dX6_place_78 : decode cX6_place 78 = .ok (.iand, 1) := by decide +kernel
theorem dX6_place_79 : decode cX6_place 79 = .ok (.goto 12, 3) := by decide +kernel
theorem dX6_place_82 : decode cX6_place 82 = .ok (.aload_n 0, 1) := by decide +kernel
theorem dX6_place_83 : decode cX6_place 83 = .ok (.getfield 19, 3) := by decide +kernel
theorem dX6_place_86 : decode cX6_place 86 = .ok (.bipush 10, 2) := by decide +kernel
theorem dX6_place_88 : decode cX6_place 88 = .ok (.iload_n 1, 1) := by decide +kernel
theorem dX6_place_89 : decode cX6_place 89 = .ok (.iadd, 1) := by decide +kernel
theorem dX6_place_90 : decode cX6_place 90 = .ok (.iaload, 1) := by decide +kernel
theorem dX6_place_91 : decode cX6_place 91 = .ok (.ireturn, 1) := by decide +kernel
theorem dX6_far_0 : decode cX6_far 0 = .ok (.aload_n 0, 1) := by decide +kernel
theorem dX6_far_1 : decode cX6_far 1 = .ok (.iconst 0, 1) := by decide +kernel
theorem dX6_far_2 : decode cX6_far 2 = .ok (.putfield 54, 3) := by decide +kernel
theorem dX6_far_5 : decode cX6_far 5 = .ok (.aload_n 0, 1) := by decide +kernel
theorem dX6_far_6 : decode cX6_far 6 = .ok (.invokevirtual 193, 3) := by decide +kernel
theorem dX6_far_9 : decode cX6_far 9 = .ok (.ifCond .ne 6, 3) := by decide +kernel
theorem dX6_far_12 : decode cX6_far 12 = .ok (.ldc 196, 2) := by decide +kernel
theorem dX6_far_14 : decode cX6_far 14 = .ok (.ireturn, 1) := by decide +kernel
theorem dX6_far_15 : decode cX6_far 15 = .ok (.aload_n 0, 1) := by decide +kernel
theorem dX6_far_16 : decode cX6_far 16 = .ok (.iload_n 1, 1) := by decide +kernel
theorem dX6_far_17 : decode cX6_far 17 = .ok (.invokevirtual 205, 3) := by decide +kernel
theorem dX6_far_20 : decode cX6_far 20 = .ok (.ifCond .eq 20, 3) := by decide +kernel
theorem dX6_far_23 : decode cX6_far 23 = .ok (.aload_n 0, 1) := by decide +kernel
theorem dX6_far_24 : decode cX6_far 24 = .ok (.iload_n 2, 1) := by decide +kernel
theorem dX6_far_25 : decode cX6_far 25 = .ok (.invokevirtual 205, 3) := by decide +kernel
theorem dX6_far_28 : decode cX6_far 28 = .ok (.ifCond .eq 12, 3) := by decide +kernel
theorem dX6_far_31 : decode cX6_far 31 = .ok (.aload_n 0, 1) := by decide +kernel
theorem dX6_far_32 : decode cX6_far 32 = .ok (.iload_n 1, 1) := by decide +kernel
theorem dX6_far_33 : decode cX6_far 33 = .ok (.iload_n 2, 1) := by decide +kernel
theorem dX6_far_34 : decode cX6_far 34 = .ok (.invokevirtual 163, 3) := by decide +kernel
theorem dX6_far_37 : decode cX6_far 37 = .ok (.goto 5, 3) := by decide +kernel
theorem dX6_far_40 : decode cX6_far 40 = .ok (.ldc 74, 2) := by decide +kernel
theorem dX6_far_42 : decode cX6_far 42 = .ok (.ireturn, 1) := by decide +kernel
theorem dX6_ahead_0 : decode cX6_ahead 0 = .ok (.aload_n 0, 1) := by decide +kernel
theorem dX6_ahead_1 : decode cX6_ahead 1 = .ok (.iconst 0, 1) := by decide +kernel
theorem dX6_ahead_2 : decode cX6_ahead 2 = .ok (.putfield 54, 3) := by decide +kernel
theorem dX6_ahead_5 : decode cX6_ahead 5 = .ok (.aload_n 0, 1) := by decide +kernel
theorem dX6_ahead_6 : decode cX6_ahead 6 = .ok (.invokevirtual 193, 3) := by decide +kernel
theorem dX6_ahead_9 : decode cX6_ahead 9 = .ok (.ifCond .ne 6, 3) := by decide +kernel
theorem dX6_ahead_12 : decode cX6_ahead 12 = .ok (.ldc 196, 2) := by decide +kernel
theorem dX6_ahead_14 : decode cX6_ahead 14 = .ok (.ireturn, 1) := by decide +kernel
theorem dX6_ahead_15 : decode cX6_ahead 15 = .ok (.iload_n 1, 1) := by decide +kernel
theorem dX6_ahead_16 : decode cX6_ahead 16 = .ok (.i2l, 1) := by decide +kernel
theorem dX6_ahead_17 : decode cX6_ahead 17 = .ok (.lconst 0, 1) := by decide +kernel
theorem dX6_ahead_18 : decode cX6_ahead 18 = .ok (.ldc2_w 210, 3) := by decide +kernel
theorem dX6_ahead_21 : decode cX6_ahead 21 = .ok (.invokestatic 64, 3) := by decide +kernel
theorem dX6_ahead_24 : decode cX6_ahead 24 = .ok (.ifCond .eq 13, 3) := by decide +kernel
theorem dX6_ahead_27 : decode cX6_ahead 27 = .ok (.iload_n 2, 1) := by decide +kernel
theorem dX6_ahead_28 : decode cX6_ahead 28 = .ok (.i2l, 1) := by decide +kernel
theorem dX6_ahead_29 : decode cX6_ahead 29 = .ok (.lconst 0, 1) := by decide +kernel
theorem dX6_ahead_30 : decode cX6_ahead 30 = .ok (.lconst 1, 1) := by decide +kernel
theorem dX6_ahead_31 : decode cX6_ahead 31 = .ok (.invokestatic 64, 3) := by decide +kernel
theorem dX6_ahead_34 : decode cX6_ahead 34 = .ok (.ifCond .ne 6, 3) := by decide +kernel
theorem dX6_ahead_37 : decode cX6_ahead 37 = .ok (.ldc 74, 2) := by decide +kernel
theorem dX6_ahead_39 : decode cX6_ahead 39 = .ok (.ireturn, 1) := by decide +kernel
theorem dX6_ahead_40 : decode cX6_ahead 40 = .ok (.aload_n 0, 1) := by decide +kernel
theorem dX6_ahead_41 : decode cX6_ahead 41 = .ok (.invokevirtual 212, 3) := by decide +kernel
theorem dX6_ahead_44 : decode cX6_ahead 44 = .ok (.aload_n 0, 1) := by decide +kernel
theorem dX6_ahead_45 : decode cX6_ahead 45 = .ok (.iload_n 1, 1) := by decide +kernel
theorem dX6_ahead_46 : decode cX6_ahead 46 = .ok (.invokevirtual 215, 3) := by decide +kernel
theorem dX6_ahead_49 : decode cX6_ahead 49 = .ok (.istore_n 3, 1) := by decide +kernel
theorem dX6_ahead_50 : decode cX6_ahead 50 = .ok (.iload_n 2, 1) := by decide +kernel
theorem dX6_ahead_51 : decode cX6_ahead 51 = .ok (.ifCond .ne 7, 3) := by decide +kernel
theorem dX6_ahead_54 : decode cX6_ahead 54 = .ok (.iload_n 3, 1) := by decide +kernel
theorem dX6_ahead_55 : decode cX6_ahead 55 = .ok (.goto 10, 3) := by decide +kernel
theorem dX6_ahead_58 : decode cX6_ahead 58 = .ok (.aload_n 0, 1) := by decide +kernel
theorem dX6_ahead_59 : decode cX6_ahead 59 = .ok (.getfield 25, 3) := by decide +kernel
theorem dX6_ahead_62 : decode cX6_ahead 62 = .ok (.bipush 7, 2) := by decide +kernel
theorem dX6_ahead_64 : decode cX6_ahead 64 = .ok (.iaload, 1) := by decide +kernel
theorem dX6_ahead_65 : decode cX6_ahead 65 = .ok (.ireturn, 1) := by decide +kernel
theorem dX6_comes_0 : decode cX6_comes 0 = .ok (.aload_n 0, 1) := by decide +kernel
theorem dX6_comes_1 : decode cX6_comes 1 = .ok (.iconst 0, 1) := by decide +kernel
theorem dX6_comes_2 : decode cX6_comes 2 = .ok (.putfield 54, 3) := by decide +kernel
theorem dX6_comes_5 : decode cX6_comes 5 = .ok (.aload_n 0, 1) := by decide +kernel
theorem dX6_comes_6 : decode cX6_comes 6 = .ok (.invokevirtual 193, 3) := by decide +kernel
theorem dX6_comes_9 : decode cX6_comes 9 = .ok (.ifCond .ne 6, 3) := by decide +kernel
theorem dX6_comes_12 : decode cX6_comes 12 = .ok (.ldc 196, 2) := by decide +kernel
theorem dX6_comes_14 : decode cX6_comes 14 = .ok (.ireturn, 1) := by decide +kernel
theorem dX6_comes_15 : decode cX6_comes 15 = .ok (.aload_n 0, 1) := by decide +kernel
theorem dX6_comes_16 : decode cX6_comes 16 = .ok (.iload_n 1, 1) := by decide +kernel
theorem dX6_comes_17 : decode cX6_comes 17 = .ok (.invokevirtual 205, 3) := by decide +kernel
theorem dX6_comes_20 : decode cX6_comes 20 = .ok (.ifCond .eq 15, 3) := by decide +kernel
theorem dX6_comes_23 : decode cX6_comes 23 = .ok (.iload_n 2, 1) := by decide +kernel
theorem dX6_comes_24 : decode cX6_comes 24 = .ok (.i2l, 1) := by decide +kernel
theorem dX6_comes_25 : decode cX6_comes 25 = .ok (.lconst 1, 1) := by decide +kernel
theorem dX6_comes_26 : decode cX6_comes 26 = .ok (.ldc2_w 210, 3) := by decide +kernel
theorem dX6_comes_29 : decode cX6_comes 29 = .ok (.invokestatic 64, 3) := by decide +kernel
theorem dX6_comes_32 : decode cX6_comes 32 = .ok (.ifCond .ne 6, 3) := by decide +kernel
theorem dX6_comes_35 : decode cX6_comes 35 = .ok (.ldc 74, 2) := by decide +kernel
theorem dX6_comes_37 : decode cX6_comes 37 = .ok (.ireturn, 1) := by decide +kernel
theorem dX6_comes_38 : decode cX6_comes 38 = .ok (.aload_n 0, 1) := by decide +kernel
theorem dX6_comes_39 : decode cX6_comes 39 = .ok (.invokevirtual 212, 3) := by decide +kernel
theorem dX6_comes_42 : decode cX6_comes 42 = .ok (.iconst 0, 1) := by decide +kernel
theorem dX6_comes_43 : decode cX6_comes 43 = .ok (.istore_n 3, 1) := by decide +kernel
theorem dX6_comes_44 : decode cX6_comes 44 = .ok (.iload_n 3, 1) := by decide +kernel
theorem dX6_comes_45 : decode cX6_comes 45 = .ok (.iload_n 2, 1) := by decide +kernel
theorem dX6_comes_46 : decode cX6_comes 46 = .ok (.if_icmp .gt 31, 3) := by decide +kernel
theorem dX6_comes_49 : decode cX6_comes 49 = .ok (.aload_n 0, 1) := by decide +kernel
theorem dX6_comes_50 : decode cX6_comes 50 = .ok (.getfield 25, 3) := by decide +kernel
theorem dX6_comes_53 : decode cX6_comes 53 = .ok (.iconst 1, 1) := by decide +kernel
theorem dX6_comes_54 : decode cX6_comes 54 = .ok (.iaload, 1) := by decide +kernel
theorem dX6_comes_55 : decode cX6_comes 55 = .ok (.iload_n 1, 1) := by decide +kernel
theorem dX6_comes_56 : decode cX6_comes 56 = .ok (.if_icmp .ne 5, 3) := by decide +kernel
theorem dX6_comes_59 : decode cX6_comes 59 = .ok (.iload_n 3, 1) := by decide +kernel
theorem dX6_comes_60 : decode cX6_comes 60 = .ok (.ireturn, 1) := by decide +kernel
theorem dX6_comes_61 : decode cX6_comes 61 = .ok (.aload_n 0, 1) := by decide +kernel
theorem dX6_comes_62 : decode cX6_comes 62 = .ok (.aload_n 0, 1) := by decide +kernel
theorem dX6_comes_63 : decode cX6_comes 63 = .ok (.getfield 25, 3) := by decide +kernel
theorem dX6_comes_66 : decode cX6_comes 66 = .ok (.iconst 0, 1) := by decide +kernel
theorem dX6_comes_67 : decode cX6_comes 67 = .ok (.iconst 0, 1) := by decide +kernel
theorem dX6_comes_68 : decode cX6_comes 68 = .ok (.invokevirtual 185, 3) := by decide +kernel
theorem dX6_comes_71 : decode cX6_comes 71 = .ok (.iinc 3 1, 3) := by decide +kernel
theorem dX6_comes_74 : decode cX6_comes 74 = .ok (.goto (-30), 3) := by decide +kernel
theorem dX6_comes_77 : decode cX6_comes 77 = .ok (.ldc 97, 2) := by decide +kernel
theorem dX6_comes_79 : decode cX6_comes 79 = .ok (.ireturn, 1) := by decide +kernel
theorem dX6_visits_0 : decode cX6_visits 0 = .ok (.aload_n 0, 1) := by decide +kernel
theorem dX6_visits_1 : decode cX6_visits 1 = .ok (.iconst 0, 1) := by decide +kernel
theorem dX6_visits_2 : decode cX6_visits 2 = .ok (.putfield 54, 3) := by decide +kernel
theorem dX6_visits_5 : decode cX6_visits 5 = .ok (.aload_n 0, 1) := by decide +kernel
theorem dX6_visits_6 : decode cX6_visits 6 = .ok (.invokevirtual 193, 3) := by decide +kernel
theorem dX6_visits_9 : decode cX6_visits 9 = .ok (.ifCond .ne 6, 3) := by decide +kernel
theorem dX6_visits_12 : decode cX6_visits 12 = .ok (.ldc 196, 2) := by decide +kernel
theorem dX6_visits_14 : decode cX6_visits 14 = .ok (.ireturn, 1) := by decide +kernel
theorem dX6_visits_15 : decode cX6_visits 15 = .ok (.iload_n 1, 1) := by decide +kernel
theorem dX6_visits_16 : decode cX6_visits 16 = .ok (.i2l, 1) := by decide +kernel
theorem dX6_visits_17 : decode cX6_visits 17 = .ok (.lconst 0, 1) := by decide +kernel
theorem dX6_visits_18 : decode cX6_visits 18 = .ok (.ldc2_w 210, 3) := by decide +kernel
theorem dX6_visits_21 : decode cX6_visits 21 = .ok (.invokestatic 64, 3) := by decide +kernel
theorem dX6_visits_24 : decode cX6_visits 24 = .ok (.ifCond .ne 6, 3) := by decide +kernel
theorem dX6_visits_27 : decode cX6_visits 27 = .ok (.ldc 74, 2) := by decide +kernel
theorem dX6_visits_29 : decode cX6_visits 29 = .ok (.ireturn, 1) := by decide +kernel
theorem dX6_visits_30 : decode cX6_visits 30 = .ok (.aload_n 0, 1) := by decide +kernel
theorem dX6_visits_31 : decode cX6_visits 31 = .ok (.invokevirtual 212, 3) := by decide +kernel
theorem dX6_visits_34 : decode cX6_visits 34 = .ok (.iconst 1, 1) := by decide +kernel
theorem dX6_visits_35 : decode cX6_visits 35 = .ok (.aload_n 0, 1) := by decide +kernel
theorem dX6_visits_36 : decode cX6_visits 36 = .ok (.getfield 25, 3) := by decide +kernel
theorem dX6_visits_39 : decode cX6_visits 39 = .ok (.iconst 1, 1) := by decide +kernel
theorem dX6_visits_40 : decode cX6_visits 40 = .ok (.iaload, 1) := by decide +kernel
theorem dX6_visits_41 : decode cX6_visits 41 = .ok (.ishl, 1) := by decide +kernel
theorem dX6_visits_42 : decode cX6_visits 42 = .ok (.istore_n 2, 1) := by decide +kernel
theorem dX6_visits_43 : decode cX6_visits 43 = .ok (.iconst 0, 1) := by decide +kernel
theorem dX6_visits_44 : decode cX6_visits 44 = .ok (.istore_n 3, 1) := by decide +kernel
theorem dX6_visits_45 : decode cX6_visits 45 = .ok (.iload_n 3, 1) := by decide +kernel
theorem dX6_visits_46 : decode cX6_visits 46 = .ok (.iload_n 1, 1) := by decide +kernel
theorem dX6_visits_47 : decode cX6_visits 47 = .ok (.if_icmp .ge 30, 3) := by decide +kernel
theorem dX6_visits_50 : decode cX6_visits 50 = .ok (.aload_n 0, 1) := by decide +kernel
theorem dX6_visits_51 : decode cX6_visits 51 = .ok (.aload_n 0, 1) := by decide +kernel
theorem dX6_visits_52 : decode cX6_visits 52 = .ok (.getfield 25, 3) := by decide +kernel
theorem dX6_visits_55 : decode cX6_visits 55 = .ok (.iconst 0, 1) := by decide +kernel
theorem dX6_visits_56 : decode cX6_visits 56 = .ok (.iconst 0, 1) := by decide +kernel
theorem dX6_visits_57 : decode cX6_visits 57 = .ok (.invokevirtual 185, 3) := by decide +kernel
theorem dX6_visits_60 : decode cX6_visits 60 = .ok (.iload_n 2, 1) := by decide +kernel
theorem dX6_visits_61 : decode cX6_visits 61 = .ok (.iconst 1, 1) := by decide +kernel
theorem dX6_visits_62 : decode cX6_visits 62 = .ok (.aload_n 0, 1) := by decide +kernel
theorem dX6_visits_63 : decode cX6_visits 63 = .ok (.getfield 25, 3) := by decide +kernel
theorem dX6_visits_66 : decode cX6_visits 66 = .ok (.iconst 1, 1) := by decide +kernel
theorem dX6_visits_67 : decode cX6_visits 67 = .ok (.iaload, 1) := by decide +kernel
theorem dX6_visits_68 : decode cX6_visits 68 = .ok (.ishl, 1) := by decide +kernel
theorem dX6_visits_69 : decode cX6_visits 69 = .ok (.ior, 1) := by decide +kernel
theorem dX6_visits_70 : decode cX6_visits 70 = .ok (.istore_n 2, 1) := by decide +kernel
theorem dX6_visits_71 : decode cX6_visits 71 = .ok (.iinc 3 1, 3) := by decide +kernel
theorem dX6_visits_74 : decode cX6_visits 74 = .ok (.goto (-29), 3) := by decide +kernel
theorem dX6_visits_77 : decode cX6_visits 77 = .ok (.iload_n 2, 1) := by decide +kernel
theorem dX6_visits_78 : decode cX6_visits 78 = .ok (.ireturn, 1) := by decide +kernel
theorem dX6_bits_0 : decode cX6_bits 0 = .ok (.iconst 0, 1) := by decide +kernel
theorem dX6_bits_1 : decode cX6_bits 1 = .ok (.istore_n 1, 1) := by decide +kernel
theorem dX6_bits_2 : decode cX6_bits 2 = .ok (.iconst 0, 1) := by decide +kernel
theorem dX6_bits_3 : decode cX6_bits 3 = .ok (.istore_n 2, 1) := by decide +kernel
theorem dX6_bits_4 : decode cX6_bits 4 = .ok (.iload_n 2, 1) := by decide +kernel
theorem dX6_bits_5 : decode cX6_bits 5 = .ok (.bipush 6, 2) := by decide +kernel
theorem dX6_bits_7 : decode cX6_bits 7 = .ok (.if_icmp .ge 17, 3) := by decide +kernel
theorem dX6_bits_10 : decode cX6_bits 10 = .ok (.iload_n 1, 1) := by decide +kernel
theorem dX6_bits_11 : decode cX6_bits 11 = .ok (.iload_n 0, 1) := by decide +kernel
theorem dX6_bits_12 : decode cX6_bits 12 = .ok (.iload_n 2, 1) := by decide +kernel
theorem dX6_bits_13 : decode cX6_bits 13 = .ok (.ishr, 1) := by decide +kernel
theorem dX6_bits_14 : decode cX6_bits 14 = .ok (.iconst 1, 1) := by decide +kernel
theorem dX6_bits_15 : decode cX6_bits 15 = .ok (.iand, 1) := by decide +kernel
theorem dX6_bits_16 : decode cX6_bits 16 = .ok (.iadd, 1) := by decide +kernel
theorem dX6_bits_17 : decode cX6_bits 17 = .ok (.istore_n 1, 1) := by decide +kernel
theorem dX6_bits_18 : decode cX6_bits 18 = .ok (.iinc 2 1, 3) := by decide +kernel
theorem dX6_bits_21 : decode cX6_bits 21 = .ok (.goto (-17), 3) := by decide +kernel
theorem dX6_bits_24 : decode cX6_bits 24 = .ok (.iload_n 1, 1) := by decide +kernel
theorem dX6_bits_25 : decode cX6_bits 25 = .ok (.ireturn, 1) := by decide +kernel
theorem dX6_fewest_0 : decode cX6_fewest 0 = .ok (.aload_n 0, 1) := by decide +kernel
theorem dX6_fewest_1 : decode cX6_fewest 1 = .ok (.iconst 0, 1) := by decide +kernel
theorem dX6_fewest_2 : decode cX6_fewest 2 = .ok (.putfield 54, 3) := by decide +kernel
theorem dX6_fewest_5 : decode cX6_fewest 5 = .ok (.aload_n 0, 1) := by decide +kernel
theorem dX6_fewest_6 : decode cX6_fewest 6 = .ok (.invokevirtual 193, 3) := by decide +kernel
theorem dX6_fewest_9 : decode cX6_fewest 9 = .ok (.ifCond .ne 6, 3) := by decide +kernel
theorem dX6_fewest_12 : decode cX6_fewest 12 = .ok (.ldc 196, 2) := by decide +kernel
theorem dX6_fewest_14 : decode cX6_fewest 14 = .ok (.ireturn, 1) := by decide +kernel
theorem dX6_fewest_15 : decode cX6_fewest 15 = .ok (.aload_n 0, 1) := by decide +kernel
theorem dX6_fewest_16 : decode cX6_fewest 16 = .ok (.iload_n 1, 1) := by decide +kernel
theorem dX6_fewest_17 : decode cX6_fewest 17 = .ok (.invokevirtual 205, 3) := by decide +kernel
theorem dX6_fewest_20 : decode cX6_fewest 20 = .ok (.ifCond .eq 25, 3) := by decide +kernel
theorem dX6_fewest_23 : decode cX6_fewest 23 = .ok (.iload_n 2, 1) := by decide +kernel
theorem dX6_fewest_24 : decode cX6_fewest 24 = .ok (.i2l, 1) := by decide +kernel
theorem dX6_fewest_25 : decode cX6_fewest 25 = .ok (.lconst 1, 1) := by decide +kernel
theorem dX6_fewest_26 : decode cX6_fewest 26 = .ok (.ldc2_w 197, 3) := by decide +kernel
theorem dX6_fewest_29 : decode cX6_fewest 29 = .ok (.invokestatic 64, 3) := by decide +kernel
theorem dX6_fewest_32 : decode cX6_fewest 32 = .ok (.ifCond .eq 13, 3) := by decide +kernel
theorem dX6_fewest_35 : decode cX6_fewest 35 = .ok (.iload_n 3, 1) := by decide +kernel
theorem dX6_fewest_36 : decode cX6_fewest 36 = .ok (.i2l, 1) := by decide +kernel
theorem dX6_fewest_37 : decode cX6_fewest 37 = .ok (.lconst 0, 1) := by decide +kernel
theorem dX6_fewest_38 : decode cX6_fewest 38 = .ok (.lconst 1, 1) := by decide +kernel
theorem dX6_fewest_39 : decode cX6_fewest 39 = .ok (.invokestatic 64, 3) := by decide +kernel
theorem dX6_fewest_42 : decode cX6_fewest 42 = .ok (.ifCond .ne 6, 3) := by decide +kernel
theorem dX6_fewest_45 : decode cX6_fewest 45 = .ok (.ldc 74, 2) := by decide +kernel
theorem dX6_fewest_47 : decode cX6_fewest 47 = .ok (.ireturn, 1) := by decide +kernel
theorem dX6_fewest_48 : decode cX6_fewest 48 = .ok (.ldc 97, 2) := by decide +kernel
theorem dX6_fewest_50 : decode cX6_fewest 50 = .ok (.istore 4, 2) := by decide +kernel
theorem dX6_fewest_52 : decode cX6_fewest 52 = .ok (.iconst 0, 1) := by decide +kernel
theorem dX6_fewest_53 : decode cX6_fewest 53 = .ok (.istore 5, 2) := by decide +kernel
theorem dX6_fewest_55 : decode cX6_fewest 55 = .ok (.iload 5, 2) := by decide +kernel
theorem dX6_fewest_57 : decode cX6_fewest 57 = .ok (.iconst 1, 1) := by decide +kernel
theorem dX6_fewest_58 : decode cX6_fewest 58 = .ok (.aload_n 0, 1) := by decide +kernel
theorem dX6_fewest_59 : decode cX6_fewest 59 = .ok (.getfield 19, 3) := by decide +kernel
theorem dX6_fewest_62 : decode cX6_fewest 62 = .ok (.iconst 5, 1) := by decide +kernel
theorem dX6_fewest_63 : decode cX6_fewest 63 = .ok (.iaload, 1) := by decide +kernel
theorem dX6_fewest_64 : decode cX6_fewest 64 = .ok (.ishl, 1) := by decide +kernel
theorem dX6_fewest_65 : decode cX6_fewest 65 = .ok (.if_icmp .ge 118, 3) := by decide +kernel
theorem dX6_fewest_68 : decode cX6_fewest 68 = .ok (.iload 4, 2) := by decide +kernel
theorem dX6_fewest_70 : decode cX6_fewest 70 = .ok (.ldc 97, 2) := by decide +kernel
theorem dX6_fewest_72 : decode cX6_fewest 72 = .ok (.if_icmp .eq 16, 3) := by decide +kernel
theorem dX6_fewest_75 : decode cX6_fewest 75 = .ok (.iload 5, 2) := by decide +kernel
theorem dX6_fewest_77 : decode cX6_fewest 77 = .ok (.invokestatic 218, 3) := by decide +kernel
theorem dX6_fewest_80 : decode cX6_fewest 80 = .ok (.iload 4, 2) := by decide +kernel
theorem dX6_fewest_82 : decode cX6_fewest 82 = .ok (.invokestatic 218, 3) := by decide +kernel
theorem dX6_fewest_85 : decode cX6_fewest 85 = .ok (.if_icmp .ge 92, 3) := by decide +kernel
theorem dX6_fewest_88 : decode cX6_fewest 88 = .ok (.aload_n 0, 1) := by decide +kernel
theorem dX6_fewest_89 : decode cX6_fewest 89 = .ok (.invokevirtual 212, 3) := by decide +kernel
theorem dX6_fewest_92 : decode cX6_fewest 92 = .ok (.iconst 0, 1) := by decide +kernel
theorem dX6_fewest_93 : decode cX6_fewest 93 = .ok (.istore 6, 2) := by decide +kernel
theorem dX6_fewest_95 : decode cX6_fewest 95 = .ok (.iload 6, 2) := by decide +kernel
theorem dX6_fewest_97 : decode cX6_fewest 97 = .ok (.aload_n 0, 1) := by decide +kernel
theorem dX6_fewest_98 : decode cX6_fewest 98 = .ok (.getfield 19, 3) := by decide +kernel
theorem dX6_fewest_101 : decode cX6_fewest 101 = .ok (.iconst 5, 1) := by decide +kernel
theorem dX6_fewest_102 : decode cX6_fewest 102 = .ok (.iaload, 1) := by decide +kernel
theorem dX6_fewest_103 : decode cX6_fewest 103 = .ok (.if_icmp .ge 56, 3) := by decide +kernel
theorem dX6_fewest_106 : decode cX6_fewest 106 = .ok (.aload_n 0, 1) := by decide +kernel
theorem dX6_fewest_107 : decode cX6_fewest 107 = .ok (.getfield 25, 3) := by decide +kernel
theorem dX6_fewest_110 : decode cX6_fewest 110 = .ok (.bipush 16, 2) := by decide +kernel
theorem dX6_fewest_112 : decode cX6_fewest 112 = .ok (.bipush 8, 2) := by decide +kernel
theorem dX6_fewest_114 : decode cX6_fewest 114 = .ok (.iload 6, 2) := by decide +kernel
theorem dX6_fewest_116 : decode cX6_fewest 116 = .ok (.imul, 1) := by decide +kernel
theorem dX6_fewest_117 : decode cX6_fewest 117 = .ok (.iadd, 1) := by decide +kernel
theorem dX6_fewest_118 : decode cX6_fewest 118 = .ok (.bipush 7, 2) := by decide +kernel
theorem dX6_fewest_120 : decode cX6_fewest 120 = .ok (.iadd, 1) := by decide +kernel
theorem dX6_fewest_121 : decode cX6_fewest 121 = .ok (.iload 5, 2) := by decide +kernel
theorem dX6_fewest_123 : decode cX6_fewest 123 = .ok (.iload 6, 2) := by decide +kernel
theorem dX6_fewest_125 : decode cX6_fewest 125 = .ok (.ishr, 1) := by decide +kernel
theorem dX6_fewest_126 : decode cX6_fewest 126 = .ok (.iconst 1, 1) := by decide +kernel
theorem dX6_fewest_127 : decode cX6_fewest 127 = .ok (.iand, 1) := by decide +kernel
theorem dX6_fewest_128 : decode cX6_fewest 128 = .ok (.iconst 1, 1) := by decide +kernel
theorem dX6_fewest_129 : decode cX6_fewest 129 = .ok (.if_icmp .ne 22, 3) := by decide +kernel
theorem dX6_fewest_132 : decode cX6_fewest 132 = .ok (.aload_n 0, 1) := by decide +kernel
theorem dX6_fewest_133 : decode cX6_fewest 133 = .ok (.getfield 25, 3) := by decide +kernel
theorem dX6_fewest_136 : decode cX6_fewest 136 = .ok (.bipush 16, 2) := by decide +kernel
theorem dX6_fewest_138 : decode cX6_fewest 138 = .ok (.bipush 8, 2) := by decide +kernel
theorem dX6_fewest_140 : decode cX6_fewest 140 = .ok (.iload 6, 2) := by decide +kernel
theorem dX6_fewest_142 : decode cX6_fewest 142 = .ok (.imul, 1) := by decide +kernel
theorem dX6_fewest_143 : decode cX6_fewest 143 = .ok (.iadd, 1) := by decide +kernel
theorem dX6_fewest_144 : decode cX6_fewest 144 = .ok (.bipush 7, 2) := by decide +kernel
theorem dX6_fewest_146 : decode cX6_fewest 146 = .ok (.iadd, 1) := by decide +kernel
theorem dX6_fewest_147 : decode cX6_fewest 147 = .ok (.iaload, 1) := by decide +kernel
theorem dX6_fewest_148 : decode cX6_fewest 148 = .ok (.goto 4, 3) := by decide +kernel
theorem dX6_fewest_151 : decode cX6_fewest 151 = .ok (.iconst 1, 1) := by decide +kernel
theorem dX6_fewest_152 : decode cX6_fewest 152 = .ok (.iastore, 1) := by decide +kernel
theorem dX6_fewest_153 : decode cX6_fewest 153 = .ok (.iinc 6 1, 3) := by decide +kernel
theorem dX6_fewest_156 : decode cX6_fewest 156 = .ok (.goto (-61), 3) := by decide +kernel
theorem dX6_fewest_159 : decode cX6_fewest 159 = .ok (.aload_n 0, 1) := by decide +kernel
theorem dX6_fewest_160 : decode cX6_fewest 160 = .ok (.iload_n 2, 1) := by decide +kernel
theorem dX6_fewest_161 : decode cX6_fewest 161 = .ok (.invokevirtual 215, 3) := by decide +kernel
theorem dX6_fewest_164 : decode cX6_fewest 164 = .ok (.iload_n 1, 1) := by decide +kernel
theorem dX6_fewest_165 : decode cX6_fewest 165 = .ok (.if_icmp .ne 8, 3) := by decide +kernel
theorem dX6_fewest_168 : decode cX6_fewest 168 = .ok (.iload 5, 2) := by decide +kernel
theorem dX6_fewest_170 : decode cX6_fewest 170 = .ok (.goto 5, 3) := by decide +kernel
theorem dX6_fewest_173 : decode cX6_fewest 173 = .ok (.iload 4, 2) := by decide +kernel
theorem dX6_fewest_175 : decode cX6_fewest 175 = .ok (.istore 4, 2) := by decide +kernel
theorem dX6_fewest_177 : decode cX6_fewest 177 = .ok (.iinc 5 1, 3) := by decide +kernel
theorem dX6_fewest_180 : decode cX6_fewest 180 = .ok (.goto (-125), 3) := by decide +kernel
theorem dX6_fewest_183 : decode cX6_fewest 183 = .ok (.iload 4, 2) := by decide +kernel
theorem dX6_fewest_185 : decode cX6_fewest 185 = .ok (.ldc 97, 2) := by decide +kernel
theorem dX6_fewest_187 : decode cX6_fewest 187 = .ok (.if_icmp .eq 8, 3) := by decide +kernel
theorem dX6_fewest_190 : decode cX6_fewest 190 = .ok (.iload_n 3, 1) := by decide +kernel
theorem dX6_fewest_191 : decode cX6_fewest 191 = .ok (.iconst 1, 1) := by decide +kernel
theorem dX6_fewest_192 : decode cX6_fewest 192 = .ok (.if_icmp .ne 8, 3) := by decide +kernel
theorem dX6_fewest_195 : decode cX6_fewest 195 = .ok (.iload 4, 2) := by decide +kernel
theorem dX6_fewest_197 : decode cX6_fewest 197 = .ok (.goto 8, 3) := by decide +kernel
theorem dX6_fewest_200 : decode cX6_fewest 200 = .ok (.iload 4, 2) := by decide +kernel
theorem dX6_fewest_202 : decode cX6_fewest 202 = .ok (.invokestatic 218, 3) := by decide +kernel
theorem dX6_fewest_205 : decode cX6_fewest 205 = .ok (.ireturn, 1) := by decide +kernel
theorem dX6_hard_0 : decode cX6_hard 0 = .ok (.aload_n 0, 1) := by decide +kernel
theorem dX6_hard_1 : decode cX6_hard 1 = .ok (.iconst 0, 1) := by decide +kernel
theorem dX6_hard_2 : decode cX6_hard 2 = .ok (.putfield 54, 3) := by decide +kernel
theorem dX6_hard_5 : decode cX6_hard 5 = .ok (.aload_n 0, 1) := by decide +kernel
theorem dX6_hard_6 : decode cX6_hard 6 = .ok (.iload_n 1, 1) := by decide +kernel
theorem dX6_hard_7 : decode cX6_hard 7 = .ok (.invokevirtual 202, 3) := by decide +kernel
theorem dX6_hard_10 : decode cX6_hard 10 = .ok (.ifCond .eq 15, 3) := by decide +kernel
theorem dX6_hard_13 : decode cX6_hard 13 = .ok (.iload_n 2, 1) := by decide +kernel
theorem dX6_hard_14 : decode cX6_hard 14 = .ok (.i2l, 1) := by decide +kernel
theorem dX6_hard_15 : decode cX6_hard 15 = .ok (.lconst 1, 1) := by decide +kernel
theorem dX6_hard_16 : decode cX6_hard 16 = .ok (.ldc2_w 197, 3) := by decide +kernel
theorem dX6_hard_19 : decode cX6_hard 19 = .ok (.invokestatic 64, 3) := by decide +kernel
theorem dX6_hard_22 : decode cX6_hard 22 = .ok (.ifCond .ne 6, 3) := by decide +kernel
theorem dX6_hard_25 : decode cX6_hard 25 = .ok (.ldc 74, 2) := by decide +kernel
theorem dX6_hard_27 : decode cX6_hard 27 = .ok (.ireturn, 1) := by decide +kernel
theorem dX6_hard_28 : decode cX6_hard 28 = .ok (.iconst 0, 1) := by decide +kernel
theorem dX6_hard_29 : decode cX6_hard 29 = .ok (.istore_n 3, 1) := by decide +kernel
theorem dX6_hard_30 : decode cX6_hard 30 = .ok (.iload_n 3, 1) := by decide +kernel
theorem dX6_hard_31 : decode cX6_hard 31 = .ok (.bipush 41, 2) := by decide +kernel
theorem dX6_hard_33 : decode cX6_hard 33 = .ok (.if_icmp .ge 47, 3) := by decide +kernel
theorem dX6_hard_36 : decode cX6_hard 36 = .ok (.aload_n 0, 1) := by decide +kernel
theorem dX6_hard_37 : decode cX6_hard 37 = .ok (.invokevirtual 212, 3) := by decide +kernel
theorem dX6_hard_40 : decode cX6_hard 40 = .ok (.aload_n 0, 1) := by decide +kernel
theorem dX6_hard_41 : decode cX6_hard 41 = .ok (.getfield 25, 3) := by decide +kernel
theorem dX6_hard_44 : decode cX6_hard 44 = .ok (.bipush 16, 2) := by decide +kernel
theorem dX6_hard_46 : decode cX6_hard 46 = .ok (.bipush 8, 2) := by decide +kernel
theorem dX6_hard_48 : decode cX6_hard 48 = .ok (.iload_n 1, 1) := by decide +kernel
theorem dX6_hard_49 : decode cX6_hard 49 = .ok (.imul, 1) := by decide +kernel
theorem dX6_hard_50 : decode cX6_hard 50 = .ok (.iadd, 1) := by decide +kernel
theorem dX6_hard_51 : decode cX6_hard 51 = .ok (.iconst 3, 1) := by decide +kernel
theorem dX6_hard_52 : decode cX6_hard 52 = .ok (.iadd, 1) := by decide +kernel
theorem dX6_hard_53 : decode cX6_hard 53 = .ok (.iload_n 3, 1) := by decide +kernel
theorem dX6_hard_54 : decode cX6_hard 54 = .ok (.iastore, 1) := by decide +kernel
theorem dX6_hard_55 : decode cX6_hard 55 = .ok (.aload_n 0, 1) := by decide +kernel
theorem dX6_hard_56 : decode cX6_hard 56 = .ok (.iload_n 2, 1) := by decide +kernel
theorem dX6_hard_57 : decode cX6_hard 57 = .ok (.invokevirtual 215, 3) := by decide +kernel
theorem dX6_hard_60 : decode cX6_hard 60 = .ok (.aload_n 0, 1) := by decide +kernel
theorem dX6_hard_61 : decode cX6_hard 61 = .ok (.getfield 19, 3) := by decide +kernel
theorem dX6_hard_64 : decode cX6_hard 64 = .ok (.iload_n 1, 1) := by decide +kernel
theorem dX6_hard_65 : decode cX6_hard 65 = .ok (.iconst 2, 1) := by decide +kernel
theorem dX6_hard_66 : decode cX6_hard 66 = .ok (.invokestatic 159, 3) := by decide +kernel
theorem dX6_hard_69 : decode cX6_hard 69 = .ok (.if_icmp .ne 5, 3) := by decide +kernel
theorem dX6_hard_72 : decode cX6_hard 72 = .ok (.iload_n 3, 1) := by decide +kernel
theorem dX6_hard_73 : decode cX6_hard 73 = .ok (.ireturn, 1) := by decide +kernel
theorem dX6_hard_74 : decode cX6_hard 74 = .ok (.iinc 3 1, 3) := by decide +kernel
theorem dX6_hard_77 : decode cX6_hard 77 = .ok (.goto (-47), 3) := by decide +kernel
theorem dX6_hard_80 : decode cX6_hard 80 = .ok (.ldc 97, 2) := by decide +kernel
theorem dX6_hard_82 : decode cX6_hard 82 = .ok (.ireturn, 1) := by decide +kernel
theorem dX6_stolen_0 : decode cX6_stolen 0 = .ok (.aload_n 0, 1) := by decide +kernel
theorem dX6_stolen_1 : decode cX6_stolen 1 = .ok (.iconst 0, 1) := by decide +kernel
theorem dX6_stolen_2 : decode cX6_stolen 2 = .ok (.putfield 54, 3) := by decide +kernel
theorem dX6_stolen_5 : decode cX6_stolen 5 = .ok (.aload_n 0, 1) := by decide +kernel
theorem dX6_stolen_6 : decode cX6_stolen 6 = .ok (.invokevirtual 193, 3) := by decide +kernel
theorem dX6_stolen_9 : decode cX6_stolen 9 = .ok (.ifCond .ne 6, 3) := by decide +kernel
theorem dX6_stolen_12 : decode cX6_stolen 12 = .ok (.ldc 196, 2) := by decide +kernel
theorem dX6_stolen_14 : decode cX6_stolen 14 = .ok (.ireturn, 1) := by decide +kernel
theorem dX6_stolen_15 : decode cX6_stolen 15 = .ok (.aload_n 0, 1) := by decide +kernel
theorem dX6_stolen_16 : decode cX6_stolen 16 = .ok (.iload_n 1, 1) := by decide +kernel
theorem dX6_stolen_17 : decode cX6_stolen 17 = .ok (.invokevirtual 205, 3) := by decide +kernel
theorem dX6_stolen_20 : decode cX6_stolen 20 = .ok (.ifCond .eq 27, 3) := by decide +kernel
theorem dX6_stolen_23 : decode cX6_stolen 23 = .ok (.iload_n 2, 1) := by decide +kernel
theorem dX6_stolen_24 : decode cX6_stolen 24 = .ok (.i2l, 1) := by decide +kernel
theorem dX6_stolen_25 : decode cX6_stolen 25 = .ok (.lconst 0, 1) := by decide +kernel
theorem dX6_stolen_26 : decode cX6_stolen 26 = .ok (.ldc2_w 210, 3) := by decide +kernel
theorem dX6_stolen_29 : decode cX6_stolen 29 = .ok (.invokestatic 64, 3) := by decide +kernel
theorem dX6_stolen_32 : decode cX6_stolen 32 = .ok (.ifCond .eq 15, 3) := by decide +kernel
theorem dX6_stolen_35 : decode cX6_stolen 35 = .ok (.iload_n 3, 1) := by decide +kernel
theorem dX6_stolen_36 : decode cX6_stolen 36 = .ok (.i2l, 1) := by decide +kernel
theorem dX6_stolen_37 : decode cX6_stolen 37 = .ok (.lconst 1, 1) := by decide +kernel
theorem dX6_stolen_38 : decode cX6_stolen 38 = .ok (.ldc2_w 197, 3) := by decide +kernel
theorem dX6_stolen_41 : decode cX6_stolen 41 = .ok (.invokestatic 64, 3) := by decide +kernel
theorem dX6_stolen_44 : decode cX6_stolen 44 = .ok (.ifCond .ne 6, 3) := by decide +kernel
theorem dX6_stolen_47 : decode cX6_stolen 47 = .ok (.ldc 74, 2) := by decide +kernel
theorem dX6_stolen_49 : decode cX6_stolen 49 = .ok (.ireturn, 1) := by decide +kernel
theorem dX6_stolen_50 : decode cX6_stolen 50 = .ok (.aload_n 0, 1) := by decide +kernel
theorem dX6_stolen_51 : decode cX6_stolen 51 = .ok (.invokevirtual 212, 3) := by decide +kernel
theorem dX6_stolen_54 : decode cX6_stolen 54 = .ok (.iconst 0, 1) := by decide +kernel
theorem dX6_stolen_55 : decode cX6_stolen 55 = .ok (.istore 4, 2) := by decide +kernel
theorem dX6_stolen_57 : decode cX6_stolen 57 = .ok (.iconst 0, 1) := by decide +kernel
theorem dX6_stolen_58 : decode cX6_stolen 58 = .ok (.istore 5, 2) := by decide +kernel
theorem dX6_stolen_60 : decode cX6_stolen 60 = .ok (.iload 5, 2) := by decide +kernel
theorem dX6_stolen_62 : decode cX6_stolen 62 = .ok (.iload_n 3, 1) := by decide +kernel
theorem dX6_stolen_63 : decode cX6_stolen 63 = .ok (.if_icmp .ge 76, 3) := by decide +kernel
theorem dX6_stolen_66 : decode cX6_stolen 66 = .ok (.aload_n 0, 1) := by decide +kernel
theorem dX6_stolen_67 : decode cX6_stolen 67 = .ok (.aload_n 0, 1) := by decide +kernel
theorem dX6_stolen_68 : decode cX6_stolen 68 = .ok (.getfield 25, 3) := by decide +kernel
theorem dX6_stolen_71 : decode cX6_stolen 71 = .ok (.bipush 63, 2) := by decide +kernel
theorem dX6_stolen_73 : decode cX6_stolen 73 = .ok (.iload_n 1, 1) := by decide +kernel
theorem dX6_stolen_74 : decode cX6_stolen 74 = .ok (.iload_n 2, 1) := by decide +kernel
theorem dX6_stolen_75 : decode cX6_stolen 75 = .ok (.invokevirtual 177, 3) := by decide +kernel
theorem dX6_stolen_78 : decode cX6_stolen 78 = .ok (.aload_n 0, 1) := by decide +kernel
theorem dX6_stolen_79 : decode cX6_stolen 79 = .ok (.aload_n 0, 1) := by decide +kernel
theorem dX6_stolen_80 : decode cX6_stolen 80 = .ok (.getfield 25, 3) := by decide +kernel
theorem dX6_stolen_83 : decode cX6_stolen 83 = .ok (.invokevirtual 181, 3) := by decide +kernel
theorem dX6_stolen_86 : decode cX6_stolen 86 = .ok (.istore 6, 2) := by decide +kernel
theorem dX6_stolen_88 : decode cX6_stolen 88 = .ok (.iload 4, 2) := by decide +kernel
theorem dX6_stolen_90 : decode cX6_stolen 90 = .ok (.iload 6, 2) := by decide +kernel
theorem dX6_stolen_92 : decode cX6_stolen 92 = .ok (.ldc 97, 2) := by decide +kernel
theorem dX6_stolen_94 : decode cX6_stolen 94 = .ok (.if_icmp .ne 12, 3) := by decide +kernel
theorem dX6_stolen_97 : decode cX6_stolen 97 = .ok (.aload_n 0, 1) := by decide +kernel
theorem dX6_stolen_98 : decode cX6_stolen 98 = .ok (.getfield 25, 3) := by decide +kernel
theorem dX6_stolen_101 : decode cX6_stolen 101 = .ok (.iconst 1, 1) := by decide +kernel
theorem dX6_stolen_102 : decode cX6_stolen 102 = .ok (.iaload, 1) := by decide +kernel
theorem dX6_stolen_103 : decode cX6_stolen 103 = .ok (.goto 5, 3) := by decide +kernel
theorem dX6_stolen_106 : decode cX6_stolen 106 = .ok (.iload 6, 2) := by decide +kernel
theorem dX6_stolen_108 : decode cX6_stolen 108 = .ok (.iload_n 1, 1) := by decide +kernel
theorem dX6_stolen_109 : decode cX6_stolen 109 = .ok (.if_icmp .ne 10, 3) := by decide +kernel
theorem dX6_stolen_112 : decode cX6_stolen 112 = .ok (.iconst 1, 1) := by decide +kernel
theorem dX6_stolen_113 : decode cX6_stolen 113 = .ok (.iload 5, 2) := by decide +kernel
theorem dX6_stolen_115 : decode cX6_stolen 115 = .ok (.ishl, 1) := by decide +kernel
theorem dX6_stolen_116 : decode cX6_stolen 116 = .ok (.goto 4, 3) := by decide +kernel
theorem dX6_stolen_119 : decode cX6_stolen 119 = .ok (.iconst 0, 1) := by decide +kernel
theorem dX6_stolen_120 : decode cX6_stolen 120 = .ok (.ior, 1) := by decide +kernel
theorem dX6_stolen_121 : decode cX6_stolen 121 = .ok (.istore 4, 2) := by decide +kernel
theorem dX6_stolen_123 : decode cX6_stolen 123 = .ok (.aload_n 0, 1) := by decide +kernel
theorem dX6_stolen_124 : decode cX6_stolen 124 = .ok (.aload_n 0, 1) := by decide +kernel
theorem dX6_stolen_125 : decode cX6_stolen 125 = .ok (.getfield 25, 3) := by decide +kernel
theorem dX6_stolen_128 : decode cX6_stolen 128 = .ok (.iconst 0, 1) := by decide +kernel
theorem dX6_stolen_129 : decode cX6_stolen 129 = .ok (.iconst 0, 1) := by decide +kernel
theorem dX6_stolen_130 : decode cX6_stolen 130 = .ok (.invokevirtual 185, 3) := by decide +kernel
theorem dX6_stolen_133 : decode cX6_stolen 133 = .ok (.iinc 5 1, 3) := by decide +kernel
theorem dX6_stolen_136 : decode cX6_stolen 136 = .ok (.goto (-76), 3) := by decide +kernel
theorem dX6_stolen_139 : decode cX6_stolen 139 = .ok (.iload 4, 2) := by decide +kernel
theorem dX6_stolen_141 : decode cX6_stolen 141 = .ok (.ireturn, 1) := by decide +kernel
theorem dX6_comesSo_0 : decode cX6_comesSo 0 = .ok (.iconst 1, 1) := by decide +kernel
theorem dX6_comesSo_1 : decode cX6_comesSo 1 = .ok (.istore_n 3, 1) := by decide +kernel
theorem dX6_comesSo_2 : decode cX6_comesSo 2 = .ok (.iconst 0, 1) := by decide +kernel
theorem dX6_comesSo_3 : decode cX6_comesSo 3 = .ok (.istore 4, 2) := by decide +kernel
theorem dX6_comesSo_5 : decode cX6_comesSo 5 = .ok (.iload 4, 2) := by decide +kernel
theorem dX6_comesSo_7 : decode cX6_comesSo 7 = .ok (.iload_n 2, 1) := by decide +kernel
theorem dX6_comesSo_8 : decode cX6_comesSo 8 = .ok (.if_icmp .ge 60, 3) := by decide +kernel
theorem dX6_comesSo_11 : decode cX6_comesSo 11 = .ok (.aload_n 0, 1) := by decide +kernel
theorem dX6_comesSo_12 : decode cX6_comesSo 12 = .ok (.aload_n 0, 1) := by decide +kernel
theorem dX6_comesSo_13 : decode cX6_comesSo 13 = .ok (.getfield 25, 3) := by decide +kernel
theorem dX6_comesSo_16 : decode cX6_comesSo 16 = .ok (.iconst 0, 1) := by decide +kernel
theorem dX6_comesSo_17 : decode cX6_comesSo 17 = .ok (.iconst 0, 1) := by decide +kernel
theorem dX6_comesSo_18 : decode cX6_comesSo 18 = .ok (.invokevirtual 185, 3) := by decide +kernel
theorem dX6_comesSo_21 : decode cX6_comesSo 21 = .ok (.iload_n 3, 1) := by decide +kernel
theorem dX6_comesSo_22 : decode cX6_comesSo 22 = .ok (.ifCond .eq 38, 3) := by decide +kernel
theorem dX6_comesSo_25 : decode cX6_comesSo 25 = .ok (.aload_n 0, 1) := by decide +kernel
theorem dX6_comesSo_26 : decode cX6_comesSo 26 = .ok (.getfield 16, 3) := by decide +kernel
theorem dX6_comesSo_29 : decode cX6_comesSo 29 = .ok (.iload_n 1, 1) := by decide +kernel
theorem dX6_comesSo_30 : decode cX6_comesSo 30 = .ok (.iload 4, 2) := by decide +kernel
theorem dX6_comesSo_32 : decode cX6_comesSo 32 = .ok (.iadd, 1) := by decide +kernel
theorem dX6_comesSo_33 : decode cX6_comesSo 33 = .ok (.iaload, 1) := by decide +kernel
theorem dX6_comesSo_34 : decode cX6_comesSo 34 = .ok (.iconst (-1), 1) := by decide +kernel
theorem dX6_comesSo_35 : decode cX6_comesSo 35 = .ok (.if_icmp .eq 21, 3) := by decide +kernel
theorem dX6_comesSo_38 : decode cX6_comesSo 38 = .ok (.aload_n 0, 1) := by decide +kernel
theorem dX6_comesSo_39 : decode cX6_comesSo 39 = .ok (.getfield 16, 3) := by decide +kernel
theorem dX6_comesSo_42 : decode cX6_comesSo 42 = .ok (.iload_n 1, 1) := by decide +kernel
theorem dX6_comesSo_43 : decode cX6_comesSo 43 = .ok (.iload 4, 2) := by decide +kernel
theorem dX6_comesSo_45 : decode cX6_comesSo 45 = .ok (.iadd, 1) := by decide +kernel
theorem dX6_comesSo_46 : decode cX6_comesSo 46 = .ok (.iaload, 1) := by decide +kernel
theorem dX6_comesSo_47 : decode cX6_comesSo 47 = .ok (.aload_n 0, 1) := by decide +kernel
theorem dX6_comesSo_48 : decode cX6_comesSo 48 = .ok (.getfield 25, 3) := by decide +kernel
theorem dX6_comesSo_51 : decode cX6_comesSo 51 = .ok (.iconst 1, 1) := by decide +kernel
theorem dX6_comesSo_52 : decode cX6_comesSo 52 = .ok (.iaload, 1) := by decide +kernel
theorem dX6_comesSo_53 : decode cX6_comesSo 53 = .ok (.if_icmp .ne 7, 3) := by decide +kernel
theorem dX6_comesSo_56 : decode cX6_comesSo 56 = .ok (.iconst 1, 1) := by decide +kernel
theorem dX6_comesSo_57 : decode cX6_comesSo 57 = .ok (.goto 4, 3) := by decide +kernel
theorem dX6_comesSo_60 : decode cX6_comesSo 60 = .ok (.iconst 0, 1) := by decide +kernel
theorem dX6_comesSo_61 : decode cX6_comesSo 61 = .ok (.istore_n 3, 1) := by decide +kernel
theorem dX6_comesSo_62 : decode cX6_comesSo 62 = .ok (.iinc 4 1, 3) := by decide +kernel
theorem dX6_comesSo_65 : decode cX6_comesSo 65 = .ok (.goto (-60), 3) := by decide +kernel
theorem dX6_comesSo_68 : decode cX6_comesSo 68 = .ok (.iload_n 3, 1) := by decide +kernel
theorem dX6_comesSo_69 : decode cX6_comesSo 69 = .ok (.ireturn, 1) := by decide +kernel
theorem dX6_seen_0 : decode cX6_seen 0 = .ok (.aload_n 0, 1) := by decide +kernel
theorem dX6_seen_1 : decode cX6_seen 1 = .ok (.iconst 0, 1) := by decide +kernel
theorem dX6_seen_2 : decode cX6_seen 2 = .ok (.putfield 54, 3) := by decide +kernel
theorem dX6_seen_5 : decode cX6_seen 5 = .ok (.aload_n 0, 1) := by decide +kernel
theorem dX6_seen_6 : decode cX6_seen 6 = .ok (.invokevirtual 193, 3) := by decide +kernel
theorem dX6_seen_9 : decode cX6_seen 9 = .ok (.ifCond .ne 6, 3) := by decide +kernel
theorem dX6_seen_12 : decode cX6_seen 12 = .ok (.ldc 196, 2) := by decide +kernel
theorem dX6_seen_14 : decode cX6_seen 14 = .ok (.ireturn, 1) := by decide +kernel
theorem dX6_seen_15 : decode cX6_seen 15 = .ok (.iload_n 1, 1) := by decide +kernel
theorem dX6_seen_16 : decode cX6_seen 16 = .ok (.invokestatic 68, 3) := by decide +kernel
theorem dX6_seen_19 : decode cX6_seen 19 = .ok (.ifCond .eq 26, 3) := by decide +kernel
theorem dX6_seen_22 : decode cX6_seen 22 = .ok (.iload_n 3, 1) := by decide +kernel
theorem dX6_seen_23 : decode cX6_seen 23 = .ok (.i2l, 1) := by decide +kernel
theorem dX6_seen_24 : decode cX6_seen 24 = .ok (.lconst 1, 1) := by decide +kernel
theorem dX6_seen_25 : decode cX6_seen 25 = .ok (.ldc2_w 221, 3) := by decide +kernel
theorem dX6_seen_28 : decode cX6_seen 28 = .ok (.invokestatic 64, 3) := by decide +kernel
theorem dX6_seen_31 : decode cX6_seen 31 = .ok (.ifCond .eq 14, 3) := by decide +kernel
theorem dX6_seen_34 : decode cX6_seen 34 = .ok (.iload 4, 2) := by decide +kernel
theorem dX6_seen_36 : decode cX6_seen 36 = .ok (.i2l, 1) := by decide +kernel
theorem dX6_seen_37 : decode cX6_seen 37 = .ok (.lconst 0, 1) := by decide +kernel
theorem dX6_seen_38 : decode cX6_seen 38 = .ok (.lconst 1, 1) := by decide +kernel
theorem dX6_seen_39 : decode cX6_seen 39 = .ok (.invokestatic 64, 3) := by decide +kernel
theorem dX6_seen_42 : decode cX6_seen 42 = .ok (.ifCond .ne 6, 3) := by decide +kernel
theorem dX6_seen_45 : decode cX6_seen 45 = .ok (.ldc 74, 2) := by decide +kernel
theorem dX6_seen_47 : decode cX6_seen 47 = .ok (.ireturn, 1) := by decide +kernel
theorem dX6_seen_48 : decode cX6_seen 48 = .ok (.aload_n 0, 1) := by decide +kernel
theorem dX6_seen_49 : decode cX6_seen 49 = .ok (.getfield 7, 3) := by decide +kernel
theorem dX6_seen_52 : decode cX6_seen 52 = .ok (.iload_n 1, 1) := by decide +kernel
theorem dX6_seen_53 : decode cX6_seen 53 = .ok (.iaload, 1) := by decide +kernel
theorem dX6_seen_54 : decode cX6_seen 54 = .ok (.ifCond .ge 9, 3) := by decide +kernel
theorem dX6_seen_57 : decode cX6_seen 57 = .ok (.aload_n 0, 1) := by decide +kernel
theorem dX6_seen_58 : decode cX6_seen 58 = .ok (.iconst 1, 1) := by decide +kernel
theorem dX6_seen_59 : decode cX6_seen 59 = .ok (.invokevirtual 75, 3) := by decide +kernel
theorem dX6_seen_62 : decode cX6_seen 62 = .ok (.ireturn, 1) := by decide +kernel
theorem dX6_seen_63 : decode cX6_seen 63 = .ok (.iload_n 2, 1) := by decide +kernel
theorem dX6_seen_64 : decode cX6_seen 64 = .ok (.ifCond .lt 19, 3) := by decide +kernel
theorem dX6_seen_67 : decode cX6_seen 67 = .ok (.iload_n 2, 1) := by decide +kernel
theorem dX6_seen_68 : decode cX6_seen 68 = .ok (.i2l, 1) := by decide +kernel
theorem dX6_seen_69 : decode cX6_seen 69 = .ok (.iload_n 3, 1) := by decide +kernel
theorem dX6_seen_70 : decode cX6_seen 70 = .ok (.i2l, 1) := by decide +kernel
theorem dX6_seen_71 : decode cX6_seen 71 = .ok (.ladd, 1) := by decide +kernel
theorem dX6_seen_72 : decode cX6_seen 72 = .ok (.aload_n 0, 1) := by decide +kernel
theorem dX6_seen_73 : decode cX6_seen 73 = .ok (.getfield 13, 3) := by decide +kernel
theorem dX6_seen_76 : decode cX6_seen 76 = .ok (.iload_n 1, 1) := by decide +kernel
theorem dX6_seen_77 : decode cX6_seen 77 = .ok (.iaload, 1) := by decide +kernel
theorem dX6_seen_78 : decode cX6_seen 78 = .ok (.i2l, 1) := by decide +kernel
theorem dX6_seen_79 : decode cX6_seen 79 = .ok (.lcmp, 1) := by decide +kernel
theorem dX6_seen_80 : decode cX6_seen 80 = .ok (.ifCond .le 9, 3) := by decide +kernel
theorem dX6_seen_83 : decode cX6_seen 83 = .ok (.aload_n 0, 1) := by decide +kernel
theorem dX6_seen_84 : decode cX6_seen 84 = .ok (.iconst 2, 1) := by decide +kernel
theorem dX6_seen_85 : decode cX6_seen 85 = .ok (.invokevirtual 75, 3) := by decide +kernel
theorem dX6_seen_88 : decode cX6_seen 88 = .ok (.ireturn, 1) := by decide +kernel
theorem dX6_seen_89 : decode cX6_seen 89 = .ok (.aload_n 0, 1) := by decide +kernel
theorem dX6_seen_90 : decode cX6_seen 90 = .ok (.iconst 0, 1) := by decide +kernel
theorem dX6_seen_91 : decode cX6_seen 91 = .ok (.putfield 58, 3) := by decide +kernel
theorem dX6_seen_94 : decode cX6_seen 94 = .ok (.iconst 0, 1) := by decide +kernel
theorem dX6_seen_95 : decode cX6_seen 95 = .ok (.istore 5, 2) := by decide +kernel
theorem dX6_seen_97 : decode cX6_seen 97 = .ok (.ldc 97, 2) := by decide +kernel
theorem dX6_seen_99 : decode cX6_seen 99 = .ok (.istore 6, 2) := by decide +kernel
theorem dX6_seen_101 : decode cX6_seen 101 = .ok (.aload_n 0, 1) := by decide +kernel
theorem dX6_seen_102 : decode cX6_seen 102 = .ok (.getfield 19, 3) := by decide +kernel
theorem dX6_seen_105 : decode cX6_seen 105 = .ok (.iconst 0, 1) := by decide +kernel
theorem dX6_seen_106 : decode cX6_seen 106 = .ok (.iaload, 1) := by decide +kernel
theorem dX6_seen_107 : decode cX6_seen 107 = .ok (.iconst 1, 1) := by decide +kernel
theorem dX6_seen_108 : decode cX6_seen 108 = .ok (.isub, 1) := by decide +kernel
theorem dX6_seen_109 : decode cX6_seen 109 = .ok (.istore 7, 2) := by decide +kernel
theorem dX6_seen_111 : decode cX6_seen 111 = .ok (.iload 7, 2) := by decide +kernel
theorem dX6_seen_113 : decode cX6_seen 113 = .ok (.ifCond .lt 63, 3) := by decide +kernel
theorem dX6_seen_116 : decode cX6_seen 116 = .ok (.aload_n 0, 1) := by decide +kernel
theorem dX6_seen_117 : decode cX6_seen 117 = .ok (.invokevirtual 212, 3) := by decide +kernel
theorem dX6_seen_120 : decode cX6_seen 120 = .ok (.aload_n 0, 1) := by decide +kernel
theorem dX6_seen_121 : decode cX6_seen 121 = .ok (.getfield 25, 3) := by decide +kernel
theorem dX6_seen_124 : decode cX6_seen 124 = .ok (.iconst 1, 1) := by decide +kernel
theorem dX6_seen_125 : decode cX6_seen 125 = .ok (.iload 7, 2) := by decide +kernel
theorem dX6_seen_127 : decode cX6_seen 127 = .ok (.iastore, 1) := by decide +kernel
theorem dX6_seen_128 : decode cX6_seen 128 = .ok (.aload_n 0, 1) := by decide +kernel
theorem dX6_seen_129 : decode cX6_seen 129 = .ok (.bipush 40, 2) := by decide +kernel
theorem dX6_seen_131 : decode cX6_seen 131 = .ok (.iload_n 1, 1) := by decide +kernel
theorem dX6_seen_132 : decode cX6_seen 132 = .ok (.imul, 1) := by decide +kernel
theorem dX6_seen_133 : decode cX6_seen 133 = .ok (.iload_n 2, 1) := by decide +kernel
theorem dX6_seen_134 : decode cX6_seen 134 = .ok (.iadd, 1) := by decide +kernel
theorem dX6_seen_135 : decode cX6_seen 135 = .ok (.iload_n 3, 1) := by decide +kernel
theorem dX6_seen_136 : decode cX6_seen 136 = .ok (.invokevirtual 223, 3) := by decide +kernel
theorem dX6_seen_139 : decode cX6_seen 139 = .ok (.istore 8, 2) := by decide +kernel
theorem dX6_seen_141 : decode cX6_seen 141 = .ok (.iload 5, 2) := by decide +kernel
theorem dX6_seen_143 : decode cX6_seen 143 = .ok (.iload 8, 2) := by decide +kernel
theorem dX6_seen_145 : decode cX6_seen 145 = .ok (.ifCond .eq 7, 3) := by decide +kernel
theorem dX6_seen_148 : decode cX6_seen 148 = .ok (.iconst 1, 1) := by decide +kernel
theorem dX6_seen_149 : decode cX6_seen 149 = .ok (.goto 4, 3) := by decide +kernel
theorem dX6_seen_152 : decode cX6_seen 152 = .ok (.iconst 0, 1) := by decide +kernel
theorem dX6_seen_153 : decode cX6_seen 153 = .ok (.iadd, 1) := by decide +kernel
theorem dX6_seen_154 : decode cX6_seen 154 = .ok (.istore 5, 2) := by decide +kernel
theorem dX6_seen_156 : decode cX6_seen 156 = .ok (.iload 8, 2) := by decide +kernel
theorem dX6_seen_158 : decode cX6_seen 158 = .ok (.ifCond .eq 8, 3) := by decide +kernel
theorem dX6_seen_161 : decode cX6_seen 161 = .ok (.iload 7, 2) := by decide +kernel
theorem dX6_seen_163 : decode cX6_seen 163 = .ok (.goto 5, 3) := by decide +kernel
theorem dX6_seen_166 : decode cX6_seen 166 = .ok (.iload 6, 2) := by decide +kernel
theorem dX6_seen_168 : decode cX6_seen 168 = .ok (.istore 6, 2) := by decide +kernel
theorem dX6_seen_170 : decode cX6_seen 170 = .ok (.iinc 7 (-1), 3) := by decide +kernel
theorem dX6_seen_173 : decode cX6_seen 173 = .ok (.goto (-62), 3) := by decide +kernel
theorem dX6_seen_176 : decode cX6_seen 176 = .ok (.iload 4, 2) := by decide +kernel
theorem dX6_seen_178 : decode cX6_seen 178 = .ok (.ifCond .ne 8, 3) := by decide +kernel
theorem dX6_seen_181 : decode cX6_seen 181 = .ok (.iload 5, 2) := by decide +kernel
theorem dX6_seen_183 : decode cX6_seen 183 = .ok (.goto 5, 3) := by decide +kernel
theorem dX6_seen_186 : decode cX6_seen 186 = .ok (.iload 6, 2) := by decide +kernel
theorem dX6_seen_188 : decode cX6_seen 188 = .ok (.ireturn, 1) := by decide +kernel
theorem dX6_who_0 : decode cX6_who 0 = .ok (.aload_n 0, 1) := by decide +kernel
theorem dX6_who_1 : decode cX6_who 1 = .ok (.iconst 0, 1) := by decide +kernel
theorem dX6_who_2 : decode cX6_who 2 = .ok (.putfield 54, 3) := by decide +kernel
theorem dX6_who_5 : decode cX6_who 5 = .ok (.aload_n 0, 1) := by decide +kernel
theorem dX6_who_6 : decode cX6_who 6 = .ok (.iload_n 1, 1) := by decide +kernel
theorem dX6_who_7 : decode cX6_who 7 = .ok (.invokevirtual 202, 3) := by decide +kernel
theorem dX6_who_10 : decode cX6_who 10 = .ok (.ifCond .eq 23, 3) := by decide +kernel
theorem dX6_who_13 : decode cX6_who 13 = .ok (.iload_n 2, 1) := by decide +kernel
theorem dX6_who_14 : decode cX6_who 14 = .ok (.invokestatic 68, 3) := by decide +kernel
theorem dX6_who_17 : decode cX6_who 17 = .ok (.ifCond .eq 16, 3) := by decide +kernel
theorem dX6_who_20 : decode cX6_who 20 = .ok (.iload 4, 2) := by decide +kernel
theorem dX6_who_22 : decode cX6_who 22 = .ok (.i2l, 1) := by decide +kernel
theorem dX6_who_23 : decode cX6_who 23 = .ok (.lconst 1, 1) := by decide +kernel
theorem dX6_who_24 : decode cX6_who 24 = .ok (.ldc2_w 221, 3) := by decide +kernel
theorem dX6_who_27 : decode cX6_who 27 = .ok (.invokestatic 64, 3) := by decide +kernel
theorem dX6_who_30 : decode cX6_who 30 = .ok (.ifCond .ne 6, 3) := by decide +kernel
theorem dX6_who_33 : decode cX6_who 33 = .ok (.ldc 74, 2) := by decide +kernel
theorem dX6_who_35 : decode cX6_who 35 = .ok (.ireturn, 1) := by decide +kernel
theorem dX6_who_36 : decode cX6_who 36 = .ok (.aload_n 0, 1) := by decide +kernel
theorem dX6_who_37 : decode cX6_who 37 = .ok (.getfield 7, 3) := by decide +kernel
theorem dX6_who_40 : decode cX6_who 40 = .ok (.iload_n 2, 1) := by decide +kernel
theorem dX6_who_41 : decode cX6_who 41 = .ok (.iaload, 1) := by decide +kernel
theorem dX6_who_42 : decode cX6_who 42 = .ok (.ifCond .ge 9, 3) := by decide +kernel
theorem dX6_who_45 : decode cX6_who 45 = .ok (.aload_n 0, 1) := by decide +kernel
theorem dX6_who_46 : decode cX6_who 46 = .ok (.iconst 1, 1) := by decide +kernel
theorem dX6_who_47 : decode cX6_who 47 = .ok (.invokevirtual 75, 3) := by decide +kernel
theorem dX6_who_50 : decode cX6_who 50 = .ok (.ireturn, 1) := by decide +kernel
theorem dX6_who_51 : decode cX6_who 51 = .ok (.iload_n 3, 1) := by decide +kernel
theorem dX6_who_52 : decode cX6_who 52 = .ok (.ifCond .lt 20, 3) := by decide +kernel
theorem dX6_who_55 : decode cX6_who 55 = .ok (.iload_n 3, 1) := by decide +kernel
theorem dX6_who_56 : decode cX6_who 56 = .ok (.i2l, 1) := by decide +kernel
theorem dX6_who_57 : decode cX6_who 57 = .ok (.iload 4, 2) := by decide +kernel
theorem dX6_who_59 : decode cX6_who 59 = .ok (.i2l, 1) := by decide +kernel
theorem dX6_who_60 : decode cX6_who 60 = .ok (.ladd, 1) := by decide +kernel
theorem dX6_who_61 : decode cX6_who 61 = .ok (.aload_n 0, 1) := by decide +kernel
theorem dX6_who_62 : decode cX6_who 62 = .ok (.getfield 13, 3) := by decide +kernel
theorem dX6_who_65 : decode cX6_who 65 = .ok (.iload_n 2, 1) := by decide +kernel
theorem dX6_who_66 : decode cX6_who 66 = .ok (.iaload, 1) := by decide +kernel
theorem dX6_who_67 : decode cX6_who 67 = .ok (.i2l, 1) := by decide +kernel
theorem dX6_who_68 : decode cX6_who 68 = .ok (.lcmp, 1) := by decide +kernel
theorem dX6_who_69 : decode cX6_who 69 = .ok (.ifCond .le 9, 3) := by decide +kernel
theorem dX6_who_72 : decode cX6_who 72 = .ok (.aload_n 0, 1) := by decide +kernel
theorem dX6_who_73 : decode cX6_who 73 = .ok (.iconst 2, 1) := by decide +kernel
theorem dX6_who_74 : decode cX6_who 74 = .ok (.invokevirtual 75, 3) := by decide +kernel
theorem dX6_who_77 : decode cX6_who 77 = .ok (.ireturn, 1) := by decide +kernel
theorem dX6_who_78 : decode cX6_who 78 = .ok (.aload_n 0, 1) := by decide +kernel
theorem dX6_who_79 : decode cX6_who 79 = .ok (.iconst 0, 1) := by decide +kernel
theorem dX6_who_80 : decode cX6_who 80 = .ok (.putfield 58, 3) := by decide +kernel
theorem dX6_who_83 : decode cX6_who 83 = .ok (.iconst 0, 1) := by decide +kernel
theorem dX6_who_84 : decode cX6_who 84 = .ok (.istore 5, 2) := by decide +kernel
theorem dX6_who_86 : decode cX6_who 86 = .ok (.iconst 1, 1) := by decide +kernel
theorem dX6_who_87 : decode cX6_who 87 = .ok (.istore 6, 2) := by decide +kernel
theorem dX6_who_89 : decode cX6_who 89 = .ok (.iload 6, 2) := by decide +kernel
theorem dX6_who_91 : decode cX6_who 91 = .ok (.iconst 5, 1) := by decide +kernel
theorem dX6_who_92 : decode cX6_who 92 = .ok (.if_icmp .gt 57, 3) := by decide +kernel
theorem dX6_who_95 : decode cX6_who 95 = .ok (.aload_n 0, 1) := by decide +kernel
theorem dX6_who_96 : decode cX6_who 96 = .ok (.invokevirtual 212, 3) := by decide +kernel
theorem dX6_who_99 : decode cX6_who 99 = .ok (.aload_n 0, 1) := by decide +kernel
theorem dX6_who_100 : decode cX6_who 100 = .ok (.getfield 25, 3) := by decide +kernel
theorem dX6_who_103 : decode cX6_who 103 = .ok (.bipush 16, 2) := by decide +kernel
theorem dX6_who_105 : decode cX6_who 105 = .ok (.bipush 8, 2) := by decide +kernel
theorem dX6_who_107 : decode cX6_who 107 = .ok (.iload_n 1, 1) := by decide +kernel
theorem dX6_who_108 : decode cX6_who 108 = .ok (.imul, 1) := by decide +kernel
theorem dX6_who_109 : decode cX6_who 109 = .ok (.iadd, 1) := by decide +kernel
theorem dX6_who_110 : decode cX6_who 110 = .ok (.iconst 0, 1) := by decide +kernel
theorem dX6_who_111 : decode cX6_who 111 = .ok (.iadd, 1) := by decide +kernel
theorem dX6_who_112 : decode cX6_who 112 = .ok (.iload 6, 2) := by decide +kernel
theorem dX6_who_114 : decode cX6_who 114 = .ok (.iastore, 1) := by decide +kernel
theorem dX6_who_115 : decode cX6_who 115 = .ok (.iload 5, 2) := by decide +kernel
theorem dX6_who_117 : decode cX6_who 117 = .ok (.aload_n 0, 1) := by decide +kernel
theorem dX6_who_118 : decode cX6_who 118 = .ok (.bipush 40, 2) := by decide +kernel
theorem dX6_who_120 : decode cX6_who 120 = .ok (.iload_n 2, 1) := by decide +kernel
theorem dX6_who_121 : decode cX6_who 121 = .ok (.imul, 1) := by decide +kernel
theorem dX6_who_122 : decode cX6_who 122 = .ok (.iload_n 3, 1) := by decide +kernel
theorem dX6_who_123 : decode cX6_who 123 = .ok (.iadd, 1) := by decide +kernel
theorem dX6_who_124 : decode cX6_who 124 = .ok (.iload 4, 2) := by decide +kernel
theorem dX6_who_126 : decode cX6_who 126 = .ok (.invokevirtual 223, 3) := by decide +kernel
theorem dX6_who_129 : decode cX6_who 129 = .ok (.ifCond .eq 10, 3) := by decide +kernel
theorem dX6_who_132 : decode cX6_who 132 = .ok (.iconst 1, 1) := by decide +kernel
theorem dX6_who_133 : decode cX6_who 133 = .ok (.iload 6, 2) := by decide +kernel
theorem dX6_who_135 : decode cX6_who 135 = .ok (.ishl, 1) := by decide +kernel
theorem dX6_who_136 : decode cX6_who 136 = .ok (.goto 4, 3) := by decide +kernel
theorem dX6_who_139 : decode cX6_who 139 = .ok (.iconst 0, 1) := by decide +kernel
theorem dX6_who_140 : decode cX6_who 140 = .ok (.ior, 1) := by decide +kernel
theorem dX6_who_141 : decode cX6_who 141 = .ok (.istore 5, 2) := by decide +kernel
theorem dX6_who_143 : decode cX6_who 143 = .ok (.iinc 6 1, 3) := by decide +kernel
theorem dX6_who_146 : decode cX6_who 146 = .ok (.goto (-57), 3) := by decide +kernel
theorem dX6_who_149 : decode cX6_who 149 = .ok (.iload 5, 2) := by decide +kernel
theorem dX6_who_151 : decode cX6_who 151 = .ok (.ireturn, 1) := by decide +kernel
theorem dX6_soNow_0 : decode cX6_soNow 0 = .ok (.ldc2_w 227, 3) := by decide +kernel
theorem dX6_soNow_3 : decode cX6_soNow 3 = .ok (.aload_n 0, 1) := by decide +kernel
theorem dX6_soNow_4 : decode cX6_soNow 4 = .ok (.getfield 25, 3) := by decide +kernel
theorem dX6_soNow_7 : decode cX6_soNow 7 = .ok (.iconst 1, 1) := by decide +kernel
theorem dX6_soNow_8 : decode cX6_soNow 8 = .ok (.iaload, 1) := by decide +kernel
theorem dX6_soNow_9 : decode cX6_soNow 9 = .ok (.i2l, 1) := by decide +kernel
theorem dX6_soNow_10 : decode cX6_soNow 10 = .ok (.lmul, 1) := by decide +kernel
theorem dX6_soNow_11 : decode cX6_soNow 11 = .ok (.aload_n 0, 1) := by decide +kernel
theorem dX6_soNow_12 : decode cX6_soNow 12 = .ok (.getfield 25, 3) := by decide +kernel
theorem dX6_soNow_15 : decode cX6_soNow 15 = .ok (.bipush 6, 2) := by decide +kernel
theorem dX6_soNow_17 : decode cX6_soNow 17 = .ok (.iaload, 1) := by decide +kernel
theorem dX6_soNow_18 : decode cX6_soNow 18 = .ok (.bipush 6, 2) := by decide +kernel
theorem dX6_soNow_20 : decode cX6_soNow 20 = .ok (.irem, 1) := by decide +kernel
theorem dX6_soNow_21 : decode cX6_soNow 21 = .ok (.i2l, 1) := by decide +kernel
theorem dX6_soNow_22 : decode cX6_soNow 22 = .ok (.ladd, 1) := by decide +kernel
theorem dX6_soNow_23 : decode cX6_soNow 23 = .ok (.lstore_n 1, 1) := by decide +kernel
theorem dX6_soNow_24 : decode cX6_soNow 24 = .ok (.iconst 0, 1) := by decide +kernel
theorem dX6_soNow_25 : decode cX6_soNow 25 = .ok (.istore_n 3, 1) := by decide +kernel
theorem dX6_soNow_26 : decode cX6_soNow 26 = .ok (.iload_n 3, 1) := by decide +kernel
theorem dX6_soNow_27 : decode cX6_soNow 27 = .ok (.aload_n 0, 1) := by decide +kernel
theorem dX6_soNow_28 : decode cX6_soNow 28 = .ok (.getfield 25, 3) := by decide +kernel
theorem dX6_soNow_31 : decode cX6_soNow 31 = .ok (.iconst 5, 1) := by decide +kernel
theorem dX6_soNow_32 : decode cX6_soNow 32 = .ok (.iaload, 1) := by decide +kernel
theorem dX6_soNow_33 : decode cX6_soNow 33 = .ok (.if_icmp .ge 27, 3) := by decide +kernel
theorem dX6_soNow_36 : decode cX6_soNow 36 = .ok (.ldc2_w 229, 3) := by decide +kernel
theorem dX6_soNow_39 : decode cX6_soNow 39 = .ok (.lload_n 1, 1) := by decide +kernel
theorem dX6_soNow_40 : decode cX6_soNow 40 = .ok (.lmul, 1) := by decide +kernel
theorem dX6_soNow_41 : decode cX6_soNow 41 = .ok (.aload_n 0, 1) := by decide +kernel
theorem dX6_soNow_42 : decode cX6_soNow 42 = .ok (.getfield 25, 3) := by decide +kernel
theorem dX6_soNow_45 : decode cX6_soNow 45 = .ok (.iload_n 3, 1) := by decide +kernel
theorem dX6_soNow_46 : decode cX6_soNow 46 = .ok (.bipush 6, 2) := by decide +kernel
theorem dX6_soNow_48 : decode cX6_soNow 48 = .ok (.invokestatic 159, 3) := by decide +kernel
theorem dX6_soNow_51 : decode cX6_soNow 51 = .ok (.i2l, 1) := by decide +kernel
theorem dX6_soNow_52 : decode cX6_soNow 52 = .ok (.ladd, 1) := by decide +kernel
theorem dX6_soNow_53 : decode cX6_soNow 53 = .ok (.lstore_n 1, 1) := by decide +kernel
theorem dX6_soNow_54 : decode cX6_soNow 54 = .ok (.iinc 3 1, 3) := by decide +kernel
theorem dX6_soNow_57 : decode cX6_soNow 57 = .ok (.goto (-31), 3) := by decide +kernel
theorem dX6_soNow_60 : decode cX6_soNow 60 = .ok (.lload_n 1, 1) := by decide +kernel
theorem dX6_soNow_61 : decode cX6_soNow 61 = .ok (.lreturn, 1) := by decide +kernel
theorem dX6_round_0 : decode cX6_round 0 = .ok (.aload_n 0, 1) := by decide +kernel
theorem dX6_round_1 : decode cX6_round 1 = .ok (.iconst 0, 1) := by decide +kernel
theorem dX6_round_2 : decode cX6_round 2 = .ok (.putfield 54, 3) := by decide +kernel
theorem dX6_round_5 : decode cX6_round 5 = .ok (.aload_n 0, 1) := by decide +kernel
theorem dX6_round_6 : decode cX6_round 6 = .ok (.invokevirtual 193, 3) := by decide +kernel
theorem dX6_round_9 : decode cX6_round 9 = .ok (.ifCond .ne 6, 3) := by decide +kernel
theorem dX6_round_12 : decode cX6_round 12 = .ok (.ldc 196, 2) := by decide +kernel
theorem dX6_round_14 : decode cX6_round 14 = .ok (.ireturn, 1) := by decide +kernel
theorem dX6_round_15 : decode cX6_round 15 = .ok (.iload_n 1, 1) := by decide +kernel
theorem dX6_round_16 : decode cX6_round 16 = .ok (.i2l, 1) := by decide +kernel
theorem dX6_round_17 : decode cX6_round 17 = .ok (.lconst 0, 1) := by decide +kernel
theorem dX6_round_18 : decode cX6_round 18 = .ok (.lconst 1, 1) := by decide +kernel
theorem dX6_round_19 : decode cX6_round 19 = .ok (.invokestatic 64, 3) := by decide +kernel
theorem dX6_round_22 : decode cX6_round 22 = .ok (.ifCond .ne 6, 3) := by decide +kernel
theorem dX6_round_25 : decode cX6_round 25 = .ok (.ldc 74, 2) := by decide +kernel
theorem dX6_round_27 : decode cX6_round 27 = .ok (.ireturn, 1) := by decide +kernel
theorem dX6_round_28 : decode cX6_round 28 = .ok (.aload_n 0, 1) := by decide +kernel
theorem dX6_round_29 : decode cX6_round 29 = .ok (.invokevirtual 212, 3) := by decide +kernel
theorem dX6_round_32 : decode cX6_round 32 = .ok (.iconst 0, 1) := by decide +kernel
theorem dX6_round_33 : decode cX6_round 33 = .ok (.istore_n 2, 1) := by decide +kernel
theorem dX6_round_34 : decode cX6_round 34 = .ok (.iload_n 2, 1) := by decide +kernel
theorem dX6_round_35 : decode cX6_round 35 = .ok (.bipush 101, 2) := by decide +kernel
theorem dX6_round_37 : decode cX6_round 37 = .ok (.if_icmp .ge 68, 3) := by decide +kernel
theorem dX6_round_40 : decode cX6_round 40 = .ok (.aload_n 0, 1) := by decide +kernel
theorem dX6_round_41 : decode cX6_round 41 = .ok (.getfield 40, 3) := by decide +kernel
theorem dX6_round_44 : decode cX6_round 44 = .ok (.iload_n 2, 1) := by decide +kernel
theorem dX6_round_45 : decode cX6_round 45 = .ok (.aload_n 0, 1) := by decide +kernel
theorem dX6_round_46 : decode cX6_round 46 = .ok (.invokevirtual 231, 3) := by decide +kernel
theorem dX6_round_49 : decode cX6_round 49 = .ok (.lastore, 1) := by decide +kernel
theorem dX6_round_50 : decode cX6_round 50 = .ok (.iconst 0, 1) := by decide +kernel
theorem dX6_round_51 : decode cX6_round 51 = .ok (.istore_n 3, 1) := by decide +kernel
theorem dX6_round_52 : decode cX6_round 52 = .ok (.iload_n 3, 1) := by decide +kernel
theorem dX6_round_53 : decode cX6_round 53 = .ok (.iload_n 2, 1) := by decide +kernel
theorem dX6_round_54 : decode cX6_round 54 = .ok (.if_icmp .ge 35, 3) := by decide +kernel
theorem dX6_round_57 : decode cX6_round 57 = .ok (.aload_n 0, 1) := by decide +kernel
theorem dX6_round_58 : decode cX6_round 58 = .ok (.getfield 40, 3) := by decide +kernel
theorem dX6_round_61 : decode cX6_round 61 = .ok (.iload_n 3, 1) := by decide +kernel
theorem dX6_round_62 : decode cX6_round 62 = .ok (.laload, 1) := by decide +kernel
theorem dX6_round_63 : decode cX6_round 63 = .ok (.aload_n 0, 1) := by decide +kernel
theorem dX6_round_64 : decode cX6_round 64 = .ok (.getfield 40, 3) := by decide +kernel
theorem dX6_round_67 : decode cX6_round 67 = .ok (.iload_n 2, 1) := by decide +kernel
theorem dX6_round_68 : decode cX6_round 68 = .ok (.laload, 1) := by decide +kernel
theorem dX6_round_69 : decode cX6_round 69 = .ok (.lcmp, 1) := by decide +kernel
theorem dX6_round_70 : decode cX6_round 70 = .ok (.ifCond .ne 13, 3) := by decide +kernel
theorem dX6_round_73 : decode cX6_round 73 = .ok (.iload_n 1, 1) := by decide +kernel
theorem dX6_round_74 : decode cX6_round 74 = .ok (.ifCond .ne 7, 3) := by decide +kernel
theorem dX6_round_77 : decode cX6_round 77 = .ok (.iload_n 2, 1) := by decide +kernel
theorem dX6_round_78 : decode cX6_round 78 = .ok (.goto 4, 3) := by decide +kernel
theorem dX6_round_81 : decode cX6_round 81 = .ok (.iload_n 3, 1) := by decide +kernel
theorem dX6_round_82 : decode cX6_round 82 = .ok (.ireturn, 1) := by decide +kernel
theorem dX6_round_83 : decode cX6_round 83 = .ok (.iinc 3 1, 3) := by decide +kernel
theorem dX6_round_86 : decode cX6_round 86 = .ok (.goto (-34), 3) := by decide +kernel
theorem dX6_round_89 : decode cX6_round 89 = .ok (.aload_n 0, 1) := by decide +kernel
theorem dX6_round_90 : decode cX6_round 90 = .ok (.aload_n 0, 1) := by decide +kernel
theorem dX6_round_91 : decode cX6_round 91 = .ok (.getfield 25, 3) := by decide +kernel
theorem dX6_round_94 : decode cX6_round 94 = .ok (.iconst 0, 1) := by decide +kernel
theorem dX6_round_95 : decode cX6_round 95 = .ok (.iconst 0, 1) := by decide +kernel
theorem dX6_round_96 : decode cX6_round 96 = .ok (.invokevirtual 185, 3) := by decide +kernel
theorem dX6_round_99 : decode cX6_round 99 = .ok (.iinc 2 1, 3) := by decide +kernel
theorem dX6_round_102 : decode cX6_round 102 = .ok (.goto (-68), 3) := by decide +kernel
theorem dX6_round_105 : decode cX6_round 105 = .ok (.ldc 97, 2) := by decide +kernel
theorem dX6_round_107 : decode cX6_round 107 = .ok (.ireturn, 1) := by decide +kernel
theorem dX6_half_0 : decode cX6_half 0 = .ok (.aload_n 0, 1) := by decide +kernel
theorem dX6_half_1 : decode cX6_half 1 = .ok (.iconst 0, 1) := by decide +kernel
theorem dX6_half_2 : decode cX6_half 2 = .ok (.putfield 54, 3) := by decide +kernel
theorem dX6_half_5 : decode cX6_half 5 = .ok (.aload_n 0, 1) := by decide +kernel
theorem dX6_half_6 : decode cX6_half 6 = .ok (.invokevirtual 193, 3) := by decide +kernel
theorem dX6_half_9 : decode cX6_half 9 = .ok (.ifCond .ne 6, 3) := by decide +kernel
theorem dX6_half_12 : decode cX6_half 12 = .ok (.ldc 196, 2) := by decide +kernel
theorem dX6_half_14 : decode cX6_half 14 = .ok (.ireturn, 1) := by decide +kernel
theorem dX6_half_15 : decode cX6_half 15 = .ok (.iload_n 1, 1) := by decide +kernel
theorem dX6_half_16 : decode cX6_half 16 = .ok (.i2l, 1) := by decide +kernel
theorem dX6_half_17 : decode cX6_half 17 = .ok (.lconst 1, 1) := by decide +kernel
theorem dX6_half_18 : decode cX6_half 18 = .ok (.ldc2_w 210, 3) := by decide +kernel
theorem dX6_half_21 : decode cX6_half 21 = .ok (.invokestatic 64, 3) := by decide +kernel
theorem dX6_half_24 : decode cX6_half 24 = .ok (.ifCond .ne 6, 3) := by decide +kernel
theorem dX6_half_27 : decode cX6_half 27 = .ok (.ldc 74, 2) := by decide +kernel
theorem dX6_half_29 : decode cX6_half 29 = .ok (.ireturn, 1) := by decide +kernel
theorem dX6_half_30 : decode cX6_half 30 = .ok (.aload_n 0, 1) := by decide +kernel
theorem dX6_half_31 : decode cX6_half 31 = .ok (.invokevirtual 212, 3) := by decide +kernel
theorem dX6_half_34 : decode cX6_half 34 = .ok (.iconst 0, 1) := by decide +kernel
theorem dX6_half_35 : decode cX6_half 35 = .ok (.istore_n 2, 1) := by decide +kernel
theorem dX6_half_36 : decode cX6_half 36 = .ok (.iload_n 2, 1) := by decide +kernel
theorem dX6_half_37 : decode cX6_half 37 = .ok (.iload_n 1, 1) := by decide +kernel
theorem dX6_half_38 : decode cX6_half 38 = .ok (.if_icmp .ge 40, 3) := by decide +kernel
theorem dX6_half_41 : decode cX6_half 41 = .ok (.aload_n 0, 1) := by decide +kernel
theorem dX6_half_42 : decode cX6_half 42 = .ok (.getfield 25, 3) := by decide +kernel
theorem dX6_half_45 : decode cX6_half 45 = .ok (.bipush 8, 2) := by decide +kernel
theorem dX6_half_47 : decode cX6_half 47 = .ok (.iaload, 1) := by decide +kernel
theorem dX6_half_48 : decode cX6_half 48 = .ok (.istore_n 3, 1) := by decide +kernel
theorem dX6_half_49 : decode cX6_half 49 = .ok (.aload_n 0, 1) := by decide +kernel
theorem dX6_half_50 : decode cX6_half 50 = .ok (.aload_n 0, 1) := by decide +kernel
theorem dX6_half_51 : decode cX6_half 51 = .ok (.getfield 25, 3) := by decide +kernel
theorem dX6_half_54 : decode cX6_half 54 = .ok (.iconst 0, 1) := by decide +kernel
theorem dX6_half_55 : decode cX6_half 55 = .ok (.iconst 0, 1) := by decide +kernel
theorem dX6_half_56 : decode cX6_half 56 = .ok (.invokevirtual 185, 3) := by decide +kernel
theorem dX6_half_59 : decode cX6_half 59 = .ok (.aload_n 0, 1) := by decide +kernel
theorem dX6_half_60 : decode cX6_half 60 = .ok (.getfield 25, 3) := by decide +kernel
theorem dX6_half_63 : decode cX6_half 63 = .ok (.bipush 8, 2) := by decide +kernel
theorem dX6_half_65 : decode cX6_half 65 = .ok (.iaload, 1) := by decide +kernel
theorem dX6_half_66 : decode cX6_half 66 = .ok (.iload_n 3, 1) := by decide +kernel
theorem dX6_half_67 : decode cX6_half 67 = .ok (.if_icmp .le 5, 3) := by decide +kernel
theorem dX6_half_70 : decode cX6_half 70 = .ok (.iload_n 2, 1) := by decide +kernel
theorem dX6_half_71 : decode cX6_half 71 = .ok (.ireturn, 1) := by decide +kernel
theorem dX6_half_72 : decode cX6_half 72 = .ok (.iinc 2 1, 3) := by decide +kernel
theorem dX6_half_75 : decode cX6_half 75 = .ok (.goto (-39), 3) := by decide +kernel
theorem dX6_half_78 : decode cX6_half 78 = .ok (.ldc 97, 2) := by decide +kernel
theorem dX6_half_80 : decode cX6_half 80 = .ok (.ireturn, 1) := by decide +kernel
theorem dX6_awake_0 : decode cX6_awake 0 = .ok (.aload_n 0, 1) := by decide +kernel
theorem dX6_awake_1 : decode cX6_awake 1 = .ok (.iconst 0, 1) := by decide +kernel
theorem dX6_awake_2 : decode cX6_awake 2 = .ok (.putfield 54, 3) := by decide +kernel
theorem dX6_awake_5 : decode cX6_awake 5 = .ok (.aload_n 0, 1) := by decide +kernel
theorem dX6_awake_6 : decode cX6_awake 6 = .ok (.invokevirtual 193, 3) := by decide +kernel
theorem dX6_awake_9 : decode cX6_awake 9 = .ok (.ifCond .ne 7, 3) := by decide +kernel
theorem dX6_awake_12 : decode cX6_awake 12 = .ok (.ldc2_w 235, 3) := by decide +kernel
theorem dX6_awake_15 : decode cX6_awake 15 = .ok (.lreturn, 1) := by decide +kernel
theorem dX6_awake_16 : decode cX6_awake 16 = .ok (.iload_n 1, 1) := by decide +kernel
theorem dX6_awake_17 : decode cX6_awake 17 = .ok (.i2l, 1) := by decide +kernel
theorem dX6_awake_18 : decode cX6_awake 18 = .ok (.lconst 0, 1) := by decide +kernel
theorem dX6_awake_19 : decode cX6_awake 19 = .ok (.ldc2_w 237, 3) := by decide +kernel
theorem dX6_awake_22 : decode cX6_awake 22 = .ok (.invokestatic 64, 3) := by decide +kernel
theorem dX6_awake_25 : decode cX6_awake 25 = .ok (.ifCond .eq 13, 3) := by decide +kernel
theorem dX6_awake_28 : decode cX6_awake 28 = .ok (.iload_n 2, 1) := by decide +kernel
theorem dX6_awake_29 : decode cX6_awake 29 = .ok (.i2l, 1) := by decide +kernel
theorem dX6_awake_30 : decode cX6_awake 30 = .ok (.lconst 0, 1) := by decide +kernel
theorem dX6_awake_31 : decode cX6_awake 31 = .ok (.lconst 1, 1) := by decide +kernel
theorem dX6_awake_32 : decode cX6_awake 32 = .ok (.invokestatic 64, 3) := by decide +kernel
theorem dX6_awake_35 : decode cX6_awake 35 = .ok (.ifCond .ne 7, 3) := by decide +kernel
theorem dX6_awake_38 : decode cX6_awake 38 = .ok (.ldc2_w 239, 3) := by decide +kernel
theorem dX6_awake_41 : decode cX6_awake 41 = .ok (.lreturn, 1) := by decide +kernel
theorem dX6_awake_42 : decode cX6_awake 42 = .ok (.iconst 0, 1) := by decide +kernel
theorem dX6_awake_43 : decode cX6_awake 43 = .ok (.istore_n 3, 1) := by decide +kernel
theorem dX6_awake_44 : decode cX6_awake 44 = .ok (.iconst 0, 1) := by decide +kernel
theorem dX6_awake_45 : decode cX6_awake 45 = .ok (.istore 4, 2) := by decide +kernel
theorem dX6_awake_47 : decode cX6_awake 47 = .ok (.iload 4, 2) := by decide +kernel
theorem dX6_awake_49 : decode cX6_awake 49 = .ok (.aload_n 0, 1) := by decide +kernel
theorem dX6_awake_50 : decode cX6_awake 50 = .ok (.getfield 19, 3) := by decide +kernel
theorem dX6_awake_53 : decode cX6_awake 53 = .ok (.iconst 5, 1) := by decide +kernel
theorem dX6_awake_54 : decode cX6_awake 54 = .ok (.iaload, 1) := by decide +kernel
theorem dX6_awake_55 : decode cX6_awake 55 = .ok (.if_icmp .ge 32, 3) := by decide +kernel
theorem dX6_awake_58 : decode cX6_awake 58 = .ok (.iload_n 3, 1) := by decide +kernel
theorem dX6_awake_59 : decode cX6_awake 59 = .ok (.aload_n 0, 1) := by decide +kernel
theorem dX6_awake_60 : decode cX6_awake 60 = .ok (.getfield 19, 3) := by decide +kernel
theorem dX6_awake_63 : decode cX6_awake 63 = .ok (.iload 4, 2) := by decide +kernel
theorem dX6_awake_65 : decode cX6_awake 65 = .ok (.invokestatic 169, 3) := by decide +kernel
theorem dX6_awake_68 : decode cX6_awake 68 = .ok (.ifCond .eq 10, 3) := by decide +kernel
theorem dX6_awake_71 : decode cX6_awake 71 = .ok (.iconst 1, 1) := by decide +kernel
theorem dX6_awake_72 : decode cX6_awake 72 = .ok (.iload 4, 2) := by decide +kernel
theorem dX6_awake_74 : decode cX6_awake 74 = .ok (.ishl, 1) := by decide +kernel
theorem dX6_awake_75 : decode cX6_awake 75 = .ok (.goto 4, 3) := by decide +kernel
theorem dX6_awake_78 : decode cX6_awake 78 = .ok (.iconst 0, 1) := by decide +kernel
theorem dX6_awake_79 : decode cX6_awake 79 = .ok (.ior, 1) := by decide +kernel
theorem dX6_awake_80 : decode cX6_awake 80 = .ok (.istore_n 3, 1) := by decide +kernel
theorem dX6_awake_81 : decode cX6_awake 81 = .ok (.iinc 4 1, 3) := by decide +kernel
theorem dX6_awake_84 : decode cX6_awake 84 = .ok (.goto (-37), 3) := by decide +kernel
theorem dX6_awake_87 : decode cX6_awake 87 = .ok (.lconst 0, 1) := by decide +kernel
theorem dX6_awake_88 : decode cX6_awake 88 = .ok (.lstore 4, 2) := by decide +kernel
theorem dX6_awake_90 : decode cX6_awake 90 = .ok (.lconst 0, 1) := by decide +kernel
theorem dX6_awake_91 : decode cX6_awake 91 = .ok (.lstore 6, 2) := by decide +kernel
theorem dX6_awake_93 : decode cX6_awake 93 = .ok (.iconst 0, 1) := by decide +kernel
theorem dX6_awake_94 : decode cX6_awake 94 = .ok (.istore 8, 2) := by decide +kernel
theorem dX6_awake_96 : decode cX6_awake 96 = .ok (.iload 8, 2) := by decide +kernel
theorem dX6_awake_98 : decode cX6_awake 98 = .ok (.bipush 64, 2) := by decide +kernel
theorem dX6_awake_100 : decode cX6_awake 100 = .ok (.if_icmp .ge 135, 3) := by decide +kernel
theorem dX6_awake_103 : decode cX6_awake 103 = .ok (.iload 8, 2) := by decide +kernel
theorem dX6_awake_105 : decode cX6_awake 105 = .ok (.iload_n 3, 1) := by decide +kernel
theorem dX6_awake_106 : decode cX6_awake 106 = .ok (.iconst (-1), 1) := by decide +kernel
theorem dX6_awake_107 : decode cX6_awake 107 = .ok (.ixor, 1) := by decide +kernel
theorem dX6_awake_108 : decode cX6_awake 108 = .ok (.iand, 1) := by decide +kernel
theorem dX6_awake_109 : decode cX6_awake 109 = .ok (.ifCond .ne 120, 3) := by decide +kernel
theorem dX6_awake_112 : decode cX6_awake 112 = .ok (.lconst 1, 1) := by decide +kernel
theorem dX6_awake_113 : decode cX6_awake 113 = .ok (.lstore 9, 2) := by decide +kernel
theorem dX6_awake_115 : decode cX6_awake 115 = .ok (.iconst 0, 1) := by decide +kernel
theorem dX6_awake_116 : decode cX6_awake 116 = .ok (.istore 11, 2) := by decide +kernel
theorem dX6_awake_118 : decode cX6_awake 118 = .ok (.iload 11, 2) := by decide +kernel
theorem dX6_awake_120 : decode cX6_awake 120 = .ok (.bipush 6, 2) := by decide +kernel
theorem dX6_awake_122 : decode cX6_awake 122 = .ok (.if_icmp .ge 49, 3) := by decide +kernel
theorem dX6_awake_125 : decode cX6_awake 125 = .ok (.lload 9, 2) := by decide +kernel
theorem dX6_awake_127 : decode cX6_awake 127 = .ok (.iload_n 3, 1) := by decide +kernel
theorem dX6_awake_128 : decode cX6_awake 128 = .ok (.iload 11, 2) := by decide +kernel
theorem dX6_awake_130 : decode cX6_awake 130 = .ok (.ishr, 1) := by decide +kernel
theorem dX6_awake_131 : decode cX6_awake 131 = .ok (.iconst 1, 1) := by decide +kernel
theorem dX6_awake_132 : decode cX6_awake 132 = .ok (.iand, 1) := by decide +kernel
theorem dX6_awake_133 : decode cX6_awake 133 = .ok (.ifCond .ne 7, 3) := by decide +kernel
theorem dX6_awake_136 : decode cX6_awake 136 = .ok (.lconst 1, 1) := by decide +kernel
theorem dX6_awake_137 : decode cX6_awake 137 = .ok (.goto 25, 3) := by decide +kernel
theorem dX6_awake_140 : decode cX6_awake 140 = .ok (.iload 8, 2) := by decide +kernel
theorem dX6_awake_142 : decode cX6_awake 142 = .ok (.iload 11, 2) := by decide +kernel
theorem dX6_awake_144 : decode cX6_awake 144 = .ok (.ishr, 1) := by decide +kernel
theorem dX6_awake_145 : decode cX6_awake 145 = .ok (.iconst 1, 1) := by decide +kernel
theorem dX6_awake_146 : decode cX6_awake 146 = .ok (.iand, 1) := by decide +kernel
theorem dX6_awake_147 : decode cX6_awake 147 = .ok (.iconst 1, 1) := by decide +kernel
theorem dX6_awake_148 : decode cX6_awake 148 = .ok (.if_icmp .ne 8, 3) := by decide +kernel
theorem dX6_awake_151 : decode cX6_awake 151 = .ok (.iload_n 1, 1) := by decide +kernel
theorem dX6_awake_152 : decode cX6_awake 152 = .ok (.i2l, 1) := by decide +kernel
theorem dX6_awake_153 : decode cX6_awake 153 = .ok (.goto 9, 3) := by decide +kernel
theorem dX6_awake_156 : decode cX6_awake 156 = .ok (.ldc2_w 237, 3) := by decide +kernel
theorem dX6_awake_159 : decode cX6_awake 159 = .ok (.iload_n 1, 1) := by decide +kernel
theorem dX6_awake_160 : decode cX6_awake 160 = .ok (.i2l, 1) := by decide +kernel
theorem dX6_awake_161 : decode cX6_awake 161 = .ok (.lsub, 1) := by decide +kernel
theorem dX6_awake_162 : decode cX6_awake 162 = .ok (.lmul, 1) := by decide +kernel
theorem dX6_awake_163 : decode cX6_awake 163 = .ok (.lstore 9, 2) := by decide +kernel
theorem dX6_awake_165 : decode cX6_awake 165 = .ok (.iinc 11 1, 3) := by decide +kernel
theorem dX6_awake_168 : decode cX6_awake 168 = .ok (.goto (-50), 3) := by decide +kernel
theorem dX6_awake_171 : decode cX6_awake 171 = .ok (.aload_n 0, 1) := by decide +kernel
theorem dX6_awake_172 : decode cX6_awake 172 = .ok (.aload_n 0, 1) := by decide +kernel
theorem dX6_awake_173 : decode cX6_awake 173 = .ok (.getfield 19, 3) := by decide +kernel
theorem dX6_awake_176 : decode cX6_awake 176 = .ok (.iload 8, 2) := by decide +kernel
theorem dX6_awake_178 : decode cX6_awake 178 = .ok (.iconst 0, 1) := by decide +kernel
theorem dX6_awake_179 : decode cX6_awake 179 = .ok (.iconst 0, 1) := by decide +kernel
theorem dX6_awake_180 : decode cX6_awake 180 = .ok (.invokevirtual 177, 3) := by decide +kernel
theorem dX6_awake_183 : decode cX6_awake 183 = .ok (.aload_n 0, 1) := by decide +kernel
theorem dX6_awake_184 : decode cX6_awake 184 = .ok (.aload_n 0, 1) := by decide +kernel
theorem dX6_awake_185 : decode cX6_awake 185 = .ok (.getfield 19, 3) := by decide +kernel
theorem dX6_awake_188 : decode cX6_awake 188 = .ok (.invokevirtual 181, 3) := by decide +kernel
theorem dX6_awake_191 : decode cX6_awake 191 = .ok (.istore 11, 2) := by decide +kernel
theorem dX6_awake_193 : decode cX6_awake 193 = .ok (.lload 6, 2) := by decide +kernel
theorem dX6_awake_195 : decode cX6_awake 195 = .ok (.lload 9, 2) := by decide +kernel
theorem dX6_awake_197 : decode cX6_awake 197 = .ok (.ladd, 1) := by decide +kernel
theorem dX6_awake_198 : decode cX6_awake 198 = .ok (.lstore 6, 2) := by decide +kernel
theorem dX6_awake_200 : decode cX6_awake 200 = .ok (.lload 4, 2) := by decide +kernel
theorem dX6_awake_202 : decode cX6_awake 202 = .ok (.iload 11, 2) := by decide +kernel
theorem dX6_awake_204 : decode cX6_awake 204 = .ok (.ldc 97, 2) := by decide +kernel
theorem dX6_awake_206 : decode cX6_awake 206 = .ok (.if_icmp .eq 14, 3) := by decide +kernel
theorem dX6_awake_209 : decode cX6_awake 209 = .ok (.iload 11, 2) := by decide +kernel
theorem dX6_awake_211 : decode cX6_awake 211 = .ok (.aload_n 0, 1) := by decide +kernel
theorem dX6_awake_212 : decode cX6_awake 212 = .ok (.getfield 19, 3) := by decide +kernel
theorem dX6_awake_215 : decode cX6_awake 215 = .ok (.iconst 1, 1) := by decide +kernel
theorem dX6_awake_216 : decode cX6_awake 216 = .ok (.iaload, 1) := by decide +kernel
theorem dX6_awake_217 : decode cX6_awake 217 = .ok (.if_icmp .ne 7, 3) := by decide +kernel
theorem dX6_awake_220 : decode cX6_awake 220 = .ok (.lconst 0, 1) := by decide +kernel
theorem dX6_awake_221 : decode cX6_awake 221 = .ok (.goto 5, 3) := by decide +kernel
theorem dX6_awake_224 : decode cX6_awake 224 = .ok (.lload 9, 2) := by decide +kernel
theorem dX6_awake_226 : decode cX6_awake 226 = .ok (.ladd, 1) := by decide +kernel
theorem dX6_awake_227 : decode cX6_awake 227 = .ok (.lstore 4, 2) := by decide +kernel
theorem dX6_awake_229 : decode cX6_awake 229 = .ok (.iinc 8 1, 3) := by decide +kernel
theorem dX6_awake_232 : decode cX6_awake 232 = .ok (.goto (-136), 3) := by decide +kernel
theorem dX6_awake_235 : decode cX6_awake 235 = .ok (.lload 4, 2) := by decide +kernel
theorem dX6_awake_237 : decode cX6_awake 237 = .ok (.lstore 8, 2) := by decide +kernel
theorem dX6_awake_239 : decode cX6_awake 239 = .ok (.lload 6, 2) := by decide +kernel
theorem dX6_awake_241 : decode cX6_awake 241 = .ok (.lstore 10, 2) := by decide +kernel
theorem dX6_awake_243 : decode cX6_awake 243 = .ok (.lload 10, 2) := by decide +kernel
theorem dX6_awake_245 : decode cX6_awake 245 = .ok (.lconst 0, 1) := by decide +kernel
theorem dX6_awake_246 : decode cX6_awake 246 = .ok (.lcmp, 1) := by decide +kernel
theorem dX6_awake_247 : decode cX6_awake 247 = .ok (.ifCond .eq 21, 3) := by decide +kernel
theorem dX6_awake_250 : decode cX6_awake 250 = .ok (.lload 8, 2) := by decide +kernel
theorem dX6_awake_252 : decode cX6_awake 252 = .ok (.lload 10, 2) := by decide +kernel
theorem dX6_awake_254 : decode cX6_awake 254 = .ok (.lrem, 1) := by decide +kernel
theorem dX6_awake_255 : decode cX6_awake 255 = .ok (.lstore 12, 2) := by decide +kernel
theorem dX6_awake_257 : decode cX6_awake 257 = .ok (.lload 10, 2) := by decide +kernel
theorem dX6_awake_259 : decode cX6_awake 259 = .ok (.lstore 8, 2) := by decide +kernel
theorem dX6_awake_261 : decode cX6_awake 261 = .ok (.lload 12, 2) := by decide +kernel
theorem dX6_awake_263 : decode cX6_awake 263 = .ok (.lstore 10, 2) := by decide +kernel
theorem dX6_awake_265 : decode cX6_awake 265 = .ok (.goto (-22), 3) := by decide +kernel
theorem dX6_awake_268 : decode cX6_awake 268 = .ok (.iload_n 2, 1) := by decide +kernel
theorem dX6_awake_269 : decode cX6_awake 269 = .ok (.ifCond .ne 8, 3) := by decide +kernel
theorem dX6_awake_272 : decode cX6_awake 272 = .ok (.lload 4, 2) := by decide +kernel
theorem dX6_awake_274 : decode cX6_awake 274 = .ok (.goto 5, 3) := by decide +kernel
theorem dX6_awake_277 : decode cX6_awake 277 = .ok (.lload 6, 2) := by decide +kernel
theorem dX6_awake_279 : decode cX6_awake 279 = .ok (.lload 8, 2) := by decide +kernel
theorem dX6_awake_281 : decode cX6_awake 281 = .ok (.ldiv, 1) := by decide +kernel
theorem dX6_awake_282 : decode cX6_awake 282 = .ok (.lreturn, 1) := by decide +kernel
theorem dX6_drawn_0 : decode cX6_drawn 0 = .ok (.aload_n 0, 1) := by decide +kernel
theorem dX6_drawn_1 : decode cX6_drawn 1 = .ok (.iconst 0, 1) := by decide +kernel
theorem dX6_drawn_2 : decode cX6_drawn 2 = .ok (.putfield 54, 3) := by decide +kernel
theorem dX6_drawn_5 : decode cX6_drawn 5 = .ok (.aload_n 0, 1) := by decide +kernel
theorem dX6_drawn_6 : decode cX6_drawn 6 = .ok (.invokevirtual 193, 3) := by decide +kernel
theorem dX6_drawn_9 : decode cX6_drawn 9 = .ok (.ifCond .ne 6, 3) := by decide +kernel
theorem dX6_drawn_12 : decode cX6_drawn 12 = .ok (.ldc 196, 2) := by decide +kernel
theorem dX6_drawn_14 : decode cX6_drawn 14 = .ok (.ireturn, 1) := by decide +kernel
theorem dX6_drawn_15 : decode cX6_drawn 15 = .ok (.iload_n 1, 1) := by decide +kernel
theorem dX6_drawn_16 : decode cX6_drawn 16 = .ok (.i2l, 1) := by decide +kernel
theorem dX6_drawn_17 : decode cX6_drawn 17 = .ok (.lconst 0, 1) := by decide +kernel
theorem dX6_drawn_18 : decode cX6_drawn 18 = .ok (.ldc2_w 210, 3) := by decide +kernel
theorem dX6_drawn_21 : decode cX6_drawn 21 = .ok (.invokestatic 64, 3) := by decide +kernel
theorem dX6_drawn_24 : decode cX6_drawn 24 = .ok (.ifCond .eq 25, 3) := by decide +kernel
theorem dX6_drawn_27 : decode cX6_drawn 27 = .ok (.iload_n 2, 1) := by decide +kernel
theorem dX6_drawn_28 : decode cX6_drawn 28 = .ok (.i2l, 1) := by decide +kernel
theorem dX6_drawn_29 : decode cX6_drawn 29 = .ok (.lconst 1, 1) := by decide +kernel
theorem dX6_drawn_30 : decode cX6_drawn 30 = .ok (.ldc2_w 241, 3) := by decide +kernel
theorem dX6_drawn_33 : decode cX6_drawn 33 = .ok (.invokestatic 64, 3) := by decide +kernel
theorem dX6_drawn_36 : decode cX6_drawn 36 = .ok (.ifCond .eq 13, 3) := by decide +kernel
theorem dX6_drawn_39 : decode cX6_drawn 39 = .ok (.iload_n 3, 1) := by decide +kernel
theorem dX6_drawn_40 : decode cX6_drawn 40 = .ok (.i2l, 1) := by decide +kernel
theorem dX6_drawn_41 : decode cX6_drawn 41 = .ok (.lconst 0, 1) := by decide +kernel
theorem dX6_drawn_42 : decode cX6_drawn 42 = .ok (.lconst 1, 1) := by decide +kernel
theorem dX6_drawn_43 : decode cX6_drawn 43 = .ok (.invokestatic 64, 3) := by decide +kernel
theorem dX6_drawn_46 : decode cX6_drawn 46 = .ok (.ifCond .ne 6, 3) := by decide +kernel
theorem dX6_drawn_49 : decode cX6_drawn 49 = .ok (.ldc 74, 2) := by decide +kernel
theorem dX6_drawn_51 : decode cX6_drawn 51 = .ok (.ireturn, 1) := by decide +kernel
theorem dX6_drawn_52 : decode cX6_drawn 52 = .ok (.aload_n 0, 1) := by decide +kernel
theorem dX6_drawn_53 : decode cX6_drawn 53 = .ok (.invokevirtual 212, 3) := by decide +kernel
theorem dX6_drawn_56 : decode cX6_drawn 56 = .ok (.iload_n 2, 1) := by decide +kernel
theorem dX6_drawn_57 : decode cX6_drawn 57 = .ok (.i2l, 1) := by decide +kernel
theorem dX6_drawn_58 : decode cX6_drawn 58 = .ok (.lstore 4, 2) := by decide +kernel
theorem dX6_drawn_60 : decode cX6_drawn 60 = .ok (.iconst 0, 1) := by decide +kernel
theorem dX6_drawn_61 : decode cX6_drawn 61 = .ok (.istore 6, 2) := by decide +kernel
theorem dX6_drawn_63 : decode cX6_drawn 63 = .ok (.iload 6, 2) := by decide +kernel
theorem dX6_drawn_65 : decode cX6_drawn 65 = .ok (.iload_n 1, 1) := by decide +kernel
theorem dX6_drawn_66 : decode cX6_drawn 66 = .ok (.if_icmp .ge 75, 3) := by decide +kernel
theorem dX6_drawn_69 : decode cX6_drawn 69 = .ok (.lload 4, 2) := by decide +kernel
theorem dX6_drawn_71 : decode cX6_drawn 71 = .ok (.ldc2_w 243, 3) := by decide +kernel
theorem dX6_drawn_74 : decode cX6_drawn 74 = .ok (.lmul, 1) := by decide +kernel
theorem dX6_drawn_75 : decode cX6_drawn 75 = .ok (.ldc2_w 245, 3) := by decide +kernel
theorem dX6_drawn_78 : decode cX6_drawn 78 = .ok (.lrem, 1) := by decide +kernel
theorem dX6_drawn_79 : decode cX6_drawn 79 = .ok (.lstore 4, 2) := by decide +kernel
theorem dX6_drawn_81 : decode cX6_drawn 81 = .ok (.aload_n 0, 1) := by decide +kernel
theorem dX6_drawn_82 : decode cX6_drawn 82 = .ok (.getfield 25, 3) := by decide +kernel
theorem dX6_drawn_85 : decode cX6_drawn 85 = .ok (.iconst 5, 1) := by decide +kernel
theorem dX6_drawn_86 : decode cX6_drawn 86 = .ok (.iaload, 1) := by decide +kernel
theorem dX6_drawn_87 : decode cX6_drawn 87 = .ok (.ifCond .le 38, 3) := by decide +kernel
theorem dX6_drawn_90 : decode cX6_drawn 90 = .ok (.aload_n 0, 1) := by decide +kernel
theorem dX6_drawn_91 : decode cX6_drawn 91 = .ok (.getfield 25, 3) := by decide +kernel
theorem dX6_drawn_94 : decode cX6_drawn 94 = .ok (.bipush 16, 2) := by decide +kernel
theorem dX6_drawn_96 : decode cX6_drawn 96 = .ok (.bipush 8, 2) := by decide +kernel
theorem dX6_drawn_98 : decode cX6_drawn 98 = .ok (.lload 4, 2) := by decide +kernel
theorem dX6_drawn_100 : decode cX6_drawn 100 = .ok (.aload_n 0, 1) := by decide +kernel
theorem dX6_drawn_101 : decode cX6_drawn 101 = .ok (.getfield 25, 3) := by decide +kernel
theorem dX6_drawn_104 : decode cX6_drawn 104 = .ok (.iconst 5, 1) := by decide +kernel
theorem dX6_drawn_105 : decode cX6_drawn 105 = .ok (.iaload, 1) := by decide +kernel
theorem dX6_drawn_106 : decode cX6_drawn 106 = .ok (.i2l, 1) := by decide +kernel
theorem dX6_drawn_107 : decode cX6_drawn 107 = .ok (.lrem, 1) := by decide +kernel
theorem dX6_drawn_108 : decode cX6_drawn 108 = .ok (.l2i, 1) := by decide +kernel
theorem dX6_drawn_109 : decode cX6_drawn 109 = .ok (.imul, 1) := by decide +kernel
theorem dX6_drawn_110 : decode cX6_drawn 110 = .ok (.iadd, 1) := by decide +kernel
theorem dX6_drawn_111 : decode cX6_drawn 111 = .ok (.iconst 2, 1) := by decide +kernel
theorem dX6_drawn_112 : decode cX6_drawn 112 = .ok (.iadd, 1) := by decide +kernel
theorem dX6_drawn_113 : decode cX6_drawn 113 = .ok (.lload 4, 2) := by decide +kernel
theorem dX6_drawn_115 : decode cX6_drawn 115 = .ok (.aload_n 0, 1) := by decide +kernel
theorem dX6_drawn_116 : decode cX6_drawn 116 = .ok (.getfield 25, 3) := by decide +kernel
theorem dX6_drawn_119 : decode cX6_drawn 119 = .ok (.iconst 0, 1) := by decide +kernel
theorem dX6_drawn_120 : decode cX6_drawn 120 = .ok (.iaload, 1) := by decide +kernel
theorem dX6_drawn_121 : decode cX6_drawn 121 = .ok (.i2l, 1) := by decide +kernel
theorem dX6_drawn_122 : decode cX6_drawn 122 = .ok (.lrem, 1) := by decide +kernel
theorem dX6_drawn_123 : decode cX6_drawn 123 = .ok (.l2i, 1) := by decide +kernel
theorem dX6_drawn_124 : decode cX6_drawn 124 = .ok (.iastore, 1) := by decide +kernel
theorem dX6_drawn_125 : decode cX6_drawn 125 = .ok (.aload_n 0, 1) := by decide +kernel
theorem dX6_drawn_126 : decode cX6_drawn 126 = .ok (.aload_n 0, 1) := by decide +kernel
theorem dX6_drawn_127 : decode cX6_drawn 127 = .ok (.getfield 25, 3) := by decide +kernel
theorem dX6_drawn_130 : decode cX6_drawn 130 = .ok (.iconst 0, 1) := by decide +kernel
theorem dX6_drawn_131 : decode cX6_drawn 131 = .ok (.iconst 0, 1) := by decide +kernel
theorem dX6_drawn_132 : decode cX6_drawn 132 = .ok (.invokevirtual 185, 3) := by decide +kernel
theorem dX6_drawn_135 : decode cX6_drawn 135 = .ok (.iinc 6 1, 3) := by decide +kernel
theorem dX6_drawn_138 : decode cX6_drawn 138 = .ok (.goto (-75), 3) := by decide +kernel
theorem dX6_drawn_141 : decode cX6_drawn 141 = .ok (.iload_n 3, 1) := by decide +kernel
theorem dX6_drawn_142 : decode cX6_drawn 142 = .ok (.ifCond .ne 12, 3) := by decide +kernel
theorem dX6_drawn_145 : decode cX6_drawn 145 = .ok (.aload_n 0, 1) := by decide +kernel
theorem dX6_drawn_146 : decode cX6_drawn 146 = .ok (.getfield 25, 3) := by decide +kernel
theorem dX6_drawn_149 : decode cX6_drawn 149 = .ok (.iconst 1, 1) := by decide +kernel
theorem dX6_drawn_150 : decode cX6_drawn 150 = .ok (.iaload, 1) := by decide +kernel
theorem dX6_drawn_151 : decode cX6_drawn 151 = .ok (.goto 18, 3) := by decide +kernel
theorem dX6_drawn_154 : decode cX6_drawn 154 = .ok (.aload_n 0, 1) := by decide +kernel
theorem dX6_drawn_155 : decode cX6_drawn 155 = .ok (.getfield 25, 3) := by decide +kernel
theorem dX6_drawn_158 : decode cX6_drawn 158 = .ok (.bipush 7, 2) := by decide +kernel
theorem dX6_drawn_160 : decode cX6_drawn 160 = .ok (.iaload, 1) := by decide +kernel
theorem dX6_drawn_161 : decode cX6_drawn 161 = .ok (.aload_n 0, 1) := by decide +kernel
theorem dX6_drawn_162 : decode cX6_drawn 162 = .ok (.getfield 19, 3) := by decide +kernel
theorem dX6_drawn_165 : decode cX6_drawn 165 = .ok (.bipush 7, 2) := by decide +kernel
theorem dX6_drawn_167 : decode cX6_drawn 167 = .ok (.iaload, 1) := by decide +kernel
theorem dX6_drawn_168 : decode cX6_drawn 168 = .ok (.isub, 1) := by decide +kernel
theorem dX6_drawn_169 : decode cX6_drawn 169 = .ok (.ireturn, 1) := by decide +kernel
theorem dX6_image_0 : decode cX6_image 0 = .ok (.aload_n 0, 1) := by decide +kernel
theorem dX6_image_1 : decode cX6_image 1 = .ok (.iconst 0, 1) := by decide +kernel
theorem dX6_image_2 : decode cX6_image 2 = .ok (.putfield 54, 3) := by decide +kernel
theorem dX6_image_5 : decode cX6_image 5 = .ok (.iload_n 1, 1) := by decide +kernel
theorem dX6_image_6 : decode cX6_image 6 = .ok (.i2l, 1) := by decide +kernel
theorem dX6_image_7 : decode cX6_image 7 = .ok (.lconst 0, 1) := by decide +kernel
theorem dX6_image_8 : decode cX6_image 8 = .ok (.lconst 1, 1) := by decide +kernel
theorem dX6_image_9 : decode cX6_image 9 = .ok (.invokestatic 64, 3) := by decide +kernel
theorem dX6_image_12 : decode cX6_image 12 = .ok (.ifCond .ne 6, 3) := by decide +kernel
theorem dX6_image_15 : decode cX6_image 15 = .ok (.ldc 74, 2) := by decide +kernel
theorem dX6_image_17 : decode cX6_image 17 = .ok (.ireturn, 1) := by decide +kernel
theorem dX6_image_18 : decode cX6_image 18 = .ok (.aload_n 0, 1) := by decide +kernel
theorem dX6_image_19 : decode cX6_image 19 = .ok (.invokevirtual 193, 3) := by decide +kernel
theorem dX6_image_22 : decode cX6_image 22 = .ok (.ifCond .ne 6, 3) := by decide +kernel
theorem dX6_image_25 : decode cX6_image 25 = .ok (.ldc 196, 2) := by decide +kernel
theorem dX6_image_27 : decode cX6_image 27 = .ok (.ireturn, 1) := by decide +kernel
theorem dX6_image_28 : decode cX6_image 28 = .ok (.iconst 0, 1) := by decide +kernel
theorem dX6_image_29 : decode cX6_image 29 = .ok (.istore_n 2, 1) := by decide +kernel
theorem dX6_image_30 : decode cX6_image 30 = .ok (.iload_n 2, 1) := by decide +kernel
theorem dX6_image_31 : decode cX6_image 31 = .ok (.bipush 64, 2) := by decide +kernel
theorem dX6_image_33 : decode cX6_image 33 = .ok (.if_icmp .ge 26, 3) := by decide +kernel
theorem dX6_image_36 : decode cX6_image 36 = .ok (.aload_n 0, 1) := by decide +kernel
theorem dX6_image_37 : decode cX6_image 37 = .ok (.getfield 48, 3) := by decide +kernel
theorem dX6_image_40 : decode cX6_image 40 = .ok (.bipush 64, 2) := by decide +kernel
theorem dX6_image_42 : decode cX6_image 42 = .ok (.iload_n 1, 1) := by decide +kernel
theorem dX6_image_43 : decode cX6_image 43 = .ok (.imul, 1) := by decide +kernel
theorem dX6_image_44 : decode cX6_image 44 = .ok (.iload_n 2, 1) := by decide +kernel
theorem dX6_image_45 : decode cX6_image 45 = .ok (.iadd, 1) := by decide +kernel
theorem dX6_image_46 : decode cX6_image 46 = .ok (.aload_n 0, 1) := by decide +kernel
theorem dX6_image_47 : decode cX6_image 47 = .ok (.getfield 19, 3) := by decide +kernel
theorem dX6_image_50 : decode cX6_image 50 = .ok (.iload_n 2, 1) := by decide +kernel
theorem dX6_image_51 : decode cX6_image 51 = .ok (.iaload, 1) := by decide +kernel
theorem dX6_image_52 : decode cX6_image 52 = .ok (.iastore, 1) := by decide +kernel
theorem dX6_image_53 : decode cX6_image 53 = .ok (.iinc 2 1, 3) := by decide +kernel
theorem dX6_image_56 : decode cX6_image 56 = .ok (.goto (-26), 3) := by decide +kernel
theorem dX6_image_59 : decode cX6_image 59 = .ok (.aload_n 0, 1) := by decide +kernel
theorem dX6_image_60 : decode cX6_image 60 = .ok (.getfield 44, 3) := by decide +kernel
theorem dX6_image_63 : decode cX6_image 63 = .ok (.iload_n 1, 1) := by decide +kernel
theorem dX6_image_64 : decode cX6_image 64 = .ok (.iconst 1, 1) := by decide +kernel
theorem dX6_image_65 : decode cX6_image 65 = .ok (.bastore, 1) := by decide +kernel
theorem dX6_image_66 : decode cX6_image 66 = .ok (.iconst 1, 1) := by decide +kernel
theorem dX6_image_67 : decode cX6_image 67 = .ok (.ireturn, 1) := by decide +kernel
theorem dX6_restore_0 : decode cX6_restore 0 = .ok (.aload_n 0, 1) := by decide +kernel
theorem dX6_restore_1 : decode cX6_restore 1 = .ok (.iconst 0, 1) := by decide +kernel
theorem dX6_restore_2 : decode cX6_restore 2 = .ok (.putfield 54, 3) := by decide +kernel
theorem dX6_restore_5 : decode cX6_restore 5 = .ok (.iload_n 1, 1) := by decide +kernel
theorem dX6_restore_6 : decode cX6_restore 6 = .ok (.i2l, 1) := by decide +kernel
theorem dX6_restore_7 : decode cX6_restore 7 = .ok (.lconst 0, 1) := by decide +kernel
theorem dX6_restore_8 : decode cX6_restore 8 = .ok (.lconst 1, 1) := by decide +kernel
theorem dX6_restore_9 : decode cX6_restore 9 = .ok (.invokestatic 64, 3) := by decide +kernel
theorem dX6_restore_12 : decode cX6_restore 12 = .ok (.ifCond .ne 6, 3) := by decide +kernel
theorem dX6_restore_15 : decode cX6_restore 15 = .ok (.ldc 74, 2) := by decide +kernel
theorem dX6_restore_17 : decode cX6_restore 17 = .ok (.ireturn, 1) := by decide +kernel
theorem dX6_restore_18 : decode cX6_restore 18 = .ok (.aload_n 0, 1) := by decide +kernel
theorem dX6_restore_19 : decode cX6_restore 19 = .ok (.getfield 44, 3) := by decide +kernel
theorem dX6_restore_22 : decode cX6_restore 22 = .ok (.iload_n 1, 1) := by decide +kernel
theorem dX6_restore_23 : decode cX6_restore 23 = .ok (.baload, 1) := by decide +kernel
theorem dX6_restore_24 : decode cX6_restore 24 = .ok (.ifCond .ne 6, 3) := by decide +kernel
theorem dX6_restore_27 : decode cX6_restore 27 = .ok (.ldc 196, 2) := by decide +kernel
theorem dX6_restore_29 : decode cX6_restore 29 = .ok (.ireturn, 1) := by decide +kernel
theorem dX6_restore_30 : decode cX6_restore 30 = .ok (.iconst 0, 1) := by decide +kernel
theorem dX6_restore_31 : decode cX6_restore 31 = .ok (.istore_n 2, 1) := by decide +kernel
theorem dX6_restore_32 : decode cX6_restore 32 = .ok (.iload_n 2, 1) := by decide +kernel
theorem dX6_restore_33 : decode cX6_restore 33 = .ok (.bipush 64, 2) := by decide +kernel
theorem dX6_restore_35 : decode cX6_restore 35 = .ok (.if_icmp .ge 26, 3) := by decide +kernel
theorem dX6_restore_38 : decode cX6_restore 38 = .ok (.aload_n 0, 1) := by decide +kernel
theorem dX6_restore_39 : decode cX6_restore 39 = .ok (.getfield 19, 3) := by decide +kernel
theorem dX6_restore_42 : decode cX6_restore 42 = .ok (.iload_n 2, 1) := by decide +kernel
theorem dX6_restore_43 : decode cX6_restore 43 = .ok (.aload_n 0, 1) := by decide +kernel
theorem dX6_restore_44 : decode cX6_restore 44 = .ok (.getfield 48, 3) := by decide +kernel
theorem dX6_restore_47 : decode cX6_restore 47 = .ok (.bipush 64, 2) := by decide +kernel
theorem dX6_restore_49 : decode cX6_restore 49 = .ok (.iload_n 1, 1) := by decide +kernel
theorem dX6_restore_50 : decode cX6_restore 50 = .ok (.imul, 1) := by decide +kernel
theorem dX6_restore_51 : decode cX6_restore 51 = .ok (.iload_n 2, 1) := by decide +kernel
theorem dX6_restore_52 : decode cX6_restore 52 = .ok (.iadd, 1) := by decide +kernel
theorem dX6_restore_53 : decode cX6_restore 53 = .ok (.iaload, 1) := by decide +kernel
theorem dX6_restore_54 : decode cX6_restore 54 = .ok (.iastore, 1) := by decide +kernel
theorem dX6_restore_55 : decode cX6_restore 55 = .ok (.iinc 2 1, 3) := by decide +kernel
theorem dX6_restore_58 : decode cX6_restore 58 = .ok (.goto (-26), 3) := by decide +kernel
theorem dX6_restore_61 : decode cX6_restore 61 = .ok (.aload_n 0, 1) := by decide +kernel
theorem dX6_restore_62 : decode cX6_restore 62 = .ok (.iconst 0, 1) := by decide +kernel
theorem dX6_restore_63 : decode cX6_restore 63 = .ok (.putfield 153, 3) := by decide +kernel
theorem dX6_restore_66 : decode cX6_restore 66 = .ok (.aload_n 0, 1) := by decide +kernel
theorem dX6_restore_67 : decode cX6_restore 67 = .ok (.invokevirtual 156, 3) := by decide +kernel
theorem dX6_restore_70 : decode cX6_restore 70 = .ok (.iconst 1, 1) := by decide +kernel
theorem dX6_restore_71 : decode cX6_restore 71 = .ok (.ireturn, 1) := by decide +kernel
theorem dX6_isOf_0 : decode cX6_isOf 0 = .ok (.iload_n 1, 1) := by decide +kernel
theorem dX6_isOf_1 : decode cX6_isOf 1 = .ok (.ifCond .eq 28, 3) := by decide +kernel
theorem dX6_isOf_4 : decode cX6_isOf 4 = .ok (.iload_n 0, 1) := by decide +kernel
theorem dX6_isOf_5 : decode cX6_isOf 5 = .ok (.iload_n 1, 1) := by decide +kernel
theorem dX6_isOf_6 : decode cX6_isOf 6 = .ok (.if_icmp .eq 23, 3) := by decide +kernel
theorem dX6_isOf_9 : decode cX6_isOf 9 = .ok (.iload_n 1, 1) := by decide +kernel
theorem dX6_isOf_10 : decode cX6_isOf 10 = .ok (.iconst 1, 1) := by decide +kernel
theorem dX6_isOf_11 : decode cX6_isOf 11 = .ok (.if_icmp .ne 8, 3) := by decide +kernel
theorem dX6_isOf_14 : decode cX6_isOf 14 = .ok (.iload_n 0, 1) := by decide +kernel
theorem dX6_isOf_15 : decode cX6_isOf 15 = .ok (.iconst 4, 1) := by decide +kernel
theorem dX6_isOf_16 : decode cX6_isOf 16 = .ok (.if_icmp .lt 13, 3) := by decide +kernel
theorem dX6_isOf_19 : decode cX6_isOf 19 = .ok (.iload_n 1, 1) := by decide +kernel
theorem dX6_isOf_20 : decode cX6_isOf 20 = .ok (.iconst 4, 1) := by decide +kernel
theorem dX6_isOf_21 : decode cX6_isOf 21 = .ok (.if_icmp .ne 12, 3) := by decide +kernel
theorem dX6_isOf_24 : decode cX6_isOf 24 = .ok (.iload_n 0, 1) := by decide +kernel
theorem dX6_isOf_25 : decode cX6_isOf 25 = .ok (.iconst 5, 1) := by decide +kernel
theorem dX6_isOf_26 : decode cX6_isOf 26 = .ok (.if_icmp .ne 7, 3) := by decide +kernel
theorem dX6_isOf_29 : decode cX6_isOf 29 = .ok (.iconst 1, 1) := by decide +kernel
theorem dX6_isOf_30 : decode cX6_isOf 30 = .ok (.goto 4, 3) := by decide +kernel
theorem dX6_isOf_33 : decode cX6_isOf 33 = .ok (.iconst 0, 1) := by decide +kernel
theorem dX6_isOf_34 : decode cX6_isOf 34 = .ok (.ireturn, 1) := by decide +kernel
theorem dX6_kind_0 : decode cX6_kind 0 = .ok (.aload_n 0, 1) := by decide +kernel
theorem dX6_kind_1 : decode cX6_kind 1 = .ok (.iconst 0, 1) := by decide +kernel
theorem dX6_kind_2 : decode cX6_kind 2 = .ok (.putfield 54, 3) := by decide +kernel
theorem dX6_kind_5 : decode cX6_kind 5 = .ok (.aload_n 0, 1) := by decide +kernel
theorem dX6_kind_6 : decode cX6_kind 6 = .ok (.iload_n 1, 1) := by decide +kernel
theorem dX6_kind_7 : decode cX6_kind 7 = .ok (.invokevirtual 202, 3) := by decide +kernel
theorem dX6_kind_10 : decode cX6_kind 10 = .ok (.ifCond .eq 15, 3) := by decide +kernel
theorem dX6_kind_13 : decode cX6_kind 13 = .ok (.aload_n 0, 1) := by decide +kernel
theorem dX6_kind_14 : decode cX6_kind 14 = .ok (.getfield 19, 3) := by decide +kernel
theorem dX6_kind_17 : decode cX6_kind 17 = .ok (.iload_n 1, 1) := by decide +kernel
theorem dX6_kind_18 : decode cX6_kind 18 = .ok (.iconst 0, 1) := by decide +kernel
theorem dX6_kind_19 : decode cX6_kind 19 = .ok (.invokestatic 159, 3) := by decide +kernel
theorem dX6_kind_22 : decode cX6_kind 22 = .ok (.goto 5, 3) := by decide +kernel
theorem dX6_kind_25 : decode cX6_kind 25 = .ok (.ldc 74, 2) := by decide +kernel
theorem dX6_kind_27 : decode cX6_kind 27 = .ok (.ireturn, 1) := by decide +kernel
theorem dX6_as_0 : decode cX6_as 0 = .ok (.aload_n 0, 1) := by decide +kernel
theorem dX6_as_1 : decode cX6_as 1 = .ok (.iconst 0, 1) := by decide +kernel
theorem dX6_as_2 : decode cX6_as 2 = .ok (.putfield 54, 3) := by decide +kernel
theorem dX6_as_5 : decode cX6_as 5 = .ok (.aload_n 0, 1) := by decide +kernel
theorem dX6_as_6 : decode cX6_as 6 = .ok (.iload_n 1, 1) := by decide +kernel
theorem dX6_as_7 : decode cX6_as 7 = .ok (.invokevirtual 202, 3) := by decide +kernel
theorem dX6_as_10 : decode cX6_as 10 = .ok (.ifCond .eq 15, 3) := by decide +kernel
theorem dX6_as_13 : decode cX6_as 13 = .ok (.iload_n 2, 1) := by decide +kernel
theorem dX6_as_14 : decode cX6_as 14 = .ok (.i2l, 1) := by decide +kernel
theorem dX6_as_15 : decode cX6_as 15 = .ok (.lconst 0, 1) := by decide +kernel
theorem dX6_as_16 : decode cX6_as 16 = .ok (.ldc2_w 247, 3) := by decide +kernel
theorem dX6_as_19 : decode cX6_as 19 = .ok (.invokestatic 64, 3) := by decide +kernel
theorem dX6_as_22 : decode cX6_as 22 = .ok (.ifCond .ne 6, 3) := by decide +kernel
theorem dX6_as_25 : decode cX6_as 25 = .ok (.ldc 74, 2) := by decide +kernel
theorem dX6_as_27 : decode cX6_as 27 = .ok (.ireturn, 1) := by decide +kernel
theorem dX6_as_28 : decode cX6_as 28 = .ok (.aload_n 0, 1) := by decide +kernel
theorem dX6_as_29 : decode cX6_as 29 = .ok (.iconst 0, 1) := by decide +kernel
theorem dX6_as_30 : decode cX6_as 30 = .ok (.putfield 58, 3) := by decide +kernel
theorem dX6_as_33 : decode cX6_as 33 = .ok (.aload_n 0, 1) := by decide +kernel
theorem dX6_as_34 : decode cX6_as 34 = .ok (.getfield 19, 3) := by decide +kernel
theorem dX6_as_37 : decode cX6_as 37 = .ok (.iload_n 1, 1) := by decide +kernel
theorem dX6_as_38 : decode cX6_as 38 = .ok (.iconst 0, 1) := by decide +kernel
theorem dX6_as_39 : decode cX6_as 39 = .ok (.invokestatic 159, 3) := by decide +kernel
theorem dX6_as_42 : decode cX6_as 42 = .ok (.iload_n 2, 1) := by decide +kernel
theorem dX6_as_43 : decode cX6_as 43 = .ok (.invokestatic 249, 3) := by decide +kernel
theorem dX6_as_46 : decode cX6_as 46 = .ok (.ifCond .eq 7, 3) := by decide +kernel
theorem dX6_as_49 : decode cX6_as 49 = .ok (.iload_n 1, 1) := by decide +kernel
theorem dX6_as_50 : decode cX6_as 50 = .ok (.goto 8, 3) := by decide +kernel
theorem dX6_as_53 : decode cX6_as 53 = .ok (.aload_n 0, 1) := by decide +kernel
theorem dX6_as_54 : decode cX6_as 54 = .ok (.iconst 3, 1) := by decide +kernel
theorem dX6_as_55 : decode cX6_as 55 = .ok (.invokevirtual 75, 3) := by decide +kernel
theorem dX6_as_58 : decode cX6_as 58 = .ok (.ireturn, 1) := by decide +kernel
theorem dX6_began_0 : decode cX6_began 0 = .ok (.aload_n 0, 1) := by decide +kernel
theorem dX6_began_1 : decode cX6_began 1 = .ok (.getfield 252, 3) := by decide +kernel
theorem dX6_began_4 : decode cX6_began 4 = .ok (.bipush 16, 2) := by decide +kernel
theorem dX6_began_6 : decode cX6_began 6 = .ok (.if_icmp .ge 23, 3) := by decide +kernel
theorem dX6_began_9 : decode cX6_began 9 = .ok (.aload_n 0, 1) := by decide +kernel
theorem dX6_began_10 : decode cX6_began 10 = .ok (.getfield 51, 3) := by decide +kernel
theorem dX6_began_13 : decode cX6_began 13 = .ok (.aload_n 0, 1) := by decide +kernel
theorem dX6_began_14 : decode cX6_began 14 = .ok (.getfield 252, 3) := by decide +kernel
theorem dX6_began_17 : decode cX6_began 17 = .ok (.iload_n 1, 1) := by decide +kernel
theorem dX6_began_18 : decode cX6_began 18 = .ok (.iastore, 1) := by decide +kernel
theorem dX6_began_19 : decode cX6_began 19 = .ok (.aload_n 0, 1) := by decide +kernel
theorem dX6_began_20 : decode cX6_began 20 = .ok (.dup, 1) := by decide +kernel
theorem dX6_began_21 : decode cX6_began 21 = .ok (.getfield 252, 3) := by decide +kernel
theorem dX6_began_24 : decode cX6_began 24 = .ok (.iconst 1, 1) := by decide +kernel
theorem dX6_began_25 : decode cX6_began 25 = .ok (.iadd, 1) := by decide +kernel
theorem dX6_began_26 : decode cX6_began 26 = .ok (.putfield 252, 3) := by decide +kernel
theorem dX6_began_29 : decode cX6_began 29 = .ok (.return_, 1) := by decide +kernel
theorem dX6_plainSize_0 : decode cX6_plainSize 0 = .ok (.aload_n 0, 1) := by decide +kernel
theorem dX6_plainSize_1 : decode cX6_plainSize 1 = .ok (.bipush 10, 2) := by decide +kernel
theorem dX6_plainSize_3 : decode cX6_plainSize 3 = .ok (.invokevirtual 255, 3) := by decide +kernel
theorem dX6_plainSize_6 : decode cX6_plainSize 6 = .ok (.aload_n 0, 1) := by decide +kernel
theorem dX6_plainSize_7 : decode cX6_plainSize 7 = .ok (.getfield 19, 3) := by decide +kernel
theorem dX6_plainSize_10 : decode cX6_plainSize 10 = .ok (.iload_n 1, 1) := by decide +kernel
theorem dX6_plainSize_11 : decode cX6_plainSize 11 = .ok (.iconst 3, 1) := by decide +kernel
theorem dX6_plainSize_12 : decode cX6_plainSize 12 = .ok (.invokestatic 159, 3) := by decide +kernel
theorem dX6_plainSize_15 : decode cX6_plainSize 15 = .ok (.ireturn, 1) := by decide +kernel
theorem dX6_childSize_0 : decode cX6_childSize 0 = .ok (.aload_n 0, 1) := by decide +kernel
theorem dX6_childSize_1 : decode cX6_childSize 1 = .ok (.getfield 19, 3) := by decide +kernel
theorem dX6_childSize_4 : decode cX6_childSize 4 = .ok (.iload_n 1, 1) := by decide +kernel
theorem dX6_childSize_5 : decode cX6_childSize 5 = .ok (.iconst 0, 1) := by decide +kernel
theorem dX6_childSize_6 : decode cX6_childSize 6 = .ok (.invokestatic 159, 3) := by decide +kernel
theorem dX6_childSize_9 : decode cX6_childSize 9 = .ok (.iconst 5, 1) := by decide +kernel
theorem dX6_childSize_10 : decode cX6_childSize 10 = .ok (.if_icmp .ne 7, 3) := by decide +kernel
theorem dX6_childSize_13 : decode cX6_childSize 13 = .ok (.iconst 1, 1) := by decide +kernel
theorem dX6_childSize_14 : decode cX6_childSize 14 = .ok (.goto 4, 3) := by decide +kernel
theorem dX6_childSize_17 : decode cX6_childSize 17 = .ok (.iconst 0, 1) := by decide +kernel
theorem dX6_childSize_18 : decode cX6_childSize 18 = .ok (.istore_n 2, 1) := by decide +kernel
theorem dX6_childSize_19 : decode cX6_childSize 19 = .ok (.iload_n 2, 1) := by decide +kernel
theorem dX6_childSize_20 : decode cX6_childSize 20 = .ok (.ifCond .eq 9, 3) := by decide +kernel
theorem dX6_childSize_23 : decode cX6_childSize 23 = .ok (.aload_n 0, 1) := by decide +kernel
theorem dX6_childSize_24 : decode cX6_childSize 24 = .ok (.bipush 14, 2) := by decide +kernel
theorem dX6_childSize_26 : decode cX6_childSize 26 = .ok (.invokevirtual 255, 3) := by decide +kernel
theorem dX6_childSize_29 : decode cX6_childSize 29 = .ok (.aload_n 0, 1) := by decide +kernel
theorem dX6_childSize_30 : decode cX6_childSize 30 = .ok (.bipush 13, 2) := by decide +kernel
theorem dX6_childSize_32 : decode cX6_childSize 32 = .ok (.invokevirtual 255, 3) := by decide +kernel
theorem dX6_childSize_35 : decode cX6_childSize 35 = .ok (.aload_n 0, 1) := by decide +kernel
theorem dX6_childSize_36 : decode cX6_childSize 36 = .ok (.iload_n 1, 1) := by decide +kernel
theorem dX6_childSize_37 : decode cX6_childSize 37 = .ok (.invokevirtual 258, 3) := by decide +kernel
theorem dX6_childSize_40 : decode cX6_childSize 40 = .ok (.bipush 100, 2) := by decide +kernel
theorem dX6_childSize_42 : decode cX6_childSize 42 = .ok (.isub, 1) := by decide +kernel
theorem dX6_childSize_43 : decode cX6_childSize 43 = .ok (.istore_n 3, 1) := by decide +kernel
theorem dX6_childSize_44 : decode cX6_childSize 44 = .ok (.iload_n 2, 1) := by decide +kernel
theorem dX6_childSize_45 : decode cX6_childSize 45 = .ok (.ifCond .eq 9, 3) := by decide +kernel
theorem dX6_childSize_48 : decode cX6_childSize 48 = .ok (.iconst 2, 1) := by decide +kernel
theorem dX6_childSize_49 : decode cX6_childSize 49 = .ok (.iload_n 3, 1) := by decide +kernel
theorem dX6_childSize_50 : decode cX6_childSize 50 = .ok (.imul, 1) := by decide +kernel
theorem dX6_childSize_51 : decode cX6_childSize 51 = .ok (.goto 4, 3) := by decide +kernel
theorem dX6_childSize_54 : decode cX6_childSize 54 = .ok (.iload_n 3, 1) := by decide +kernel
theorem dX6_childSize_55 : decode cX6_childSize 55 = .ok (.ireturn, 1) := by decide +kernel
theorem dX6_markOf_0 : decode cX6_markOf 0 = .ok (.aload_n 0, 1) := by decide +kernel
theorem dX6_markOf_1 : decode cX6_markOf 1 = .ok (.getfield 19, 3) := by decide +kernel
theorem dX6_markOf_4 : decode cX6_markOf 4 = .ok (.iload_n 1, 1) := by decide +kernel
theorem dX6_markOf_5 : decode cX6_markOf 5 = .ok (.iconst 0, 1) := by decide +kernel
theorem dX6_markOf_6 : decode cX6_markOf 6 = .ok (.invokestatic 159, 3) := by decide +kernel
theorem dX6_markOf_9 : decode cX6_markOf 9 = .ok (.istore_n 2, 1) := by decide +kernel
theorem dX6_markOf_10 : decode cX6_markOf 10 = .ok (.iload_n 2, 1) := by decide +kernel
theorem dX6_markOf_11 : decode cX6_markOf 11 = .ok (.iconst 4, 1) := by decide +kernel
theorem dX6_markOf_12 : decode cX6_markOf 12 = .ok (.if_icmp .lt 23, 3) := by decide +kernel
theorem dX6_markOf_15 : decode cX6_markOf 15 = .ok (.aload_n 0, 1) := by decide +kernel
theorem dX6_markOf_16 : decode cX6_markOf 16 = .ok (.bipush 23, 2) := by decide +kernel
theorem dX6_markOf_18 : decode cX6_markOf 18 = .ok (.invokevirtual 255, 3) := by decide +kernel
theorem dX6_markOf_21 : decode cX6_markOf 21 = .ok (.aload_n 0, 1) := by decide +kernel
theorem dX6_markOf_22 : decode cX6_markOf 22 = .ok (.bipush 20, 2) := by decide +kernel
theorem dX6_markOf_24 : decode cX6_markOf 24 = .ok (.invokevirtual 255, 3) := by decide +kernel
theorem dX6_markOf_27 : decode cX6_markOf 27 = .ok (.iload_n 1, 1) := by decide +kernel
theorem dX6_markOf_28 : decode cX6_markOf 28 = .ok (.aload_n 0, 1) := by decide +kernel
theorem dX6_markOf_29 : decode cX6_markOf 29 = .ok (.iload_n 1, 1) := by decide +kernel
theorem dX6_markOf_30 : decode cX6_markOf 30 = .ok (.invokevirtual 261, 3) := by decide +kernel
theorem dX6_markOf_33 : decode cX6_markOf 33 = .ok (.isub, 1) := by decide +kernel
theorem dX6_markOf_34 : decode cX6_markOf 34 = .ok (.ireturn, 1) := by decide +kernel
theorem dX6_markOf_35 : decode cX6_markOf 35 = .ok (.iload_n 2, 1) := by decide +kernel
theorem dX6_markOf_36 : decode cX6_markOf 36 = .ok (.iconst 1, 1) := by decide +kernel
theorem dX6_markOf_37 : decode cX6_markOf 37 = .ok (.if_icmp .eq 19, 3) := by decide +kernel
theorem dX6_markOf_40 : decode cX6_markOf 40 = .ok (.aload_n 0, 1) := by decide +kernel
theorem dX6_markOf_41 : decode cX6_markOf 41 = .ok (.iload_n 2, 1) := by decide +kernel
theorem dX6_markOf_42 : decode cX6_markOf 42 = .ok (.iconst 3, 1) := by decide +kernel
theorem dX6_markOf_43 : decode cX6_markOf 43 = .ok (.if_icmp .ne 8, 3) := by decide +kernel
theorem dX6_markOf_46 : decode cX6_markOf 46 = .ok (.bipush 22, 2) := by decide +kernel
theorem dX6_markOf_48 : decode cX6_markOf 48 = .ok (.goto 5, 3) := by decide +kernel
theorem dX6_markOf_51 : decode cX6_markOf 51 = .ok (.bipush 24, 2) := by decide +kernel
theorem dX6_markOf_53 : decode cX6_markOf 53 = .ok (.invokevirtual 255, 3) := by decide +kernel
theorem dX6_markOf_56 : decode cX6_markOf 56 = .ok (.aload_n 0, 1) := by decide +kernel
theorem dX6_markOf_57 : decode cX6_markOf 57 = .ok (.bipush 21, 2) := by decide +kernel
theorem dX6_markOf_59 : decode cX6_markOf 59 = .ok (.invokevirtual 255, 3) := by decide +kernel
theorem dX6_markOf_62 : decode cX6_markOf 62 = .ok (.aload_n 0, 1) := by decide +kernel
theorem dX6_markOf_63 : decode cX6_markOf 63 = .ok (.bipush 20, 2) := by decide +kernel
theorem dX6_markOf_65 : decode cX6_markOf 65 = .ok (.invokevirtual 255, 3) := by decide +kernel
theorem dX6_markOf_68 : decode cX6_markOf 68 = .ok (.iload_n 1, 1) := by decide +kernel
theorem dX6_markOf_69 : decode cX6_markOf 69 = .ok (.aload_n 0, 1) := by decide +kernel
theorem dX6_markOf_70 : decode cX6_markOf 70 = .ok (.getfield 19, 3) := by decide +kernel
theorem dX6_markOf_73 : decode cX6_markOf 73 = .ok (.iload_n 1, 1) := by decide +kernel
theorem dX6_markOf_74 : decode cX6_markOf 74 = .ok (.bipush 6, 2) := by decide +kernel
theorem dX6_markOf_76 : decode cX6_markOf 76 = .ok (.invokestatic 159, 3) := by decide +kernel
theorem dX6_markOf_79 : decode cX6_markOf 79 = .ok (.iadd, 1) := by decide +kernel
theorem dX6_markOf_80 : decode cX6_markOf 80 = .ok (.istore_n 3, 1) := by decide +kernel
theorem dX6_markOf_81 : decode cX6_markOf 81 = .ok (.iload_n 2, 1) := by decide +kernel
theorem dX6_markOf_82 : decode cX6_markOf 82 = .ok (.iconst 1, 1) := by decide +kernel
theorem dX6_markOf_83 : decode cX6_markOf 83 = .ok (.if_icmp .ne 7, 3) := by decide +kernel
theorem dX6_markOf_86 : decode cX6_markOf 86 = .ok (.iload_n 3, 1) := by decide +kernel
theorem dX6_markOf_87 : decode cX6_markOf 87 = .ok (.goto 19, 3) := by decide +kernel
theorem dX6_markOf_90 : decode cX6_markOf 90 = .ok (.iload_n 2, 1) := by decide +kernel
theorem dX6_markOf_91 : decode cX6_markOf 91 = .ok (.iconst 3, 1) := by decide +kernel
theorem dX6_markOf_92 : decode cX6_markOf 92 = .ok (.if_icmp .ne 11, 3) := by decide +kernel
theorem dX6_markOf_95 : decode cX6_markOf 95 = .ok (.iload_n 3, 1) := by decide +kernel
theorem dX6_markOf_96 : decode cX6_markOf 96 = .ok (.sipush 1000, 3) := by decide +kernel
theorem dX6_markOf_99 : decode cX6_markOf 99 = .ok (.isub, 1) := by decide +kernel
theorem dX6_markOf_100 : decode cX6_markOf 100 = .ok (.goto 6, 3) := by decide +kernel
theorem dX6_markOf_103 : decode cX6_markOf 103 = .ok (.iconst 2, 1) := by decide +kernel
theorem dX6_markOf_104 : decode cX6_markOf 104 = .ok (.iload_n 3, 1) := by decide +kernel
theorem dX6_markOf_105 : decode cX6_markOf 105 = .ok (.imul, 1) := by decide +kernel
theorem dX6_markOf_106 : decode cX6_markOf 106 = .ok (.ireturn, 1) := by decide +kernel
theorem dX6_sizeOf_0 : decode cX6_sizeOf 0 = .ok (.aload_n 0, 1) := by decide +kernel
theorem dX6_sizeOf_1 : decode cX6_sizeOf 1 = .ok (.getfield 19, 3) := by decide +kernel
theorem dX6_sizeOf_4 : decode cX6_sizeOf 4 = .ok (.iload_n 1, 1) := by decide +kernel
theorem dX6_sizeOf_5 : decode cX6_sizeOf 5 = .ok (.iconst 0, 1) := by decide +kernel
theorem dX6_sizeOf_6 : decode cX6_sizeOf 6 = .ok (.invokestatic 159, 3) := by decide +kernel
theorem dX6_sizeOf_9 : decode cX6_sizeOf 9 = .ok (.istore_n 2, 1) := by decide +kernel
theorem dX6_sizeOf_10 : decode cX6_sizeOf 10 = .ok (.iload_n 2, 1) := by decide +kernel
theorem dX6_sizeOf_11 : decode cX6_sizeOf 11 = .ok (.iconst 4, 1) := by decide +kernel
theorem dX6_sizeOf_12 : decode cX6_sizeOf 12 = .ok (.if_icmp .lt 9, 3) := by decide +kernel
theorem dX6_sizeOf_15 : decode cX6_sizeOf 15 = .ok (.aload_n 0, 1) := by decide +kernel
theorem dX6_sizeOf_16 : decode cX6_sizeOf 16 = .ok (.iload_n 1, 1) := by decide +kernel
theorem dX6_sizeOf_17 : decode cX6_sizeOf 17 = .ok (.invokevirtual 261, 3) := by decide +kernel
theorem dX6_sizeOf_20 : decode cX6_sizeOf 20 = .ok (.ireturn, 1) := by decide +kernel
theorem dX6_sizeOf_21 : decode cX6_sizeOf 21 = .ok (.iload_n 2, 1) := by decide +kernel
theorem dX6_sizeOf_22 : decode cX6_sizeOf 22 = .ok (.iconst 2, 1) := by decide +kernel
theorem dX6_sizeOf_23 : decode cX6_sizeOf 23 = .ok (.if_icmp .ne 9, 3) := by decide +kernel
theorem dX6_sizeOf_26 : decode cX6_sizeOf 26 = .ok (.aload_n 0, 1) := by decide +kernel
theorem dX6_sizeOf_27 : decode cX6_sizeOf 27 = .ok (.bipush 12, 2) := by decide +kernel
theorem dX6_sizeOf_29 : decode cX6_sizeOf 29 = .ok (.invokevirtual 255, 3) := by decide +kernel
theorem dX6_sizeOf_32 : decode cX6_sizeOf 32 = .ok (.aload_n 0, 1) := by decide +kernel
theorem dX6_sizeOf_33 : decode cX6_sizeOf 33 = .ok (.bipush 11, 2) := by decide +kernel
theorem dX6_sizeOf_35 : decode cX6_sizeOf 35 = .ok (.invokevirtual 255, 3) := by decide +kernel
theorem dX6_sizeOf_38 : decode cX6_sizeOf 38 = .ok (.aload_n 0, 1) := by decide +kernel
theorem dX6_sizeOf_39 : decode cX6_sizeOf 39 = .ok (.iload_n 1, 1) := by decide +kernel
theorem dX6_sizeOf_40 : decode cX6_sizeOf 40 = .ok (.invokevirtual 258, 3) := by decide +kernel
theorem dX6_sizeOf_43 : decode cX6_sizeOf 43 = .ok (.istore_n 3, 1) := by decide +kernel
theorem dX6_sizeOf_44 : decode cX6_sizeOf 44 = .ok (.iload_n 3, 1) := by decide +kernel
theorem dX6_sizeOf_45 : decode cX6_sizeOf 45 = .ok (.aload_n 0, 1) := by decide +kernel
theorem dX6_sizeOf_46 : decode cX6_sizeOf 46 = .ok (.iload_n 1, 1) := by decide +kernel
theorem dX6_sizeOf_47 : decode cX6_sizeOf 47 = .ok (.invokevirtual 264, 3) := by decide +kernel
theorem dX6_sizeOf_50 : decode cX6_sizeOf 50 = .ok (.iadd, 1) := by decide +kernel
theorem dX6_sizeOf_51 : decode cX6_sizeOf 51 = .ok (.istore_n 3, 1) := by decide +kernel
theorem dX6_sizeOf_52 : decode cX6_sizeOf 52 = .ok (.iload_n 2, 1) := by decide +kernel
theorem dX6_sizeOf_53 : decode cX6_sizeOf 53 = .ok (.iconst 2, 1) := by decide +kernel
theorem dX6_sizeOf_54 : decode cX6_sizeOf 54 = .ok (.if_icmp .ne 8, 3) := by decide +kernel
theorem dX6_sizeOf_57 : decode cX6_sizeOf 57 = .ok (.iload_n 3, 1) := by decide +kernel
theorem dX6_sizeOf_58 : decode cX6_sizeOf 58 = .ok (.ineg, 1) := by decide +kernel
theorem dX6_sizeOf_59 : decode cX6_sizeOf 59 = .ok (.goto 4, 3) := by decide +kernel
theorem dX6_sizeOf_62 : decode cX6_sizeOf 62 = .ok (.iload_n 3, 1) := by decide +kernel
theorem dX6_sizeOf_63 : decode cX6_sizeOf 63 = .ok (.ireturn, 1) := by decide +kernel
theorem dX6_ask_0 : decode cX6_ask 0 = .ok (.aload_n 0, 1) := by decide +kernel
theorem dX6_ask_1 : decode cX6_ask 1 = .ok (.iconst 0, 1) := by decide +kernel
theorem dX6_ask_2 : decode cX6_ask 2 = .ok (.putfield 54, 3) := by decide +kernel
theorem dX6_ask_5 : decode cX6_ask 5 = .ok (.aload_n 0, 1) := by decide +kernel
theorem dX6_ask_6 : decode cX6_ask 6 = .ok (.iload_n 1, 1) := by decide +kernel
theorem dX6_ask_7 : decode cX6_ask 7 = .ok (.invokevirtual 202, 3) := by decide +kernel
theorem dX6_ask_10 : decode cX6_ask 10 = .ok (.ifCond .eq 13, 3) := by decide +kernel
theorem dX6_ask_13 : decode cX6_ask 13 = .ok (.iload_n 2, 1) := by decide +kernel
theorem dX6_ask_14 : decode cX6_ask 14 = .ok (.i2l, 1) := by decide +kernel
theorem dX6_ask_15 : decode cX6_ask 15 = .ok (.lconst 0, 1) := by decide +kernel
theorem dX6_ask_16 : decode cX6_ask 16 = .ok (.lconst 1, 1) := by decide +kernel
theorem dX6_ask_17 : decode cX6_ask 17 = .ok (.invokestatic 64, 3) := by decide +kernel
theorem dX6_ask_20 : decode cX6_ask 20 = .ok (.ifCond .ne 6, 3) := by decide +kernel
theorem dX6_ask_23 : decode cX6_ask 23 = .ok (.ldc 74, 2) := by decide +kernel
theorem dX6_ask_25 : decode cX6_ask 25 = .ok (.ireturn, 1) := by decide +kernel
theorem dX6_ask_26 : decode cX6_ask 26 = .ok (.aload_n 0, 1) := by decide +kernel
theorem dX6_ask_27 : decode cX6_ask 27 = .ok (.iconst 0, 1) := by decide +kernel
theorem dX6_ask_28 : decode cX6_ask 28 = .ok (.putfield 252, 3) := by decide +kernel
theorem dX6_ask_31 : decode cX6_ask 31 = .ok (.iload_n 2, 1) := by decide +kernel
theorem dX6_ask_32 : decode cX6_ask 32 = .ok (.ifCond .ne 11, 3) := by decide +kernel
theorem dX6_ask_35 : decode cX6_ask 35 = .ok (.aload_n 0, 1) := by decide +kernel
theorem dX6_ask_36 : decode cX6_ask 36 = .ok (.iload_n 1, 1) := by decide +kernel
theorem dX6_ask_37 : decode cX6_ask 37 = .ok (.invokevirtual 267, 3) := by decide +kernel
theorem dX6_ask_40 : decode cX6_ask 40 = .ok (.goto 8, 3) := by decide +kernel
theorem dX6_ask_43 : decode cX6_ask 43 = .ok (.aload_n 0, 1) := by decide +kernel
theorem dX6_ask_44 : decode cX6_ask 44 = .ok (.iload_n 1, 1) := by decide +kernel
theorem dX6_ask_45 : decode cX6_ask 45 = .ok (.invokevirtual 264, 3) := by decide +kernel
theorem dX6_ask_48 : decode cX6_ask 48 = .ok (.ireturn, 1) := by decide +kernel
theorem dX6_trace_0 : decode cX6_trace 0 = .ok (.aload_n 0, 1) := by decide +kernel
theorem dX6_trace_1 : decode cX6_trace 1 = .ok (.iconst 0, 1) := by decide +kernel
theorem dX6_trace_2 : decode cX6_trace 2 = .ok (.putfield 54, 3) := by decide +kernel
theorem dX6_trace_5 : decode cX6_trace 5 = .ok (.iload_n 1, 1) := by decide +kernel
theorem dX6_trace_6 : decode cX6_trace 6 = .ok (.i2l, 1) := by decide +kernel
theorem dX6_trace_7 : decode cX6_trace 7 = .ok (.lconst 0, 1) := by decide +kernel
theorem dX6_trace_8 : decode cX6_trace 8 = .ok (.aload_n 0, 1) := by decide +kernel
theorem dX6_trace_9 : decode cX6_trace 9 = .ok (.getfield 252, 3) := by decide +kernel
theorem dX6_trace_12 : decode cX6_trace 12 = .ok (.iconst 1, 1) := by decide +kernel
theorem dX6_trace_13 : decode cX6_trace 13 = .ok (.isub, 1) := by decide +kernel
theorem dX6_trace_14 : decode cX6_trace 14 = .ok (.i2l, 1) := by decide +kernel
theorem dX6_trace_15 : decode cX6_trace 15 = .ok (.invokestatic 64, 3) := by decide +kernel
theorem dX6_trace_18 : decode cX6_trace 18 = .ok (.ifCond .eq 12, 3) := by decide +kernel
theorem dX6_trace_21 : decode cX6_trace 21 = .ok (.aload_n 0, 1) := by decide +kernel
theorem dX6_trace_22 : decode cX6_trace 22 = .ok (.getfield 51, 3) := by decide +kernel
theorem dX6_trace_25 : decode cX6_trace 25 = .ok (.iload_n 1, 1) := by decide +kernel
theorem dX6_trace_26 : decode cX6_trace 26 = .ok (.iaload, 1) := by decide +kernel
theorem dX6_trace_27 : decode cX6_trace 27 = .ok (.goto 5, 3) := by decide +kernel
theorem dX6_trace_30 : decode cX6_trace 30 = .ok (.ldc 97, 2) := by decide +kernel
theorem dX6_trace_32 : decode cX6_trace 32 = .ok (.ireturn, 1) := by decide +kernel
theorem dX6_count_0 : decode cX6_count 0 = .ok (.aload_n 0, 1) := by decide +kernel
theorem dX6_count_1 : decode cX6_count 1 = .ok (.iconst 0, 1) := by decide +kernel
theorem dX6_count_2 : decode cX6_count 2 = .ok (.putfield 54, 3) := by decide +kernel
theorem dX6_count_5 : decode cX6_count 5 = .ok (.iconst 0, 1) := by decide +kernel
theorem dX6_count_6 : decode cX6_count 6 = .ok (.istore_n 2, 1) := by decide +kernel
theorem dX6_count_7 : decode cX6_count 7 = .ok (.iload_n 1, 1) := by decide +kernel
theorem dX6_count_8 : decode cX6_count 8 = .ok (.tableswitch 162 0 9 #[56, 89, 96, 103, 110, 118, 136, 144, 152, 157], 56) := by decide +kernel
theorem dX6_count_64 : decode cX6_count 64 = .ok (.iconst 0, 1) := by decide +kernel
theorem dX6_count_65 : decode cX6_count 65 = .ok (.istore_n 3, 1) := by decide +kernel
theorem dX6_count_66 : decode cX6_count 66 = .ok (.iload_n 3, 1) := by decide +kernel
theorem dX6_count_67 : decode cX6_count 67 = .ok (.bipush 8, 2) := by decide +kernel
theorem dX6_count_69 : decode cX6_count 69 = .ok (.if_icmp .ge 26, 3) := by decide +kernel
theorem dX6_count_72 : decode cX6_count 72 = .ok (.iload_n 2, 1) := by decide +kernel
theorem dX6_count_73 : decode cX6_count 73 = .ok (.aload_n 0, 1) := by decide +kernel
theorem dX6_count_74 : decode cX6_count 74 = .ok (.getfield 7, 3) := by decide +kernel
theorem dX6_count_77 : decode cX6_count 77 = .ok (.iload_n 3, 1) := by decide +kernel
theorem dX6_count_78 : decode cX6_count 78 = .ok (.iaload, 1) := by decide +kernel
theorem dX6_count_79 : decode cX6_count 79 = .ok (.ifCond .lt 7, 3) := by decide +kernel
theorem dX6_count_82 : decode cX6_count 82 = .ok (.iconst 1, 1) := by decide +kernel
theorem dX6_count_83 : decode cX6_count 83 = .ok (.goto 4, 3) := by decide +kernel
theorem dX6_count_86 : decode cX6_count 86 = .ok (.iconst 0, 1) := by decide +kernel
theorem dX6_count_87 : decode cX6_count 87 = .ok (.iadd, 1) := by decide +kernel
theorem dX6_count_88 : decode cX6_count 88 = .ok (.istore_n 2, 1) := by decide +kernel
theorem dX6_count_89 : decode cX6_count 89 = .ok (.iinc 3 1, 3) := by decide +kernel
theorem dX6_count_92 : decode cX6_count 92 = .ok (.goto (-26), 3) := by decide +kernel
theorem dX6_count_95 : decode cX6_count 95 = .ok (.iload_n 2, 1) := by decide +kernel
theorem dX6_count_96 : decode cX6_count 96 = .ok (.ireturn, 1) := by decide +kernel
theorem dX6_count_97 : decode cX6_count 97 = .ok (.aload_n 0, 1) := by decide +kernel
theorem dX6_count_98 : decode cX6_count 98 = .ok (.getfield 19, 3) := by decide +kernel
theorem dX6_count_101 : decode cX6_count 101 = .ok (.iconst 0, 1) := by decide +kernel
theorem dX6_count_102 : decode cX6_count 102 = .ok (.iaload, 1) := by decide +kernel
theorem dX6_count_103 : decode cX6_count 103 = .ok (.ireturn, 1) := by decide +kernel
theorem dX6_count_104 : decode cX6_count 104 = .ok (.aload_n 0, 1) := by decide +kernel
theorem dX6_count_105 : decode cX6_count 105 = .ok (.getfield 19, 3) := by decide +kernel
theorem dX6_count_108 : decode cX6_count 108 = .ok (.iconst 4, 1) := by decide +kernel
theorem dX6_count_109 : decode cX6_count 109 = .ok (.iaload, 1) := by decide +kernel
theorem dX6_count_110 : decode cX6_count 110 = .ok (.ireturn, 1) := by decide +kernel
theorem dX6_count_111 : decode cX6_count 111 = .ok (.aload_n 0, 1) := by decide +kernel
theorem dX6_count_112 : decode cX6_count 112 = .ok (.getfield 19, 3) := by decide +kernel
theorem dX6_count_115 : decode cX6_count 115 = .ok (.iconst 5, 1) := by decide +kernel
theorem dX6_count_116 : decode cX6_count 116 = .ok (.iaload, 1) := by decide +kernel
theorem dX6_count_117 : decode cX6_count 117 = .ok (.ireturn, 1) := by decide +kernel
theorem dX6_count_118 : decode cX6_count 118 = .ok (.aload_n 0, 1) := by decide +kernel
theorem dX6_count_119 : decode cX6_count 119 = .ok (.getfield 19, 3) := by decide +kernel
theorem dX6_count_122 : decode cX6_count 122 = .ok (.bipush 6, 2) := by decide +kernel
theorem dX6_count_124 : decode cX6_count 124 = .ok (.iaload, 1) := by decide +kernel
theorem dX6_count_125 : decode cX6_count 125 = .ok (.ireturn, 1) := by decide +kernel
theorem dX6_count_126 : decode cX6_count 126 = .ok (.aload_n 0, 1) := by decide +kernel
theorem dX6_count_127 : decode cX6_count 127 = .ok (.invokevirtual 193, 3) := by decide +kernel
theorem dX6_count_130 : decode cX6_count 130 = .ok (.ifCond .eq 12, 3) := by decide +kernel
theorem dX6_count_133 : decode cX6_count 133 = .ok (.aload_n 0, 1) := by decide +kernel
theorem dX6_count_134 : decode cX6_count 134 = .ok (.getfield 19, 3) := by decide +kernel
theorem dX6_count_137 : decode cX6_count 137 = .ok (.iconst 1, 1) := by decide +kernel
theorem dX6_count_138 : decode cX6_count 138 = .ok (.iaload, 1) := by decide +kernel
theorem dX6_count_139 : decode cX6_count 139 = .ok (.goto 4, 3) := by decide +kernel
end
section
theorem dX6_count_142 : decode cX6_count 142 = .ok (.iconst (-1), 1) := by decide +kernel
theorem dX6_count_143 : decode cX6_count 143 = .ok (.ireturn, 1) := by decide +kernel
theorem dX6_count_144 : decode cX6_count 144 = .ok (.aload_n 0, 1) := by decide +kernel
theorem dX6_count_145 : decode cX6_count 145 = .ok (.getfield 19, 3) := by decide +kernel
theorem dX6_count_148 : decode cX6_count 148 = .ok (.bipush 7, 2) := by decide +kernel
theorem dX6_count_150 : decode cX6_count 150 = .ok (.iaload, 1) := by decide +kernel
theorem dX6_count_151 : decode cX6_count 151 = .ok (.ireturn, 1) := by decide +kernel
theorem dX6_count_152 : decode cX6_count 152 = .ok (.aload_n 0, 1) := by decide +kernel
theorem dX6_count_153 : decode cX6_count 153 = .ok (.getfield 19, 3) := by decide +kernel
theorem dX6_count_156 : decode cX6_count 156 = .ok (.bipush 8, 2) := by decide +kernel
theorem dX6_count_158 : decode cX6_count 158 = .ok (.iaload, 1) := by decide +kernel
theorem dX6_count_159 : decode cX6_count 159 = .ok (.ireturn, 1) := by decide +kernel
theorem dX6_count_160 : decode cX6_count 160 = .ok (.aload_n 0, 1) := by decide +kernel
theorem dX6_count_161 : decode cX6_count 161 = .ok (.getfield 153, 3) := by decide +kernel
theorem dX6_count_164 : decode cX6_count 164 = .ok (.ireturn, 1) := by decide +kernel
theorem dX6_count_165 : decode cX6_count 165 = .ok (.aload_n 0, 1) := by decide +kernel
theorem dX6_count_166 : decode cX6_count 166 = .ok (.getfield 81, 3) := by decide +kernel
theorem dX6_count_169 : decode cX6_count 169 = .ok (.ireturn, 1) := by decide +kernel
theorem dX6_count_170 : decode cX6_count 170 = .ok (.ldc 74, 2) := by decide +kernel
theorem dX6_count_172 : decode cX6_count 172 = .ok (.ireturn, 1) := by decide +kernel
theorem dX6_status_0 : decode cX6_status 0 = .ok (.aload_n 0, 1) := by decide +kernel
theorem dX6_status_1 : decode cX6_status 1 = .ok (.iconst 0, 1) := by decide +kernel
theorem dX6_status_2 : decode cX6_status 2 = .ok (.putfield 54, 3) := by decide +kernel
theorem dX6_status_5 : decode cX6_status 5 = .ok (.aload_n 0, 1) := by decide +kernel
theorem dX6_status_6 : decode cX6_status 6 = .ok (.getfield 58, 3) := by decide +kernel
theorem dX6_status_9 : decode cX6_status 9 = .ok (.ireturn, 1) := by decide +kernel
theorem dJ6_bitCount_0f7a4_0 : decode cJ6_bitCount_0f7a4 0 = .ok (.iload_n 0, 1) := by decide +kernel
theorem dJ6_bitCount_0f7a4_1 : decode cJ6_bitCount_0f7a4 1 = .ok (.iload_n 0, 1) := by decide +kernel
theorem dJ6_bitCount_0f7a4_2 : decode cJ6_bitCount_0f7a4 2 = .ok (.iconst 1, 1) := by decide +kernel
theorem dJ6_bitCount_0f7a4_3 : decode cJ6_bitCount_0f7a4 3 = .ok (.iushr, 1) := by decide +kernel
theorem dJ6_bitCount_0f7a4_4 : decode cJ6_bitCount_0f7a4 4 = .ok (.ldc_w 265, 3) := by decide +kernel
theorem dJ6_bitCount_0f7a4_7 : decode cJ6_bitCount_0f7a4 7 = .ok (.iand, 1) := by decide +kernel
theorem dJ6_bitCount_0f7a4_8 : decode cJ6_bitCount_0f7a4 8 = .ok (.isub, 1) := by decide +kernel
theorem dJ6_bitCount_0f7a4_9 : decode cJ6_bitCount_0f7a4 9 = .ok (.istore_n 0, 1) := by decide +kernel
theorem dJ6_bitCount_0f7a4_10 : decode cJ6_bitCount_0f7a4 10 = .ok (.iload_n 0, 1) := by decide +kernel
theorem dJ6_bitCount_0f7a4_11 : decode cJ6_bitCount_0f7a4 11 = .ok (.ldc_w 266, 3) := by decide +kernel
theorem dJ6_bitCount_0f7a4_14 : decode cJ6_bitCount_0f7a4 14 = .ok (.iand, 1) := by decide +kernel
theorem dJ6_bitCount_0f7a4_15 : decode cJ6_bitCount_0f7a4 15 = .ok (.iload_n 0, 1) := by decide +kernel
theorem dJ6_bitCount_0f7a4_16 : decode cJ6_bitCount_0f7a4 16 = .ok (.iconst 2, 1) := by decide +kernel
theorem dJ6_bitCount_0f7a4_17 : decode cJ6_bitCount_0f7a4 17 = .ok (.iushr, 1) := by decide +kernel
theorem dJ6_bitCount_0f7a4_18 : decode cJ6_bitCount_0f7a4 18 = .ok (.ldc_w 266, 3) := by decide +kernel
theorem dJ6_bitCount_0f7a4_21 : decode cJ6_bitCount_0f7a4 21 = .ok (.iand, 1) := by decide +kernel
theorem dJ6_bitCount_0f7a4_22 : decode cJ6_bitCount_0f7a4 22 = .ok (.iadd, 1) := by decide +kernel
theorem dJ6_bitCount_0f7a4_23 : decode cJ6_bitCount_0f7a4 23 = .ok (.istore_n 0, 1) := by decide +kernel
theorem dJ6_bitCount_0f7a4_24 : decode cJ6_bitCount_0f7a4 24 = .ok (.iload_n 0, 1) := by decide +kernel
theorem dJ6_bitCount_0f7a4_25 : decode cJ6_bitCount_0f7a4 25 = .ok (.iload_n 0, 1) := by decide +kernel
theorem dJ6_bitCount_0f7a4_26 : decode cJ6_bitCount_0f7a4 26 = .ok (.iconst 4, 1) := by decide +kernel
theorem dJ6_bitCount_0f7a4_27 : decode cJ6_bitCount_0f7a4 27 = .ok (.iushr, 1) := by decide +kernel
theorem dJ6_bitCount_0f7a4_28 : decode cJ6_bitCount_0f7a4 28 = .ok (.iadd, 1) := by decide +kernel
theorem dJ6_bitCount_0f7a4_29 : decode cJ6_bitCount_0f7a4 29 = .ok (.ldc_w 267, 3) := by decide +kernel
theorem dJ6_bitCount_0f7a4_32 : decode cJ6_bitCount_0f7a4 32 = .ok (.iand, 1) := by decide +kernel
theorem dJ6_bitCount_0f7a4_33 : decode cJ6_bitCount_0f7a4 33 = .ok (.istore_n 0, 1) := by decide +kernel
theorem dJ6_bitCount_0f7a4_34 : decode cJ6_bitCount_0f7a4 34 = .ok (.iload_n 0, 1) := by decide +kernel
theorem dJ6_bitCount_0f7a4_35 : decode cJ6_bitCount_0f7a4 35 = .ok (.iload_n 0, 1) := by decide +kernel
theorem dJ6_bitCount_0f7a4_36 : decode cJ6_bitCount_0f7a4 36 = .ok (.bipush 8, 2) := by decide +kernel
theorem dJ6_bitCount_0f7a4_38 : decode cJ6_bitCount_0f7a4 38 = .ok (.iushr, 1) := by decide +kernel
theorem dJ6_bitCount_0f7a4_39 : decode cJ6_bitCount_0f7a4 39 = .ok (.iadd, 1) := by decide +kernel
theorem dJ6_bitCount_0f7a4_40 : decode cJ6_bitCount_0f7a4 40 = .ok (.istore_n 0, 1) := by decide +kernel
theorem dJ6_bitCount_0f7a4_41 : decode cJ6_bitCount_0f7a4 41 = .ok (.iload_n 0, 1) := by decide +kernel
theorem dJ6_bitCount_0f7a4_42 : decode cJ6_bitCount_0f7a4 42 = .ok (.iload_n 0, 1) := by decide +kernel
theorem dJ6_bitCount_0f7a4_43 : decode cJ6_bitCount_0f7a4 43 = .ok (.bipush 16, 2) := by decide +kernel
theorem dJ6_bitCount_0f7a4_45 : decode cJ6_bitCount_0f7a4 45 = .ok (.iushr, 1) := by decide +kernel
theorem dJ6_bitCount_0f7a4_46 : decode cJ6_bitCount_0f7a4 46 = .ok (.iadd, 1) := by decide +kernel
theorem dJ6_bitCount_0f7a4_47 : decode cJ6_bitCount_0f7a4 47 = .ok (.istore_n 0, 1) := by decide +kernel
theorem dJ6_bitCount_0f7a4_48 : decode cJ6_bitCount_0f7a4 48 = .ok (.iload_n 0, 1) := by decide +kernel
theorem dJ6_bitCount_0f7a4_49 : decode cJ6_bitCount_0f7a4 49 = .ok (.bipush 63, 2) := by decide +kernel
theorem dJ6_bitCount_0f7a4_51 : decode cJ6_bitCount_0f7a4 51 = .ok (.iand, 1) := by decide +kernel
theorem dJ6_bitCount_0f7a4_52 : decode cJ6_bitCount_0f7a4 52 = .ok (.ireturn, 1) := by decide +kernel
theorem dJ9_max_7cf53_0 : decode cJ9_max_7cf53 0 = .ok (.iload_n 0, 1) := by decide +kernel
theorem dJ9_max_7cf53_1 : decode cJ9_max_7cf53 1 = .ok (.iload_n 1, 1) := by decide +kernel
theorem dJ9_max_7cf53_2 : decode cJ9_max_7cf53 2 = .ok (.if_icmp .lt 7, 3) := by decide +kernel
theorem dJ9_max_7cf53_5 : decode cJ9_max_7cf53 5 = .ok (.iload_n 0, 1) := by decide +kernel
theorem dJ9_max_7cf53_6 : decode cJ9_max_7cf53 6 = .ok (.goto 4, 3) := by decide +kernel
theorem dJ9_max_7cf53_9 : decode cJ9_max_7cf53 9 = .ok (.iload_n 1, 1) := by decide +kernel
theorem dJ9_max_7cf53_10 : decode cJ9_max_7cf53 10 = .ok (.ireturn, 1) := by decide +kernel
theorem dJ9_min_7cf53_0 : decode cJ9_min_7cf53 0 = .ok (.iload_n 0, 1) := by decide +kernel
theorem dJ9_min_7cf53_1 : decode cJ9_min_7cf53 1 = .ok (.iload_n 1, 1) := by decide +kernel
theorem dJ9_min_7cf53_2 : decode cJ9_min_7cf53 2 = .ok (.if_icmp .gt 7, 3) := by decide +kernel
theorem dJ9_min_7cf53_5 : decode cJ9_min_7cf53 5 = .ok (.iload_n 0, 1) := by decide +kernel
theorem dJ9_min_7cf53_6 : decode cJ9_min_7cf53 6 = .ok (.goto 4, 3) := by decide +kernel
theorem dJ9_min_7cf53_9 : decode cJ9_min_7cf53 9 = .ok (.iload_n 1, 1) := by decide +kernel
theorem dJ9_min_7cf53_10 : decode cJ9_min_7cf53 10 = .ok (.ireturn, 1) := by decide +kernel
theorem dL_law_0 : decode cL_law 0 = .ok (.new 7, 3) := by decide +kernel
theorem dL_law_3 : decode cL_law 3 = .ok (.dup, 1) := by decide +kernel
theorem dL_law_4 : decode cL_law 4 = .ok (.invokespecial 9, 3) := by decide +kernel
theorem dL_law_7 : decode cL_law 7 = .ok (.astore_n 1, 1) := by decide +kernel
theorem dL_law_8 : decode cL_law 8 = .ok (.new 10, 3) := by decide +kernel
theorem dL_law_11 : decode cL_law 11 = .ok (.dup, 1) := by decide +kernel
theorem dL_law_12 : decode cL_law 12 = .ok (.invokespecial 12, 3) := by decide +kernel
theorem dL_law_15 : decode cL_law 15 = .ok (.astore_n 2, 1) := by decide +kernel
theorem dL_law_16 : decode cL_law 16 = .ok (.iconst 0, 1) := by decide +kernel
theorem dL_law_17 : decode cL_law 17 = .ok (.istore_n 3, 1) := by decide +kernel
theorem dL_law_18 : decode cL_law 18 = .ok (.iload_n 3, 1) := by decide +kernel
theorem dL_law_19 : decode cL_law 19 = .ok (.aload_n 0, 1) := by decide +kernel
theorem dL_law_20 : decode cL_law 20 = .ok (.arraylength, 1) := by decide +kernel
theorem dL_law_21 : decode cL_law 21 = .ok (.bipush 6, 2) := by decide +kernel
theorem dL_law_23 : decode cL_law 23 = .ok (.isub, 1) := by decide +kernel
theorem dL_law_24 : decode cL_law 24 = .ok (.if_icmp .gt 1229, 3) := by decide +kernel
theorem dL_law_27 : decode cL_law 27 = .ok (.aload_n 0, 1) := by decide +kernel
theorem dL_law_28 : decode cL_law 28 = .ok (.iload_n 3, 1) := by decide +kernel
theorem dL_law_29 : decode cL_law 29 = .ok (.iaload, 1) := by decide +kernel
theorem dL_law_30 : decode cL_law 30 = .ok (.bipush 63, 2) := by decide +kernel
theorem dL_law_32 : decode cL_law 32 = .ok (.iand, 1) := by decide +kernel
theorem dL_law_33 : decode cL_law 33 = .ok (.tableswitch 1214 0 33 #[151, 194, 237, 300, 323, 346, 359, 372, 385, 408, 451, 484, 517, 550, 583, 616, 649, 672, 715, 748, 791, 844, 897, 920, 943, 977, 1020, 1043, 1066, 1089, 1122, 1155, 1178, 1201], 151) := by decide +kernel
theorem dL_law_184 : decode cL_law 184 = .ok (.aload_n 1, 1) := by decide +kernel
theorem dL_law_185 : decode cL_law 185 = .ok (.aload_n 0, 1) := by decide +kernel
theorem dL_law_186 : decode cL_law 186 = .ok (.iload_n 3, 1) := by decide +kernel
theorem dL_law_187 : decode cL_law 187 = .ok (.iconst 1, 1) := by decide +kernel
theorem dL_law_188 : decode cL_law 188 = .ok (.iadd, 1) := by decide +kernel
theorem dL_law_189 : decode cL_law 189 = .ok (.iaload, 1) := by decide +kernel
theorem dL_law_190 : decode cL_law 190 = .ok (.aload_n 0, 1) := by decide +kernel
theorem dL_law_191 : decode cL_law 191 = .ok (.iload_n 3, 1) := by decide +kernel
theorem dL_law_192 : decode cL_law 192 = .ok (.iconst 2, 1) := by decide +kernel
theorem dL_law_193 : decode cL_law 193 = .ok (.iadd, 1) := by decide +kernel
theorem dL_law_194 : decode cL_law 194 = .ok (.iaload, 1) := by decide +kernel
theorem dL_law_195 : decode cL_law 195 = .ok (.aload_n 0, 1) := by decide +kernel
theorem dL_law_196 : decode cL_law 196 = .ok (.iload_n 3, 1) := by decide +kernel
theorem dL_law_197 : decode cL_law 197 = .ok (.iconst 3, 1) := by decide +kernel
theorem dL_law_198 : decode cL_law 198 = .ok (.iadd, 1) := by decide +kernel
theorem dL_law_199 : decode cL_law 199 = .ok (.iaload, 1) := by decide +kernel
theorem dL_law_200 : decode cL_law 200 = .ok (.invokevirtual 13, 3) := by decide +kernel
theorem dL_law_203 : decode cL_law 203 = .ok (.aload_n 2, 1) := by decide +kernel
theorem dL_law_204 : decode cL_law 204 = .ok (.aload_n 0, 1) := by decide +kernel
theorem dL_law_205 : decode cL_law 205 = .ok (.iload_n 3, 1) := by decide +kernel
theorem dL_law_206 : decode cL_law 206 = .ok (.iconst 1, 1) := by decide +kernel
theorem dL_law_207 : decode cL_law 207 = .ok (.iadd, 1) := by decide +kernel
theorem dL_law_208 : decode cL_law 208 = .ok (.iaload, 1) := by decide +kernel
theorem dL_law_209 : decode cL_law 209 = .ok (.aload_n 0, 1) := by decide +kernel
theorem dL_law_210 : decode cL_law 210 = .ok (.iload_n 3, 1) := by decide +kernel
theorem dL_law_211 : decode cL_law 211 = .ok (.iconst 2, 1) := by decide +kernel
theorem dL_law_212 : decode cL_law 212 = .ok (.iadd, 1) := by decide +kernel
theorem dL_law_213 : decode cL_law 213 = .ok (.iaload, 1) := by decide +kernel
theorem dL_law_214 : decode cL_law 214 = .ok (.aload_n 0, 1) := by decide +kernel
theorem dL_law_215 : decode cL_law 215 = .ok (.iload_n 3, 1) := by decide +kernel
theorem dL_law_216 : decode cL_law 216 = .ok (.iconst 3, 1) := by decide +kernel
theorem dL_law_217 : decode cL_law 217 = .ok (.iadd, 1) := by decide +kernel
theorem dL_law_218 : decode cL_law 218 = .ok (.iaload, 1) := by decide +kernel
theorem dL_law_219 : decode cL_law 219 = .ok (.invokevirtual 17, 3) := by decide +kernel
theorem dL_law_222 : decode cL_law 222 = .ok (.if_icmp .eq 1025, 3) := by decide +kernel
theorem dL_law_225 : decode cL_law 225 = .ok (.iconst 0, 1) := by decide +kernel
theorem dL_law_226 : decode cL_law 226 = .ok (.ireturn, 1) := by decide +kernel
theorem dL_law_227 : decode cL_law 227 = .ok (.aload_n 1, 1) := by decide +kernel
theorem dL_law_228 : decode cL_law 228 = .ok (.aload_n 0, 1) := by decide +kernel
theorem dL_law_229 : decode cL_law 229 = .ok (.iload_n 3, 1) := by decide +kernel
theorem dL_law_230 : decode cL_law 230 = .ok (.iconst 1, 1) := by decide +kernel
theorem dL_law_231 : decode cL_law 231 = .ok (.iadd, 1) := by decide +kernel
theorem dL_law_232 : decode cL_law 232 = .ok (.iaload, 1) := by decide +kernel
theorem dL_law_233 : decode cL_law 233 = .ok (.aload_n 0, 1) := by decide +kernel
theorem dL_law_234 : decode cL_law 234 = .ok (.iload_n 3, 1) := by decide +kernel
theorem dL_law_235 : decode cL_law 235 = .ok (.iconst 2, 1) := by decide +kernel
theorem dL_law_236 : decode cL_law 236 = .ok (.iadd, 1) := by decide +kernel
theorem dL_law_237 : decode cL_law 237 = .ok (.iaload, 1) := by decide +kernel
theorem dL_law_238 : decode cL_law 238 = .ok (.aload_n 0, 1) := by decide +kernel
theorem dL_law_239 : decode cL_law 239 = .ok (.iload_n 3, 1) := by decide +kernel
theorem dL_law_240 : decode cL_law 240 = .ok (.iconst 3, 1) := by decide +kernel
theorem dL_law_241 : decode cL_law 241 = .ok (.iadd, 1) := by decide +kernel
theorem dL_law_242 : decode cL_law 242 = .ok (.iaload, 1) := by decide +kernel
theorem dL_law_243 : decode cL_law 243 = .ok (.invokevirtual 18, 3) := by decide +kernel
theorem dL_law_246 : decode cL_law 246 = .ok (.aload_n 2, 1) := by decide +kernel
theorem dL_law_247 : decode cL_law 247 = .ok (.aload_n 0, 1) := by decide +kernel
theorem dL_law_248 : decode cL_law 248 = .ok (.iload_n 3, 1) := by decide +kernel
theorem dL_law_249 : decode cL_law 249 = .ok (.iconst 1, 1) := by decide +kernel
theorem dL_law_250 : decode cL_law 250 = .ok (.iadd, 1) := by decide +kernel
theorem dL_law_251 : decode cL_law 251 = .ok (.iaload, 1) := by decide +kernel
theorem dL_law_252 : decode cL_law 252 = .ok (.aload_n 0, 1) := by decide +kernel
theorem dL_law_253 : decode cL_law 253 = .ok (.iload_n 3, 1) := by decide +kernel
theorem dL_law_254 : decode cL_law 254 = .ok (.iconst 2, 1) := by decide +kernel
theorem dL_law_255 : decode cL_law 255 = .ok (.iadd, 1) := by decide +kernel
theorem dL_law_256 : decode cL_law 256 = .ok (.iaload, 1) := by decide +kernel
theorem dL_law_257 : decode cL_law 257 = .ok (.aload_n 0, 1) := by decide +kernel
theorem dL_law_258 : decode cL_law 258 = .ok (.iload_n 3, 1) := by decide +kernel
theorem dL_law_259 : decode cL_law 259 = .ok (.iconst 3, 1) := by decide +kernel
theorem dL_law_260 : decode cL_law 260 = .ok (.iadd, 1) := by decide +kernel
theorem dL_law_261 : decode cL_law 261 = .ok (.iaload, 1) := by decide +kernel
theorem dL_law_262 : decode cL_law 262 = .ok (.invokevirtual 21, 3) := by decide +kernel
theorem dL_law_265 : decode cL_law 265 = .ok (.if_icmp .eq 982, 3) := by decide +kernel
theorem dL_law_268 : decode cL_law 268 = .ok (.iconst 0, 1) := by decide +kernel
theorem dL_law_269 : decode cL_law 269 = .ok (.ireturn, 1) := by decide +kernel
theorem dL_law_270 : decode cL_law 270 = .ok (.aload_n 1, 1) := by decide +kernel
theorem dL_law_271 : decode cL_law 271 = .ok (.aload_n 0, 1) := by decide +kernel
theorem dL_law_272 : decode cL_law 272 = .ok (.iload_n 3, 1) := by decide +kernel
theorem dL_law_273 : decode cL_law 273 = .ok (.iconst 1, 1) := by decide +kernel
theorem dL_law_274 : decode cL_law 274 = .ok (.iadd, 1) := by decide +kernel
theorem dL_law_275 : decode cL_law 275 = .ok (.iaload, 1) := by decide +kernel
theorem dL_law_276 : decode cL_law 276 = .ok (.aload_n 0, 1) := by decide +kernel
theorem dL_law_277 : decode cL_law 277 = .ok (.iload_n 3, 1) := by decide +kernel
theorem dL_law_278 : decode cL_law 278 = .ok (.iconst 2, 1) := by decide +kernel
theorem dL_law_279 : decode cL_law 279 = .ok (.iadd, 1) := by decide +kernel
theorem dL_law_280 : decode cL_law 280 = .ok (.iaload, 1) := by decide +kernel
theorem dL_law_281 : decode cL_law 281 = .ok (.aload_n 0, 1) := by decide +kernel
theorem dL_law_282 : decode cL_law 282 = .ok (.iload_n 3, 1) := by decide +kernel
theorem dL_law_283 : decode cL_law 283 = .ok (.iconst 3, 1) := by decide +kernel
theorem dL_law_284 : decode cL_law 284 = .ok (.iadd, 1) := by decide +kernel
theorem dL_law_285 : decode cL_law 285 = .ok (.iaload, 1) := by decide +kernel
theorem dL_law_286 : decode cL_law 286 = .ok (.aload_n 0, 1) := by decide +kernel
theorem dL_law_287 : decode cL_law 287 = .ok (.iload_n 3, 1) := by decide +kernel
theorem dL_law_288 : decode cL_law 288 = .ok (.iconst 4, 1) := by decide +kernel
theorem dL_law_289 : decode cL_law 289 = .ok (.iadd, 1) := by decide +kernel
theorem dL_law_290 : decode cL_law 290 = .ok (.iaload, 1) := by decide +kernel
theorem dL_law_291 : decode cL_law 291 = .ok (.aload_n 0, 1) := by decide +kernel
theorem dL_law_292 : decode cL_law 292 = .ok (.iload_n 3, 1) := by decide +kernel
theorem dL_law_293 : decode cL_law 293 = .ok (.iconst 5, 1) := by decide +kernel
theorem dL_law_294 : decode cL_law 294 = .ok (.iadd, 1) := by decide +kernel
theorem dL_law_295 : decode cL_law 295 = .ok (.iaload, 1) := by decide +kernel
theorem dL_law_296 : decode cL_law 296 = .ok (.invokevirtual 22, 3) := by decide +kernel
theorem dL_law_299 : decode cL_law 299 = .ok (.aload_n 2, 1) := by decide +kernel
theorem dL_law_300 : decode cL_law 300 = .ok (.aload_n 0, 1) := by decide +kernel
theorem dL_law_301 : decode cL_law 301 = .ok (.iload_n 3, 1) := by decide +kernel
theorem dL_law_302 : decode cL_law 302 = .ok (.iconst 1, 1) := by decide +kernel
theorem dL_law_303 : decode cL_law 303 = .ok (.iadd, 1) := by decide +kernel
theorem dL_law_304 : decode cL_law 304 = .ok (.iaload, 1) := by decide +kernel
theorem dL_law_305 : decode cL_law 305 = .ok (.aload_n 0, 1) := by decide +kernel
theorem dL_law_306 : decode cL_law 306 = .ok (.iload_n 3, 1) := by decide +kernel
theorem dL_law_307 : decode cL_law 307 = .ok (.iconst 2, 1) := by decide +kernel
theorem dL_law_308 : decode cL_law 308 = .ok (.iadd, 1) := by decide +kernel
theorem dL_law_309 : decode cL_law 309 = .ok (.iaload, 1) := by decide +kernel
theorem dL_law_310 : decode cL_law 310 = .ok (.aload_n 0, 1) := by decide +kernel
theorem dL_law_311 : decode cL_law 311 = .ok (.iload_n 3, 1) := by decide +kernel
theorem dL_law_312 : decode cL_law 312 = .ok (.iconst 3, 1) := by decide +kernel
theorem dL_law_313 : decode cL_law 313 = .ok (.iadd, 1) := by decide +kernel
theorem dL_law_314 : decode cL_law 314 = .ok (.iaload, 1) := by decide +kernel
theorem dL_law_315 : decode cL_law 315 = .ok (.aload_n 0, 1) := by decide +kernel
theorem dL_law_316 : decode cL_law 316 = .ok (.iload_n 3, 1) := by decide +kernel
theorem dL_law_317 : decode cL_law 317 = .ok (.iconst 4, 1) := by decide +kernel
theorem dL_law_318 : decode cL_law 318 = .ok (.iadd, 1) := by decide +kernel
theorem dL_law_319 : decode cL_law 319 = .ok (.iaload, 1) := by decide +kernel
theorem dL_law_320 : decode cL_law 320 = .ok (.aload_n 0, 1) := by decide +kernel
theorem dL_law_321 : decode cL_law 321 = .ok (.iload_n 3, 1) := by decide +kernel
theorem dL_law_322 : decode cL_law 322 = .ok (.iconst 5, 1) := by decide +kernel
theorem dL_law_323 : decode cL_law 323 = .ok (.iadd, 1) := by decide +kernel
theorem dL_law_324 : decode cL_law 324 = .ok (.iaload, 1) := by decide +kernel
theorem dL_law_325 : decode cL_law 325 = .ok (.invokevirtual 26, 3) := by decide +kernel
theorem dL_law_328 : decode cL_law 328 = .ok (.if_icmp .eq 919, 3) := by decide +kernel
theorem dL_law_331 : decode cL_law 331 = .ok (.iconst 0, 1) := by decide +kernel
theorem dL_law_332 : decode cL_law 332 = .ok (.ireturn, 1) := by decide +kernel
theorem dL_law_333 : decode cL_law 333 = .ok (.aload_n 1, 1) := by decide +kernel
theorem dL_law_334 : decode cL_law 334 = .ok (.aload_n 0, 1) := by decide +kernel
theorem dL_law_335 : decode cL_law 335 = .ok (.iload_n 3, 1) := by decide +kernel
theorem dL_law_336 : decode cL_law 336 = .ok (.iconst 1, 1) := by decide +kernel
theorem dL_law_337 : decode cL_law 337 = .ok (.iadd, 1) := by decide +kernel
theorem dL_law_338 : decode cL_law 338 = .ok (.iaload, 1) := by decide +kernel
theorem dL_law_339 : decode cL_law 339 = .ok (.invokevirtual 27, 3) := by decide +kernel
theorem dL_law_342 : decode cL_law 342 = .ok (.aload_n 2, 1) := by decide +kernel
theorem dL_law_343 : decode cL_law 343 = .ok (.aload_n 0, 1) := by decide +kernel
theorem dL_law_344 : decode cL_law 344 = .ok (.iload_n 3, 1) := by decide +kernel
theorem dL_law_345 : decode cL_law 345 = .ok (.iconst 1, 1) := by decide +kernel
theorem dL_law_346 : decode cL_law 346 = .ok (.iadd, 1) := by decide +kernel
theorem dL_law_347 : decode cL_law 347 = .ok (.iaload, 1) := by decide +kernel
theorem dL_law_348 : decode cL_law 348 = .ok (.invokevirtual 31, 3) := by decide +kernel
theorem dL_law_351 : decode cL_law 351 = .ok (.if_icmp .eq 896, 3) := by decide +kernel
theorem dL_law_354 : decode cL_law 354 = .ok (.iconst 0, 1) := by decide +kernel
theorem dL_law_355 : decode cL_law 355 = .ok (.ireturn, 1) := by decide +kernel
theorem dL_law_356 : decode cL_law 356 = .ok (.aload_n 1, 1) := by decide +kernel
theorem dL_law_357 : decode cL_law 357 = .ok (.aload_n 0, 1) := by decide +kernel
theorem dL_law_358 : decode cL_law 358 = .ok (.iload_n 3, 1) := by decide +kernel
theorem dL_law_359 : decode cL_law 359 = .ok (.iconst 1, 1) := by decide +kernel
theorem dL_law_360 : decode cL_law 360 = .ok (.iadd, 1) := by decide +kernel
theorem dL_law_361 : decode cL_law 361 = .ok (.iaload, 1) := by decide +kernel
theorem dL_law_362 : decode cL_law 362 = .ok (.invokevirtual 32, 3) := by decide +kernel
theorem dL_law_365 : decode cL_law 365 = .ok (.aload_n 2, 1) := by decide +kernel
theorem dL_law_366 : decode cL_law 366 = .ok (.aload_n 0, 1) := by decide +kernel
theorem dL_law_367 : decode cL_law 367 = .ok (.iload_n 3, 1) := by decide +kernel
theorem dL_law_368 : decode cL_law 368 = .ok (.iconst 1, 1) := by decide +kernel
theorem dL_law_369 : decode cL_law 369 = .ok (.iadd, 1) := by decide +kernel
theorem dL_law_370 : decode cL_law 370 = .ok (.iaload, 1) := by decide +kernel
theorem dL_law_371 : decode cL_law 371 = .ok (.invokevirtual 35, 3) := by decide +kernel
theorem dL_law_374 : decode cL_law 374 = .ok (.if_icmp .eq 873, 3) := by decide +kernel
theorem dL_law_377 : decode cL_law 377 = .ok (.iconst 0, 1) := by decide +kernel
theorem dL_law_378 : decode cL_law 378 = .ok (.ireturn, 1) := by decide +kernel
theorem dL_law_379 : decode cL_law 379 = .ok (.aload_n 1, 1) := by decide +kernel
theorem dL_law_380 : decode cL_law 380 = .ok (.invokevirtual 36, 3) := by decide +kernel
theorem dL_law_383 : decode cL_law 383 = .ok (.aload_n 2, 1) := by decide +kernel
theorem dL_law_384 : decode cL_law 384 = .ok (.invokevirtual 40, 3) := by decide +kernel
theorem dL_law_387 : decode cL_law 387 = .ok (.if_icmp .eq 860, 3) := by decide +kernel
theorem dL_law_390 : decode cL_law 390 = .ok (.iconst 0, 1) := by decide +kernel
theorem dL_law_391 : decode cL_law 391 = .ok (.ireturn, 1) := by decide +kernel
theorem dL_law_392 : decode cL_law 392 = .ok (.aload_n 1, 1) := by decide +kernel
theorem dL_law_393 : decode cL_law 393 = .ok (.invokevirtual 41, 3) := by decide +kernel
theorem dL_law_396 : decode cL_law 396 = .ok (.aload_n 2, 1) := by decide +kernel
theorem dL_law_397 : decode cL_law 397 = .ok (.invokevirtual 44, 3) := by decide +kernel
theorem dL_law_400 : decode cL_law 400 = .ok (.if_icmp .eq 847, 3) := by decide +kernel
theorem dL_law_403 : decode cL_law 403 = .ok (.iconst 0, 1) := by decide +kernel
theorem dL_law_404 : decode cL_law 404 = .ok (.ireturn, 1) := by decide +kernel
theorem dL_law_405 : decode cL_law 405 = .ok (.aload_n 1, 1) := by decide +kernel
theorem dL_law_406 : decode cL_law 406 = .ok (.invokevirtual 45, 3) := by decide +kernel
theorem dL_law_409 : decode cL_law 409 = .ok (.aload_n 2, 1) := by decide +kernel
theorem dL_law_410 : decode cL_law 410 = .ok (.invokevirtual 48, 3) := by decide +kernel
theorem dL_law_413 : decode cL_law 413 = .ok (.if_icmp .eq 834, 3) := by decide +kernel
theorem dL_law_416 : decode cL_law 416 = .ok (.iconst 0, 1) := by decide +kernel
theorem dL_law_417 : decode cL_law 417 = .ok (.ireturn, 1) := by decide +kernel
theorem dL_law_418 : decode cL_law 418 = .ok (.aload_n 1, 1) := by decide +kernel
theorem dL_law_419 : decode cL_law 419 = .ok (.aload_n 0, 1) := by decide +kernel
theorem dL_law_420 : decode cL_law 420 = .ok (.iload_n 3, 1) := by decide +kernel
theorem dL_law_421 : decode cL_law 421 = .ok (.iconst 1, 1) := by decide +kernel
theorem dL_law_422 : decode cL_law 422 = .ok (.iadd, 1) := by decide +kernel
theorem dL_law_423 : decode cL_law 423 = .ok (.iaload, 1) := by decide +kernel
theorem dL_law_424 : decode cL_law 424 = .ok (.invokevirtual 49, 3) := by decide +kernel
theorem dL_law_427 : decode cL_law 427 = .ok (.aload_n 2, 1) := by decide +kernel
theorem dL_law_428 : decode cL_law 428 = .ok (.aload_n 0, 1) := by decide +kernel
theorem dL_law_429 : decode cL_law 429 = .ok (.iload_n 3, 1) := by decide +kernel
theorem dL_law_430 : decode cL_law 430 = .ok (.iconst 1, 1) := by decide +kernel
theorem dL_law_431 : decode cL_law 431 = .ok (.iadd, 1) := by decide +kernel
theorem dL_law_432 : decode cL_law 432 = .ok (.iaload, 1) := by decide +kernel
theorem dL_law_433 : decode cL_law 433 = .ok (.invokevirtual 52, 3) := by decide +kernel
theorem dL_law_436 : decode cL_law 436 = .ok (.if_icmp .eq 811, 3) := by decide +kernel
theorem dL_law_439 : decode cL_law 439 = .ok (.iconst 0, 1) := by decide +kernel
theorem dL_law_440 : decode cL_law 440 = .ok (.ireturn, 1) := by decide +kernel
theorem dL_law_441 : decode cL_law 441 = .ok (.aload_n 1, 1) := by decide +kernel
theorem dL_law_442 : decode cL_law 442 = .ok (.aload_n 0, 1) := by decide +kernel
theorem dL_law_443 : decode cL_law 443 = .ok (.iload_n 3, 1) := by decide +kernel
theorem dL_law_444 : decode cL_law 444 = .ok (.iconst 1, 1) := by decide +kernel
theorem dL_law_445 : decode cL_law 445 = .ok (.iadd, 1) := by decide +kernel
theorem dL_law_446 : decode cL_law 446 = .ok (.iaload, 1) := by decide +kernel
theorem dL_law_447 : decode cL_law 447 = .ok (.aload_n 0, 1) := by decide +kernel
theorem dL_law_448 : decode cL_law 448 = .ok (.iload_n 3, 1) := by decide +kernel
theorem dL_law_449 : decode cL_law 449 = .ok (.iconst 2, 1) := by decide +kernel
theorem dL_law_450 : decode cL_law 450 = .ok (.iadd, 1) := by decide +kernel
theorem dL_law_451 : decode cL_law 451 = .ok (.iaload, 1) := by decide +kernel
theorem dL_law_452 : decode cL_law 452 = .ok (.aload_n 0, 1) := by decide +kernel
theorem dL_law_453 : decode cL_law 453 = .ok (.iload_n 3, 1) := by decide +kernel
theorem dL_law_454 : decode cL_law 454 = .ok (.iconst 3, 1) := by decide +kernel
theorem dL_law_455 : decode cL_law 455 = .ok (.iadd, 1) := by decide +kernel
theorem dL_law_456 : decode cL_law 456 = .ok (.iaload, 1) := by decide +kernel
theorem dL_law_457 : decode cL_law 457 = .ok (.invokevirtual 53, 3) := by decide +kernel
theorem dL_law_460 : decode cL_law 460 = .ok (.aload_n 2, 1) := by decide +kernel
theorem dL_law_461 : decode cL_law 461 = .ok (.aload_n 0, 1) := by decide +kernel
theorem dL_law_462 : decode cL_law 462 = .ok (.iload_n 3, 1) := by decide +kernel
theorem dL_law_463 : decode cL_law 463 = .ok (.iconst 1, 1) := by decide +kernel
theorem dL_law_464 : decode cL_law 464 = .ok (.iadd, 1) := by decide +kernel
theorem dL_law_465 : decode cL_law 465 = .ok (.iaload, 1) := by decide +kernel
theorem dL_law_466 : decode cL_law 466 = .ok (.aload_n 0, 1) := by decide +kernel
theorem dL_law_467 : decode cL_law 467 = .ok (.iload_n 3, 1) := by decide +kernel
theorem dL_law_468 : decode cL_law 468 = .ok (.iconst 2, 1) := by decide +kernel
theorem dL_law_469 : decode cL_law 469 = .ok (.iadd, 1) := by decide +kernel
theorem dL_law_470 : decode cL_law 470 = .ok (.iaload, 1) := by decide +kernel
theorem dL_law_471 : decode cL_law 471 = .ok (.aload_n 0, 1) := by decide +kernel
theorem dL_law_472 : decode cL_law 472 = .ok (.iload_n 3, 1) := by decide +kernel
theorem dL_law_473 : decode cL_law 473 = .ok (.iconst 3, 1) := by decide +kernel
theorem dL_law_474 : decode cL_law 474 = .ok (.iadd, 1) := by decide +kernel
theorem dL_law_475 : decode cL_law 475 = .ok (.iaload, 1) := by decide +kernel
theorem dL_law_476 : decode cL_law 476 = .ok (.invokevirtual 56, 3) := by decide +kernel
theorem dL_law_479 : decode cL_law 479 = .ok (.if_icmp .eq 768, 3) := by decide +kernel
theorem dL_law_482 : decode cL_law 482 = .ok (.iconst 0, 1) := by decide +kernel
theorem dL_law_483 : decode cL_law 483 = .ok (.ireturn, 1) := by decide +kernel
theorem dL_law_484 : decode cL_law 484 = .ok (.aload_n 1, 1) := by decide +kernel
theorem dL_law_485 : decode cL_law 485 = .ok (.aload_n 0, 1) := by decide +kernel
theorem dL_law_486 : decode cL_law 486 = .ok (.iload_n 3, 1) := by decide +kernel
theorem dL_law_487 : decode cL_law 487 = .ok (.iconst 1, 1) := by decide +kernel
theorem dL_law_488 : decode cL_law 488 = .ok (.iadd, 1) := by decide +kernel
theorem dL_law_489 : decode cL_law 489 = .ok (.iaload, 1) := by decide +kernel
theorem dL_law_490 : decode cL_law 490 = .ok (.aload_n 0, 1) := by decide +kernel
theorem dL_law_491 : decode cL_law 491 = .ok (.iload_n 3, 1) := by decide +kernel
theorem dL_law_492 : decode cL_law 492 = .ok (.iconst 2, 1) := by decide +kernel
theorem dL_law_493 : decode cL_law 493 = .ok (.iadd, 1) := by decide +kernel
theorem dL_law_494 : decode cL_law 494 = .ok (.iaload, 1) := by decide +kernel
theorem dL_law_495 : decode cL_law 495 = .ok (.invokevirtual 57, 3) := by decide +kernel
theorem dL_law_498 : decode cL_law 498 = .ok (.aload_n 2, 1) := by decide +kernel
theorem dL_law_499 : decode cL_law 499 = .ok (.aload_n 0, 1) := by decide +kernel
theorem dL_law_500 : decode cL_law 500 = .ok (.iload_n 3, 1) := by decide +kernel
theorem dL_law_501 : decode cL_law 501 = .ok (.iconst 1, 1) := by decide +kernel
theorem dL_law_502 : decode cL_law 502 = .ok (.iadd, 1) := by decide +kernel
theorem dL_law_503 : decode cL_law 503 = .ok (.iaload, 1) := by decide +kernel
theorem dL_law_504 : decode cL_law 504 = .ok (.aload_n 0, 1) := by decide +kernel
theorem dL_law_505 : decode cL_law 505 = .ok (.iload_n 3, 1) := by decide +kernel
theorem dL_law_506 : decode cL_law 506 = .ok (.iconst 2, 1) := by decide +kernel
theorem dL_law_507 : decode cL_law 507 = .ok (.iadd, 1) := by decide +kernel
theorem dL_law_508 : decode cL_law 508 = .ok (.iaload, 1) := by decide +kernel
theorem dL_law_509 : decode cL_law 509 = .ok (.invokevirtual 61, 3) := by decide +kernel
theorem dL_law_512 : decode cL_law 512 = .ok (.if_icmp .eq 735, 3) := by decide +kernel
theorem dL_law_515 : decode cL_law 515 = .ok (.iconst 0, 1) := by decide +kernel
theorem dL_law_516 : decode cL_law 516 = .ok (.ireturn, 1) := by decide +kernel
theorem dL_law_517 : decode cL_law 517 = .ok (.aload_n 1, 1) := by decide +kernel
theorem dL_law_518 : decode cL_law 518 = .ok (.aload_n 0, 1) := by decide +kernel
theorem dL_law_519 : decode cL_law 519 = .ok (.iload_n 3, 1) := by decide +kernel
theorem dL_law_520 : decode cL_law 520 = .ok (.iconst 1, 1) := by decide +kernel
theorem dL_law_521 : decode cL_law 521 = .ok (.iadd, 1) := by decide +kernel
theorem dL_law_522 : decode cL_law 522 = .ok (.iaload, 1) := by decide +kernel
theorem dL_law_523 : decode cL_law 523 = .ok (.aload_n 0, 1) := by decide +kernel
theorem dL_law_524 : decode cL_law 524 = .ok (.iload_n 3, 1) := by decide +kernel
theorem dL_law_525 : decode cL_law 525 = .ok (.iconst 2, 1) := by decide +kernel
theorem dL_law_526 : decode cL_law 526 = .ok (.iadd, 1) := by decide +kernel
theorem dL_law_527 : decode cL_law 527 = .ok (.iaload, 1) := by decide +kernel
theorem dL_law_528 : decode cL_law 528 = .ok (.invokevirtual 62, 3) := by decide +kernel
theorem dL_law_531 : decode cL_law 531 = .ok (.aload_n 2, 1) := by decide +kernel
theorem dL_law_532 : decode cL_law 532 = .ok (.aload_n 0, 1) := by decide +kernel
theorem dL_law_533 : decode cL_law 533 = .ok (.iload_n 3, 1) := by decide +kernel
theorem dL_law_534 : decode cL_law 534 = .ok (.iconst 1, 1) := by decide +kernel
theorem dL_law_535 : decode cL_law 535 = .ok (.iadd, 1) := by decide +kernel
theorem dL_law_536 : decode cL_law 536 = .ok (.iaload, 1) := by decide +kernel
theorem dL_law_537 : decode cL_law 537 = .ok (.aload_n 0, 1) := by decide +kernel
theorem dL_law_538 : decode cL_law 538 = .ok (.iload_n 3, 1) := by decide +kernel
theorem dL_law_539 : decode cL_law 539 = .ok (.iconst 2, 1) := by decide +kernel
theorem dL_law_540 : decode cL_law 540 = .ok (.iadd, 1) := by decide +kernel
theorem dL_law_541 : decode cL_law 541 = .ok (.iaload, 1) := by decide +kernel
theorem dL_law_542 : decode cL_law 542 = .ok (.invokevirtual 65, 3) := by decide +kernel
theorem dL_law_545 : decode cL_law 545 = .ok (.if_icmp .eq 702, 3) := by decide +kernel
theorem dL_law_548 : decode cL_law 548 = .ok (.iconst 0, 1) := by decide +kernel
theorem dL_law_549 : decode cL_law 549 = .ok (.ireturn, 1) := by decide +kernel
theorem dL_law_550 : decode cL_law 550 = .ok (.aload_n 1, 1) := by decide +kernel
theorem dL_law_551 : decode cL_law 551 = .ok (.aload_n 0, 1) := by decide +kernel
theorem dL_law_552 : decode cL_law 552 = .ok (.iload_n 3, 1) := by decide +kernel
theorem dL_law_553 : decode cL_law 553 = .ok (.iconst 1, 1) := by decide +kernel
theorem dL_law_554 : decode cL_law 554 = .ok (.iadd, 1) := by decide +kernel
theorem dL_law_555 : decode cL_law 555 = .ok (.iaload, 1) := by decide +kernel
theorem dL_law_556 : decode cL_law 556 = .ok (.aload_n 0, 1) := by decide +kernel
theorem dL_law_557 : decode cL_law 557 = .ok (.iload_n 3, 1) := by decide +kernel
theorem dL_law_558 : decode cL_law 558 = .ok (.iconst 2, 1) := by decide +kernel
theorem dL_law_559 : decode cL_law 559 = .ok (.iadd, 1) := by decide +kernel
theorem dL_law_560 : decode cL_law 560 = .ok (.iaload, 1) := by decide +kernel
theorem dL_law_561 : decode cL_law 561 = .ok (.invokevirtual 66, 3) := by decide +kernel
theorem dL_law_564 : decode cL_law 564 = .ok (.aload_n 2, 1) := by decide +kernel
theorem dL_law_565 : decode cL_law 565 = .ok (.aload_n 0, 1) := by decide +kernel
theorem dL_law_566 : decode cL_law 566 = .ok (.iload_n 3, 1) := by decide +kernel
theorem dL_law_567 : decode cL_law 567 = .ok (.iconst 1, 1) := by decide +kernel
theorem dL_law_568 : decode cL_law 568 = .ok (.iadd, 1) := by decide +kernel
theorem dL_law_569 : decode cL_law 569 = .ok (.iaload, 1) := by decide +kernel
theorem dL_law_570 : decode cL_law 570 = .ok (.aload_n 0, 1) := by decide +kernel
theorem dL_law_571 : decode cL_law 571 = .ok (.iload_n 3, 1) := by decide +kernel
theorem dL_law_572 : decode cL_law 572 = .ok (.iconst 2, 1) := by decide +kernel
theorem dL_law_573 : decode cL_law 573 = .ok (.iadd, 1) := by decide +kernel
theorem dL_law_574 : decode cL_law 574 = .ok (.iaload, 1) := by decide +kernel
theorem dL_law_575 : decode cL_law 575 = .ok (.invokevirtual 69, 3) := by decide +kernel
theorem dL_law_578 : decode cL_law 578 = .ok (.if_icmp .eq 669, 3) := by decide +kernel
theorem dL_law_581 : decode cL_law 581 = .ok (.iconst 0, 1) := by decide +kernel
theorem dL_law_582 : decode cL_law 582 = .ok (.ireturn, 1) := by decide +kernel
theorem dL_law_583 : decode cL_law 583 = .ok (.aload_n 1, 1) := by decide +kernel
theorem dL_law_584 : decode cL_law 584 = .ok (.aload_n 0, 1) := by decide +kernel
theorem dL_law_585 : decode cL_law 585 = .ok (.iload_n 3, 1) := by decide +kernel
theorem dL_law_586 : decode cL_law 586 = .ok (.iconst 1, 1) := by decide +kernel
theorem dL_law_587 : decode cL_law 587 = .ok (.iadd, 1) := by decide +kernel
theorem dL_law_588 : decode cL_law 588 = .ok (.iaload, 1) := by decide +kernel
theorem dL_law_589 : decode cL_law 589 = .ok (.aload_n 0, 1) := by decide +kernel
theorem dL_law_590 : decode cL_law 590 = .ok (.iload_n 3, 1) := by decide +kernel
theorem dL_law_591 : decode cL_law 591 = .ok (.iconst 2, 1) := by decide +kernel
theorem dL_law_592 : decode cL_law 592 = .ok (.iadd, 1) := by decide +kernel
theorem dL_law_593 : decode cL_law 593 = .ok (.iaload, 1) := by decide +kernel
theorem dL_law_594 : decode cL_law 594 = .ok (.invokevirtual 70, 3) := by decide +kernel
theorem dL_law_597 : decode cL_law 597 = .ok (.aload_n 2, 1) := by decide +kernel
theorem dL_law_598 : decode cL_law 598 = .ok (.aload_n 0, 1) := by decide +kernel
theorem dL_law_599 : decode cL_law 599 = .ok (.iload_n 3, 1) := by decide +kernel
theorem dL_law_600 : decode cL_law 600 = .ok (.iconst 1, 1) := by decide +kernel
theorem dL_law_601 : decode cL_law 601 = .ok (.iadd, 1) := by decide +kernel
theorem dL_law_602 : decode cL_law 602 = .ok (.iaload, 1) := by decide +kernel
theorem dL_law_603 : decode cL_law 603 = .ok (.aload_n 0, 1) := by decide +kernel
theorem dL_law_604 : decode cL_law 604 = .ok (.iload_n 3, 1) := by decide +kernel
theorem dL_law_605 : decode cL_law 605 = .ok (.iconst 2, 1) := by decide +kernel
theorem dL_law_606 : decode cL_law 606 = .ok (.iadd, 1) := by decide +kernel
theorem dL_law_607 : decode cL_law 607 = .ok (.iaload, 1) := by decide +kernel
theorem dL_law_608 : decode cL_law 608 = .ok (.invokevirtual 73, 3) := by decide +kernel
theorem dL_law_611 : decode cL_law 611 = .ok (.if_icmp .eq 636, 3) := by decide +kernel
theorem dL_law_614 : decode cL_law 614 = .ok (.iconst 0, 1) := by decide +kernel
theorem dL_law_615 : decode cL_law 615 = .ok (.ireturn, 1) := by decide +kernel
theorem dL_law_616 : decode cL_law 616 = .ok (.aload_n 1, 1) := by decide +kernel
theorem dL_law_617 : decode cL_law 617 = .ok (.aload_n 0, 1) := by decide +kernel
theorem dL_law_618 : decode cL_law 618 = .ok (.iload_n 3, 1) := by decide +kernel
theorem dL_law_619 : decode cL_law 619 = .ok (.iconst 1, 1) := by decide +kernel
theorem dL_law_620 : decode cL_law 620 = .ok (.iadd, 1) := by decide +kernel
theorem dL_law_621 : decode cL_law 621 = .ok (.iaload, 1) := by decide +kernel
theorem dL_law_622 : decode cL_law 622 = .ok (.aload_n 0, 1) := by decide +kernel
theorem dL_law_623 : decode cL_law 623 = .ok (.iload_n 3, 1) := by decide +kernel
theorem dL_law_624 : decode cL_law 624 = .ok (.iconst 2, 1) := by decide +kernel
theorem dL_law_625 : decode cL_law 625 = .ok (.iadd, 1) := by decide +kernel
theorem dL_law_626 : decode cL_law 626 = .ok (.iaload, 1) := by decide +kernel
theorem dL_law_627 : decode cL_law 627 = .ok (.invokevirtual 74, 3) := by decide +kernel
theorem dL_law_630 : decode cL_law 630 = .ok (.aload_n 2, 1) := by decide +kernel
theorem dL_law_631 : decode cL_law 631 = .ok (.aload_n 0, 1) := by decide +kernel
theorem dL_law_632 : decode cL_law 632 = .ok (.iload_n 3, 1) := by decide +kernel
theorem dL_law_633 : decode cL_law 633 = .ok (.iconst 1, 1) := by decide +kernel
theorem dL_law_634 : decode cL_law 634 = .ok (.iadd, 1) := by decide +kernel
theorem dL_law_635 : decode cL_law 635 = .ok (.iaload, 1) := by decide +kernel
theorem dL_law_636 : decode cL_law 636 = .ok (.aload_n 0, 1) := by decide +kernel
theorem dL_law_637 : decode cL_law 637 = .ok (.iload_n 3, 1) := by decide +kernel
theorem dL_law_638 : decode cL_law 638 = .ok (.iconst 2, 1) := by decide +kernel
theorem dL_law_639 : decode cL_law 639 = .ok (.iadd, 1) := by decide +kernel
theorem dL_law_640 : decode cL_law 640 = .ok (.iaload, 1) := by decide +kernel
theorem dL_law_641 : decode cL_law 641 = .ok (.invokevirtual 77, 3) := by decide +kernel
theorem dL_law_644 : decode cL_law 644 = .ok (.if_icmp .eq 603, 3) := by decide +kernel
theorem dL_law_647 : decode cL_law 647 = .ok (.iconst 0, 1) := by decide +kernel
theorem dL_law_648 : decode cL_law 648 = .ok (.ireturn, 1) := by decide +kernel
theorem dL_law_649 : decode cL_law 649 = .ok (.aload_n 1, 1) := by decide +kernel
theorem dL_law_650 : decode cL_law 650 = .ok (.aload_n 0, 1) := by decide +kernel
theorem dL_law_651 : decode cL_law 651 = .ok (.iload_n 3, 1) := by decide +kernel
theorem dL_law_652 : decode cL_law 652 = .ok (.iconst 1, 1) := by decide +kernel
theorem dL_law_653 : decode cL_law 653 = .ok (.iadd, 1) := by decide +kernel
theorem dL_law_654 : decode cL_law 654 = .ok (.iaload, 1) := by decide +kernel
theorem dL_law_655 : decode cL_law 655 = .ok (.aload_n 0, 1) := by decide +kernel
theorem dL_law_656 : decode cL_law 656 = .ok (.iload_n 3, 1) := by decide +kernel
theorem dL_law_657 : decode cL_law 657 = .ok (.iconst 2, 1) := by decide +kernel
theorem dL_law_658 : decode cL_law 658 = .ok (.iadd, 1) := by decide +kernel
theorem dL_law_659 : decode cL_law 659 = .ok (.iaload, 1) := by decide +kernel
theorem dL_law_660 : decode cL_law 660 = .ok (.invokevirtual 78, 3) := by decide +kernel
theorem dL_law_663 : decode cL_law 663 = .ok (.aload_n 2, 1) := by decide +kernel
theorem dL_law_664 : decode cL_law 664 = .ok (.aload_n 0, 1) := by decide +kernel
theorem dL_law_665 : decode cL_law 665 = .ok (.iload_n 3, 1) := by decide +kernel
theorem dL_law_666 : decode cL_law 666 = .ok (.iconst 1, 1) := by decide +kernel
theorem dL_law_667 : decode cL_law 667 = .ok (.iadd, 1) := by decide +kernel
theorem dL_law_668 : decode cL_law 668 = .ok (.iaload, 1) := by decide +kernel
theorem dL_law_669 : decode cL_law 669 = .ok (.aload_n 0, 1) := by decide +kernel
theorem dL_law_670 : decode cL_law 670 = .ok (.iload_n 3, 1) := by decide +kernel
theorem dL_law_671 : decode cL_law 671 = .ok (.iconst 2, 1) := by decide +kernel
theorem dL_law_672 : decode cL_law 672 = .ok (.iadd, 1) := by decide +kernel
theorem dL_law_673 : decode cL_law 673 = .ok (.iaload, 1) := by decide +kernel
theorem dL_law_674 : decode cL_law 674 = .ok (.invokevirtual 81, 3) := by decide +kernel
theorem dL_law_677 : decode cL_law 677 = .ok (.if_icmp .eq 570, 3) := by decide +kernel
theorem dL_law_680 : decode cL_law 680 = .ok (.iconst 0, 1) := by decide +kernel
theorem dL_law_681 : decode cL_law 681 = .ok (.ireturn, 1) := by decide +kernel
theorem dL_law_682 : decode cL_law 682 = .ok (.aload_n 1, 1) := by decide +kernel
theorem dL_law_683 : decode cL_law 683 = .ok (.aload_n 0, 1) := by decide +kernel
theorem dL_law_684 : decode cL_law 684 = .ok (.iload_n 3, 1) := by decide +kernel
theorem dL_law_685 : decode cL_law 685 = .ok (.iconst 1, 1) := by decide +kernel
theorem dL_law_686 : decode cL_law 686 = .ok (.iadd, 1) := by decide +kernel
theorem dL_law_687 : decode cL_law 687 = .ok (.iaload, 1) := by decide +kernel
theorem dL_law_688 : decode cL_law 688 = .ok (.invokevirtual 82, 3) := by decide +kernel
theorem dL_law_691 : decode cL_law 691 = .ok (.aload_n 2, 1) := by decide +kernel
theorem dL_law_692 : decode cL_law 692 = .ok (.aload_n 0, 1) := by decide +kernel
theorem dL_law_693 : decode cL_law 693 = .ok (.iload_n 3, 1) := by decide +kernel
theorem dL_law_694 : decode cL_law 694 = .ok (.iconst 1, 1) := by decide +kernel
theorem dL_law_695 : decode cL_law 695 = .ok (.iadd, 1) := by decide +kernel
theorem dL_law_696 : decode cL_law 696 = .ok (.iaload, 1) := by decide +kernel
theorem dL_law_697 : decode cL_law 697 = .ok (.invokevirtual 85, 3) := by decide +kernel
theorem dL_law_700 : decode cL_law 700 = .ok (.if_icmp .eq 547, 3) := by decide +kernel
theorem dL_law_703 : decode cL_law 703 = .ok (.iconst 0, 1) := by decide +kernel
theorem dL_law_704 : decode cL_law 704 = .ok (.ireturn, 1) := by decide +kernel
theorem dL_law_705 : decode cL_law 705 = .ok (.aload_n 1, 1) := by decide +kernel
theorem dL_law_706 : decode cL_law 706 = .ok (.aload_n 0, 1) := by decide +kernel
theorem dL_law_707 : decode cL_law 707 = .ok (.iload_n 3, 1) := by decide +kernel
theorem dL_law_708 : decode cL_law 708 = .ok (.iconst 1, 1) := by decide +kernel
theorem dL_law_709 : decode cL_law 709 = .ok (.iadd, 1) := by decide +kernel
theorem dL_law_710 : decode cL_law 710 = .ok (.iaload, 1) := by decide +kernel
theorem dL_law_711 : decode cL_law 711 = .ok (.aload_n 0, 1) := by decide +kernel
theorem dL_law_712 : decode cL_law 712 = .ok (.iload_n 3, 1) := by decide +kernel
theorem dL_law_713 : decode cL_law 713 = .ok (.iconst 2, 1) := by decide +kernel
theorem dL_law_714 : decode cL_law 714 = .ok (.iadd, 1) := by decide +kernel
theorem dL_law_715 : decode cL_law 715 = .ok (.iaload, 1) := by decide +kernel
theorem dL_law_716 : decode cL_law 716 = .ok (.aload_n 0, 1) := by decide +kernel
theorem dL_law_717 : decode cL_law 717 = .ok (.iload_n 3, 1) := by decide +kernel
theorem dL_law_718 : decode cL_law 718 = .ok (.iconst 3, 1) := by decide +kernel
theorem dL_law_719 : decode cL_law 719 = .ok (.iadd, 1) := by decide +kernel
theorem dL_law_720 : decode cL_law 720 = .ok (.iaload, 1) := by decide +kernel
theorem dL_law_721 : decode cL_law 721 = .ok (.invokevirtual 86, 3) := by decide +kernel
theorem dL_law_724 : decode cL_law 724 = .ok (.aload_n 2, 1) := by decide +kernel
theorem dL_law_725 : decode cL_law 725 = .ok (.aload_n 0, 1) := by decide +kernel
theorem dL_law_726 : decode cL_law 726 = .ok (.iload_n 3, 1) := by decide +kernel
theorem dL_law_727 : decode cL_law 727 = .ok (.iconst 1, 1) := by decide +kernel
theorem dL_law_728 : decode cL_law 728 = .ok (.iadd, 1) := by decide +kernel
theorem dL_law_729 : decode cL_law 729 = .ok (.iaload, 1) := by decide +kernel
theorem dL_law_730 : decode cL_law 730 = .ok (.aload_n 0, 1) := by decide +kernel
theorem dL_law_731 : decode cL_law 731 = .ok (.iload_n 3, 1) := by decide +kernel
theorem dL_law_732 : decode cL_law 732 = .ok (.iconst 2, 1) := by decide +kernel
theorem dL_law_733 : decode cL_law 733 = .ok (.iadd, 1) := by decide +kernel
theorem dL_law_734 : decode cL_law 734 = .ok (.iaload, 1) := by decide +kernel
theorem dL_law_735 : decode cL_law 735 = .ok (.aload_n 0, 1) := by decide +kernel
theorem dL_law_736 : decode cL_law 736 = .ok (.iload_n 3, 1) := by decide +kernel
theorem dL_law_737 : decode cL_law 737 = .ok (.iconst 3, 1) := by decide +kernel
theorem dL_law_738 : decode cL_law 738 = .ok (.iadd, 1) := by decide +kernel
theorem dL_law_739 : decode cL_law 739 = .ok (.iaload, 1) := by decide +kernel
theorem dL_law_740 : decode cL_law 740 = .ok (.invokevirtual 89, 3) := by decide +kernel
theorem dL_law_743 : decode cL_law 743 = .ok (.if_icmp .eq 504, 3) := by decide +kernel
theorem dL_law_746 : decode cL_law 746 = .ok (.iconst 0, 1) := by decide +kernel
theorem dL_law_747 : decode cL_law 747 = .ok (.ireturn, 1) := by decide +kernel
theorem dL_law_748 : decode cL_law 748 = .ok (.aload_n 1, 1) := by decide +kernel
theorem dL_law_749 : decode cL_law 749 = .ok (.aload_n 0, 1) := by decide +kernel
theorem dL_law_750 : decode cL_law 750 = .ok (.iload_n 3, 1) := by decide +kernel
theorem dL_law_751 : decode cL_law 751 = .ok (.iconst 1, 1) := by decide +kernel
theorem dL_law_752 : decode cL_law 752 = .ok (.iadd, 1) := by decide +kernel
theorem dL_law_753 : decode cL_law 753 = .ok (.iaload, 1) := by decide +kernel
theorem dL_law_754 : decode cL_law 754 = .ok (.aload_n 0, 1) := by decide +kernel
theorem dL_law_755 : decode cL_law 755 = .ok (.iload_n 3, 1) := by decide +kernel
theorem dL_law_756 : decode cL_law 756 = .ok (.iconst 2, 1) := by decide +kernel
theorem dL_law_757 : decode cL_law 757 = .ok (.iadd, 1) := by decide +kernel
theorem dL_law_758 : decode cL_law 758 = .ok (.iaload, 1) := by decide +kernel
theorem dL_law_759 : decode cL_law 759 = .ok (.invokevirtual 90, 3) := by decide +kernel
theorem dL_law_762 : decode cL_law 762 = .ok (.aload_n 2, 1) := by decide +kernel
theorem dL_law_763 : decode cL_law 763 = .ok (.aload_n 0, 1) := by decide +kernel
theorem dL_law_764 : decode cL_law 764 = .ok (.iload_n 3, 1) := by decide +kernel
theorem dL_law_765 : decode cL_law 765 = .ok (.iconst 1, 1) := by decide +kernel
theorem dL_law_766 : decode cL_law 766 = .ok (.iadd, 1) := by decide +kernel
theorem dL_law_767 : decode cL_law 767 = .ok (.iaload, 1) := by decide +kernel
theorem dL_law_768 : decode cL_law 768 = .ok (.aload_n 0, 1) := by decide +kernel
theorem dL_law_769 : decode cL_law 769 = .ok (.iload_n 3, 1) := by decide +kernel
theorem dL_law_770 : decode cL_law 770 = .ok (.iconst 2, 1) := by decide +kernel
theorem dL_law_771 : decode cL_law 771 = .ok (.iadd, 1) := by decide +kernel
theorem dL_law_772 : decode cL_law 772 = .ok (.iaload, 1) := by decide +kernel
theorem dL_law_773 : decode cL_law 773 = .ok (.invokevirtual 93, 3) := by decide +kernel
theorem dL_law_776 : decode cL_law 776 = .ok (.if_icmp .eq 471, 3) := by decide +kernel
theorem dL_law_779 : decode cL_law 779 = .ok (.iconst 0, 1) := by decide +kernel
theorem dL_law_780 : decode cL_law 780 = .ok (.ireturn, 1) := by decide +kernel
theorem dL_law_781 : decode cL_law 781 = .ok (.aload_n 1, 1) := by decide +kernel
theorem dL_law_782 : decode cL_law 782 = .ok (.aload_n 0, 1) := by decide +kernel
theorem dL_law_783 : decode cL_law 783 = .ok (.iload_n 3, 1) := by decide +kernel
theorem dL_law_784 : decode cL_law 784 = .ok (.iconst 1, 1) := by decide +kernel
theorem dL_law_785 : decode cL_law 785 = .ok (.iadd, 1) := by decide +kernel
theorem dL_law_786 : decode cL_law 786 = .ok (.iaload, 1) := by decide +kernel
theorem dL_law_787 : decode cL_law 787 = .ok (.aload_n 0, 1) := by decide +kernel
theorem dL_law_788 : decode cL_law 788 = .ok (.iload_n 3, 1) := by decide +kernel
theorem dL_law_789 : decode cL_law 789 = .ok (.iconst 2, 1) := by decide +kernel
theorem dL_law_790 : decode cL_law 790 = .ok (.iadd, 1) := by decide +kernel
theorem dL_law_791 : decode cL_law 791 = .ok (.iaload, 1) := by decide +kernel
theorem dL_law_792 : decode cL_law 792 = .ok (.aload_n 0, 1) := by decide +kernel
theorem dL_law_793 : decode cL_law 793 = .ok (.iload_n 3, 1) := by decide +kernel
theorem dL_law_794 : decode cL_law 794 = .ok (.iconst 3, 1) := by decide +kernel
theorem dL_law_795 : decode cL_law 795 = .ok (.iadd, 1) := by decide +kernel
theorem dL_law_796 : decode cL_law 796 = .ok (.iaload, 1) := by decide +kernel
theorem dL_law_797 : decode cL_law 797 = .ok (.invokevirtual 94, 3) := by decide +kernel
theorem dL_law_800 : decode cL_law 800 = .ok (.aload_n 2, 1) := by decide +kernel
theorem dL_law_801 : decode cL_law 801 = .ok (.aload_n 0, 1) := by decide +kernel
theorem dL_law_802 : decode cL_law 802 = .ok (.iload_n 3, 1) := by decide +kernel
theorem dL_law_803 : decode cL_law 803 = .ok (.iconst 1, 1) := by decide +kernel
theorem dL_law_804 : decode cL_law 804 = .ok (.iadd, 1) := by decide +kernel
theorem dL_law_805 : decode cL_law 805 = .ok (.iaload, 1) := by decide +kernel
theorem dL_law_806 : decode cL_law 806 = .ok (.aload_n 0, 1) := by decide +kernel
theorem dL_law_807 : decode cL_law 807 = .ok (.iload_n 3, 1) := by decide +kernel
theorem dL_law_808 : decode cL_law 808 = .ok (.iconst 2, 1) := by decide +kernel
theorem dL_law_809 : decode cL_law 809 = .ok (.iadd, 1) := by decide +kernel
theorem dL_law_810 : decode cL_law 810 = .ok (.iaload, 1) := by decide +kernel
theorem dL_law_811 : decode cL_law 811 = .ok (.aload_n 0, 1) := by decide +kernel
theorem dL_law_812 : decode cL_law 812 = .ok (.iload_n 3, 1) := by decide +kernel
theorem dL_law_813 : decode cL_law 813 = .ok (.iconst 3, 1) := by decide +kernel
theorem dL_law_814 : decode cL_law 814 = .ok (.iadd, 1) := by decide +kernel
theorem dL_law_815 : decode cL_law 815 = .ok (.iaload, 1) := by decide +kernel
theorem dL_law_816 : decode cL_law 816 = .ok (.invokevirtual 97, 3) := by decide +kernel
theorem dL_law_819 : decode cL_law 819 = .ok (.if_icmp .eq 428, 3) := by decide +kernel
theorem dL_law_822 : decode cL_law 822 = .ok (.iconst 0, 1) := by decide +kernel
theorem dL_law_823 : decode cL_law 823 = .ok (.ireturn, 1) := by decide +kernel
theorem dL_law_824 : decode cL_law 824 = .ok (.aload_n 1, 1) := by decide +kernel
theorem dL_law_825 : decode cL_law 825 = .ok (.aload_n 0, 1) := by decide +kernel
theorem dL_law_826 : decode cL_law 826 = .ok (.iload_n 3, 1) := by decide +kernel
theorem dL_law_827 : decode cL_law 827 = .ok (.iconst 1, 1) := by decide +kernel
theorem dL_law_828 : decode cL_law 828 = .ok (.iadd, 1) := by decide +kernel
theorem dL_law_829 : decode cL_law 829 = .ok (.iaload, 1) := by decide +kernel
theorem dL_law_830 : decode cL_law 830 = .ok (.aload_n 0, 1) := by decide +kernel
theorem dL_law_831 : decode cL_law 831 = .ok (.iload_n 3, 1) := by decide +kernel
theorem dL_law_832 : decode cL_law 832 = .ok (.iconst 2, 1) := by decide +kernel
theorem dL_law_833 : decode cL_law 833 = .ok (.iadd, 1) := by decide +kernel
theorem dL_law_834 : decode cL_law 834 = .ok (.iaload, 1) := by decide +kernel
theorem dL_law_835 : decode cL_law 835 = .ok (.aload_n 0, 1) := by decide +kernel
theorem dL_law_836 : decode cL_law 836 = .ok (.iload_n 3, 1) := by decide +kernel
theorem dL_law_837 : decode cL_law 837 = .ok (.iconst 3, 1) := by decide +kernel
theorem dL_law_838 : decode cL_law 838 = .ok (.iadd, 1) := by decide +kernel
theorem dL_law_839 : decode cL_law 839 = .ok (.iaload, 1) := by decide +kernel
theorem dL_law_840 : decode cL_law 840 = .ok (.aload_n 0, 1) := by decide +kernel
theorem dL_law_841 : decode cL_law 841 = .ok (.iload_n 3, 1) := by decide +kernel
theorem dL_law_842 : decode cL_law 842 = .ok (.iconst 4, 1) := by decide +kernel
theorem dL_law_843 : decode cL_law 843 = .ok (.iadd, 1) := by decide +kernel
theorem dL_law_844 : decode cL_law 844 = .ok (.iaload, 1) := by decide +kernel
theorem dL_law_845 : decode cL_law 845 = .ok (.invokevirtual 98, 3) := by decide +kernel
theorem dL_law_848 : decode cL_law 848 = .ok (.aload_n 2, 1) := by decide +kernel
theorem dL_law_849 : decode cL_law 849 = .ok (.aload_n 0, 1) := by decide +kernel
theorem dL_law_850 : decode cL_law 850 = .ok (.iload_n 3, 1) := by decide +kernel
theorem dL_law_851 : decode cL_law 851 = .ok (.iconst 1, 1) := by decide +kernel
theorem dL_law_852 : decode cL_law 852 = .ok (.iadd, 1) := by decide +kernel
theorem dL_law_853 : decode cL_law 853 = .ok (.iaload, 1) := by decide +kernel
theorem dL_law_854 : decode cL_law 854 = .ok (.aload_n 0, 1) := by decide +kernel
theorem dL_law_855 : decode cL_law 855 = .ok (.iload_n 3, 1) := by decide +kernel
theorem dL_law_856 : decode cL_law 856 = .ok (.iconst 2, 1) := by decide +kernel
theorem dL_law_857 : decode cL_law 857 = .ok (.iadd, 1) := by decide +kernel
theorem dL_law_858 : decode cL_law 858 = .ok (.iaload, 1) := by decide +kernel
theorem dL_law_859 : decode cL_law 859 = .ok (.aload_n 0, 1) := by decide +kernel
theorem dL_law_860 : decode cL_law 860 = .ok (.iload_n 3, 1) := by decide +kernel
theorem dL_law_861 : decode cL_law 861 = .ok (.iconst 3, 1) := by decide +kernel
theorem dL_law_862 : decode cL_law 862 = .ok (.iadd, 1) := by decide +kernel
theorem dL_law_863 : decode cL_law 863 = .ok (.iaload, 1) := by decide +kernel
theorem dL_law_864 : decode cL_law 864 = .ok (.aload_n 0, 1) := by decide +kernel
theorem dL_law_865 : decode cL_law 865 = .ok (.iload_n 3, 1) := by decide +kernel
theorem dL_law_866 : decode cL_law 866 = .ok (.iconst 4, 1) := by decide +kernel
theorem dL_law_867 : decode cL_law 867 = .ok (.iadd, 1) := by decide +kernel
theorem dL_law_868 : decode cL_law 868 = .ok (.iaload, 1) := by decide +kernel
theorem dL_law_869 : decode cL_law 869 = .ok (.invokevirtual 102, 3) := by decide +kernel
theorem dL_law_872 : decode cL_law 872 = .ok (.if_icmp .eq 375, 3) := by decide +kernel
theorem dL_law_875 : decode cL_law 875 = .ok (.iconst 0, 1) := by decide +kernel
theorem dL_law_876 : decode cL_law 876 = .ok (.ireturn, 1) := by decide +kernel
theorem dL_law_877 : decode cL_law 877 = .ok (.aload_n 1, 1) := by decide +kernel
theorem dL_law_878 : decode cL_law 878 = .ok (.aload_n 0, 1) := by decide +kernel
theorem dL_law_879 : decode cL_law 879 = .ok (.iload_n 3, 1) := by decide +kernel
theorem dL_law_880 : decode cL_law 880 = .ok (.iconst 1, 1) := by decide +kernel
theorem dL_law_881 : decode cL_law 881 = .ok (.iadd, 1) := by decide +kernel
theorem dL_law_882 : decode cL_law 882 = .ok (.iaload, 1) := by decide +kernel
theorem dL_law_883 : decode cL_law 883 = .ok (.aload_n 0, 1) := by decide +kernel
theorem dL_law_884 : decode cL_law 884 = .ok (.iload_n 3, 1) := by decide +kernel
theorem dL_law_885 : decode cL_law 885 = .ok (.iconst 2, 1) := by decide +kernel
theorem dL_law_886 : decode cL_law 886 = .ok (.iadd, 1) := by decide +kernel
theorem dL_law_887 : decode cL_law 887 = .ok (.iaload, 1) := by decide +kernel
theorem dL_law_888 : decode cL_law 888 = .ok (.aload_n 0, 1) := by decide +kernel
theorem dL_law_889 : decode cL_law 889 = .ok (.iload_n 3, 1) := by decide +kernel
theorem dL_law_890 : decode cL_law 890 = .ok (.iconst 3, 1) := by decide +kernel
theorem dL_law_891 : decode cL_law 891 = .ok (.iadd, 1) := by decide +kernel
theorem dL_law_892 : decode cL_law 892 = .ok (.iaload, 1) := by decide +kernel
theorem dL_law_893 : decode cL_law 893 = .ok (.aload_n 0, 1) := by decide +kernel
theorem dL_law_894 : decode cL_law 894 = .ok (.iload_n 3, 1) := by decide +kernel
theorem dL_law_895 : decode cL_law 895 = .ok (.iconst 4, 1) := by decide +kernel
theorem dL_law_896 : decode cL_law 896 = .ok (.iadd, 1) := by decide +kernel
theorem dL_law_897 : decode cL_law 897 = .ok (.iaload, 1) := by decide +kernel
theorem dL_law_898 : decode cL_law 898 = .ok (.invokevirtual 103, 3) := by decide +kernel
theorem dL_law_901 : decode cL_law 901 = .ok (.aload_n 2, 1) := by decide +kernel
theorem dL_law_902 : decode cL_law 902 = .ok (.aload_n 0, 1) := by decide +kernel
theorem dL_law_903 : decode cL_law 903 = .ok (.iload_n 3, 1) := by decide +kernel
theorem dL_law_904 : decode cL_law 904 = .ok (.iconst 1, 1) := by decide +kernel
theorem dL_law_905 : decode cL_law 905 = .ok (.iadd, 1) := by decide +kernel
theorem dL_law_906 : decode cL_law 906 = .ok (.iaload, 1) := by decide +kernel
theorem dL_law_907 : decode cL_law 907 = .ok (.aload_n 0, 1) := by decide +kernel
theorem dL_law_908 : decode cL_law 908 = .ok (.iload_n 3, 1) := by decide +kernel
theorem dL_law_909 : decode cL_law 909 = .ok (.iconst 2, 1) := by decide +kernel
theorem dL_law_910 : decode cL_law 910 = .ok (.iadd, 1) := by decide +kernel
theorem dL_law_911 : decode cL_law 911 = .ok (.iaload, 1) := by decide +kernel
theorem dL_law_912 : decode cL_law 912 = .ok (.aload_n 0, 1) := by decide +kernel
theorem dL_law_913 : decode cL_law 913 = .ok (.iload_n 3, 1) := by decide +kernel
theorem dL_law_914 : decode cL_law 914 = .ok (.iconst 3, 1) := by decide +kernel
theorem dL_law_915 : decode cL_law 915 = .ok (.iadd, 1) := by decide +kernel
theorem dL_law_916 : decode cL_law 916 = .ok (.iaload, 1) := by decide +kernel
theorem dL_law_917 : decode cL_law 917 = .ok (.aload_n 0, 1) := by decide +kernel
theorem dL_law_918 : decode cL_law 918 = .ok (.iload_n 3, 1) := by decide +kernel
theorem dL_law_919 : decode cL_law 919 = .ok (.iconst 4, 1) := by decide +kernel
theorem dL_law_920 : decode cL_law 920 = .ok (.iadd, 1) := by decide +kernel
theorem dL_law_921 : decode cL_law 921 = .ok (.iaload, 1) := by decide +kernel
theorem dL_law_922 : decode cL_law 922 = .ok (.invokevirtual 106, 3) := by decide +kernel
theorem dL_law_925 : decode cL_law 925 = .ok (.if_icmp .eq 322, 3) := by decide +kernel
theorem dL_law_928 : decode cL_law 928 = .ok (.iconst 0, 1) := by decide +kernel
theorem dL_law_929 : decode cL_law 929 = .ok (.ireturn, 1) := by decide +kernel
theorem dL_law_930 : decode cL_law 930 = .ok (.aload_n 1, 1) := by decide +kernel
theorem dL_law_931 : decode cL_law 931 = .ok (.aload_n 0, 1) := by decide +kernel
theorem dL_law_932 : decode cL_law 932 = .ok (.iload_n 3, 1) := by decide +kernel
theorem dL_law_933 : decode cL_law 933 = .ok (.iconst 1, 1) := by decide +kernel
theorem dL_law_934 : decode cL_law 934 = .ok (.iadd, 1) := by decide +kernel
theorem dL_law_935 : decode cL_law 935 = .ok (.iaload, 1) := by decide +kernel
theorem dL_law_936 : decode cL_law 936 = .ok (.invokevirtual 107, 3) := by decide +kernel
theorem dL_law_939 : decode cL_law 939 = .ok (.aload_n 2, 1) := by decide +kernel
theorem dL_law_940 : decode cL_law 940 = .ok (.aload_n 0, 1) := by decide +kernel
theorem dL_law_941 : decode cL_law 941 = .ok (.iload_n 3, 1) := by decide +kernel
theorem dL_law_942 : decode cL_law 942 = .ok (.iconst 1, 1) := by decide +kernel
theorem dL_law_943 : decode cL_law 943 = .ok (.iadd, 1) := by decide +kernel
theorem dL_law_944 : decode cL_law 944 = .ok (.iaload, 1) := by decide +kernel
theorem dL_law_945 : decode cL_law 945 = .ok (.invokevirtual 110, 3) := by decide +kernel
theorem dL_law_948 : decode cL_law 948 = .ok (.if_icmp .eq 299, 3) := by decide +kernel
theorem dL_law_951 : decode cL_law 951 = .ok (.iconst 0, 1) := by decide +kernel
theorem dL_law_952 : decode cL_law 952 = .ok (.ireturn, 1) := by decide +kernel
theorem dL_law_953 : decode cL_law 953 = .ok (.aload_n 1, 1) := by decide +kernel
theorem dL_law_954 : decode cL_law 954 = .ok (.aload_n 0, 1) := by decide +kernel
theorem dL_law_955 : decode cL_law 955 = .ok (.iload_n 3, 1) := by decide +kernel
theorem dL_law_956 : decode cL_law 956 = .ok (.iconst 1, 1) := by decide +kernel
theorem dL_law_957 : decode cL_law 957 = .ok (.iadd, 1) := by decide +kernel
theorem dL_law_958 : decode cL_law 958 = .ok (.iaload, 1) := by decide +kernel
theorem dL_law_959 : decode cL_law 959 = .ok (.invokevirtual 111, 3) := by decide +kernel
theorem dL_law_962 : decode cL_law 962 = .ok (.aload_n 2, 1) := by decide +kernel
theorem dL_law_963 : decode cL_law 963 = .ok (.aload_n 0, 1) := by decide +kernel
theorem dL_law_964 : decode cL_law 964 = .ok (.iload_n 3, 1) := by decide +kernel
theorem dL_law_965 : decode cL_law 965 = .ok (.iconst 1, 1) := by decide +kernel
theorem dL_law_966 : decode cL_law 966 = .ok (.iadd, 1) := by decide +kernel
theorem dL_law_967 : decode cL_law 967 = .ok (.iaload, 1) := by decide +kernel
theorem dL_law_968 : decode cL_law 968 = .ok (.invokevirtual 114, 3) := by decide +kernel
theorem dL_law_971 : decode cL_law 971 = .ok (.if_icmp .eq 276, 3) := by decide +kernel
theorem dL_law_974 : decode cL_law 974 = .ok (.iconst 0, 1) := by decide +kernel
theorem dL_law_975 : decode cL_law 975 = .ok (.ireturn, 1) := by decide +kernel
theorem dL_law_976 : decode cL_law 976 = .ok (.aload_n 1, 1) := by decide +kernel
theorem dL_law_977 : decode cL_law 977 = .ok (.aload_n 0, 1) := by decide +kernel
theorem dL_law_978 : decode cL_law 978 = .ok (.iload_n 3, 1) := by decide +kernel
theorem dL_law_979 : decode cL_law 979 = .ok (.iconst 1, 1) := by decide +kernel
theorem dL_law_980 : decode cL_law 980 = .ok (.iadd, 1) := by decide +kernel
theorem dL_law_981 : decode cL_law 981 = .ok (.iaload, 1) := by decide +kernel
theorem dL_law_982 : decode cL_law 982 = .ok (.aload_n 0, 1) := by decide +kernel
theorem dL_law_983 : decode cL_law 983 = .ok (.iload_n 3, 1) := by decide +kernel
theorem dL_law_984 : decode cL_law 984 = .ok (.iconst 2, 1) := by decide +kernel
theorem dL_law_985 : decode cL_law 985 = .ok (.iadd, 1) := by decide +kernel
theorem dL_law_986 : decode cL_law 986 = .ok (.iaload, 1) := by decide +kernel
theorem dL_law_987 : decode cL_law 987 = .ok (.invokevirtual 115, 3) := by decide +kernel
theorem dL_law_990 : decode cL_law 990 = .ok (.aload_n 2, 1) := by decide +kernel
theorem dL_law_991 : decode cL_law 991 = .ok (.aload_n 0, 1) := by decide +kernel
theorem dL_law_992 : decode cL_law 992 = .ok (.iload_n 3, 1) := by decide +kernel
theorem dL_law_993 : decode cL_law 993 = .ok (.iconst 1, 1) := by decide +kernel
theorem dL_law_994 : decode cL_law 994 = .ok (.iadd, 1) := by decide +kernel
theorem dL_law_995 : decode cL_law 995 = .ok (.iaload, 1) := by decide +kernel
theorem dL_law_996 : decode cL_law 996 = .ok (.aload_n 0, 1) := by decide +kernel
theorem dL_law_997 : decode cL_law 997 = .ok (.iload_n 3, 1) := by decide +kernel
theorem dL_law_998 : decode cL_law 998 = .ok (.iconst 2, 1) := by decide +kernel
theorem dL_law_999 : decode cL_law 999 = .ok (.iadd, 1) := by decide +kernel
theorem dL_law_1000 : decode cL_law 1000 = .ok (.iaload, 1) := by decide +kernel
theorem dL_law_1001 : decode cL_law 1001 = .ok (.invokevirtual 119, 3) := by decide +kernel
theorem dL_law_1004 : decode cL_law 1004 = .ok (.lcmp, 1) := by decide +kernel
theorem dL_law_1005 : decode cL_law 1005 = .ok (.ifCond .eq 242, 3) := by decide +kernel
theorem dL_law_1008 : decode cL_law 1008 = .ok (.iconst 0, 1) := by decide +kernel
theorem dL_law_1009 : decode cL_law 1009 = .ok (.ireturn, 1) := by decide +kernel
theorem dL_law_1010 : decode cL_law 1010 = .ok (.aload_n 1, 1) := by decide +kernel
theorem dL_law_1011 : decode cL_law 1011 = .ok (.aload_n 0, 1) := by decide +kernel
theorem dL_law_1012 : decode cL_law 1012 = .ok (.iload_n 3, 1) := by decide +kernel
theorem dL_law_1013 : decode cL_law 1013 = .ok (.iconst 1, 1) := by decide +kernel
theorem dL_law_1014 : decode cL_law 1014 = .ok (.iadd, 1) := by decide +kernel
theorem dL_law_1015 : decode cL_law 1015 = .ok (.iaload, 1) := by decide +kernel
theorem dL_law_1016 : decode cL_law 1016 = .ok (.aload_n 0, 1) := by decide +kernel
theorem dL_law_1017 : decode cL_law 1017 = .ok (.iload_n 3, 1) := by decide +kernel
theorem dL_law_1018 : decode cL_law 1018 = .ok (.iconst 2, 1) := by decide +kernel
theorem dL_law_1019 : decode cL_law 1019 = .ok (.iadd, 1) := by decide +kernel
theorem dL_law_1020 : decode cL_law 1020 = .ok (.iaload, 1) := by decide +kernel
theorem dL_law_1021 : decode cL_law 1021 = .ok (.aload_n 0, 1) := by decide +kernel
theorem dL_law_1022 : decode cL_law 1022 = .ok (.iload_n 3, 1) := by decide +kernel
theorem dL_law_1023 : decode cL_law 1023 = .ok (.iconst 3, 1) := by decide +kernel
theorem dL_law_1024 : decode cL_law 1024 = .ok (.iadd, 1) := by decide +kernel
theorem dL_law_1025 : decode cL_law 1025 = .ok (.iaload, 1) := by decide +kernel
theorem dL_law_1026 : decode cL_law 1026 = .ok (.invokevirtual 120, 3) := by decide +kernel
theorem dL_law_1029 : decode cL_law 1029 = .ok (.aload_n 2, 1) := by decide +kernel
theorem dL_law_1030 : decode cL_law 1030 = .ok (.aload_n 0, 1) := by decide +kernel
theorem dL_law_1031 : decode cL_law 1031 = .ok (.iload_n 3, 1) := by decide +kernel
theorem dL_law_1032 : decode cL_law 1032 = .ok (.iconst 1, 1) := by decide +kernel
theorem dL_law_1033 : decode cL_law 1033 = .ok (.iadd, 1) := by decide +kernel
theorem dL_law_1034 : decode cL_law 1034 = .ok (.iaload, 1) := by decide +kernel
theorem dL_law_1035 : decode cL_law 1035 = .ok (.aload_n 0, 1) := by decide +kernel
theorem dL_law_1036 : decode cL_law 1036 = .ok (.iload_n 3, 1) := by decide +kernel
theorem dL_law_1037 : decode cL_law 1037 = .ok (.iconst 2, 1) := by decide +kernel
theorem dL_law_1038 : decode cL_law 1038 = .ok (.iadd, 1) := by decide +kernel
theorem dL_law_1039 : decode cL_law 1039 = .ok (.iaload, 1) := by decide +kernel
theorem dL_law_1040 : decode cL_law 1040 = .ok (.aload_n 0, 1) := by decide +kernel
theorem dL_law_1041 : decode cL_law 1041 = .ok (.iload_n 3, 1) := by decide +kernel
theorem dL_law_1042 : decode cL_law 1042 = .ok (.iconst 3, 1) := by decide +kernel
theorem dL_law_1043 : decode cL_law 1043 = .ok (.iadd, 1) := by decide +kernel
theorem dL_law_1044 : decode cL_law 1044 = .ok (.iaload, 1) := by decide +kernel
theorem dL_law_1045 : decode cL_law 1045 = .ok (.invokevirtual 123, 3) := by decide +kernel
theorem dL_law_1048 : decode cL_law 1048 = .ok (.if_icmp .eq 199, 3) := by decide +kernel
theorem dL_law_1051 : decode cL_law 1051 = .ok (.iconst 0, 1) := by decide +kernel
theorem dL_law_1052 : decode cL_law 1052 = .ok (.ireturn, 1) := by decide +kernel
theorem dL_law_1053 : decode cL_law 1053 = .ok (.aload_n 1, 1) := by decide +kernel
theorem dL_law_1054 : decode cL_law 1054 = .ok (.aload_n 0, 1) := by decide +kernel
theorem dL_law_1055 : decode cL_law 1055 = .ok (.iload_n 3, 1) := by decide +kernel
theorem dL_law_1056 : decode cL_law 1056 = .ok (.iconst 1, 1) := by decide +kernel
theorem dL_law_1057 : decode cL_law 1057 = .ok (.iadd, 1) := by decide +kernel
theorem dL_law_1058 : decode cL_law 1058 = .ok (.iaload, 1) := by decide +kernel
theorem dL_law_1059 : decode cL_law 1059 = .ok (.invokevirtual 124, 3) := by decide +kernel
theorem dL_law_1062 : decode cL_law 1062 = .ok (.aload_n 2, 1) := by decide +kernel
theorem dL_law_1063 : decode cL_law 1063 = .ok (.aload_n 0, 1) := by decide +kernel
theorem dL_law_1064 : decode cL_law 1064 = .ok (.iload_n 3, 1) := by decide +kernel
theorem dL_law_1065 : decode cL_law 1065 = .ok (.iconst 1, 1) := by decide +kernel
theorem dL_law_1066 : decode cL_law 1066 = .ok (.iadd, 1) := by decide +kernel
theorem dL_law_1067 : decode cL_law 1067 = .ok (.iaload, 1) := by decide +kernel
theorem dL_law_1068 : decode cL_law 1068 = .ok (.invokevirtual 127, 3) := by decide +kernel
theorem dL_law_1071 : decode cL_law 1071 = .ok (.if_icmp .eq 176, 3) := by decide +kernel
theorem dL_law_1074 : decode cL_law 1074 = .ok (.iconst 0, 1) := by decide +kernel
theorem dL_law_1075 : decode cL_law 1075 = .ok (.ireturn, 1) := by decide +kernel
theorem dL_law_1076 : decode cL_law 1076 = .ok (.aload_n 1, 1) := by decide +kernel
theorem dL_law_1077 : decode cL_law 1077 = .ok (.aload_n 0, 1) := by decide +kernel
theorem dL_law_1078 : decode cL_law 1078 = .ok (.iload_n 3, 1) := by decide +kernel
theorem dL_law_1079 : decode cL_law 1079 = .ok (.iconst 1, 1) := by decide +kernel
theorem dL_law_1080 : decode cL_law 1080 = .ok (.iadd, 1) := by decide +kernel
theorem dL_law_1081 : decode cL_law 1081 = .ok (.iaload, 1) := by decide +kernel
theorem dL_law_1082 : decode cL_law 1082 = .ok (.invokevirtual 128, 3) := by decide +kernel
theorem dL_law_1085 : decode cL_law 1085 = .ok (.aload_n 2, 1) := by decide +kernel
theorem dL_law_1086 : decode cL_law 1086 = .ok (.aload_n 0, 1) := by decide +kernel
theorem dL_law_1087 : decode cL_law 1087 = .ok (.iload_n 3, 1) := by decide +kernel
theorem dL_law_1088 : decode cL_law 1088 = .ok (.iconst 1, 1) := by decide +kernel
theorem dL_law_1089 : decode cL_law 1089 = .ok (.iadd, 1) := by decide +kernel
theorem dL_law_1090 : decode cL_law 1090 = .ok (.iaload, 1) := by decide +kernel
theorem dL_law_1091 : decode cL_law 1091 = .ok (.invokevirtual 131, 3) := by decide +kernel
theorem dL_law_1094 : decode cL_law 1094 = .ok (.if_icmp .eq 153, 3) := by decide +kernel
theorem dL_law_1097 : decode cL_law 1097 = .ok (.iconst 0, 1) := by decide +kernel
theorem dL_law_1098 : decode cL_law 1098 = .ok (.ireturn, 1) := by decide +kernel
theorem dL_law_1099 : decode cL_law 1099 = .ok (.aload_n 1, 1) := by decide +kernel
theorem dL_law_1100 : decode cL_law 1100 = .ok (.aload_n 0, 1) := by decide +kernel
theorem dL_law_1101 : decode cL_law 1101 = .ok (.iload_n 3, 1) := by decide +kernel
theorem dL_law_1102 : decode cL_law 1102 = .ok (.iconst 1, 1) := by decide +kernel
theorem dL_law_1103 : decode cL_law 1103 = .ok (.iadd, 1) := by decide +kernel
theorem dL_law_1104 : decode cL_law 1104 = .ok (.iaload, 1) := by decide +kernel
theorem dL_law_1105 : decode cL_law 1105 = .ok (.invokevirtual 132, 3) := by decide +kernel
theorem dL_law_1108 : decode cL_law 1108 = .ok (.aload_n 2, 1) := by decide +kernel
theorem dL_law_1109 : decode cL_law 1109 = .ok (.aload_n 0, 1) := by decide +kernel
theorem dL_law_1110 : decode cL_law 1110 = .ok (.iload_n 3, 1) := by decide +kernel
theorem dL_law_1111 : decode cL_law 1111 = .ok (.iconst 1, 1) := by decide +kernel
theorem dL_law_1112 : decode cL_law 1112 = .ok (.iadd, 1) := by decide +kernel
theorem dL_law_1113 : decode cL_law 1113 = .ok (.iaload, 1) := by decide +kernel
theorem dL_law_1114 : decode cL_law 1114 = .ok (.invokevirtual 135, 3) := by decide +kernel
theorem dL_law_1117 : decode cL_law 1117 = .ok (.if_icmp .eq 130, 3) := by decide +kernel
theorem dL_law_1120 : decode cL_law 1120 = .ok (.iconst 0, 1) := by decide +kernel
theorem dL_law_1121 : decode cL_law 1121 = .ok (.ireturn, 1) := by decide +kernel
theorem dL_law_1122 : decode cL_law 1122 = .ok (.aload_n 1, 1) := by decide +kernel
theorem dL_law_1123 : decode cL_law 1123 = .ok (.aload_n 0, 1) := by decide +kernel
theorem dL_law_1124 : decode cL_law 1124 = .ok (.iload_n 3, 1) := by decide +kernel
theorem dL_law_1125 : decode cL_law 1125 = .ok (.iconst 1, 1) := by decide +kernel
theorem dL_law_1126 : decode cL_law 1126 = .ok (.iadd, 1) := by decide +kernel
theorem dL_law_1127 : decode cL_law 1127 = .ok (.iaload, 1) := by decide +kernel
theorem dL_law_1128 : decode cL_law 1128 = .ok (.aload_n 0, 1) := by decide +kernel
theorem dL_law_1129 : decode cL_law 1129 = .ok (.iload_n 3, 1) := by decide +kernel
theorem dL_law_1130 : decode cL_law 1130 = .ok (.iconst 2, 1) := by decide +kernel
theorem dL_law_1131 : decode cL_law 1131 = .ok (.iadd, 1) := by decide +kernel
theorem dL_law_1132 : decode cL_law 1132 = .ok (.iaload, 1) := by decide +kernel
theorem dL_law_1133 : decode cL_law 1133 = .ok (.invokevirtual 136, 3) := by decide +kernel
theorem dL_law_1136 : decode cL_law 1136 = .ok (.aload_n 2, 1) := by decide +kernel
theorem dL_law_1137 : decode cL_law 1137 = .ok (.aload_n 0, 1) := by decide +kernel
theorem dL_law_1138 : decode cL_law 1138 = .ok (.iload_n 3, 1) := by decide +kernel
theorem dL_law_1139 : decode cL_law 1139 = .ok (.iconst 1, 1) := by decide +kernel
theorem dL_law_1140 : decode cL_law 1140 = .ok (.iadd, 1) := by decide +kernel
theorem dL_law_1141 : decode cL_law 1141 = .ok (.iaload, 1) := by decide +kernel
theorem dL_law_1142 : decode cL_law 1142 = .ok (.aload_n 0, 1) := by decide +kernel
theorem dL_law_1143 : decode cL_law 1143 = .ok (.iload_n 3, 1) := by decide +kernel
theorem dL_law_1144 : decode cL_law 1144 = .ok (.iconst 2, 1) := by decide +kernel
theorem dL_law_1145 : decode cL_law 1145 = .ok (.iadd, 1) := by decide +kernel
theorem dL_law_1146 : decode cL_law 1146 = .ok (.iaload, 1) := by decide +kernel
theorem dL_law_1147 : decode cL_law 1147 = .ok (.invokevirtual 139, 3) := by decide +kernel
theorem dL_law_1150 : decode cL_law 1150 = .ok (.if_icmp .eq 97, 3) := by decide +kernel
theorem dL_law_1153 : decode cL_law 1153 = .ok (.iconst 0, 1) := by decide +kernel
theorem dL_law_1154 : decode cL_law 1154 = .ok (.ireturn, 1) := by decide +kernel
theorem dL_law_1155 : decode cL_law 1155 = .ok (.aload_n 1, 1) := by decide +kernel
theorem dL_law_1156 : decode cL_law 1156 = .ok (.aload_n 0, 1) := by decide +kernel
theorem dL_law_1157 : decode cL_law 1157 = .ok (.iload_n 3, 1) := by decide +kernel
theorem dL_law_1158 : decode cL_law 1158 = .ok (.iconst 1, 1) := by decide +kernel
theorem dL_law_1159 : decode cL_law 1159 = .ok (.iadd, 1) := by decide +kernel
theorem dL_law_1160 : decode cL_law 1160 = .ok (.iaload, 1) := by decide +kernel
theorem dL_law_1161 : decode cL_law 1161 = .ok (.aload_n 0, 1) := by decide +kernel
theorem dL_law_1162 : decode cL_law 1162 = .ok (.iload_n 3, 1) := by decide +kernel
theorem dL_law_1163 : decode cL_law 1163 = .ok (.iconst 2, 1) := by decide +kernel
theorem dL_law_1164 : decode cL_law 1164 = .ok (.iadd, 1) := by decide +kernel
theorem dL_law_1165 : decode cL_law 1165 = .ok (.iaload, 1) := by decide +kernel
theorem dL_law_1166 : decode cL_law 1166 = .ok (.invokevirtual 140, 3) := by decide +kernel
theorem dL_law_1169 : decode cL_law 1169 = .ok (.aload_n 2, 1) := by decide +kernel
theorem dL_law_1170 : decode cL_law 1170 = .ok (.aload_n 0, 1) := by decide +kernel
theorem dL_law_1171 : decode cL_law 1171 = .ok (.iload_n 3, 1) := by decide +kernel
theorem dL_law_1172 : decode cL_law 1172 = .ok (.iconst 1, 1) := by decide +kernel
theorem dL_law_1173 : decode cL_law 1173 = .ok (.iadd, 1) := by decide +kernel
theorem dL_law_1174 : decode cL_law 1174 = .ok (.iaload, 1) := by decide +kernel
theorem dL_law_1175 : decode cL_law 1175 = .ok (.aload_n 0, 1) := by decide +kernel
theorem dL_law_1176 : decode cL_law 1176 = .ok (.iload_n 3, 1) := by decide +kernel
theorem dL_law_1177 : decode cL_law 1177 = .ok (.iconst 2, 1) := by decide +kernel
theorem dL_law_1178 : decode cL_law 1178 = .ok (.iadd, 1) := by decide +kernel
theorem dL_law_1179 : decode cL_law 1179 = .ok (.iaload, 1) := by decide +kernel
theorem dL_law_1180 : decode cL_law 1180 = .ok (.invokevirtual 143, 3) := by decide +kernel
theorem dL_law_1183 : decode cL_law 1183 = .ok (.if_icmp .eq 64, 3) := by decide +kernel
theorem dL_law_1186 : decode cL_law 1186 = .ok (.iconst 0, 1) := by decide +kernel
theorem dL_law_1187 : decode cL_law 1187 = .ok (.ireturn, 1) := by decide +kernel
theorem dL_law_1188 : decode cL_law 1188 = .ok (.aload_n 1, 1) := by decide +kernel
theorem dL_law_1189 : decode cL_law 1189 = .ok (.aload_n 0, 1) := by decide +kernel
theorem dL_law_1190 : decode cL_law 1190 = .ok (.iload_n 3, 1) := by decide +kernel
theorem dL_law_1191 : decode cL_law 1191 = .ok (.iconst 1, 1) := by decide +kernel
theorem dL_law_1192 : decode cL_law 1192 = .ok (.iadd, 1) := by decide +kernel
theorem dL_law_1193 : decode cL_law 1193 = .ok (.iaload, 1) := by decide +kernel
theorem dL_law_1194 : decode cL_law 1194 = .ok (.invokevirtual 144, 3) := by decide +kernel
theorem dL_law_1197 : decode cL_law 1197 = .ok (.aload_n 2, 1) := by decide +kernel
theorem dL_law_1198 : decode cL_law 1198 = .ok (.aload_n 0, 1) := by decide +kernel
theorem dL_law_1199 : decode cL_law 1199 = .ok (.iload_n 3, 1) := by decide +kernel
theorem dL_law_1200 : decode cL_law 1200 = .ok (.iconst 1, 1) := by decide +kernel
theorem dL_law_1201 : decode cL_law 1201 = .ok (.iadd, 1) := by decide +kernel
theorem dL_law_1202 : decode cL_law 1202 = .ok (.iaload, 1) := by decide +kernel
theorem dL_law_1203 : decode cL_law 1203 = .ok (.invokevirtual 147, 3) := by decide +kernel
theorem dL_law_1206 : decode cL_law 1206 = .ok (.if_icmp .eq 41, 3) := by decide +kernel
theorem dL_law_1209 : decode cL_law 1209 = .ok (.iconst 0, 1) := by decide +kernel
theorem dL_law_1210 : decode cL_law 1210 = .ok (.ireturn, 1) := by decide +kernel
theorem dL_law_1211 : decode cL_law 1211 = .ok (.aload_n 1, 1) := by decide +kernel
theorem dL_law_1212 : decode cL_law 1212 = .ok (.aload_n 0, 1) := by decide +kernel
theorem dL_law_1213 : decode cL_law 1213 = .ok (.iload_n 3, 1) := by decide +kernel
theorem dL_law_1214 : decode cL_law 1214 = .ok (.iconst 1, 1) := by decide +kernel
theorem dL_law_1215 : decode cL_law 1215 = .ok (.iadd, 1) := by decide +kernel
theorem dL_law_1216 : decode cL_law 1216 = .ok (.iaload, 1) := by decide +kernel
theorem dL_law_1217 : decode cL_law 1217 = .ok (.invokevirtual 148, 3) := by decide +kernel
theorem dL_law_1220 : decode cL_law 1220 = .ok (.aload_n 2, 1) := by decide +kernel
theorem dL_law_1221 : decode cL_law 1221 = .ok (.aload_n 0, 1) := by decide +kernel
theorem dL_law_1222 : decode cL_law 1222 = .ok (.iload_n 3, 1) := by decide +kernel
theorem dL_law_1223 : decode cL_law 1223 = .ok (.iconst 1, 1) := by decide +kernel
theorem dL_law_1224 : decode cL_law 1224 = .ok (.iadd, 1) := by decide +kernel
theorem dL_law_1225 : decode cL_law 1225 = .ok (.iaload, 1) := by decide +kernel
theorem dL_law_1226 : decode cL_law 1226 = .ok (.invokevirtual 151, 3) := by decide +kernel
theorem dL_law_1229 : decode cL_law 1229 = .ok (.if_icmp .eq 18, 3) := by decide +kernel
theorem dL_law_1232 : decode cL_law 1232 = .ok (.iconst 0, 1) := by decide +kernel
theorem dL_law_1233 : decode cL_law 1233 = .ok (.ireturn, 1) := by decide +kernel
theorem dL_law_1234 : decode cL_law 1234 = .ok (.aload_n 1, 1) := by decide +kernel
theorem dL_law_1235 : decode cL_law 1235 = .ok (.invokevirtual 152, 3) := by decide +kernel
theorem dL_law_1238 : decode cL_law 1238 = .ok (.aload_n 2, 1) := by decide +kernel
theorem dL_law_1239 : decode cL_law 1239 = .ok (.invokevirtual 155, 3) := by decide +kernel
theorem dL_law_1242 : decode cL_law 1242 = .ok (.if_icmp .eq 5, 3) := by decide +kernel
theorem dL_law_1245 : decode cL_law 1245 = .ok (.iconst 0, 1) := by decide +kernel
theorem dL_law_1246 : decode cL_law 1246 = .ok (.ireturn, 1) := by decide +kernel
theorem dL_law_1247 : decode cL_law 1247 = .ok (.iinc 3 6, 3) := by decide +kernel
theorem dL_law_1250 : decode cL_law 1250 = .ok (.goto (-1232), 3) := by decide +kernel
theorem dL_law_1253 : decode cL_law 1253 = .ok (.iconst 1, 1) := by decide +kernel
theorem dL_law_1254 : decode cL_law 1254 = .ok (.ireturn, 1) := by decide +kernel
end
section
/-! a uniform memory: objects by number (address B + number), ints D, longs E; kinds, lengths and references Z -/
abbrev DD : Type := Nat → Nat → Int32
abbrev EE : Type := Nat → Nat → Int64
abbrev ZZ : Type := Nat × (Nat → Nat × Nat) × (Nat → Nat → Option Nat)
def q_C (c : Nat) : String := match c with | 0 => RX0 | 1 => RX1 | 2 => RX2 | 3 => RX3 | 4 => RX4 | 5 => RX5 | _ => RX6
def q_T (c : Nat) : u_T := match c with | 0 => TX0 | 1 => TX1 | 2 => TX2 | 3 => TX3 | 4 => TX4 | 5 => TX5 | _ => TX6
def q_N (c : Nat) : Nat := match c with | 0 => 11 | 1 => 10 | 2 => 3 | 3 => 3 | 4 => 5 | 5 => 16 | _ => 26
def q_ty (c : Nat) : Nat → FieldType := match c with | 0 => tyX0 | 1 => tyX1 | 2 => tyX2 | 3 => tyX3 | 4 => tyX4 | 5 => tyX5 | _ => tyX6
theorem q_cl : ∀ c, c < 7 → vwCl[c]? = some (q_C c, q_T c, q_N c) := by
  intro c h
  match c, h with
  | 0, _ => rfl
  | 1, _ => rfl
  | 2, _ => rfl
  | 3, _ => rfl
  | 4, _ => rfl
  | 5, _ => rfl
  | 6, _ => rfl
theorem q_in : ∀ c, c < 7 → ∀ w ∈ u_ws (q_C c) (q_T c) (q_N c), w ∈ BW := by
  intro c h
  match c, h with
  | 0, _ => exact inlX0
  | 1, _ => exact inlX1
  | 2, _ => exact inlX2
  | 3, _ => exact inlX3
  | 4, _ => exact inlX4
  | 5, _ => exact inlX5
  | 6, _ => exact inlX6
theorem q_tyok : ∀ c, c < 7 → ∀ k, k < q_N c → parseFieldDescriptor (q_T c k).2.2.1 = some (q_ty c k) := by
  intro c h
  match c, h with
  | 0, _ => exact tyX0_ok
  | 1, _ => exact tyX1_ok
  | 2, _ => exact tyX2_ok
  | 3, _ => exact tyX3_ok
  | 4, _ => exact tyX4_ok
  | 5, _ => exact tyX5_ok
  | 6, _ => exact tyX6_ok
theorem q_nm : ∀ c, c < 7 → ∀ a, a < q_N c → ∀ b, b < q_N c → a ≠ b → (q_T c a).2.1 ≠ (q_T c b).2.1 := by
  intro c h
  match c, h with
  | 0, _ => exact nmX0
  | 1, _ => exact nmX1
  | 2, _ => exact nmX2
  | 3, _ => exact nmX3
  | 4, _ => exact nmX4
  | 5, _ => exact nmX5
  | 6, _ => exact nmX6
/-- the nest words: they are kept by warming, and no words of a method's list -/
def q_nest : List Cond := [.methodLinkNest "BlueHue" 18 ⟨"BlueHue$Tape", "<init>", "()V"⟩ "BlueHue", .methodLinkNest "BlueHue" 25 ⟨"BlueHue$Land", "<init>", "()V"⟩ "BlueHue", .methodLinkNest "BlueHue" 32 ⟨"BlueHue$Course", "<init>", "()V"⟩ "BlueHue", .methodLinkNest "BlueHue$Course" 60 ⟨"BlueHue", "bit", "(II)I"⟩ "BlueHue", .methodLinkNest "BlueHue$Land" 49 ⟨"BlueHue", "bit", "(II)I"⟩ "BlueHue", .methodLinkNest "BlueHue$Past" 17 ⟨"BlueHue$Course", "<init>", "()V"⟩ "BlueHue", .methodLinkNest "BlueHue$Tape" 32 ⟨"BlueHue", "within", "(III)Z"⟩ "BlueHue"]
def q_tys (dA : Nat → ClassId) : List (ClassId × FieldType) := [(dA 10, .int), (dA 11, .long), (dA 12, .boolean), (dA 13, .object RX1), (dA 14, .object RX0), (dA 15, .array .int)]
def va_AOA (ty : FieldType) (U : State) : Prop := (Cond.arrayOver (.array ty)).before #[] U = true
theorem va_AOA_spec {args : Array Value} {first s : State} {o : Option Outcome} {idx : List Nat} {ty : FieldType} (h : (Cond.arrayOver (.array ty)).holds args first o s idx = true) :
    ∃ comp c k, s.vm.findClass (FieldType.array ty).toString = some comp ∧ (s.vm.classes.findIdx? fun x => match x.kind with | .array component _ => component == comp | _ => false) = some c ∧ s.vm.classes[c]? = some k ∧ k.kind = .array comp (.array ty) ∧
      s.vm.findClass ("[" ++ (FieldType.array ty).toString) = some c := by
  simp only [Cond.holds, Cond.value, beq_iff_eq] at h
  cases hc : s.vm.findClass (FieldType.array ty).toString with
  | none => simp [hc] at h
  | some comp =>
    simp only [hc, Option.bind_some, Option.bind_eq_some_iff, Option.map_eq_some_iff] at h
    obtain ⟨c, hi, k, hk, hb⟩ := h
    obtain ⟨hlt, hp, -⟩ := Array.findIdx?_eq_some_iff_getElem.mp hi
    have hkk : s.vm.classes[c] = k := (Array.getElem?_eq_some_iff.mp hk).2
    rw [hkk] at hp
    cases hkind : k.kind with
    | array component ty9 =>
      rw [hkind] at hb hp
      simp at hb hp
      exact ⟨comp, c, k, rfl, hi, hk, by rw [hkind, hp, hb.1], hb.2⟩
    | _ => rw [hkind] at hb; simp at hb
theorem va_AOA.moved {ty : FieldType} {u U : State} (hvm : u.vm.Alike U.vm) (h : va_AOA ty u) : va_AOA ty U := by
  obtain ⟨comp, c, k, h1, h2, h3, h4, h5⟩ := va_AOA_spec h
  obtain ⟨k', hk', he⟩ := hvm.2.2 _ _ h3
  have hi : (U.vm.classes.findIdx? fun (x : Class) => match x.kind with | .array component _ => component == comp | _ => false) = some c := by
    have hb := hvm.bare_eq
    have e1 := va_idx_bare U.vm comp
    have e2 := va_idx_bare u.vm comp
    first
      | (rw [hb] at e1; exact e1.symm.trans (e2.trans h2))
      | (rw [← hb] at e1; exact e1.symm.trans (e2.trans h2))
  have hkind : k'.kind = .array comp (.array ty) := by rw [he]; exact h4
  have f1 : U.vm.findClass (FieldType.array ty).toString = some comp := by rw [hvm.findClass]; exact h1
  have f2 : U.vm.findClass ("[" ++ (FieldType.array ty).toString) = some c := by rw [hvm.findClass]; exact h5
  unfold va_AOA Cond.before Cond.holds
  simp only [Cond.value]
  rw [f1, Option.bind_some]
  refine (congrArg (fun o : Option Nat => (o.bind (fun c => (U.vm.classes[c]?).map fun (k : Class) => match k.kind with | .array _ ty' => decide (ty' = FieldType.array ty) && decide (U.vm.findClass ("[" ++ (FieldType.array ty).toString) = some c) | _ => false) == some true)) hi).trans ?_
  simp [hk', hkind, f2]
def q_K (G : va_G) (dA : Nat → ClassId) (U : State) : Prop := va_K G vwCl (q_tys dA) U ∧ (∀ w ∈ q_nest, va_Nw w U) ∧ va_AO RX1 U ∧ va_AO RX0 U ∧ va_AOA .int U
def q_fv (B : Nat) (ty : FieldType) (d : Int32) (r : Option Nat) : Value := match ty with
  | .int => .int d
  | _ => va_rf (r.map (fun i => B + i))
def q_fs (B c : Nat) (r : Nat → Option Nat) (d : Nat → Int32) : List Value := (List.range (q_N c)).map (fun k => q_fv B (q_ty c k) (d k) (r k))
def q_cel (B : Nat) (dA : Nat → ClassId) (kd : Nat × Nat) (r : Nat → Option Nat) (d : Nat → Int32) (e : Nat → Int64) : va_E :=
  if kd.1 < 7 then .inr (kd.1, q_fs B kd.1 r d)
  else if kd.1 = 11 then .inl (dA 11, kd.2, .inr (.inl e))
  else if 13 ≤ kd.1 then .inl (dA kd.1, kd.2, .inr (.inr (.inr (.inr (fun j => (r j).map (fun i => B + i))))))
  else .inl (dA kd.1, kd.2, .inl d)
def q_wf (B : Nat) (dA : Nat → ClassId) (Z : ZZ) (D : DD) (E : EE) (i : Nat) : Nat × va_E := (B + i, q_cel B dA (Z.2.1 i) (Z.2.2 i) (D i) (E i))
def q_w (B : Nat) (dA : Nat → ClassId) (Z : ZZ) (D : DD) (E : EE) : va_W := (List.range Z.1).map (q_wf B dA Z D E)
def q_M (G : va_G) (dA : Nat → ClassId) (B : Nat) (Z : ZZ) (D : DD) (E : EE) (H : Heap) : Prop := va_P G vwCl (q_w B dA Z D E) H
def up2 {α : Type} (D : Nat → Nat → α) (o k : Nat) (v : α) : Nat → Nat → α := fun i j => if i = o ∧ j = k then v else D i j
def upo {α : Type} (D : Nat → α) (o : Nat) (f : α) : Nat → α := fun i => if i = o then f else D i
theorem q_get {B : Nat} {dA : Nat → ClassId} {Z : ZZ} {D : DD} {E : EE} {o : Nat} (h : o < Z.1) : (q_w B dA Z D E)[o]? = some (q_wf B dA Z D E o) := by
  unfold q_w
  rw [List.getElem?_map, List.getElem?_range h]
  rfl
theorem q_set {B : Nat} {dA : Nat → ClassId} {Z : ZZ} {D D' : DD} {E E' : EE} {Z' : ZZ} {o : Nat} {x : Nat × va_E} (hz : Z'.1 = Z.1) (hx : q_wf B dA Z' D' E' o = x) (hn : ∀ i, i ≠ o → q_wf B dA Z' D' E' i = q_wf B dA Z D E i) : (q_w B dA Z D E).set o x = q_w B dA Z' D' E' := by
  subst hx
  apply List.ext_getElem?
  intro i
  unfold q_w
  rw [hz]
  by_cases hi : i = o
  · subst hi
    by_cases hl : i < Z.1
    · rw [List.getElem?_set_self (by simpa using hl), List.getElem?_map, List.getElem?_range hl]; rfl
    · rw [List.getElem?_eq_none (by simpa using hl), List.getElem?_eq_none (by simpa using hl)]
  · rw [List.getElem?_set_ne (Ne.symm hi), List.getElem?_map, List.getElem?_map]
    by_cases hl : i < Z.1
    · rw [List.getElem?_range hl]; exact congrArg some (hn i hi).symm
    · rw [List.getElem?_eq_none (by simpa using hl)]; rfl
theorem q_D {B : Nat} {dA : Nat → ClassId} {Z : ZZ} {D : DD} {E : EE} : va_D (fun q => B ≤ q) (q_w B dA Z D E) := by
  have key : ∀ (k : Nat) (q : Nat × va_E), (q_w B dA Z D E)[k]? = some q → q.1 = B + k := by
    intro k q h
    have hl : k < Z.1 := by
      have := (List.getElem?_eq_some_iff.mp h).1
      simpa [q_w] using this
    rw [q_get hl] at h
    cases h
    rfl
  refine ⟨fun i j p q hi hj h => ?_, fun k q h => ?_⟩
  · have := key i p hi
    have := key j q hj
    omega
  · have := key k q h
    show B ≤ q.1
    omega
/-- what holds in a method's body -/
def CX (y : MethodName) (cc : ByteArray) (nL : Nat) (ret : Option FieldType) (B : Nat) (p : Program) (s : State) (m : MethodId) (args : Array Value) (meth : Method) (c : Code) (G : va_G) (dA : Nat → ClassId) : Prop :=
  p.tables.exec = Jvm.exec ∧ c.code = cc ∧ meth.sig.returnType = ret ∧ c.maxLocals = nL ∧ s.vm.findClass y.cls = some m.cls ∧ (∀ w ∈ BW, w.before args s = true) ∧ meth.locks = false ∧ q_K G dA s ∧ B ≤ s.heap.size ∧ meth.name = y.name
abbrev QQ : Type := Option Value → ZZ → DD → EE → Prop
def QC (G : va_G) (dA : Nat → ClassId) (B : Nat) (Q : QQ) : Array Value → State → Outcome → State → Prop := fun _ st oc t =>
  (∃ v Z D E, oc = .returned v ∧ Q v Z D E ∧ q_M G dA B Z D E t.heap) ∧ va_F (fun q => B ≤ q) st t
/-- from here the method returns, with Q -/
def RW (y : MethodName) (cc : ByteArray) (nL : Nat) (ret : Option FieldType) (rm : Room) (B : Nat) (Q : QQ) (Z : ZZ) (D : DD) (E : EE) (ce sl pc : Nat) (lv : List (Nat × Value)) (st : List Value) : Prop :=
  ∀ (p : Program) (l : Launch) (e : Env) (s : State) (m : MethodId) (args : Array Value) (below : List Frame) (meth : Method) (c : Code) (G : va_G) (dA : Nat → ClassId) (H : Heap) (locs : List Loc) (ls : Array Slot),
    CX y cc nL ret B p s m args meth c G dA → q_M G dA B Z D E H → va_S (fun q => B ≤ q) s.heap H locs → lv_has ls nL lv → s.heap.size + ce ≤ B + Z.1 →
    W p l e rm s m args below meth c H locs ce sl (MQ below (QC G dA B Q) args s rm.cells rm.slots (fun q => B ≤ q)) (F0 m pc ls st)
def MR (y : MethodName) (cc : ByteArray) (nL : Nat) (ret : Option FieldType) (rm : Room) (B : Nat) (av : List Value) (Z : ZZ) (D : DD) (E : EE) (Q : QQ) : Prop :=
  ∀ (l : Launch) (G : va_G) (dA : Nat → ClassId), Met l y (.code y cc nL ret :: BW) rm (va_Pc av (fun U => q_M G dA B Z D E U.heap ∧ q_K G dA U ∧ U.heap.size ≤ B + Z.1 ∧ B ≤ U.heap.size)) (QC G dA B Q) rm.cells rm.slots (fun q => B ≤ q)
theorem q_K.moved {G : va_G} {dA : Nat → ClassId} {u U : State} (hW : u.WarmedH U.vm) (h : q_K G dA u) : q_K G dA U := by
  obtain ⟨h1, h2, h3, h4, h5⟩ := h
  refine ⟨va_K.moved hW.alike h1, ?_, va_AO.moved hW.alike h3, va_AO.moved hW.alike h4, va_AOA.moved hW.alike h5⟩
  intro w hw
  have := h2 w hw
  simp only [q_nest, List.mem_cons, List.not_mem_nil, or_false] at hw
  rcases hw with rfl | rfl | rfl | rfl | rfl | rfl | rfl <;> exact va_Nw.warmM hW this
theorem q_K.same {G : va_G} {dA : Nat → ClassId} {u U : State} (hW : u.vm = U.vm) (h : q_K G dA u) : q_K G dA U := by
  obtain ⟨h1, h2, h3, h4, h5⟩ := h
  have hA : u.vm.Alike U.vm := hW ▸ Vm.Alike.refl u.vm
  refine ⟨va_K.moved hA h1, ?_, va_AO.moved hA h3, va_AO.moved hA h4, va_AOA.moved hA h5⟩
  intro w hw
  have := h2 w hw
  simp only [q_nest, List.mem_cons, List.not_mem_nil, or_false] at hw
  rcases hw with rfl | rfl | rfl | rfl | rfl | rfl | rfl <;> exact va_Nw.same rfl hW this

theorem lg_mem {lv : List (Nat × Value)} {i : Nat} {v : Value} (h : lv.lookup i = some v) : (i, v) ∈ lv := by
  induction lv with
  | nil => simp at h
  | cons q t ih =>
    obtain ⟨j, w⟩ := q
    rw [List.lookup_cons] at h
    by_cases hj : i == j
    · simp [hj] at h
      have : i = j := by simpa using hj
      subst this; subst h
      exact List.mem_cons_self
    · simp [hj] at h
      exact List.mem_cons_of_mem _ (ih h)
theorem lg_at {ls : Array Slot} {nL : Nat} {lv : List (Nat × Value)} (hl : lv_has ls nL lv) {i : Nat} {v : Value} (h : lv.lookup i = some v) : ls[i]? = some (.val v) := hl.2.2 (i, v) (lg_mem h)
theorem lv_keep {ls : Array Slot} {nL : Nat} {l l' : List (Nat × Value)} (h : lv_has ls nL l) (hs : ∀ q ∈ l', l.lookup q.1 = some q.2) : lv_has ls nL l' := ⟨h.1, h.2.1, fun q hq => lg_at h (hs q hq)⟩
theorem ofI (n : Nat) : Int32.ofInt (n : Int) = nI n := rfl
section RWS
variable {y : MethodName} {cc : ByteArray} {nL : Nat} {ret : Option FieldType} {rm : Room} {B : Nat} {Q : QQ} {Z : ZZ} {D : DD} {E : EE} {ce sl pc : Nat} {lv : List (Nat × Value)} {st : List Value}
theorem r_iconst {n : Int} (v : Int32) (hd : decode cc pc = .ok (.iconst n, 1)) (hv : Int32.ofInt n = v) (k : RW y cc nL ret rm B Q Z D E ce sl (pc + 1) lv (.int v :: st)) : RW y cc nL ret rm B Q Z D E ce sl pc lv st := fun p l e s m args below meth c G dA H locs ls C hM hS hl hA => lv_iconst C.1 C.2.1 hd hv (k p l e s m args below meth c G dA H locs ls C hM hS hl hA)
theorem r_bipush {n : Int} (v : Int32) (hd : decode cc pc = .ok (.bipush n, 2)) (hv : (Int8.ofInt n).toInt32 = v) (k : RW y cc nL ret rm B Q Z D E ce sl (pc + 2) lv (.int v :: st)) : RW y cc nL ret rm B Q Z D E ce sl pc lv st := fun p l e s m args below meth c G dA H locs ls C hM hS hl hA => lv_bipush C.1 C.2.1 hd hv (k p l e s m args below meth c G dA H locs ls C hM hS hl hA)
theorem r_sipush {n : Int} (v : Int32) (hd : decode cc pc = .ok (.sipush n, 3)) (hv : (Int16.ofInt n).toInt32 = v) (k : RW y cc nL ret rm B Q Z D E ce sl (pc + 3) lv (.int v :: st)) : RW y cc nL ret rm B Q Z D E ce sl pc lv st := fun p l e s m args below meth c G dA H locs ls C hM hS hl hA => lv_sipush C.1 C.2.1 hd hv (k p l e s m args below meth c G dA H locs ls C hM hS hl hA)
theorem r_lconst {n : Fin 2} (v : Int64) (hd : decode cc pc = .ok (.lconst n, 1)) (hv : Int64.ofNat (n : Nat) = v) (k : RW y cc nL ret rm B Q Z D E ce sl (pc + 1) lv (.long v :: st)) : RW y cc nL ret rm B Q Z D E ce sl pc lv st := fun p l e s m args below meth c G dA H locs ls C hM hS hl hA => lv_lconst C.1 C.2.1 hd hv (k p l e s m args below meth c G dA H locs ls C hM hS hl hA)
theorem r_ldc {i : Nat} {v : Int32} (hw : Cond.constant y.cls i v ∈ BW) (hd : decode cc pc = .ok (.ldc i, 2)) (k : RW y cc nL ret rm B Q Z D E ce sl (pc + 2) lv (.int v :: st)) : RW y cc nL ret rm B Q Z D E ce sl pc lv st := fun p l e s m args below meth c G dA H locs ls C hM hS hl hA => lv_ldc C.1 C.2.1 C.2.2.2.2.1 (C.2.2.2.2.2.1 _ hw) hd (k p l e s m args below meth c G dA H locs ls C hM hS hl hA)
theorem r_ldcw {i : Nat} {v : Int32} (hw : Cond.constant y.cls i v ∈ BW) (hd : decode cc pc = .ok (.ldc_w i, 3)) (k : RW y cc nL ret rm B Q Z D E ce sl (pc + 3) lv (.int v :: st)) : RW y cc nL ret rm B Q Z D E ce sl pc lv st := fun p l e s m args below meth c G dA H locs ls C hM hS hl hA => lv_ldcw C.1 C.2.1 C.2.2.2.2.1 (C.2.2.2.2.2.1 _ hw) hd (k p l e s m args below meth c G dA H locs ls C hM hS hl hA)
theorem r_ldc2 {i : Nat} {v : Int64} (hw : Cond.constantLong y.cls i v ∈ BW) (hd : decode cc pc = .ok (.ldc2_w i, 3)) (k : RW y cc nL ret rm B Q Z D E ce sl (pc + 3) lv (.long v :: st)) : RW y cc nL ret rm B Q Z D E ce sl pc lv st := fun p l e s m args below meth c G dA H locs ls C hM hS hl hA => lv_ldc2 C.1 C.2.1 C.2.2.2.2.1 (C.2.2.2.2.2.1 _ hw) hd (k p l e s m args below meth c G dA H locs ls C hM hS hl hA)
theorem r_iload_n {q : Fin 4} {x : Int32} (hd : decode cc pc = .ok (.iload_n q, 1)) (hl0 : lv.lookup (q : Nat) = some (.int x)) (k : RW y cc nL ret rm B Q Z D E ce sl (pc + 1) lv (.int x :: st)) : RW y cc nL ret rm B Q Z D E ce sl pc lv st := fun p l e s m args below meth c G dA H locs ls C hM hS hl hA => lv_iload_n C.1 C.2.1 hd rfl (lg_at hl hl0) (k p l e s m args below meth c G dA H locs ls C hM hS hl hA)
theorem r_iload {i : Nat} {x : Int32} (hd : decode cc pc = .ok (.iload i, 2)) (hl0 : lv.lookup i = some (.int x)) (k : RW y cc nL ret rm B Q Z D E ce sl (pc + 2) lv (.int x :: st)) : RW y cc nL ret rm B Q Z D E ce sl pc lv st := fun p l e s m args below meth c G dA H locs ls C hM hS hl hA => lv_iload C.1 C.2.1 hd (lg_at hl hl0) (k p l e s m args below meth c G dA H locs ls C hM hS hl hA)
theorem r_lload_n {q : Fin 4} {x : Int64} (hd : decode cc pc = .ok (.lload_n q, 1)) (hl0 : lv.lookup (q : Nat) = some (.long x)) (k : RW y cc nL ret rm B Q Z D E ce sl (pc + 1) lv (.long x :: st)) : RW y cc nL ret rm B Q Z D E ce sl pc lv st := fun p l e s m args below meth c G dA H locs ls C hM hS hl hA => lv_lload_n C.1 C.2.1 hd rfl (lg_at hl hl0) (k p l e s m args below meth c G dA H locs ls C hM hS hl hA)
theorem r_lload {i : Nat} {x : Int64} (hd : decode cc pc = .ok (.lload i, 2)) (hl0 : lv.lookup i = some (.long x)) (k : RW y cc nL ret rm B Q Z D E ce sl (pc + 2) lv (.long x :: st)) : RW y cc nL ret rm B Q Z D E ce sl pc lv st := fun p l e s m args below meth c G dA H locs ls C hM hS hl hA => lv_lload C.1 C.2.1 hd (lg_at hl hl0) (k p l e s m args below meth c G dA H locs ls C hM hS hl hA)
theorem r_aload_n {q : Fin 4} {x : Nat} (hd : decode cc pc = .ok (.aload_n q, 1)) (hl0 : lv.lookup (q : Nat) = some (.ref x)) (k : RW y cc nL ret rm B Q Z D E ce sl (pc + 1) lv (.ref x :: st)) : RW y cc nL ret rm B Q Z D E ce sl pc lv st := fun p l e s m args below meth c G dA H locs ls C hM hS hl hA => lv_aload_n C.1 C.2.1 hd rfl (lg_at hl hl0) (k p l e s m args below meth c G dA H locs ls C hM hS hl hA)
theorem r_aload {i : Nat} {x : Nat} (hd : decode cc pc = .ok (.aload i, 2)) (hl0 : lv.lookup i = some (.ref x)) (k : RW y cc nL ret rm B Q Z D E ce sl (pc + 2) lv (.ref x :: st)) : RW y cc nL ret rm B Q Z D E ce sl pc lv st := fun p l e s m args below meth c G dA H locs ls C hM hS hl hA => lv_aload C.1 C.2.1 hd (lg_at hl hl0) (k p l e s m args below meth c G dA H locs ls C hM hS hl hA)
theorem r_istore_n {j : Fin 4} {x : Int32} (lv' : List (Nat × Value)) (hd : decode cc pc = .ok (.istore_n j, 1)) (hn : (j : Nat) < nL) (h' : ((j : Nat), Value.int x) :: lv.filter (fun q => !(q.1 == (j : Nat)) && !(q.1 + 1 == (j : Nat) && q.2.category == 2)) = lv') (k : RW y cc nL ret rm B Q Z D E ce sl (pc + 1) lv' st) : RW y cc nL ret rm B Q Z D E ce sl pc lv (.int x :: st) := fun p l e s m args below meth c G dA H locs ls C hM hS hl hA => lv_istore_n C.1 C.2.1 hd rfl hl hn h' (fun ls hl => k p l e s m args below meth c G dA H locs ls C hM hS hl hA)
theorem r_istore {i : Nat} {x : Int32} (lv' : List (Nat × Value)) (hd : decode cc pc = .ok (.istore i, 2)) (hn : i < nL) (h' : (i, Value.int x) :: lv.filter (fun q => !(q.1 == i) && !(q.1 + 1 == i && q.2.category == 2)) = lv') (k : RW y cc nL ret rm B Q Z D E ce sl (pc + 2) lv' st) : RW y cc nL ret rm B Q Z D E ce sl pc lv (.int x :: st) := fun p l e s m args below meth c G dA H locs ls C hM hS hl hA => lv_istore C.1 C.2.1 hd hl hn h' (fun ls hl => k p l e s m args below meth c G dA H locs ls C hM hS hl hA)
theorem r_astore_n {j : Fin 4} {x : Nat} (lv' : List (Nat × Value)) (hd : decode cc pc = .ok (.astore_n j, 1)) (hn : (j : Nat) < nL) (h' : ((j : Nat), Value.ref x) :: lv.filter (fun q => !(q.1 == (j : Nat)) && !(q.1 + 1 == (j : Nat) && q.2.category == 2)) = lv') (k : RW y cc nL ret rm B Q Z D E ce sl (pc + 1) lv' st) : RW y cc nL ret rm B Q Z D E ce sl pc lv (.ref x :: st) := fun p l e s m args below meth c G dA H locs ls C hM hS hl hA => lv_astore_n C.1 C.2.1 hd rfl hl hn h' (fun ls hl => k p l e s m args below meth c G dA H locs ls C hM hS hl hA)
theorem r_astore {i : Nat} {x : Nat} (lv' : List (Nat × Value)) (hd : decode cc pc = .ok (.astore i, 2)) (hn : i < nL) (h' : (i, Value.ref x) :: lv.filter (fun q => !(q.1 == i) && !(q.1 + 1 == i && q.2.category == 2)) = lv') (k : RW y cc nL ret rm B Q Z D E ce sl (pc + 2) lv' st) : RW y cc nL ret rm B Q Z D E ce sl pc lv (.ref x :: st) := fun p l e s m args below meth c G dA H locs ls C hM hS hl hA => lv_astore C.1 C.2.1 hd hl hn h' (fun ls hl => k p l e s m args below meth c G dA H locs ls C hM hS hl hA)
theorem r_lstore_n {j : Fin 4} {x : Int64} (lv' : List (Nat × Value)) (hd : decode cc pc = .ok (.lstore_n j, 1)) (hn : (j : Nat) + 1 < nL) (h' : ((j : Nat), Value.long x) :: lv.filter (fun q => !(q.1 == (j : Nat)) && (!(q.1 == (j : Nat) + 1) && !(q.1 + 1 == (j : Nat) && q.2.category == 2))) = lv') (k : RW y cc nL ret rm B Q Z D E ce sl (pc + 1) lv' st) : RW y cc nL ret rm B Q Z D E ce sl pc lv (.long x :: st) := fun p l e s m args below meth c G dA H locs ls C hM hS hl hA => lv_lstore_n C.1 C.2.1 hd rfl hl hn h' (fun ls hl => k p l e s m args below meth c G dA H locs ls C hM hS hl hA)
theorem r_lstore {i : Nat} {x : Int64} (lv' : List (Nat × Value)) (hd : decode cc pc = .ok (.lstore i, 2)) (hn : i + 1 < nL) (h' : (i, Value.long x) :: lv.filter (fun q => !(q.1 == i) && (!(q.1 == i + 1) && !(q.1 + 1 == i && q.2.category == 2))) = lv') (k : RW y cc nL ret rm B Q Z D E ce sl (pc + 2) lv' st) : RW y cc nL ret rm B Q Z D E ce sl pc lv (.long x :: st) := fun p l e s m args below meth c G dA H locs ls C hM hS hl hA => lv_lstore C.1 C.2.1 hd hl hn h' (fun ls hl => k p l e s m args below meth c G dA H locs ls C hM hS hl hA)
theorem lg_ix {lv : List (Nat × Value)} {i : Nat} {v : Value} (h : lv.lookup i = some v) : ∃ k : Nat, lv[k]? = some (i, v) := List.getElem?_of_mem (lg_mem h)
theorem r_iinc {i : Nat} {n : Int} {x : Int32} (v : Int32) (lv' : List (Nat × Value)) (hd : decode cc pc = .ok (.iinc i n, 3)) (hl0 : lv.lookup i = some (.int x)) (hv : x + Int32.ofInt n = v) (hn : i < nL) (h' : (i, Value.int v) :: lv.filter (fun q => !(q.1 == i) && !(q.1 + 1 == i && q.2.category == 2)) = lv') (k : RW y cc nL ret rm B Q Z D E ce sl (pc + 3) lv' st) : RW y cc nL ret rm B Q Z D E ce sl pc lv st := fun p l e s m args below meth c G dA H locs ls C hM hS hl hA => (lg_ix hl0).elim (fun _ hk => lv_iinc C.1 C.2.1 hd hl hk hv hn h' (fun ls hl => k p l e s m args below meth c G dA H locs ls C hM hS hl hA))
theorem r_iadd {x b : Int32} (hd : decode cc pc = .ok (.iadd, 1))  (k : ∀ z : Int32, z = x + b → RW y cc nL ret rm B Q Z D E ce sl (pc + 1) lv (.int z :: st)) : RW y cc nL ret rm B Q Z D E ce sl pc lv (.int b :: .int x :: st) := fun p l e s m args below meth c G dA H locs ls C hM hS hl hA => lv_iadd C.1 C.2.1 hd  (k _ rfl p l e s m args below meth c G dA H locs ls C hM hS hl hA)
theorem r_isub {x b : Int32} (hd : decode cc pc = .ok (.isub, 1))  (k : ∀ z : Int32, z = x - b → RW y cc nL ret rm B Q Z D E ce sl (pc + 1) lv (.int z :: st)) : RW y cc nL ret rm B Q Z D E ce sl pc lv (.int b :: .int x :: st) := fun p l e s m args below meth c G dA H locs ls C hM hS hl hA => lv_isub C.1 C.2.1 hd  (k _ rfl p l e s m args below meth c G dA H locs ls C hM hS hl hA)
theorem r_imul {x b : Int32} (hd : decode cc pc = .ok (.imul, 1))  (k : ∀ z : Int32, z = x * b → RW y cc nL ret rm B Q Z D E ce sl (pc + 1) lv (.int z :: st)) : RW y cc nL ret rm B Q Z D E ce sl pc lv (.int b :: .int x :: st) := fun p l e s m args below meth c G dA H locs ls C hM hS hl hA => lv_imul C.1 C.2.1 hd  (k _ rfl p l e s m args below meth c G dA H locs ls C hM hS hl hA)
theorem r_iand {x b : Int32} (hd : decode cc pc = .ok (.iand, 1))  (k : ∀ z : Int32, z = x &&& b → RW y cc nL ret rm B Q Z D E ce sl (pc + 1) lv (.int z :: st)) : RW y cc nL ret rm B Q Z D E ce sl pc lv (.int b :: .int x :: st) := fun p l e s m args below meth c G dA H locs ls C hM hS hl hA => lv_iand C.1 C.2.1 hd  (k _ rfl p l e s m args below meth c G dA H locs ls C hM hS hl hA)
theorem r_ior {x b : Int32} (hd : decode cc pc = .ok (.ior, 1))  (k : ∀ z : Int32, z = x ||| b → RW y cc nL ret rm B Q Z D E ce sl (pc + 1) lv (.int z :: st)) : RW y cc nL ret rm B Q Z D E ce sl pc lv (.int b :: .int x :: st) := fun p l e s m args below meth c G dA H locs ls C hM hS hl hA => lv_ior C.1 C.2.1 hd  (k _ rfl p l e s m args below meth c G dA H locs ls C hM hS hl hA)
theorem r_ixor {x b : Int32} (hd : decode cc pc = .ok (.ixor, 1))  (k : ∀ z : Int32, z = x ^^^ b → RW y cc nL ret rm B Q Z D E ce sl (pc + 1) lv (.int z :: st)) : RW y cc nL ret rm B Q Z D E ce sl pc lv (.int b :: .int x :: st) := fun p l e s m args below meth c G dA H locs ls C hM hS hl hA => lv_ixor C.1 C.2.1 hd  (k _ rfl p l e s m args below meth c G dA H locs ls C hM hS hl hA)
theorem r_ishl {x b : Int32} (hd : decode cc pc = .ok (.ishl, 1))  (k : ∀ z : Int32, z = x <<< (b &&& 31) → RW y cc nL ret rm B Q Z D E ce sl (pc + 1) lv (.int z :: st)) : RW y cc nL ret rm B Q Z D E ce sl pc lv (.int b :: .int x :: st) := fun p l e s m args below meth c G dA H locs ls C hM hS hl hA => lv_ishl C.1 C.2.1 hd  (k _ rfl p l e s m args below meth c G dA H locs ls C hM hS hl hA)
theorem r_ishr {x b : Int32} (hd : decode cc pc = .ok (.ishr, 1))  (k : ∀ z : Int32, z = x >>> (b &&& 31) → RW y cc nL ret rm B Q Z D E ce sl (pc + 1) lv (.int z :: st)) : RW y cc nL ret rm B Q Z D E ce sl pc lv (.int b :: .int x :: st) := fun p l e s m args below meth c G dA H locs ls C hM hS hl hA => lv_ishr C.1 C.2.1 hd  (k _ rfl p l e s m args below meth c G dA H locs ls C hM hS hl hA)
theorem r_irem {x b : Int32} (hd : decode cc pc = .ok (.irem, 1)) (hne : ¬ b = 0) (k : ∀ z : Int32, z = x - x / b * b → RW y cc nL ret rm B Q Z D E ce sl (pc + 1) lv (.int z :: st)) : RW y cc nL ret rm B Q Z D E ce sl pc lv (.int b :: .int x :: st) := fun p l e s m args below meth c G dA H locs ls C hM hS hl hA => lv_irem C.1 C.2.1 hd hne (k _ rfl p l e s m args below meth c G dA H locs ls C hM hS hl hA)
theorem r_ineg {x : Int32} (hd : decode cc pc = .ok (.ineg, 1))  (k : ∀ z : Int32, z = -x → RW y cc nL ret rm B Q Z D E ce sl (pc + 1) lv (.int z :: st)) : RW y cc nL ret rm B Q Z D E ce sl pc lv (.int x :: st) := fun p l e s m args below meth c G dA H locs ls C hM hS hl hA => lv_ineg C.1 C.2.1 hd  (k _ rfl p l e s m args below meth c G dA H locs ls C hM hS hl hA)
theorem r_ladd {x b : Int64} (hd : decode cc pc = .ok (.ladd, 1))  (k : ∀ z : Int64, z = x + b → RW y cc nL ret rm B Q Z D E ce sl (pc + 1) lv (.long z :: st)) : RW y cc nL ret rm B Q Z D E ce sl pc lv (.long b :: .long x :: st) := fun p l e s m args below meth c G dA H locs ls C hM hS hl hA => lv_ladd C.1 C.2.1 hd  (k _ rfl p l e s m args below meth c G dA H locs ls C hM hS hl hA)
theorem r_lsub {x b : Int64} (hd : decode cc pc = .ok (.lsub, 1))  (k : ∀ z : Int64, z = x - b → RW y cc nL ret rm B Q Z D E ce sl (pc + 1) lv (.long z :: st)) : RW y cc nL ret rm B Q Z D E ce sl pc lv (.long b :: .long x :: st) := fun p l e s m args below meth c G dA H locs ls C hM hS hl hA => lv_lsub C.1 C.2.1 hd  (k _ rfl p l e s m args below meth c G dA H locs ls C hM hS hl hA)
theorem r_lmul {x b : Int64} (hd : decode cc pc = .ok (.lmul, 1))  (k : ∀ z : Int64, z = x * b → RW y cc nL ret rm B Q Z D E ce sl (pc + 1) lv (.long z :: st)) : RW y cc nL ret rm B Q Z D E ce sl pc lv (.long b :: .long x :: st) := fun p l e s m args below meth c G dA H locs ls C hM hS hl hA => lv_lmul C.1 C.2.1 hd  (k _ rfl p l e s m args below meth c G dA H locs ls C hM hS hl hA)
theorem r_lrem {x b : Int64} (hd : decode cc pc = .ok (.lrem, 1)) (hne : ¬ b = 0) (k : ∀ z : Int64, z = x - x / b * b → RW y cc nL ret rm B Q Z D E ce sl (pc + 1) lv (.long z :: st)) : RW y cc nL ret rm B Q Z D E ce sl pc lv (.long b :: .long x :: st) := fun p l e s m args below meth c G dA H locs ls C hM hS hl hA => lv_lrem C.1 C.2.1 hd hne (k _ rfl p l e s m args below meth c G dA H locs ls C hM hS hl hA)
theorem r_ldiv {x b : Int64} (hd : decode cc pc = .ok (.ldiv, 1)) (hne : ¬ b = 0) (k : ∀ z : Int64, z = x / b → RW y cc nL ret rm B Q Z D E ce sl (pc + 1) lv (.long z :: st)) : RW y cc nL ret rm B Q Z D E ce sl pc lv (.long b :: .long x :: st) := fun p l e s m args below meth c G dA H locs ls C hM hS hl hA => lv_ldiv C.1 C.2.1 hd hne (k _ rfl p l e s m args below meth c G dA H locs ls C hM hS hl hA)
theorem r_iushr {x b : Int32} (hd : decode cc pc = .ok (.iushr, 1)) (k : ∀ z : Int32, z = (x.toUInt32 >>> (b.toUInt32 &&& Int32.toUInt32 31)).toInt32 → RW y cc nL ret rm B Q Z D E ce sl (pc + 1) lv (.int z :: st)) : RW y cc nL ret rm B Q Z D E ce sl pc lv (.int b :: .int x :: st) := fun p l e s m args below meth c G dA H locs ls C hM hS hl hA => lv_iushr C.1 C.2.1 hd rfl (k _ rfl p l e s m args below meth c G dA H locs ls C hM hS hl hA)
theorem r_i2l {x : Int32} (hd : decode cc pc = .ok (.i2l, 1)) (k : ∀ z : Int64, z = x.toInt64 → RW y cc nL ret rm B Q Z D E ce sl (pc + 1) lv (.long z :: st)) : RW y cc nL ret rm B Q Z D E ce sl pc lv (.int x :: st) := fun p l e s m args below meth c G dA H locs ls C hM hS hl hA => lv_i2l C.1 C.2.1 hd rfl (k _ rfl p l e s m args below meth c G dA H locs ls C hM hS hl hA)
theorem r_l2i {x : Int64} (hd : decode cc pc = .ok (.l2i, 1)) (k : ∀ z : Int32, z = x.toInt32 → RW y cc nL ret rm B Q Z D E ce sl (pc + 1) lv (.int z :: st)) : RW y cc nL ret rm B Q Z D E ce sl pc lv (.long x :: st) := fun p l e s m args below meth c G dA H locs ls C hM hS hl hA => lv_l2i C.1 C.2.1 hd rfl (k _ rfl p l e s m args below meth c G dA H locs ls C hM hS hl hA)
theorem r_i2b {x : Int32} (hd : decode cc pc = .ok (.i2b, 1)) (k : ∀ z : Int32, z = x.toInt8.toInt32 → RW y cc nL ret rm B Q Z D E ce sl (pc + 1) lv (.int z :: st)) : RW y cc nL ret rm B Q Z D E ce sl pc lv (.int x :: st) := fun p l e s m args below meth c G dA H locs ls C hM hS hl hA => lv_i2b C.1 C.2.1 hd rfl (k _ rfl p l e s m args below meth c G dA H locs ls C hM hS hl hA)
theorem r_i2s {x : Int32} (hd : decode cc pc = .ok (.i2s, 1)) (k : ∀ z : Int32, z = x.toInt16.toInt32 → RW y cc nL ret rm B Q Z D E ce sl (pc + 1) lv (.int z :: st)) : RW y cc nL ret rm B Q Z D E ce sl pc lv (.int x :: st) := fun p l e s m args below meth c G dA H locs ls C hM hS hl hA => lv_i2s C.1 C.2.1 hd rfl (k _ rfl p l e s m args below meth c G dA H locs ls C hM hS hl hA)
theorem r_lcmp {x b : Int64} (hd : decode cc pc = .ok (.lcmp, 1)) (k : ∀ z : Int32, z = lg_cmp x b → RW y cc nL ret rm B Q Z D E ce sl (pc + 1) lv (.int z :: st)) : RW y cc nL ret rm B Q Z D E ce sl pc lv (.long b :: .long x :: st) := fun p l e s m args below meth c G dA H locs ls C hM hS hl hA => W.lcmp C.1 C.2.1 hd (k _ rfl p l e s m args below meth c G dA H locs ls C hM hS hl hA)
theorem r_dup {v : Value} (hd : decode cc pc = .ok (.dup, 1)) (hv : v.category = 1) (k : RW y cc nL ret rm B Q Z D E ce sl (pc + 1) lv (v :: v :: st)) : RW y cc nL ret rm B Q Z D E ce sl pc lv (v :: st) := fun p l e s m args below meth c G dA H locs ls C hM hS hl hA => lv_dup C.1 C.2.1 hd hv (k p l e s m args below meth c G dA H locs ls C hM hS hl hA)
theorem r_dup2 {v w : Value} (hd : decode cc pc = .ok (.dup2, 1)) (hv : v.category = 1) (hw : w.category = 1) (k : RW y cc nL ret rm B Q Z D E ce sl (pc + 1) lv (v :: w :: v :: w :: st)) : RW y cc nL ret rm B Q Z D E ce sl pc lv (v :: w :: st) := fun p l e s m args below meth c G dA H locs ls C hM hS hl hA => lv_dup2_11 C.1 C.2.1 hd hv hw (k p l e s m args below meth c G dA H locs ls C hM hS hl hA)
theorem r_goto {off : Int} {tgt : Nat} (hd : decode cc pc = .ok (.goto off, 3)) (ht : (pc : Int) + off = (tgt : Int)) (k : RW y cc nL ret rm B Q Z D E ce sl tgt lv st) : RW y cc nL ret rm B Q Z D E ce sl pc lv st := fun p l e s m args below meth c G dA H locs ls C hM hS hl hA => lv_goto C.1 C.2.1 hd ht (k p l e s m args below meth c G dA H locs ls C hM hS hl hA)
theorem r_if_eq {x : Int32} {off : Int} {tgt : Nat} (hd : decode cc pc = .ok (.ifCond .eq off, 3)) (ht : (pc : Int) + off = (tgt : Int)) (kt : x = 0 → RW y cc nL ret rm B Q Z D E ce sl tgt lv st) (kf : ¬ x = 0 → RW y cc nL ret rm B Q Z D E ce sl (pc + 3) lv st) : RW y cc nL ret rm B Q Z D E ce sl pc lv (.int x :: st) := fun p l e s m args below meth c G dA H locs ls C hM hS hl hA => lv_if_eq C.1 C.2.1 hd ht (fun q => kt q p l e s m args below meth c G dA H locs ls C hM hS hl hA) (fun q => kf q p l e s m args below meth c G dA H locs ls C hM hS hl hA)
theorem r_if_ne {x : Int32} {off : Int} {tgt : Nat} (hd : decode cc pc = .ok (.ifCond .ne off, 3)) (ht : (pc : Int) + off = (tgt : Int)) (kt : ¬ x = 0 → RW y cc nL ret rm B Q Z D E ce sl tgt lv st) (kf : x = 0 → RW y cc nL ret rm B Q Z D E ce sl (pc + 3) lv st) : RW y cc nL ret rm B Q Z D E ce sl pc lv (.int x :: st) := fun p l e s m args below meth c G dA H locs ls C hM hS hl hA => lv_if_ne C.1 C.2.1 hd ht (fun q => kt q p l e s m args below meth c G dA H locs ls C hM hS hl hA) (fun q => kf q p l e s m args below meth c G dA H locs ls C hM hS hl hA)
theorem r_if_lt {x : Int32} {off : Int} {tgt : Nat} (hd : decode cc pc = .ok (.ifCond .lt off, 3)) (ht : (pc : Int) + off = (tgt : Int)) (kt : x < 0 → RW y cc nL ret rm B Q Z D E ce sl tgt lv st) (kf : ¬ x < 0 → RW y cc nL ret rm B Q Z D E ce sl (pc + 3) lv st) : RW y cc nL ret rm B Q Z D E ce sl pc lv (.int x :: st) := fun p l e s m args below meth c G dA H locs ls C hM hS hl hA => lv_if_lt C.1 C.2.1 hd ht (fun q => kt q p l e s m args below meth c G dA H locs ls C hM hS hl hA) (fun q => kf q p l e s m args below meth c G dA H locs ls C hM hS hl hA)
theorem r_if_ge {x : Int32} {off : Int} {tgt : Nat} (hd : decode cc pc = .ok (.ifCond .ge off, 3)) (ht : (pc : Int) + off = (tgt : Int)) (kt : 0 ≤ x → RW y cc nL ret rm B Q Z D E ce sl tgt lv st) (kf : ¬ 0 ≤ x → RW y cc nL ret rm B Q Z D E ce sl (pc + 3) lv st) : RW y cc nL ret rm B Q Z D E ce sl pc lv (.int x :: st) := fun p l e s m args below meth c G dA H locs ls C hM hS hl hA => lv_if_ge C.1 C.2.1 hd ht (fun q => kt q p l e s m args below meth c G dA H locs ls C hM hS hl hA) (fun q => kf q p l e s m args below meth c G dA H locs ls C hM hS hl hA)
theorem r_if_gt {x : Int32} {off : Int} {tgt : Nat} (hd : decode cc pc = .ok (.ifCond .gt off, 3)) (ht : (pc : Int) + off = (tgt : Int)) (kt : 0 < x → RW y cc nL ret rm B Q Z D E ce sl tgt lv st) (kf : ¬ 0 < x → RW y cc nL ret rm B Q Z D E ce sl (pc + 3) lv st) : RW y cc nL ret rm B Q Z D E ce sl pc lv (.int x :: st) := fun p l e s m args below meth c G dA H locs ls C hM hS hl hA => lv_if_gt C.1 C.2.1 hd ht (fun q => kt q p l e s m args below meth c G dA H locs ls C hM hS hl hA) (fun q => kf q p l e s m args below meth c G dA H locs ls C hM hS hl hA)
theorem r_if_le {x : Int32} {off : Int} {tgt : Nat} (hd : decode cc pc = .ok (.ifCond .le off, 3)) (ht : (pc : Int) + off = (tgt : Int)) (kt : x ≤ 0 → RW y cc nL ret rm B Q Z D E ce sl tgt lv st) (kf : ¬ x ≤ 0 → RW y cc nL ret rm B Q Z D E ce sl (pc + 3) lv st) : RW y cc nL ret rm B Q Z D E ce sl pc lv (.int x :: st) := fun p l e s m args below meth c G dA H locs ls C hM hS hl hA => lv_if_le C.1 C.2.1 hd ht (fun q => kt q p l e s m args below meth c G dA H locs ls C hM hS hl hA) (fun q => kf q p l e s m args below meth c G dA H locs ls C hM hS hl hA)
theorem r_icmp_eq {x b : Int32} {off : Int} {tgt : Nat} (hd : decode cc pc = .ok (.if_icmp .eq off, 3)) (ht : (pc : Int) + off = (tgt : Int)) (kt : x = b → RW y cc nL ret rm B Q Z D E ce sl tgt lv st) (kf : ¬ x = b → RW y cc nL ret rm B Q Z D E ce sl (pc + 3) lv st) : RW y cc nL ret rm B Q Z D E ce sl pc lv (.int b :: .int x :: st) := fun p l e s m args below meth c G dA H locs ls C hM hS hl hA => lv_icmp_eq C.1 C.2.1 hd ht (fun q => kt q p l e s m args below meth c G dA H locs ls C hM hS hl hA) (fun q => kf q p l e s m args below meth c G dA H locs ls C hM hS hl hA)
theorem r_icmp_ne {x b : Int32} {off : Int} {tgt : Nat} (hd : decode cc pc = .ok (.if_icmp .ne off, 3)) (ht : (pc : Int) + off = (tgt : Int)) (kt : ¬ x = b → RW y cc nL ret rm B Q Z D E ce sl tgt lv st) (kf : x = b → RW y cc nL ret rm B Q Z D E ce sl (pc + 3) lv st) : RW y cc nL ret rm B Q Z D E ce sl pc lv (.int b :: .int x :: st) := fun p l e s m args below meth c G dA H locs ls C hM hS hl hA => lv_icmp_ne C.1 C.2.1 hd ht (fun q => kt q p l e s m args below meth c G dA H locs ls C hM hS hl hA) (fun q => kf q p l e s m args below meth c G dA H locs ls C hM hS hl hA)
theorem r_icmp_lt {x b : Int32} {off : Int} {tgt : Nat} (hd : decode cc pc = .ok (.if_icmp .lt off, 3)) (ht : (pc : Int) + off = (tgt : Int)) (kt : x < b → RW y cc nL ret rm B Q Z D E ce sl tgt lv st) (kf : ¬ x < b → RW y cc nL ret rm B Q Z D E ce sl (pc + 3) lv st) : RW y cc nL ret rm B Q Z D E ce sl pc lv (.int b :: .int x :: st) := fun p l e s m args below meth c G dA H locs ls C hM hS hl hA => lv_icmp_lt C.1 C.2.1 hd ht (fun q => kt q p l e s m args below meth c G dA H locs ls C hM hS hl hA) (fun q => kf q p l e s m args below meth c G dA H locs ls C hM hS hl hA)
theorem r_icmp_ge {x b : Int32} {off : Int} {tgt : Nat} (hd : decode cc pc = .ok (.if_icmp .ge off, 3)) (ht : (pc : Int) + off = (tgt : Int)) (kt : b ≤ x → RW y cc nL ret rm B Q Z D E ce sl tgt lv st) (kf : ¬ b ≤ x → RW y cc nL ret rm B Q Z D E ce sl (pc + 3) lv st) : RW y cc nL ret rm B Q Z D E ce sl pc lv (.int b :: .int x :: st) := fun p l e s m args below meth c G dA H locs ls C hM hS hl hA => lv_icmp_ge C.1 C.2.1 hd ht (fun q => kt q p l e s m args below meth c G dA H locs ls C hM hS hl hA) (fun q => kf q p l e s m args below meth c G dA H locs ls C hM hS hl hA)
theorem r_icmp_gt {x b : Int32} {off : Int} {tgt : Nat} (hd : decode cc pc = .ok (.if_icmp .gt off, 3)) (ht : (pc : Int) + off = (tgt : Int)) (kt : b < x → RW y cc nL ret rm B Q Z D E ce sl tgt lv st) (kf : ¬ b < x → RW y cc nL ret rm B Q Z D E ce sl (pc + 3) lv st) : RW y cc nL ret rm B Q Z D E ce sl pc lv (.int b :: .int x :: st) := fun p l e s m args below meth c G dA H locs ls C hM hS hl hA => lv_icmp_gt C.1 C.2.1 hd ht (fun q => kt q p l e s m args below meth c G dA H locs ls C hM hS hl hA) (fun q => kf q p l e s m args below meth c G dA H locs ls C hM hS hl hA)
theorem r_icmp_le {x b : Int32} {off : Int} {tgt : Nat} (hd : decode cc pc = .ok (.if_icmp .le off, 3)) (ht : (pc : Int) + off = (tgt : Int)) (kt : x ≤ b → RW y cc nL ret rm B Q Z D E ce sl tgt lv st) (kf : ¬ x ≤ b → RW y cc nL ret rm B Q Z D E ce sl (pc + 3) lv st) : RW y cc nL ret rm B Q Z D E ce sl pc lv (.int b :: .int x :: st) := fun p l e s m args below meth c G dA H locs ls C hM hS hl hA => lv_icmp_le C.1 C.2.1 hd ht (fun q => kt q p l e s m args below meth c G dA H locs ls C hM hS hl hA) (fun q => kf q p l e s m args below meth c G dA H locs ls C hM hS hl hA)
theorem r_tabIn {dflt lo hi : Int} {offs : Array Int} {len : Nat} {x : Int32} {off : Int} {tgt : Nat} (hd : decode cc pc = .ok (.tableswitch dflt lo hi offs, len)) (h1 : ¬ x.toInt < lo) (h2 : ¬ hi < x.toInt) (ho : offs[(x.toInt - lo).toNat]? = some off) (ht : (pc : Int) + off = (tgt : Int)) (k : RW y cc nL ret rm B Q Z D E ce sl tgt lv st) : RW y cc nL ret rm B Q Z D E ce sl pc lv (.int x :: st) := fun p l e s m args below meth c G dA H locs ls C hM hS hl hA => lv_tableIn C.1 C.2.1 hd h1 h2 ho ht (k p l e s m args below meth c G dA H locs ls C hM hS hl hA)
theorem r_tabOut {dflt lo hi : Int} {offs : Array Int} {len : Nat} {x : Int32} {tgt : Nat} (hd : decode cc pc = .ok (.tableswitch dflt lo hi offs, len)) (h : x.toInt < lo ∨ hi < x.toInt) (ht : (pc : Int) + dflt = (tgt : Int)) (k : RW y cc nL ret rm B Q Z D E ce sl tgt lv st) : RW y cc nL ret rm B Q Z D E ce sl pc lv (.int x :: st) := fun p l e s m args below meth c G dA H locs ls C hM hS hl hA => lv_tableOut C.1 C.2.1 hd h ht (k p l e s m args below meth c G dA H locs ls C hM hS hl hA)
theorem r_lookup {dflt : Int} {ps : Array (Int × Int)} {len : Nat} {x : Int32} {off : Int} {tgt : Nat} (hd : decode cc pc = .ok (.lookupswitch dflt ps, len)) (hp : (ps.toList.zip (ps.toList.drop 1)).all (fun (a, next) => a.1 < next.1) = true) (ho : Op.lookupswitch.offset ps.toList dflt x.toInt = off) (ht : (pc : Int) + off = (tgt : Int)) (k : RW y cc nL ret rm B Q Z D E ce sl tgt lv st) : RW y cc nL ret rm B Q Z D E ce sl pc lv (.int x :: st) := fun p l e s m args below meth c G dA H locs ls C hM hS hl hA => lv_lookup C.1 C.2.1 hd hp ho ht (k p l e s m args below meth c G dA H locs ls C hM hS hl hA)
theorem q_fsk {B c : Nat} {r : Nat → Option Nat} {d : Nat → Int32} {k : Nat} (h : k < q_N c) : (q_fs B c r d)[k]? = some (q_fv B (q_ty c k) (d k) (r k)) := by
  unfold q_fs
  rw [List.getElem?_map, List.getElem?_range h]
  rfl
theorem q_wfo {B : Nat} {dA : Nat → ClassId} {Z : ZZ} {D : DD} {E : EE} {o : Nat} {kd : Nat × Nat} (h : Z.2.1 o = kd) (hc : kd.1 < 7) : q_wf B dA Z D E o = (B + o, .inr (kd.1, q_fs B kd.1 (Z.2.2 o) (D o))) := by
  unfold q_wf q_cel
  rw [h, if_pos hc]
theorem q_wfi {B : Nat} {dA : Nat → ClassId} {Z : ZZ} {D : DD} {E : EE} {o n a : Nat} (h : Z.2.1 o = (a, n)) (ha : a = 10 ∨ a = 12) : q_wf B dA Z D E o = (B + o, .inl (dA a, n, .inl (D o))) := by
  unfold q_wf q_cel
  rw [h]
  rcases ha with rfl | rfl <;> rfl
theorem q_wfl {B : Nat} {dA : Nat → ClassId} {Z : ZZ} {D : DD} {E : EE} {o n : Nat} (h : Z.2.1 o = (11, n)) : q_wf B dA Z D E o = (B + o, .inl (dA 11, n, .inr (.inl (E o)))) := by
  unfold q_wf q_cel
  rw [h]
  rfl
theorem q_wfq {B : Nat} {dA : Nat → ClassId} {Z : ZZ} {D : DD} {E : EE} {o n a : Nat} (h : Z.2.1 o = (a, n)) (ha : 13 ≤ a) : q_wf B dA Z D E o = (B + o, .inl (dA a, n, .inr (.inr (.inr (.inr (fun j => (Z.2.2 o j).map (fun i => B + i))))))) := by
  unfold q_wf q_cel
  rw [h]
  simp only
  rw [if_neg (by omega), if_neg (by omega), if_pos ha]
theorem r_get {i o ci nf k : Nat} (hw : Cond.fieldLink y.cls i (q_T ci k).1 (q_T ci k).2.1 (q_T ci k).2.2.1 ∈ BW) (hd : decode cc pc = .ok (.getfield i, 3)) (ho : o < Z.1) (hz : Z.2.1 o = (ci, nf)) (hc : ci < 7) (hk : k < q_N ci) (v : Value) (hv : q_fv B (q_ty ci k) (D o k) (Z.2.2 o k) = v) (kk : RW y cc nL ret rm B Q Z D E ce sl (pc + 3) lv (v :: st)) : RW y cc nL ret rm B Q Z D E ce sl pc lv (.ref (B + o) :: st) := fun p l e s m args below meth c G dA H locs ls C hM hS hl hA => va_get C.1 C.2.1 C.2.2.2.2.2.1 (q_in ci hc) C.2.2.2.2.1 C.2.2.2.2.2.2.2.1.1 hM o ((q_get ho).trans (congrArg some (q_wfo hz hc))) (q_cl ci hc) k hk (C.2.2.2.2.2.1 _ hw) (fun _ h => h) (hv ▸ q_fsk hk) hd (kk p l e s m args below meth c G dA H locs ls C hM hS hl hA)
theorem r_getI {i o ci nf k : Nat} (hw : Cond.fieldLink y.cls i (q_T ci k).1 (q_T ci k).2.1 (q_T ci k).2.2.1 ∈ BW) (hd : decode cc pc = .ok (.getfield i, 3)) (ho : o < Z.1) (hz : Z.2.1 o = (ci, nf)) (hc : ci < 7) (hk : k < q_N ci) (ht : q_ty ci k = .int) (kk : ∀ z : Int32, z = D o k → RW y cc nL ret rm B Q Z D E ce sl (pc + 3) lv (.int z :: st)) : RW y cc nL ret rm B Q Z D E ce sl pc lv (.ref (B + o) :: st) := r_get hw hd ho hz hc hk (.int (D o k)) (by rw [ht]; rfl) (kk _ rfl)
theorem q_fsset {B c : Nat} {r r' : Nat → Option Nat} {d d' : Nat → Int32} {k : Nat} {v : Value} (hv : q_fv B (q_ty c k) (d' k) (r' k) = v) (hn : ∀ j, j ≠ k → d' j = d j ∧ r' j = r j) : (q_fs B c r d).set k v = q_fs B c r' d' := by
  subst hv
  apply List.ext_getElem?
  intro j
  by_cases hj : j = k
  · subst hj
    by_cases hl : j < q_N c
    · rw [List.getElem?_set_self (by simpa [q_fs] using hl), q_fsk hl]
    · rw [List.getElem?_eq_none (by simpa [q_fs] using hl), List.getElem?_eq_none (by simpa [q_fs] using hl)]
  · rw [List.getElem?_set_ne (Ne.symm hj)]
    unfold q_fs
    rw [List.getElem?_map, List.getElem?_map]
    obtain ⟨e1, e2⟩ := hn j hj
    by_cases hl : j < q_N c
    · rw [List.getElem?_range hl]; simp [e1, e2]
    · rw [List.getElem?_eq_none (by simpa using hl)]; rfl
theorem q_fsl {B c : Nat} {r : Nat → Option Nat} {d : Nat → Int32} : (q_fs B c r d).length = q_N c := by simp [q_fs]
theorem up2_s {α : Type} {D : Nat → Nat → α} {o k : Nat} {v : α} : up2 D o k v o k = v := if_pos ⟨rfl, rfl⟩
theorem up2_n {α : Type} {D : Nat → Nat → α} {o k i j : Nat} {v : α} (h : ¬ (i = o ∧ j = k)) : up2 D o k v i j = D i j := if_neg h
theorem up2_o {α : Type} {D : Nat → Nat → α} {o k i : Nat} {v : α} (h : i ≠ o) : up2 D o k v i = D i := funext fun j => up2_n (fun q => h q.1)
theorem q_wfn {B : Nat} {dA : Nat → ClassId} {Z : ZZ} {D D' : DD} {E E' : EE} {i : Nat} (h : D' i = D i) (h' : E' i = E i) : q_wf B dA Z D' E' i = q_wf B dA Z D E i := by
  unfold q_wf
  rw [h, h']

theorem W.size {p : Program} {l : Launch} {e : Env} {R : Room} {s : State} {m : MethodId} {args : Array Value} {below : List Frame} {meth : Method} {c : Code} {H : Heap} {locs : List Loc} {cells slots : Nat} {Qf : State → Prop} {g : JFrame} (h : H.size ≤ s.heap.size + cells → W p l e R s m args below meth c H locs cells slots Qf g) : W p l e R s m args below meth c H locs cells slots Qf g := by
  intro T hT X
  exact h (by rw [← hT]; exact X.heapSize) T hT X
theorem r_putI {i o ci nf k : Nat} {x : Int32} (hw : Cond.fieldLink y.cls i (q_T ci k).1 (q_T ci k).2.1 (q_T ci k).2.2.1 ∈ BW) (hd : decode cc pc = .ok (.putfield i, 3)) (ho : o < Z.1) (hz : Z.2.1 o = (ci, nf)) (hc : ci < 7) (hk : k < q_N ci) (ht : q_ty ci k = .int) (hf : (q_T ci k).2.2.2 = false) (kk : ∀ D' : DD, D' = up2 D o k x → RW y cc nL ret rm B Q Z D' E ce sl (pc + 3) lv st) : RW y cc nL ret rm B Q Z D E ce sl pc lv (.int x :: .ref (B + o) :: st) := fun p l e s m args below meth c G dA H locs ls C hM hS hl hA => by
  have hs : (q_w B dA Z D E).set o (B + o, .inr (ci, (q_fs B ci (Z.2.2 o) (D o)).set k (.int x))) = q_w B dA Z (up2 D o k x) E := by
    refine q_set rfl ?_ (fun j hj => q_wfn (up2_o hj) rfl)
    rw [q_wfo hz hc]
    have hq : (q_fs B ci (Z.2.2 o) (D o)).set k (.int x) = q_fs B ci (Z.2.2 o) (up2 D o k x o) := q_fsset (by rw [ht]; show Value.int (up2 D o k x o k) = _; rw [up2_s]) (fun j hj => ⟨up2_n (fun q => hj q.2), rfl⟩)
    rw [hq]
  refine va_put C.1 C.2.1 C.2.2.2.2.2.1 (q_in ci hc) (q_ty ci) (q_tyok ci hc) (q_nm ci hc) C.2.2.2.2.1 C.2.2.2.2.2.2.2.1.1 hM q_D hS o ((q_get ho).trans (congrArg some (q_wfo hz hc))) (q_cl ci hc) k hk (C.2.2.2.2.2.1 _ hw) (fun _ h => h) hf (q_tyok ci hc k hk) (by rw [ht]; rfl) (by rw [ht]; rfl) (by rw [q_fsl]; exact hk) hd (fun H1 locs1 hP _ hS1 => ?_)
  rw [hs] at hP
  exact kk _ rfl p l e s m args below meth c G dA H1 locs1 ls C hP hS1 hl hA
theorem q_wfr {B : Nat} {dA : Nat → ClassId} {Z Z' : ZZ} {D : DD} {E : EE} {i : Nat} (h : Z'.2.1 i = Z.2.1 i) (h' : Z'.2.2 i = Z.2.2 i) : q_wf B dA Z' D E i = q_wf B dA Z D E i := by
  unfold q_wf
  rw [h, h']
theorem r_putR {i o ci nf k v : Nat} (hw : Cond.fieldLink y.cls i (q_T ci k).1 (q_T ci k).2.1 (q_T ci k).2.2.1 ∈ BW) (hd : decode cc pc = .ok (.putfield i, 3)) (ho : o < Z.1) (hz : Z.2.1 o = (ci, nf)) (hc : ci < 7) (hk : k < q_N ci) (ht : ∀ d : Int32, ∀ r, q_fv B (q_ty ci k) d r = va_rf (r.map (fun i => B + i))) (hi : y.name = "<init>") (hcl : (q_T ci k).1 = y.cls) (hfi : (q_T ci k).2.2.2 = true) (hnn : narrow (q_ty ci k) (.ref (B + v)) = .ref (B + v)) (hff : fits (q_ty ci k) (.ref (B + v)) = true) (kk : RW y cc nL ret rm B Q (Z.1, Z.2.1, up2 Z.2.2 o k (some v)) D E ce sl (pc + 3) lv st) : RW y cc nL ret rm B Q Z D E ce sl pc lv (.ref (B + v) :: .ref (B + o) :: st) := fun p l e s m args below meth c G dA H locs ls C hM hS hl hA => by
  have hs : (q_w B dA Z D E).set o (B + o, .inr (ci, (q_fs B ci (Z.2.2 o) (D o)).set k (.ref (B + v)))) = q_w B dA (Z.1, Z.2.1, up2 Z.2.2 o k (some v)) D E := by
    refine q_set rfl ?_ (fun j hj => q_wfr rfl (up2_o hj))
    rw [q_wfo (Z := (Z.1, Z.2.1, up2 Z.2.2 o k (some v))) hz hc]
    have hq : (q_fs B ci (Z.2.2 o) (D o)).set k (.ref (B + v)) = q_fs B ci (up2 Z.2.2 o k (some v) o) (D o) := q_fsset (by rw [ht, up2_s]; rfl) (fun j hj => ⟨rfl, up2_n (fun q => hj q.2)⟩)
    rw [hq]
  refine va_putF C.1 C.2.1 C.2.2.2.2.2.1 (q_in ci hc) (q_ty ci) (q_tyok ci hc) (q_nm ci hc) C.2.2.2.2.1 C.2.2.2.2.2.2.2.1.1 hM q_D hS o ((q_get ho).trans (congrArg some (q_wfo hz hc))) (q_cl ci hc) k hk (C.2.2.2.2.2.1 _ hw) (fun _ h => h) hfi (C.2.2.2.2.2.2.2.2.2.trans hi) hcl (q_tyok ci hc k hk) hnn hff (by rw [q_fsl]; exact hk) hd (fun H1 locs1 hP _ hS1 => ?_)
  rw [hs] at hP
  exact kk p l e s m args below meth c G dA H1 locs1 ls C hP hS1 hl hA
theorem r_iald {o n : Nat} {i : Int32} (hd : decode cc pc = .ok (.iaload, 1)) (ho : o < Z.1) (hz : Z.2.1 o = (10, n)) (hi : vp_in i n) (kk : ∀ z : Int32, z = D o i.toNatClampNeg → RW y cc nL ret rm B Q Z D E ce sl (pc + 1) lv (.int z :: st)) : RW y cc nL ret rm B Q Z D E ce sl pc lv (.int i :: .ref (B + o) :: st) := fun p l e s m args below meth c G dA H locs ls C hM hS hl hA => va_iald C.1 C.2.1 C.2.2.2.2.2.2.2.1.1 hM o 0 ((q_get ho).trans (congrArg some (q_wfi hz (Or.inl rfl)))) rfl hi hd (kk _ rfl p l e s m args below meth c G dA H locs ls C hM hS hl hA)
theorem r_zald {o n : Nat} {i : Int32} (hd : decode cc pc = .ok (.baload, 1)) (ho : o < Z.1) (hz : Z.2.1 o = (12, n)) (hi : vp_in i n) (kk : ∀ z : Int32, z = D o i.toNatClampNeg → RW y cc nL ret rm B Q Z D E ce sl (pc + 1) lv (.int z :: st)) : RW y cc nL ret rm B Q Z D E ce sl pc lv (.int i :: .ref (B + o) :: st) := fun p l e s m args below meth c G dA H locs ls C hM hS hl hA => va_zald C.1 C.2.1 C.2.2.2.2.2.2.2.1.1 hM o 2 ((q_get ho).trans (congrArg some (q_wfi hz (Or.inr rfl)))) rfl hi hd (kk _ rfl p l e s m args below meth c G dA H locs ls C hM hS hl hA)
theorem r_lald {o n : Nat} {i : Int32} (hd : decode cc pc = .ok (.laload, 1)) (ho : o < Z.1) (hz : Z.2.1 o = (11, n)) (hi : vp_in i n) (kk : ∀ z : Int64, z = E o i.toNatClampNeg → RW y cc nL ret rm B Q Z D E ce sl (pc + 1) lv (.long z :: st)) : RW y cc nL ret rm B Q Z D E ce sl pc lv (.int i :: .ref (B + o) :: st) := fun p l e s m args below meth c G dA H locs ls C hM hS hl hA => va_lald C.1 C.2.1 C.2.2.2.2.2.2.2.1.1 hM o 1 ((q_get ho).trans (congrArg some (q_wfl hz))) rfl hi hd (kk _ rfl p l e s m args below meth c G dA H locs ls C hM hS hl hA)
theorem q_upd {D : DD} {o k : Nat} {x : Int32} : upd (D o) k x = up2 D o k x o := by
  funext j
  unfold up2 upd
  simp
theorem q_updL {D : EE} {o k : Nat} {x : Int64} : vp_updL (D o) k x = up2 D o k x o := by
  funext j
  unfold up2 vp_updL
  simp
theorem r_iast {o n : Nat} {i x : Int32} (hd : decode cc pc = .ok (.iastore, 1)) (ho : o < Z.1) (hz : Z.2.1 o = (10, n)) (hi : vp_in i n) (kk : ∀ D' : DD, D' = up2 D o i.toNatClampNeg x → RW y cc nL ret rm B Q Z D' E ce sl (pc + 1) lv st) : RW y cc nL ret rm B Q Z D E ce sl pc lv (.int x :: .int i :: .ref (B + o) :: st) := fun p l e s m args below meth c G dA H locs ls C hM hS hl hA => by
  have hs : (q_w B dA Z D E).set o (B + o, .inl (dA 10, n, .inl (upd (D o) i.toNatClampNeg x))) = q_w B dA Z (up2 D o i.toNatClampNeg x) E := by
    refine q_set rfl ?_ (fun j hj => q_wfn (up2_o hj) rfl)
    rw [q_wfi hz (Or.inl rfl), q_upd]
  refine va_iast C.1 C.2.1 C.2.2.2.2.2.2.2.1.1 hM q_D hS o 0 ((q_get ho).trans (congrArg some (q_wfi hz (Or.inl rfl)))) rfl hi hd (fun H1 locs1 hP _ hS1 => ?_)
  rw [hs] at hP
  exact kk _ rfl p l e s m args below meth c G dA H1 locs1 ls C hP hS1 hl hA
theorem r_zast {o n : Nat} {i x : Int32} (hd : decode cc pc = .ok (.bastore, 1)) (ho : o < Z.1) (hz : Z.2.1 o = (12, n)) (hi : vp_in i n) (kk : ∀ D' : DD, D' = up2 D o i.toNatClampNeg (vp_nar .boolean x) → RW y cc nL ret rm B Q Z D' E ce sl (pc + 1) lv st) : RW y cc nL ret rm B Q Z D E ce sl pc lv (.int x :: .int i :: .ref (B + o) :: st) := fun p l e s m args below meth c G dA H locs ls C hM hS hl hA => by
  have hs : (q_w B dA Z D E).set o (B + o, .inl (dA 12, n, .inl (upd (D o) i.toNatClampNeg (vp_nar .boolean x)))) = q_w B dA Z (up2 D o i.toNatClampNeg (vp_nar .boolean x)) E := by
    refine q_set rfl ?_ (fun j hj => q_wfn (up2_o hj) rfl)
    rw [q_wfi hz (Or.inr rfl), q_upd]
  refine va_zast C.1 C.2.1 C.2.2.2.2.2.2.2.1.1 hM q_D hS o 2 ((q_get ho).trans (congrArg some (q_wfi hz (Or.inr rfl)))) rfl hi hd (fun H1 locs1 hP _ hS1 => ?_)
  rw [hs] at hP
  exact kk _ rfl p l e s m args below meth c G dA H1 locs1 ls C hP hS1 hl hA
theorem r_last {o n : Nat} {i : Int32} {x : Int64} (hd : decode cc pc = .ok (.lastore, 1)) (ho : o < Z.1) (hz : Z.2.1 o = (11, n)) (hi : vp_in i n) (kk : ∀ E' : EE, E' = up2 E o i.toNatClampNeg x → RW y cc nL ret rm B Q Z D E' ce sl (pc + 1) lv st) : RW y cc nL ret rm B Q Z D E ce sl pc lv (.long x :: .int i :: .ref (B + o) :: st) := fun p l e s m args below meth c G dA H locs ls C hM hS hl hA => by
  have hs : (q_w B dA Z D E).set o (B + o, .inl (dA 11, n, .inr (.inl (vp_updL (E o) i.toNatClampNeg x)))) = q_w B dA Z D (up2 E o i.toNatClampNeg x) := by
    refine q_set rfl ?_ (fun j hj => q_wfn rfl (up2_o hj))
    rw [q_wfl hz, q_updL]
  refine va_last C.1 C.2.1 C.2.2.2.2.2.2.2.1.1 hM q_D hS o 1 ((q_get ho).trans (congrArg some (q_wfl hz))) rfl hi hd (fun H1 locs1 hP _ hS1 => ?_)
  rw [hs] at hP
  exact kk _ rfl p l e s m args below meth c G dA H1 locs1 ls C hP hS1 hl hA
theorem q_tysO {dA : Nat → ClassId} : (q_tys dA)[3]? = some (dA 13, .object RX1) ∧ (q_tys dA)[4]? = some (dA 14, .object RX0) ∧ (q_tys dA)[5]? = some (dA 15, .array .int) := ⟨rfl, rfl, rfl⟩
theorem r_aald {o n a v : Nat} {i : Int32} (hd : decode cc pc = .ok (.aaload, 1)) (ho : o < Z.1) (hz : Z.2.1 o = (a, n)) (ha : a = 13 ∨ a = 14 ∨ a = 15) (hi : vp_in i n) (hv : Z.2.2 o i.toNatClampNeg = some v) (kk : RW y cc nL ret rm B Q Z D E ce sl (pc + 1) lv (.ref (B + v) :: st)) : RW y cc nL ret rm B Q Z D E ce sl pc lv (.int i :: .ref (B + o) :: st) := fun p l e s m args below meth c G dA H locs ls C hM hS hl hA => by
  have h13 : 13 ≤ a := by omega
  have hlt : i.toNatClampNeg < n := Nat.not_le.mp fun q => hi (Or.inr q)
  have hcell := hM o _ ((q_get ho).trans (congrArg some (q_wfq hz h13)))
  have hrun : ∀ (ty : FieldType) (t0 : Nat), (q_tys dA)[t0]? = some (dA a, ty) → (∀ (q : Unit), (match ty with | .object _ => true | .array _ => true | _ => false) = true) → W p l e rm s m args below meth c H locs ce sl (MQ below (QC G dA B Q) args s rm.cells rm.slots (fun q => B ≤ q)) (F0 m pc ls (.int i :: .ref (B + o) :: st)) := by
    intro ty t0 ht hty
    have hA9 := (C.2.2.2.2.2.2.2.1.1.2 t0 _ ht).1 n (fun j => va_rf ((Z.2.2 o j).map (fun i => B + i)))
    refine W.aald (v := .ref (B + v)) (ty := ty) C.1 C.2.1 hcell hA9 (by cases ty <;> first | rfl | exact absurd (hty ()) (by decide)) (fun q => by cases q) (by show ¬ (i < 0 ∨ (arrV _ _ _).slots.size ≤ _); rw [arrV_size]; exact hi) (by show (arrV _ _ _).slots[_]? = _; rw [arrV_read _ _ hlt]; show some (va_rf ((Z.2.2 o i.toNatClampNeg).map _)) = _; rw [hv]; rfl) rfl rfl hd (kk p l e s m args below meth c G dA H locs ls C hM hS hl hA)
  rcases ha with rfl | rfl | rfl
  · exact hrun _ 3 rfl (fun _ => rfl)
  · exact hrun _ 4 rfl (fun _ => rfl)
  · exact hrun _ 5 rfl (fun _ => rfl)
theorem r_aast {o n a v ci nf : Nat} {i : Int32} (hd : decode cc pc = .ok (.aastore, 1)) (ho : o < Z.1) (hz : Z.2.1 o = (a, n)) (ha : a = 13 ∧ ci = 1 ∨ a = 14 ∧ ci = 0) (hi : vp_in i n) (hv : v < Z.1) (hzv : Z.2.1 v = (ci, nf)) (kk : RW y cc nL ret rm B Q (Z.1, Z.2.1, up2 Z.2.2 o i.toNatClampNeg (some v)) D E ce sl (pc + 1) lv st) : RW y cc nL ret rm B Q Z D E ce sl pc lv (.ref (B + v) :: .int i :: .ref (B + o) :: st) := fun p l e s m args below meth c G dA H locs ls C hM hS hl hA => by
  have h13 : 13 ≤ a := by omega
  have hs : (q_w B dA Z D E).set o (B + o, .inl (dA a, n, .inr (.inr (.inr (.inr (va_up (fun j => (Z.2.2 o j).map (fun i => B + i)) i.toNatClampNeg (some (B + v)))))))) = q_w B dA (Z.1, Z.2.1, up2 Z.2.2 o i.toNatClampNeg (some v)) D E := by
    refine q_set rfl ?_ (fun j hj => q_wfr rfl (up2_o hj))
    rw [q_wfq (Z := (Z.1, Z.2.1, up2 Z.2.2 o i.toNatClampNeg (some v))) hz h13]
    have : (va_up (fun j => (Z.2.2 o j).map (fun i => B + i)) i.toNatClampNeg (some (B + v))) = (fun j => (up2 Z.2.2 o i.toNatClampNeg (some v) o j).map (fun i => B + i)) := by
      funext j
      by_cases hj : j = i.toNatClampNeg
      · subst hj; rw [up2_s]; simp [va_up]
      · rw [up2_n (fun q => hj q.2)]; simp [va_up, hj]
    rw [this]
  rcases ha with ⟨rfl, rfl⟩ | ⟨rfl, rfl⟩
  · refine va_astq (r := (RX1, TX1, 10)) C.1 C.2.1 C.2.2.2.2.2.2.2.1.1 hM q_D hS o 3 v 1 ((q_get ho).trans (congrArg some (q_wfq hz (by omega)))) rfl ((q_get hv).trans (congrArg some (q_wfo hzv (by omega)))) rfl hi hd (fun H1 locs1 hP _ hS1 => ?_)
    rw [hs] at hP
    exact kk p l e s m args below meth c G dA H1 locs1 ls C hP hS1 hl hA
  · refine va_astq (r := (RX0, TX0, 11)) C.1 C.2.1 C.2.2.2.2.2.2.2.1.1 hM q_D hS o 4 v 0 ((q_get ho).trans (congrArg some (q_wfq hz (by omega)))) rfl ((q_get hv).trans (congrArg some (q_wfo hzv (by omega)))) rfl hi hd (fun H1 locs1 hP _ hS1 => ?_)
    rw [hs] at hP
    exact kk p l e s m args below meth c G dA H1 locs1 ls C hP hS1 hl hA
theorem r_alen {o n : Nat} (hd : decode cc pc = .ok (.arraylength, 1)) (ho : o < Z.1) (hz : Z.2.1 o = (10, n)) (kk : RW y cc nL ret rm B Q Z D E ce sl (pc + 1) lv (.int (nI n) :: st)) : RW y cc nL ret rm B Q Z D E ce sl pc lv (.ref (B + o) :: st) := fun p l e s m args below meth c G dA H locs ls C hM hS hl hA => va_alen C.1 C.2.1 C.2.2.2.2.2.2.2.1.1 hM o 0 ((q_get ho).trans (congrArg some (q_wfi hz (Or.inl rfl)))) rfl rfl hd (kk p l e s m args below meth c G dA H locs ls C hM hS hl hA)
theorem r_copyi {i o0 o1 n0 n1 : Nat} {sp dp n : Int32} (hw : Cond.methodLink y.cls i arraycopyName ∈ BW) (hd : decode cc pc = .ok (.invokestatic i, 3)) (ho0 : o0 < Z.1) (hz0 : Z.2.1 o0 = (10, n0)) (ho1 : o1 < Z.1) (hz1 : Z.2.1 o1 = (10, n1)) (h1 : ¬ sp < 0) (h2 : ¬ dp < 0) (h3 : ¬ n < 0) (h4 : sp.toNatClampNeg + n.toNatClampNeg ≤ n0) (h5 : dp.toNatClampNeg + n.toNatClampNeg ≤ n1) (hfr : 1 ≤ rm.frames) (hlo : (st.map fun v => v.category).sum + (nativeFrameWords "java/lang/System" "arraycopy" 5 + 11) ≤ rm.locals)
    (kk : ∀ D' : DD, D' = upo D o1 (va_cpy (D o0) (D o1) sp.toNatClampNeg dp.toNatClampNeg n.toNatClampNeg) → RW y cc nL ret rm B Q Z D' E ce sl (pc + 3) lv st) : RW y cc nL ret rm B Q Z D E ce sl pc lv (.int n :: .int dp :: .ref (B + o1) :: .int sp :: .ref (B + o0) :: st) := fun p l e s m args below meth c G dA H locs ls C hM hS hl hA => by
  have hs : (q_w B dA Z D E).set o1 (B + o1, .inl (dA 10, n1, .inl (va_cpy (D o0) (D o1) sp.toNatClampNeg dp.toNatClampNeg n.toNatClampNeg))) = q_w B dA Z (upo D o1 (va_cpy (D o0) (D o1) sp.toNatClampNeg dp.toNatClampNeg n.toNatClampNeg)) E := by
    refine q_set rfl ?_ (fun j hj => q_wfn (if_neg hj) rfl)
    rw [q_wfi hz1 (Or.inl rfl)]
    have : upo D o1 (va_cpy (D o0) (D o1) sp.toNatClampNeg dp.toNatClampNeg n.toNatClampNeg) o1 = va_cpy (D o0) (D o1) sp.toNatClampNeg dp.toNatClampNeg n.toNatClampNeg := if_pos rfl
    rw [this]
  refine va_copyi C.1 C.2.1 (C.2.2.2.1.trans hl.1.symm) C.2.2.2.2.1 (C.2.2.2.2.2.1 _ hw) (C.2.2.2.2.2.1 _ wt_acopyN) (C.2.2.2.2.2.1 _ wt_acopy) (C.2.2.2.2.2.1 _ wi_J10) C.2.2.2.2.2.2.2.1.1 hM q_D hS o0 o1 0 0 ((q_get ho0).trans (congrArg some (q_wfi hz0 (Or.inl rfl)))) ((q_get ho1).trans (congrArg some (q_wfi hz1 (Or.inl rfl)))) rfl rfl rfl h1 h2 h3 h4 h5 (fun _ _ => rfl) hfr hlo hd (fun H1 locs1 hP _ hS1 => ?_)
  rw [hs] at hP
  exact kk _ rfl p l e s m args below meth c G dA H1 locs1 ls C hP hS1 hl hA
theorem r_mmax {i : Nat} {x b : Int32} (hw : Cond.methodLink y.cls i Lib.Math.max.name ∈ BW) (hd : decode cc pc = .ok (.invokestatic i, 3)) (hfr : 1 ≤ rm.frames) (hlo : (st.map fun v => v.category).sum + 13 ≤ rm.locals) (hc : ce ≤ rm.cells) (hs : sl ≤ rm.slots) (k : ∀ z : Int32, z = (if x < b then b else x) → RW y cc nL ret rm B Q Z D E ce sl (pc + 3) lv (.int z :: st)) : RW y cc nL ret rm B Q Z D E ce sl pc lv (.int b :: .int x :: st) := fun p l e s m args below meth c G dA H locs ls C hM hS hl hA => va_mmax C.1 C.2.1 (C.2.2.2.1.trans hl.1.symm) C.2.2.2.2.1 (C.2.2.2.2.2.1 _ hw) (C.2.2.2.2.2.1 _ wt_mmax) (C.2.2.2.2.2.1 _ wi_J9) (C.2.2.2.2.2.1 _ wo_mmax) hfr hlo hc hs hd (k _ rfl p l e s m args below meth c G dA H locs ls C hM hS hl hA)
theorem r_mmin {i : Nat} {x b : Int32} (hw : Cond.methodLink y.cls i Lib.Math.min.name ∈ BW) (hd : decode cc pc = .ok (.invokestatic i, 3)) (hfr : 1 ≤ rm.frames) (hlo : (st.map fun v => v.category).sum + 13 ≤ rm.locals) (hc : ce ≤ rm.cells) (hs : sl ≤ rm.slots) (k : ∀ z : Int32, z = (if b < x then b else x) → RW y cc nL ret rm B Q Z D E ce sl (pc + 3) lv (.int z :: st)) : RW y cc nL ret rm B Q Z D E ce sl pc lv (.int b :: .int x :: st) := fun p l e s m args below meth c G dA H locs ls C hM hS hl hA => va_mmin C.1 C.2.1 (C.2.2.2.1.trans hl.1.symm) C.2.2.2.2.1 (C.2.2.2.2.2.1 _ hw) (C.2.2.2.2.2.1 _ wt_mmin) (C.2.2.2.2.2.1 _ wi_J9) (C.2.2.2.2.2.1 _ wo_mmin) hfr hlo hc hs hd (k _ rfl p l e s m args below meth c G dA H locs ls C hM hS hl hA)
theorem r_objinit {i o : Nat} (hw : Cond.methodLink y.cls i objectInit ∈ BW) (hd : decode cc pc = .ok (.invokespecial i, 3)) (hfr : 1 ≤ rm.frames) (hlo : (st.map fun v => v.category).sum + 12 ≤ rm.locals) (k : RW y cc nL ret rm B Q Z D E ce sl (pc + 3) lv st) : RW y cc nL ret rm B Q Z D E ce sl pc lv (.ref (B + o) :: st) := fun p l e s m args below meth c G dA H locs ls C hM hS hl hA => W.objInit C.1 C.2.1 C.2.2.2.2.1 (C.2.2.2.2.2.1 _ hw) (C.2.2.2.2.2.1 _ wv_objinit) (C.2.2.2.2.2.1 _ wo_objinit) rfl (hl.1.trans C.2.2.2.1.symm) rfl hd hfr (by show 2 * 0 + _ + 12 ≤ _; omega) (k p l e s m args below meth c G dA H locs ls C hM hS hl hA)
/-- returns -/
theorem r_vret (hd : decode cc pc = .ok (.return_, 1)) (hr : ret = none) (hc : ce ≤ rm.cells) (hs : sl ≤ rm.slots) (h : Q none Z D E) : RW y cc nL ret rm B Q Z D E ce sl pc lv [] := fun p l e s m args below meth c G dA H locs ls C hM hS hl hA => W.widen hc hs (W.vret C.1 C.2.1 (C.2.2.1.trans hr) (fun t ht hW => ⟨⟨none, Z, D, E, rfl, h, by rw [ht]; exact hM⟩, hS.F ht⟩) hS.2.2 hd C.2.2.2.2.2.2.1)
theorem r_iret {v : Int32} (hd : decode cc pc = .ok (.ireturn, 1)) (hr : ret = some .int) (hc : ce ≤ rm.cells) (hs : sl ≤ rm.slots) (h : Q (some (.int v)) Z D E) : RW y cc nL ret rm B Q Z D E ce sl pc lv [.int v] := fun p l e s m args below meth c G dA H locs ls C hM hS hl hA => W.widen hc hs (W.iret C.1 C.2.1 (C.2.2.1.trans hr) (fun t ht hW => ⟨⟨_, Z, D, E, rfl, h, by rw [ht]; exact hM⟩, hS.F ht⟩) hS.2.2 hd C.2.2.2.2.2.2.1)
theorem r_lret {v : Int64} (hd : decode cc pc = .ok (.lreturn, 1)) (hr : ret = some .long) (hc : ce ≤ rm.cells) (hs : sl ≤ rm.slots) (h : Q (some (.long v)) Z D E) : RW y cc nL ret rm B Q Z D E ce sl pc lv [.long v] := fun p l e s m args below meth c G dA H locs ls C hM hS hl hA => W.widen hc hs (W.lret C.1 C.2.1 (C.2.2.1.trans hr) (fun t ht hW => ⟨⟨_, Z, D, E, rfl, h, by rw [ht]; exact hM⟩, hS.F ht⟩) hS.2.2 hd C.2.2.2.2.2.2.1)
theorem r_zret {v : Int32} (hd : decode cc pc = .ok (.ireturn, 1)) (hr : ret = some .boolean) (hv : narrow .boolean (.int v) = .int v) (hc : ce ≤ rm.cells) (hs : sl ≤ rm.slots) (h : Q (some (.int v)) Z D E) : RW y cc nL ret rm B Q Z D E ce sl pc lv [.int v] := fun p l e s m args below meth c G dA H locs ls C hM hS hl hA => W.widen hc hs (W.zret C.1 C.2.1 (C.2.2.1.trans hr) hv (fun t ht hW => ⟨⟨_, Z, D, E, rfl, h, by rw [ht]; exact hM⟩, hS.F ht⟩) hS.2.2 hd C.2.2.2.2.2.2.1)
end RWS
end
section
section RWC
variable {y : MethodName} {cc : ByteArray} {nL : Nat} {ret : Option FieldType} {rm : Room} {B : Nat} {Q : QQ} {Z : ZZ} {D : DD} {E : EE} {ce sl pc : Nat} {lv : List (Nat × Value)} {st : List Value}
theorem bw_good (ws : List Cond) (h : ∀ w ∈ ws, w ∈ BW) : GoodIn BW ws := fun w hw => ⟨h w hw, good_of_word (List.mem_filter.mp (h w hw)).2⟩
def MN (y : MethodName) (cc : ByteArray) (nL : Nat) (ret : Option FieldType) (n : Nat) : Prop := Cond.code y cc nL ret ∈ BW ∧ Cond.initialized y.cls ∈ BW ∧ (y.cls ≠ "java/lang/invoke/MethodHandle" ∧ y.cls ≠ "java/lang/invoke/VarHandle") ∧ (parseMethodDescriptor y.desc).map (fun d => d.parameters.length) = some n ∧ plainName y.cls = true
def MV (y : MethodName) (cc : ByteArray) (nL : Nat) (ret : Option FieldType) (n : Nat) : Prop := MN y cc nL ret n ∧ Cond.instanceMethod y ∈ BW ∧ Cond.selects y.cls y y ∈ BW
def MS (y : MethodName) (cc : ByteArray) (nL : Nat) (ret : Option FieldType) (n : Nat) : Prop := MN y cc nL ret n ∧ Cond.static y ∈ BW
def MI (y : MethodName) (cc : ByteArray) (nL : Nat) (n : Nat) : Prop := MN y cc nL none n ∧ Cond.instanceMethod y ∈ BW ∧ y.name = "<init>"
theorem q_blind {av : List Value} {G : va_G} {dA : Nat → ClassId} : FrameBlind (va_Pc av (fun U => q_M G dA B Z D E U.heap ∧ q_K G dA U ∧ U.heap.size ≤ B + Z.1 ∧ B ≤ U.heap.size)) := by
  intro a U g mk h
  obtain ⟨h1, h2, h3, h4, h5⟩ := h
  exact ⟨h1, h2, q_K.same (u := U) (U := U.calling g mk a) rfl h3, h4, h5⟩
theorem r_enter {av : List Value} (lv : List (Nat × Value)) (hy : plainName y.cls = true) (hlen : (lg_sl av).length ≤ nL) (hlv : lv_args 0 av = lv) (h : RW y cc nL ret rm B Q Z D E 0 0 0 lv []) : MR y cc nL ret rm B av Z D E Q := by
  intro l G dA
  refine Met.ofW (cc := cc) (maxL := nL) (ret := ret) hy rfl ?_
  intro p e s m args below meth c s₁ Bd hml hv
  obtain ⟨rfl, hM, hK, hsz, hB⟩ := hv
  rw [lg_entry_eq]
  have hts := atoms_spec (ws := Cond.code y cc nL ret :: BW) Bd.pre
  refine h p l e s m _ below meth c G dA s.heap [] _ ⟨Bd.exec, Bd.bytes, Bd.returns, hml, findClass_of_methodNamed Bd.named, fun w hw => hts w (List.mem_cons_of_mem _ hw), Bd.notSynchronized, hK, hB, (name_of_methodNamed Bd.named Bd.method).1⟩ hM va_S.rf ?_ hsz
  subst hlv
  exact lv_entry av hlen
theorem w_run {p : Program} {l : Launch} {e : Env} {R : Room} {s : State} {m : MethodId} {args : Array Value} {below : List Frame} {meth : Method} {c : Code} {H : Heap} {locs : List Loc} {cells slots mc ms : Nat} {Qf : State → Prop} {g : JFrame} {rest : List Value} {Q' : QQ} {G : va_G} {dA : Nat → ClassId} {av : Array Value}
    (hr : va_Run p l e R s m args below meth c H locs cells slots mc ms g rest (QC G dA B Q' av) (fun q => B ≤ q)) (hS : va_S (fun q => B ≤ q) s.heap H locs)
    (kk : ∀ (v : Option Value) (Z' : ZZ) (D' : DD) (E' : EE) (H1 : Heap) (locs1 : List Loc), Q' v Z' D' E' → q_M G dA B Z' D' E' H1 → va_S (fun q => B ≤ q) s.heap H1 locs1 → W p l e R s m args below meth c H1 locs1 (cells + mc) (slots + ms) Qf { g with pc := g.pc + 3, stack := v.toList ++ rest }) : W p l e R s m args below meth c H locs cells slots Qf g := by
  intro T hT X
  obtain ⟨v, st₀, t, T', L, h0, X', hL, e1, e2, ⟨⟨v', Z', D', E', hv, hq, hm⟩, hz, hk⟩, st⟩ := hr T hT X
  cases hv
  rw [h0] at hz hk
  rw [← e1] at hm hz hk
  obtain ⟨t2, a1, b1⟩ := kk v Z' D' E' T'.heap (locs ++ L) hq hm ⟨Nat.le_trans hS.1 hz, fun q h1 h2 => (hk q (Nat.lt_of_lt_of_le h1 hS.1) h2).trans (hS.2.1 q h1 h2), fun q hq => by
      rcases List.mem_append.mp hq with h | h
      · exact hS.2.2 q h
      · exact hL q h⟩ T' rfl X'
  exact ⟨t2, st t2 a1, b1⟩
theorem q_recv {G : va_G} {dA : Nat → ClassId} {s : State} {H : Heap} {o ci nf : Nat} (hK : q_K G dA s) (hM : q_M G dA B Z D E H) (ho : o < Z.1) (hz : Z.2.1 o = (ci, nf)) (hc : ci < 7) : ∃ cell : Cell, H[B + o]? = some cell ∧ cell.vm.isStatics = false ∧ s.vm.findClass (q_C ci) = some cell.cls :=
  va_recv hK.1 hM (q_cl ci hc) ((q_get ho).trans (congrArg some (q_wfo hz hc)))
theorem r_callV {y' : MethodName} {cc' : ByteArray} {nL' n idx : Nat} {ret' : Option FieldType} {rm' : Room} {Q' : QQ} {As stk : List Value} {o ci nf : Nat} (hM' : MR y' cc' nL' ret' rm' B (.ref (B + o) :: As) Z D E Q') (hV : MV y' cc' nL' ret' n) (hw : Cond.methodLink y.cls idx y' ∈ BW) (hd : decode cc pc = .ok (.invokevirtual idx, 3)) (hst : stk = As.reverse ++ .ref (B + o) :: st) (hn : As.length = n) (ho : o < Z.1) (hz : Z.2.1 o = (ci, nf)) (hc : ci < 7) (hcl : q_C ci = y'.cls) (hcat : (st.map fun v => v.category).sum ≤ 8) (hrm : rm'.frames + 1 ≤ rm.frames ∧ 8 + (nL' + 11) + rm'.locals ≤ rm.locals ∧ ce + rm'.cells ≤ rm.cells ∧ sl + rm'.slots ≤ rm.slots) (hsz : ∀ v Z' D' E', Q' v Z' D' E' → Z.1 + rm'.cells ≤ Z'.1) (kk : ∀ v Z' D' E', Q' v Z' D' E' → RW y cc nL ret rm B Q Z' D' E' (ce + rm'.cells) (sl + rm'.slots) (pc + 3) lv (v.toList ++ st)) : RW y cc nL ret rm B Q Z D E ce sl pc lv stk := fun p l e s m args below meth c G dA H locs ls C hM hS hl hA => W.size fun hHs => by
  obtain ⟨⟨g1, g2, g3, g4, g5⟩, g6, g7⟩ := hV
  obtain ⟨k1, k2, k3, k4⟩ := hrm
  subst hst
  have hcw := cwV (R := rm) (s := s) (args := args) (own := y.cls) (index := idx) (C := y'.cls) (y := y') (ws := .code y' cc' nL' ret' :: BW) (rm := rm') (Ts := BW) n C.2.2.2.2.2.1 (bw_good _ (fun w hw9 => by
    rcases List.mem_append.mp hw9 with h | h
    · simp only [List.mem_cons, List.not_mem_nil, or_false] at h
      rcases h with rfl | rfl | rfl | rfl <;> assumption
    · rcases List.mem_cons.mp h with rfl | h
      · exact g1
      · exact h)) rfl rfl rfl ⟨rfl, g3.1, g3.2, g4⟩ ⟨k1, k2⟩
  exact w_run (va_runV (C := y'.cls) (As := As) (rest := st) (b := B + o) (Ts := BW) (nL := nL) (own := y.cls) ⟨C.1, C.2.1, C.2.2.2.1, C.2.2.2.2.1, C.2.2.2.2.2.1⟩ (hM' l G dA) hcw ⟨q_blind, hcl ▸ q_recv C.2.2.2.2.2.2.2.1 hM ho hz hc, fun U hU hW => ⟨rfl, by rw [hU]; exact hM, q_K.moved hW C.2.2.2.2.2.2.2.1, by rw [hU]; omega, by rw [hU]; exact Nat.le_trans C.2.2.2.2.2.2.2.2.1 hS.1⟩⟩ rfl hn hl.1 rfl (lv_room hcat) hd ⟨k3, k4⟩) hS (fun v Z' D' E' H1 locs1 hq hm hs => kk v Z' D' E' hq p l e s m args below meth c G dA H1 locs1 ls C hm hs hl (by have := hsz v Z' D' E' hq; omega))
theorem r_callS {y' : MethodName} {cc' : ByteArray} {nL' n idx : Nat} {ret' : Option FieldType} {rm' : Room} {Q' : QQ} {As stk : List Value} (hM' : MR y' cc' nL' ret' rm' B As Z D E Q') (hV : MS y' cc' nL' ret' n) (hw : Cond.methodLink y.cls idx y' ∈ BW) (hyc : y'.cls = y.cls) (hd : decode cc pc = .ok (.invokestatic idx, 3)) (hst : stk = As.reverse ++ st) (hn : As.length = n) (hcat : (st.map fun v => v.category).sum ≤ 8) (hrm : rm'.frames + 1 ≤ rm.frames ∧ 8 + (nL' + 11) + rm'.locals ≤ rm.locals ∧ ce + rm'.cells ≤ rm.cells ∧ sl + rm'.slots ≤ rm.slots) (hsz : ∀ v Z' D' E', Q' v Z' D' E' → Z.1 + rm'.cells ≤ Z'.1) (kk : ∀ v Z' D' E', Q' v Z' D' E' → RW y cc nL ret rm B Q Z' D' E' (ce + rm'.cells) (sl + rm'.slots) (pc + 3) lv (v.toList ++ st)) : RW y cc nL ret rm B Q Z D E ce sl pc lv stk := fun p l e s m args below meth c G dA H locs ls C hM hS hl hA => W.size fun hHs => by
  obtain ⟨⟨g1, g2, g3, g4, g5⟩, g6⟩ := hV
  obtain ⟨k1, k2, k3, k4⟩ := hrm
  subst hst
  have hcw := cwS (R := rm) (s := s) (args := args) (own := y.cls) (index := idx) (y := y') (ws := .code y' cc' nL' ret' :: BW) (rm := rm') (Ts := BW) n C.2.2.2.2.2.1 (bw_good _ (fun w hw9 => by
    rcases List.mem_append.mp hw9 with h | h
    · simp only [List.mem_cons, List.not_mem_nil, or_false] at h
      rcases h with rfl | rfl | rfl
      · exact hw
      · exact g6
      · exact hyc ▸ g2
    · rcases List.mem_cons.mp h with rfl | h
      · exact g1
      · exact h)) rfl rfl rfl ⟨hyc, g3.1, g3.2, g4⟩ ⟨k1, k2⟩
  exact w_run (va_runS (As := As) (rest := st) (Ts := BW) (nL := nL) (own := y.cls) ⟨C.1, C.2.1, C.2.2.2.1, C.2.2.2.2.1, C.2.2.2.2.2.1⟩ (hM' l G dA) hcw ⟨q_blind, fun U hU hW => ⟨rfl, by rw [hU]; exact hM, q_K.moved hW C.2.2.2.2.2.2.2.1, by rw [hU]; omega, by rw [hU]; exact Nat.le_trans C.2.2.2.2.2.2.2.2.1 hS.1⟩⟩ rfl hn hl.1 rfl (lv_room hcat) hd ⟨k3, k4⟩) hS (fun v Z' D' E' H1 locs1 hq hm hs => kk v Z' D' E' hq p l e s m args below meth c G dA H1 locs1 ls C hm hs hl (by have := hsz v Z' D' E' hq; omega))
theorem r_callSN {y' : MethodName} {cc' : ByteArray} {nL' n idx : Nat} {ret' : Option FieldType} {rm' : Room} {Q' : QQ} {As stk : List Value} (hM' : MR y' cc' nL' ret' rm' B As Z D E Q') (hV : MS y' cc' nL' ret' n) (hw : Cond.methodLinkNest y.cls idx y' "BlueHue" ∈ q_nest) (hd : decode cc pc = .ok (.invokestatic idx, 3)) (hst : stk = As.reverse ++ st) (hn : As.length = n) (hcat : (st.map fun v => v.category).sum ≤ 8) (hrm : rm'.frames + 1 ≤ rm.frames ∧ 8 + (nL' + 11) + rm'.locals ≤ rm.locals ∧ ce + rm'.cells ≤ rm.cells ∧ sl + rm'.slots ≤ rm.slots) (hsz : ∀ v Z' D' E', Q' v Z' D' E' → Z.1 + rm'.cells ≤ Z'.1) (kk : ∀ v Z' D' E', Q' v Z' D' E' → RW y cc nL ret rm B Q Z' D' E' (ce + rm'.cells) (sl + rm'.slots) (pc + 3) lv (v.toList ++ st)) : RW y cc nL ret rm B Q Z D E ce sl pc lv stk := fun p l e s m args below meth c G dA H locs ls C hM hS hl hA => W.size fun hHs => by
  obtain ⟨⟨g1, g2, g3, g4, g5⟩, g6⟩ := hV
  obtain ⟨k1, k2, k3, k4⟩ := hrm
  subst hst
  have hcw := va_cnB (R := rm) (s := s) (args := args) (own := y.cls) (host := "BlueHue") (index := idx) (y := y') (ws := .code y' cc' nL' ret' :: BW) (rm := rm') (Ts := BW) n C.2.2.2.2.2.1 (bw_good _ (fun w h => by
    rcases List.mem_cons.mp h with rfl | h
    · exact g1
    · exact h)) rfl rfl rfl (C.2.2.2.2.2.2.2.1.2.1 _ hw) (C.2.2.2.2.2.1 _ g2) ⟨g3.1, g3.2, g4⟩ ⟨k1, k2⟩
  exact w_run (va_runSN (As := As) (rest := st) (Ts := BW) (nL := nL) (own := y.cls) ⟨C.1, C.2.1, C.2.2.2.1, C.2.2.2.2.1, C.2.2.2.2.2.1⟩ (hM' l G dA) ⟨hcw, C.2.2.2.2.2.1 _ g6, trivial⟩ ⟨q_blind, fun U hU hW => ⟨rfl, by rw [hU]; exact hM, q_K.moved hW C.2.2.2.2.2.2.2.1, by rw [hU]; omega, by rw [hU]; exact Nat.le_trans C.2.2.2.2.2.2.2.2.1 hS.1⟩⟩ rfl hn hl.1 rfl (lv_room hcat) hd ⟨k3, k4⟩) hS (fun v Z' D' E' H1 locs1 hq hm hs => kk v Z' D' E' hq p l e s m args below meth c G dA H1 locs1 ls C hm hs hl (by have := hsz v Z' D' E' hq; omega))
theorem r_callI {y' : MethodName} {cc' : ByteArray} {nL' n idx : Nat} {rm' : Room} {Q' : QQ} {As stk : List Value} {o : Nat} (hM' : MR y' cc' nL' none rm' B (.ref (B + o) :: As) Z D E Q') (hV : MI y' cc' nL' n) (hw : Cond.methodLink y.cls idx y' ∈ BW) (hd : decode cc pc = .ok (.invokespecial idx, 3)) (hst : stk = As.reverse ++ .ref (B + o) :: st) (hn : As.length = n) (hcat : (st.map fun v => v.category).sum ≤ 8) (hrm : rm'.frames + 1 ≤ rm.frames ∧ 8 + (nL' + 11) + rm'.locals ≤ rm.locals ∧ ce + rm'.cells ≤ rm.cells ∧ sl + rm'.slots ≤ rm.slots) (hsz : ∀ v Z' D' E', Q' v Z' D' E' → Z.1 + rm'.cells ≤ Z'.1) (kk : ∀ v Z' D' E', Q' v Z' D' E' → RW y cc nL ret rm B Q Z' D' E' (ce + rm'.cells) (sl + rm'.slots) (pc + 3) lv (v.toList ++ st)) : RW y cc nL ret rm B Q Z D E ce sl pc lv stk := fun p l e s m args below meth c G dA H locs ls C hM hS hl hA => W.size fun hHs => by
  obtain ⟨⟨g1, g2, g3, g4, g5⟩, g6, g7⟩ := hV
  obtain ⟨k1, k2, k3, k4⟩ := hrm
  subst hst
  have hcw := cwI (R := rm) (s := s) (args := args) (own := y.cls) (index := idx) (y := y') (bytes := cc') (maxL := nL') (ws := .code y' cc' nL' none :: BW) (rm := rm') (Ts := BW) n C.2.2.2.2.2.1 (bw_good _ (fun w h => by
    rcases List.mem_cons.mp h with rfl | h
    · exact g1
    · exact h)) rfl rfl rfl (C.2.2.2.2.2.1 _ g2) (C.2.2.2.2.2.1 _ hw) (C.2.2.2.2.2.1 _ g6) g7 ⟨g3.1, g3.2, g4⟩ ⟨k1, k2⟩
  exact w_run (va_runI (As := As) (rest := st) (b := B + o) (Ts := BW) (nL := nL) (own := y.cls) ⟨C.1, C.2.1, C.2.2.2.1, C.2.2.2.2.1, C.2.2.2.2.2.1⟩ (hM' l G dA) hcw ⟨q_blind, fun U hU hW => ⟨rfl, by rw [hU]; exact hM, q_K.moved hW C.2.2.2.2.2.2.2.1, by rw [hU]; omega, by rw [hU]; exact Nat.le_trans C.2.2.2.2.2.2.2.2.1 hS.1⟩⟩ rfl hn hl.1 rfl (lv_room hcat) hd ⟨k3, k4⟩) hS (fun v Z' D' E' H1 locs1 hq hm hs => kk v Z' D' E' hq p l e s m args below meth c G dA H1 locs1 ls C hm hs hl (by have := hsz v Z' D' E' hq; omega))
theorem r_callIN {y' : MethodName} {cc' : ByteArray} {nL' n idx : Nat} {rm' : Room} {Q' : QQ} {As stk : List Value} {o : Nat} (hM' : MR y' cc' nL' none rm' B (.ref (B + o) :: As) Z D E Q') (hV : MI y' cc' nL' n) (hw : Cond.methodLinkNest y.cls idx y' "BlueHue" ∈ q_nest) (hd : decode cc pc = .ok (.invokespecial idx, 3)) (hst : stk = As.reverse ++ .ref (B + o) :: st) (hn : As.length = n) (hcat : (st.map fun v => v.category).sum ≤ 8) (hrm : rm'.frames + 1 ≤ rm.frames ∧ 8 + (nL' + 11) + rm'.locals ≤ rm.locals ∧ ce + rm'.cells ≤ rm.cells ∧ sl + rm'.slots ≤ rm.slots) (hsz : ∀ v Z' D' E', Q' v Z' D' E' → Z.1 + rm'.cells ≤ Z'.1) (kk : ∀ v Z' D' E', Q' v Z' D' E' → RW y cc nL ret rm B Q Z' D' E' (ce + rm'.cells) (sl + rm'.slots) (pc + 3) lv (v.toList ++ st)) : RW y cc nL ret rm B Q Z D E ce sl pc lv stk := fun p l e s m args below meth c G dA H locs ls C hM hS hl hA => W.size fun hHs => by
  obtain ⟨⟨g1, g2, g3, g4, g5⟩, g6, g7⟩ := hV
  obtain ⟨k1, k2, k3, k4⟩ := hrm
  subst hst
  have hcw := va_cnB (R := rm) (s := s) (args := args) (own := y.cls) (host := "BlueHue") (index := idx) (y := y') (ws := .code y' cc' nL' none :: BW) (rm := rm') (Ts := BW) n C.2.2.2.2.2.1 (bw_good _ (fun w h => by
    rcases List.mem_cons.mp h with rfl | h
    · exact g1
    · exact h)) rfl rfl rfl (C.2.2.2.2.2.2.2.1.2.1 _ hw) (C.2.2.2.2.2.1 _ g2) ⟨g3.1, g3.2, g4⟩ ⟨k1, k2⟩
  exact w_run (va_runIN (As := As) (rest := st) (b := B + o) (Ts := BW) (nL := nL) (own := y.cls) ⟨C.1, C.2.1, C.2.2.2.1, C.2.2.2.2.1, C.2.2.2.2.2.1⟩ (hM' l G dA) ⟨hcw, g7, C.2.2.2.2.2.1 _ g6⟩ ⟨q_blind, fun U hU hW => ⟨rfl, by rw [hU]; exact hM, q_K.moved hW C.2.2.2.2.2.2.2.1, by rw [hU]; omega, by rw [hU]; exact Nat.le_trans C.2.2.2.2.2.2.2.2.1 hS.1⟩⟩ rfl hn hl.1 rfl (lv_room hcat) hd ⟨k3, k4⟩) hS (fun v Z' D' E' H1 locs1 hq hm hs => kk v Z' D' E' hq p l e s m args below meth c G dA H1 locs1 ls C hm hs hl (by have := hsz v Z' D' E' hq; omega))
end RWC
end
section
section RWA
variable {y : MethodName} {cc : ByteArray} {nL : Nat} {ret : Option FieldType} {rm : Room} {B : Nat} {Q : QQ} {Z : ZZ} {D : DD} {E : EE} {ce sl pc : Nat} {lv : List (Nat × Value)} {st : List Value}
theorem q_szeq {G : va_G} {dA : Nat → ClassId} {s : State} {H : Heap} {locs : List Loc} (hM : q_M G dA B Z D E H) (h1 : H.size ≤ s.heap.size + ce) (h2 : s.heap.size + ce ≤ B + Z.1) (h3 : B ≤ s.heap.size) (hS : va_S (fun q => B ≤ q) s.heap H locs) : H.size = B + Z.1 := by
  by_cases hz : Z.1 = 0
  · have := hS.1; omega
  · have := (hM (Z.1 - 1) _ (q_get (by omega))).lt
    have e : (q_wf B dA Z D E (Z.1 - 1)).1 = B + (Z.1 - 1) := rfl
    omega
theorem q_push {G : va_G} {dA : Nat → ClassId} {H H1 : Heap} {kd : Nat × Nat} (hM : q_M G dA B Z D E H) (hsz : H.size = B + Z.1) (hold : ∀ q, q < H.size → H1[q]? = H[q]?) (hnew : va_at G vwCl (B + Z.1, q_cel B dA kd (fun _ => none) (fun _ => 0) (fun _ => 0)) H1) : q_M G dA B (Z.1 + 1, upo Z.2.1 Z.1 kd, upo Z.2.2 Z.1 (fun _ => none)) (upo D Z.1 fun _ => 0) (upo E Z.1 fun _ => 0) H1 := by
  intro k q hk
  have hl : k < Z.1 + 1 := by
    have := (List.getElem?_eq_some_iff.mp hk).1
    simpa [q_w] using this
  rw [q_get hl] at hk
  cases hk
  by_cases h : k = Z.1
  · subst h
    have : q_wf B dA (Z.1 + 1, upo Z.2.1 Z.1 kd, upo Z.2.2 Z.1 (fun _ => none)) (upo D Z.1 fun _ => 0) (upo E Z.1 fun _ => 0) Z.1 = (B + Z.1, q_cel B dA kd (fun _ => none) (fun _ => 0) (fun _ => 0)) := by
      unfold q_wf upo
      simp
    rw [this]
    exact hnew
  · have hk' : k < Z.1 := by omega
    have : q_wf B dA (Z.1 + 1, upo Z.2.1 Z.1 kd, upo Z.2.2 Z.1 (fun _ => none)) (upo D Z.1 fun _ => 0) (upo E Z.1 fun _ => 0) k = q_wf B dA Z D E k := by
      unfold q_wf upo
      simp [h]
    rw [this]
    have h9 := hM k _ (q_get hk')
    exact h9.kept (hold _ h9.lt)
def q_okty : FieldType → Bool
  | .int => true
  | .array _ => true
  | .object _ => true
  | _ => false
theorem q_oktys : ∀ c, c < 7 → ∀ j, j < q_N c → q_okty (q_ty c j) = true := by decide +kernel
theorem q_dflt {c j : Nat} (hc : c < 7) (hj : j < q_N c) : defaultValue (q_ty c j) = vp_V (q_fs B c (fun _ => none) (fun _ => 0)) j := by
  have h := q_oktys c hc j hj
  unfold vp_V
  rw [List.getD_eq_getElem?_getD, q_fsk hj]
  show _ = q_fv B (q_ty c j) 0 none
  cases hq : q_ty c j <;> rw [hq] at h <;> first | rfl | exact absurd h (by decide)
theorem r_new {idx c : Nat} (hw : Cond.classLink y.cls idx (q_C c) ∈ BW) (hn : Cond.instantiable (q_C c) (q_N c) ∈ BW) (hi : Cond.initialized (q_C c) ∈ BW) (hd : decode cc pc = .ok (.new idx, 3)) (hc : c < 7) (h1 : ce + 1 ≤ rm.cells) (h2 : sl + q_N c ≤ rm.slots)
    (kk : RW y cc nL ret rm B Q (Z.1 + 1, upo Z.2.1 Z.1 (c, q_N c), upo Z.2.2 Z.1 (fun _ => none)) (upo D Z.1 fun _ => 0) (upo E Z.1 fun _ => 0) (ce + 1) (sl + q_N c) (pc + 3) lv (.ref (B + Z.1) :: st)) : RW y cc nL ret rm B Q Z D E ce sl pc lv st := fun p l e s m args below meth c9 G dA H locs ls C hM hS hl hA => W.size fun hHs => by
  have hsz := q_szeq hM hHs hA C.2.2.2.2.2.2.2.2.1 hS
  have hKn := C.2.2.2.2.2.2.2.1.1.1 c _ (q_cl c hc)
  refine W.newcK C.1 C.2.1 C.2.2.2.2.1 (C.2.2.2.2.2.1 _ hw) (C.2.2.2.2.2.1 _ hn) (C.2.2.2.2.2.1 _ hi) rfl hd h1 h2 hKn.2.1 hsz fun H1 kC hkC e1 z1 o1 => ?_
  refine kk p l e s m args below meth c9 G dA H1 locs ls C (q_push hM hsz (fun q hq => o1 q (by omega)) ?_) ⟨by have := hS.1; omega, fun x h1 h2 => (o1 x (by have := hS.1; omega)).trans (hS.2.1 x h1 h2), hS.2.2⟩ hl (by show _ ≤ B + (Z.1 + 1); omega)
  show va_at G vwCl (B + Z.1, q_cel B dA (c, q_N c) _ _ _) H1
  unfold q_cel
  rw [if_pos hc]
  exact ⟨_, q_cl c hc, (u_born (q_ty c) C.2.2.2.2.2.1 (q_in c hc) hKn hkC e1 (q_tyok c hc)).to (fun j hj => q_dflt hc hj)⟩
theorem r_newaI {n : Int32} (N : Nat) (hd : decode cc pc = .ok (.newarray .int, 2)) (hn : ¬ n < 0) (hN : n.toNatClampNeg = N) (hb : N * componentBytes .int ≤ 536870912) (h1 : ce + 1 ≤ rm.cells) (h2 : sl + N ≤ rm.slots)
    (kk : RW y cc nL ret rm B Q (Z.1 + 1, upo Z.2.1 Z.1 (10, N), upo Z.2.2 Z.1 (fun _ => none)) (upo D Z.1 fun _ => 0) (upo E Z.1 fun _ => 0) (ce + 1) (sl + N) (pc + 2) lv (.ref (B + Z.1) :: st)) : RW y cc nL ret rm B Q Z D E ce sl pc lv (.int n :: st) := fun p l e s m args below meth c G dA H locs ls C hM hS hl hA => W.size fun hHs => by
  have hsz := q_szeq hM hHs hA C.2.2.2.2.2.2.2.2.1 hS
  refine va_newaK (atype := .int) (N := N) C.1 C.2.1 (C.2.2.2.2.2.1 _ wa_int) rfl hd rfl hn hN hb h1 h2 hsz fun H1 cA e1 z1 o1 hAr hfc => ?_
  have hcA : cA = dA 10 := by
    have h9 := (C.2.2.2.2.2.2.2.1.1.2 0 _ rfl).2
    exact Option.some.inj (hfc.symm.trans h9)
  subst hcA
  refine kk p l e s m args below meth c G dA H1 locs ls C (q_push hM hsz (fun q hq => o1 q (by omega)) ?_) ⟨by have := hS.1; omega, fun x h1 h2 => (o1 x (by have := hS.1; omega)).trans (hS.2.1 x h1 h2), hS.2.2⟩ hl (by show _ ≤ B + (Z.1 + 1); omega)
  show H1[B + Z.1]? = some (vp_cell (dA 10) (N, .inl (fun _ => 0)))
  exact e1
theorem r_newaL {n : Int32} (N : Nat) (hd : decode cc pc = .ok (.newarray .long, 2)) (hn : ¬ n < 0) (hN : n.toNatClampNeg = N) (hb : N * componentBytes .long ≤ 536870912) (h1 : ce + 1 ≤ rm.cells) (h2 : sl + N ≤ rm.slots)
    (kk : RW y cc nL ret rm B Q (Z.1 + 1, upo Z.2.1 Z.1 (11, N), upo Z.2.2 Z.1 (fun _ => none)) (upo D Z.1 fun _ => 0) (upo E Z.1 fun _ => 0) (ce + 1) (sl + N) (pc + 2) lv (.ref (B + Z.1) :: st)) : RW y cc nL ret rm B Q Z D E ce sl pc lv (.int n :: st) := fun p l e s m args below meth c G dA H locs ls C hM hS hl hA => W.size fun hHs => by
  have hsz := q_szeq hM hHs hA C.2.2.2.2.2.2.2.2.1 hS
  refine va_newaK (atype := .long) (N := N) C.1 C.2.1 (C.2.2.2.2.2.1 _ wa_long) rfl hd rfl hn hN hb h1 h2 hsz fun H1 cA e1 z1 o1 hAr hfc => ?_
  have hcA : cA = dA 11 := by
    have h9 := (C.2.2.2.2.2.2.2.1.1.2 1 _ rfl).2
    exact Option.some.inj (hfc.symm.trans h9)
  subst hcA
  refine kk p l e s m args below meth c G dA H1 locs ls C (q_push hM hsz (fun q hq => o1 q (by omega)) ?_) ⟨by have := hS.1; omega, fun x h1 h2 => (o1 x (by have := hS.1; omega)).trans (hS.2.1 x h1 h2), hS.2.2⟩ hl (by show _ ≤ B + (Z.1 + 1); omega)
  show H1[B + Z.1]? = some (vp_cell (dA 11) (N, .inr (.inl (fun _ => 0))))
  exact e1
theorem r_newaZ {n : Int32} (N : Nat) (hd : decode cc pc = .ok (.newarray .boolean, 2)) (hn : ¬ n < 0) (hN : n.toNatClampNeg = N) (hb : N * componentBytes .boolean ≤ 536870912) (h1 : ce + 1 ≤ rm.cells) (h2 : sl + N ≤ rm.slots)
    (kk : RW y cc nL ret rm B Q (Z.1 + 1, upo Z.2.1 Z.1 (12, N), upo Z.2.2 Z.1 (fun _ => none)) (upo D Z.1 fun _ => 0) (upo E Z.1 fun _ => 0) (ce + 1) (sl + N) (pc + 2) lv (.ref (B + Z.1) :: st)) : RW y cc nL ret rm B Q Z D E ce sl pc lv (.int n :: st) := fun p l e s m args below meth c G dA H locs ls C hM hS hl hA => W.size fun hHs => by
  have hsz := q_szeq hM hHs hA C.2.2.2.2.2.2.2.2.1 hS
  refine va_newaK (atype := .boolean) (N := N) C.1 C.2.1 (C.2.2.2.2.2.1 _ wa_boolean) rfl hd rfl hn hN hb h1 h2 hsz fun H1 cA e1 z1 o1 hAr hfc => ?_
  have hcA : cA = dA 12 := by
    have h9 := (C.2.2.2.2.2.2.2.1.1.2 2 _ rfl).2
    exact Option.some.inj (hfc.symm.trans h9)
  subst hcA
  refine kk p l e s m args below meth c G dA H1 locs ls C (q_push hM hsz (fun q hq => o1 q (by omega)) ?_) ⟨by have := hS.1; omega, fun x h1 h2 => (o1 x (by have := hS.1; omega)).trans (hS.2.1 x h1 h2), hS.2.2⟩ hl (by show _ ≤ B + (Z.1 + 1); omega)
  show H1[B + Z.1]? = some (vp_cell (dA 12) (N, .inl (fun _ => 0)))
  exact e1
theorem r_newqLand {n : Int32} {idx : Nat} (N : Nat) (hw : Cond.classLink y.cls idx RX1 ∈ BW) (hd : decode cc pc = .ok (.anewarray idx, 3)) (hn : ¬ n < 0) (hN : n.toNatClampNeg = N) (hb : N * 4 ≤ 536870912) (h1 : ce + 1 ≤ rm.cells) (h2 : sl + N ≤ rm.slots)
    (kk : RW y cc nL ret rm B Q (Z.1 + 1, upo Z.2.1 Z.1 (13, N), upo Z.2.2 Z.1 (fun _ => none)) (upo D Z.1 fun _ => 0) (upo E Z.1 fun _ => 0) (ce + 1) (sl + N) (pc + 3) lv (.ref (B + Z.1) :: st)) : RW y cc nL ret rm B Q Z D E ce sl pc lv (.int n :: st) := fun p l e s m args below meth c G dA H locs ls C hM hS hl hA => W.size fun hHs => by
  have hsz := q_szeq hM hHs hA C.2.2.2.2.2.2.2.2.1 hS
  subst hN
  refine W.anew C.1 C.2.1 C.2.2.2.2.1 (C.2.2.2.2.2.1 _ hw) (va_AO.use C.2.2.2.2.2.2.2.1.2.2.1) rfl hd rfl hn hb h1 h2 fun cA kA comp f1 f2 f3 f4 => ?_
  generalize hH1 : H.push ({ cls := cA, slots := Array.replicate n.toNatClampNeg .null, vm := .none } : Cell) = H1
  have z1 : H1.size = H.size + 1 := by rw [← hH1, Array.size_push]
  have e1 : H1[H.size]? = some (arrV cA n.toNatClampNeg (fun _ => .null)) := by rw [← hH1, Array.getElem?_push_size, ← arrV_new]
  have o1 : ∀ q : Nat, q < H.size → H1[q]? = H[q]? := fun q hq => by rw [← hH1, Array.getElem?_push, if_neg (Nat.ne_of_lt hq)]
  have hcA : cA = dA 13 := by
    obtain ⟨_, _, _, _, _, h9⟩ := (C.2.2.2.2.2.2.2.1.1.2 3 _ rfl).2
    exact Option.some.inj (f1.symm.trans h9)
  subst hcA
  rw [show H.size = B + Z.1 from hsz] at e1 ⊢
  refine kk p l e s m args below meth c G dA H1 locs ls C (q_push hM hsz o1 ?_) ⟨by have := hS.1; omega, fun x h1 h2 => (o1 x (by have := hS.1; omega)).trans (hS.2.1 x h1 h2), hS.2.2⟩ hl (by show _ ≤ B + (Z.1 + 1); omega)
  show H1[B + Z.1]? = some (vp_cell (dA 13) (n.toNatClampNeg, .inr (.inr (.inr (.inr (fun _ => none))))))
  exact e1
theorem r_newqCourse {n : Int32} {idx : Nat} (N : Nat) (hw : Cond.classLink y.cls idx RX0 ∈ BW) (hd : decode cc pc = .ok (.anewarray idx, 3)) (hn : ¬ n < 0) (hN : n.toNatClampNeg = N) (hb : N * 4 ≤ 536870912) (h1 : ce + 1 ≤ rm.cells) (h2 : sl + N ≤ rm.slots)
    (kk : RW y cc nL ret rm B Q (Z.1 + 1, upo Z.2.1 Z.1 (14, N), upo Z.2.2 Z.1 (fun _ => none)) (upo D Z.1 fun _ => 0) (upo E Z.1 fun _ => 0) (ce + 1) (sl + N) (pc + 3) lv (.ref (B + Z.1) :: st)) : RW y cc nL ret rm B Q Z D E ce sl pc lv (.int n :: st) := fun p l e s m args below meth c G dA H locs ls C hM hS hl hA => W.size fun hHs => by
  have hsz := q_szeq hM hHs hA C.2.2.2.2.2.2.2.2.1 hS
  subst hN
  refine W.anew C.1 C.2.1 C.2.2.2.2.1 (C.2.2.2.2.2.1 _ hw) (va_AO.use C.2.2.2.2.2.2.2.1.2.2.2.1) rfl hd rfl hn hb h1 h2 fun cA kA comp f1 f2 f3 f4 => ?_
  generalize hH1 : H.push ({ cls := cA, slots := Array.replicate n.toNatClampNeg .null, vm := .none } : Cell) = H1
  have z1 : H1.size = H.size + 1 := by rw [← hH1, Array.size_push]
  have e1 : H1[H.size]? = some (arrV cA n.toNatClampNeg (fun _ => .null)) := by rw [← hH1, Array.getElem?_push_size, ← arrV_new]
  have o1 : ∀ q : Nat, q < H.size → H1[q]? = H[q]? := fun q hq => by rw [← hH1, Array.getElem?_push, if_neg (Nat.ne_of_lt hq)]
  have hcA : cA = dA 14 := by
    obtain ⟨_, _, _, _, _, h9⟩ := (C.2.2.2.2.2.2.2.1.1.2 4 _ rfl).2
    exact Option.some.inj (f1.symm.trans h9)
  subst hcA
  rw [show H.size = B + Z.1 from hsz] at e1 ⊢
  refine kk p l e s m args below meth c G dA H1 locs ls C (q_push hM hsz o1 ?_) ⟨by have := hS.1; omega, fun x h1 h2 => (o1 x (by have := hS.1; omega)).trans (hS.2.1 x h1 h2), hS.2.2⟩ hl (by show _ ≤ B + (Z.1 + 1); omega)
  show H1[B + Z.1]? = some (vp_cell (dA 14) (n.toNatClampNeg, .inr (.inr (.inr (.inr (fun _ => none))))))
  exact e1
def Q2 (Z : ZZ) (P : Option Value → DD → EE → Prop) : QQ := fun v Z' D' E' => Z' = Z ∧ P v D' E'
def pI (P : Int32 → DD → EE → Prop) : Option Value → DD → EE → Prop := fun v D E => ∃ r : Int32, v = some (.int r) ∧ P r D E
def pL (P : Int64 → DD → EE → Prop) : Option Value → DD → EE → Prop := fun v D E => ∃ r : Int64, v = some (.long r) ∧ P r D E
def pV (P : DD → EE → Prop) : Option Value → DD → EE → Prop := fun v D E => v = none ∧ P D E
theorem r_callVI {y' : MethodName} {cc' : ByteArray} {nL' n idx : Nat} {ret' : Option FieldType} {rm' : Room} {As stk : List Value} {P : Int32 → DD → EE → Prop} {o ci nf : Nat} (hM' : MR y' cc' nL' ret' rm' B (.ref (B + o) :: As) Z D E (Q2 Z (pI P))) (hV : MV y' cc' nL' ret' n) (hw : Cond.methodLink y.cls idx y' ∈ BW) (hd : decode cc pc = .ok (.invokevirtual idx, 3)) (hst : stk = As.reverse ++ .ref (B + o) :: st) (hn : As.length = n) (ho : o < Z.1) (hz : Z.2.1 o = (ci, nf)) (hc : ci < 7) (hcl : q_C ci = y'.cls) (hcat : (st.map fun v => v.category).sum ≤ 8) (hrm : rm'.frames + 1 ≤ rm.frames ∧ 8 + (nL' + 11) + rm'.locals ≤ rm.locals ∧ ce ≤ rm.cells ∧ sl ≤ rm.slots) (h0 : rm'.cells = 0 ∧ rm'.slots = 0) (kk : ∀ r D' E', P r D' E' → RW y cc nL ret rm B Q Z D' E' ce sl (pc + 3) lv (.int r :: st)) : RW y cc nL ret rm B Q Z D E ce sl pc lv stk := by
  obtain ⟨e1, e2⟩ := h0
  refine r_callV hM' hV hw hd hst hn ho hz hc hcl hcat ⟨hrm.1, hrm.2.1, by rw [e1]; exact hrm.2.2.1, by rw [e2]; exact hrm.2.2.2⟩ (fun v Z' D' E' h => by rw [h.1, e1]; exact Nat.le_refl _) (fun v Z' D' E' h => ?_)
  obtain ⟨rfl, r, rfl, h⟩ := h
  rw [e1, e2]
  exact kk r D' E' h
theorem r_callVL {y' : MethodName} {cc' : ByteArray} {nL' n idx : Nat} {ret' : Option FieldType} {rm' : Room} {As stk : List Value} {P : Int64 → DD → EE → Prop} {o ci nf : Nat} (hM' : MR y' cc' nL' ret' rm' B (.ref (B + o) :: As) Z D E (Q2 Z (pL P))) (hV : MV y' cc' nL' ret' n) (hw : Cond.methodLink y.cls idx y' ∈ BW) (hd : decode cc pc = .ok (.invokevirtual idx, 3)) (hst : stk = As.reverse ++ .ref (B + o) :: st) (hn : As.length = n) (ho : o < Z.1) (hz : Z.2.1 o = (ci, nf)) (hc : ci < 7) (hcl : q_C ci = y'.cls) (hcat : (st.map fun v => v.category).sum ≤ 8) (hrm : rm'.frames + 1 ≤ rm.frames ∧ 8 + (nL' + 11) + rm'.locals ≤ rm.locals ∧ ce ≤ rm.cells ∧ sl ≤ rm.slots) (h0 : rm'.cells = 0 ∧ rm'.slots = 0) (kk : ∀ r D' E', P r D' E' → RW y cc nL ret rm B Q Z D' E' ce sl (pc + 3) lv (.long r :: st)) : RW y cc nL ret rm B Q Z D E ce sl pc lv stk := by
  obtain ⟨e1, e2⟩ := h0
  refine r_callV hM' hV hw hd hst hn ho hz hc hcl hcat ⟨hrm.1, hrm.2.1, by rw [e1]; exact hrm.2.2.1, by rw [e2]; exact hrm.2.2.2⟩ (fun v Z' D' E' h => by rw [h.1, e1]; exact Nat.le_refl _) (fun v Z' D' E' h => ?_)
  obtain ⟨rfl, r, rfl, h⟩ := h
  rw [e1, e2]
  exact kk r D' E' h
theorem r_callVV {y' : MethodName} {cc' : ByteArray} {nL' n idx : Nat} {ret' : Option FieldType} {rm' : Room} {As stk : List Value} {P : DD → EE → Prop} {o ci nf : Nat} (hM' : MR y' cc' nL' ret' rm' B (.ref (B + o) :: As) Z D E (Q2 Z (pV P))) (hV : MV y' cc' nL' ret' n) (hw : Cond.methodLink y.cls idx y' ∈ BW) (hd : decode cc pc = .ok (.invokevirtual idx, 3)) (hst : stk = As.reverse ++ .ref (B + o) :: st) (hn : As.length = n) (ho : o < Z.1) (hz : Z.2.1 o = (ci, nf)) (hc : ci < 7) (hcl : q_C ci = y'.cls) (hcat : (st.map fun v => v.category).sum ≤ 8) (hrm : rm'.frames + 1 ≤ rm.frames ∧ 8 + (nL' + 11) + rm'.locals ≤ rm.locals ∧ ce ≤ rm.cells ∧ sl ≤ rm.slots) (h0 : rm'.cells = 0 ∧ rm'.slots = 0) (kk : ∀ D' E', P D' E' → RW y cc nL ret rm B Q Z D' E' ce sl (pc + 3) lv (st)) : RW y cc nL ret rm B Q Z D E ce sl pc lv stk := by
  obtain ⟨e1, e2⟩ := h0
  refine r_callV hM' hV hw hd hst hn ho hz hc hcl hcat ⟨hrm.1, hrm.2.1, by rw [e1]; exact hrm.2.2.1, by rw [e2]; exact hrm.2.2.2⟩ (fun v Z' D' E' h => by rw [h.1, e1]; exact Nat.le_refl _) (fun v Z' D' E' h => ?_)
  obtain ⟨rfl, rfl, h⟩ := h
  rw [e1, e2]
  exact kk D' E' h
theorem r_callSI {y' : MethodName} {cc' : ByteArray} {nL' n idx : Nat} {ret' : Option FieldType} {rm' : Room} {As stk : List Value} {P : Int32 → DD → EE → Prop} (hM' : MR y' cc' nL' ret' rm' B As Z D E (Q2 Z (pI P))) (hV : MS y' cc' nL' ret' n) (hw : Cond.methodLink y.cls idx y' ∈ BW) (hyc : y'.cls = y.cls) (hd : decode cc pc = .ok (.invokestatic idx, 3)) (hst : stk = As.reverse ++ st) (hn : As.length = n) (hcat : (st.map fun v => v.category).sum ≤ 8) (hrm : rm'.frames + 1 ≤ rm.frames ∧ 8 + (nL' + 11) + rm'.locals ≤ rm.locals ∧ ce ≤ rm.cells ∧ sl ≤ rm.slots) (h0 : rm'.cells = 0 ∧ rm'.slots = 0) (kk : ∀ r D' E', P r D' E' → RW y cc nL ret rm B Q Z D' E' ce sl (pc + 3) lv (.int r :: st)) : RW y cc nL ret rm B Q Z D E ce sl pc lv stk := by
  obtain ⟨e1, e2⟩ := h0
  refine r_callS hM' hV hw hyc hd hst hn hcat ⟨hrm.1, hrm.2.1, by rw [e1]; exact hrm.2.2.1, by rw [e2]; exact hrm.2.2.2⟩ (fun v Z' D' E' h => by rw [h.1, e1]; exact Nat.le_refl _) (fun v Z' D' E' h => ?_)
  obtain ⟨rfl, r, rfl, h⟩ := h
  rw [e1, e2]
  exact kk r D' E' h
theorem r_callSL {y' : MethodName} {cc' : ByteArray} {nL' n idx : Nat} {ret' : Option FieldType} {rm' : Room} {As stk : List Value} {P : Int64 → DD → EE → Prop} (hM' : MR y' cc' nL' ret' rm' B As Z D E (Q2 Z (pL P))) (hV : MS y' cc' nL' ret' n) (hw : Cond.methodLink y.cls idx y' ∈ BW) (hyc : y'.cls = y.cls) (hd : decode cc pc = .ok (.invokestatic idx, 3)) (hst : stk = As.reverse ++ st) (hn : As.length = n) (hcat : (st.map fun v => v.category).sum ≤ 8) (hrm : rm'.frames + 1 ≤ rm.frames ∧ 8 + (nL' + 11) + rm'.locals ≤ rm.locals ∧ ce ≤ rm.cells ∧ sl ≤ rm.slots) (h0 : rm'.cells = 0 ∧ rm'.slots = 0) (kk : ∀ r D' E', P r D' E' → RW y cc nL ret rm B Q Z D' E' ce sl (pc + 3) lv (.long r :: st)) : RW y cc nL ret rm B Q Z D E ce sl pc lv stk := by
  obtain ⟨e1, e2⟩ := h0
  refine r_callS hM' hV hw hyc hd hst hn hcat ⟨hrm.1, hrm.2.1, by rw [e1]; exact hrm.2.2.1, by rw [e2]; exact hrm.2.2.2⟩ (fun v Z' D' E' h => by rw [h.1, e1]; exact Nat.le_refl _) (fun v Z' D' E' h => ?_)
  obtain ⟨rfl, r, rfl, h⟩ := h
  rw [e1, e2]
  exact kk r D' E' h
theorem r_callSNI {y' : MethodName} {cc' : ByteArray} {nL' n idx : Nat} {ret' : Option FieldType} {rm' : Room} {As stk : List Value} {P : Int32 → DD → EE → Prop} (hM' : MR y' cc' nL' ret' rm' B As Z D E (Q2 Z (pI P))) (hV : MS y' cc' nL' ret' n) (hw : Cond.methodLinkNest y.cls idx y' "BlueHue" ∈ q_nest) (hd : decode cc pc = .ok (.invokestatic idx, 3)) (hst : stk = As.reverse ++ st) (hn : As.length = n) (hcat : (st.map fun v => v.category).sum ≤ 8) (hrm : rm'.frames + 1 ≤ rm.frames ∧ 8 + (nL' + 11) + rm'.locals ≤ rm.locals ∧ ce ≤ rm.cells ∧ sl ≤ rm.slots) (h0 : rm'.cells = 0 ∧ rm'.slots = 0) (kk : ∀ r D' E', P r D' E' → RW y cc nL ret rm B Q Z D' E' ce sl (pc + 3) lv (.int r :: st)) : RW y cc nL ret rm B Q Z D E ce sl pc lv stk := by
  obtain ⟨e1, e2⟩ := h0
  refine r_callSN hM' hV hw hd hst hn hcat ⟨hrm.1, hrm.2.1, by rw [e1]; exact hrm.2.2.1, by rw [e2]; exact hrm.2.2.2⟩ (fun v Z' D' E' h => by rw [h.1, e1]; exact Nat.le_refl _) (fun v Z' D' E' h => ?_)
  obtain ⟨rfl, r, rfl, h⟩ := h
  rw [e1, e2]
  exact kk r D' E' h
theorem r_callSNL {y' : MethodName} {cc' : ByteArray} {nL' n idx : Nat} {ret' : Option FieldType} {rm' : Room} {As stk : List Value} {P : Int64 → DD → EE → Prop} (hM' : MR y' cc' nL' ret' rm' B As Z D E (Q2 Z (pL P))) (hV : MS y' cc' nL' ret' n) (hw : Cond.methodLinkNest y.cls idx y' "BlueHue" ∈ q_nest) (hd : decode cc pc = .ok (.invokestatic idx, 3)) (hst : stk = As.reverse ++ st) (hn : As.length = n) (hcat : (st.map fun v => v.category).sum ≤ 8) (hrm : rm'.frames + 1 ≤ rm.frames ∧ 8 + (nL' + 11) + rm'.locals ≤ rm.locals ∧ ce ≤ rm.cells ∧ sl ≤ rm.slots) (h0 : rm'.cells = 0 ∧ rm'.slots = 0) (kk : ∀ r D' E', P r D' E' → RW y cc nL ret rm B Q Z D' E' ce sl (pc + 3) lv (.long r :: st)) : RW y cc nL ret rm B Q Z D E ce sl pc lv stk := by
  obtain ⟨e1, e2⟩ := h0
  refine r_callSN hM' hV hw hd hst hn hcat ⟨hrm.1, hrm.2.1, by rw [e1]; exact hrm.2.2.1, by rw [e2]; exact hrm.2.2.2⟩ (fun v Z' D' E' h => by rw [h.1, e1]; exact Nat.le_refl _) (fun v Z' D' E' h => ?_)
  obtain ⟨rfl, r, rfl, h⟩ := h
  rw [e1, e2]
  exact kk r D' E' h
theorem r_iret2 {v : Int32} {P : Int32 → DD → EE → Prop} (hd : decode cc pc = .ok (.ireturn, 1)) (hr : ret = some .int) (hc : ce ≤ rm.cells ∧ sl ≤ rm.slots) (h : P v D E) : RW y cc nL ret rm B (Q2 Z (pI P)) Z D E ce sl pc lv [.int v] := r_iret hd hr hc.1 hc.2 ⟨rfl, v, rfl, h⟩
theorem r_zret2 {v : Int32} {P : Int32 → DD → EE → Prop} (hd : decode cc pc = .ok (.ireturn, 1)) (hr : ret = some .boolean) (hc : ce ≤ rm.cells ∧ sl ≤ rm.slots) (hv : narrow .boolean (.int v) = .int v) (h : P v D E) : RW y cc nL ret rm B (Q2 Z (pI P)) Z D E ce sl pc lv [.int v] := r_zret hd hr hv hc.1 hc.2 ⟨rfl, v, rfl, h⟩
theorem r_lret2 {v : Int64} {P : Int64 → DD → EE → Prop} (hd : decode cc pc = .ok (.lreturn, 1)) (hr : ret = some .long) (hc : ce ≤ rm.cells ∧ sl ≤ rm.slots) (h : P v D E) : RW y cc nL ret rm B (Q2 Z (pL P)) Z D E ce sl pc lv [.long v] := r_lret hd hr hc.1 hc.2 ⟨rfl, v, rfl, h⟩
theorem r_vret2 {P : DD → EE → Prop} (hd : decode cc pc = .ok (.return_, 1)) (hr : ret = none) (hc : ce ≤ rm.cells ∧ sl ≤ rm.slots) (h : P D E) : RW y cc nL ret rm B (Q2 Z (pV P)) Z D E ce sl pc lv [] := r_vret hd hr hc.1 hc.2 ⟨rfl, rfl, h⟩
end RWA
end
section
theorem zz_last : True := trivial
end
