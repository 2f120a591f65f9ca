-- ===== PART A: goes FIRST, ahead of the names: the tables' words, and 'selects' of the private methods out of them =====
/-- a private method of a class that the tables say can be made, by its rows of tables_1 -/
def lw_okq (q : MethodName × Nat) : Prop := (q.1.cls ≠ "java/lang/invoke/MethodHandle" ∧ q.1.cls ≠ "java/lang/invoke/VarHandle") ∧ Cond.instantiable q.1.cls q.2 ∈ tables_1 ∧ Cond.privateMethod q.1 ∈ tables_1 ∧ Cond.instanceMethod q.1 ∈ tables_1
theorem lw_p0 : lw_okq (⟨"FlutePark$Park", "liesToSide", "(III)Z"⟩, 9) := ⟨⟨by decide +kernel, by decide +kernel⟩, List.mem_of_getElem? (i := 58) (by decide +kernel), List.mem_of_getElem? (i := 177) (by decide +kernel), List.mem_of_getElem? (i := 178) (by decide +kernel)⟩
theorem lw_p1 : lw_okq (⟨"FlutePark", "startAnew", "()V"⟩, 17) := ⟨⟨by decide +kernel, by decide +kernel⟩, List.mem_of_getElem? (i := 15) (by decide +kernel), List.mem_of_getElem? (i := 189) (by decide +kernel), List.mem_of_getElem? (i := 190) (by decide +kernel)⟩
theorem lw_p2 : lw_okq (⟨"FlutePark$Reader", "readLine", "(LFlutePark$Text;LFlutePark$Park;)Z"⟩, 2) := ⟨⟨by decide +kernel, by decide +kernel⟩, List.mem_of_getElem? (i := 44) (by decide +kernel), List.mem_of_getElem? (i := 295) (by decide +kernel), List.mem_of_getElem? (i := 296) (by decide +kernel)⟩
theorem lw_p3 : lw_okq (⟨"FlutePark$Text", "byteAt", "(I)I"⟩, 4) := ⟨⟨by decide +kernel, by decide +kernel⟩, List.mem_of_getElem? (i := 23) (by decide +kernel), List.mem_of_getElem? (i := 303) (by decide +kernel), List.mem_of_getElem? (i := 304) (by decide +kernel)⟩
theorem lw_p4 : lw_okq (⟨"FlutePark$Reader", "canStand", "(LFlutePark$Park;II)Z"⟩, 2) := ⟨⟨by decide +kernel, by decide +kernel⟩, List.mem_of_getElem? (i := 44) (by decide +kernel), List.mem_of_getElem? (i := 395) (by decide +kernel), List.mem_of_getElem? (i := 396) (by decide +kernel)⟩
theorem lw_p5 : lw_okq (⟨"FlutePark$Reader", "leastNumber", "(II)I"⟩, 2) := ⟨⟨by decide +kernel, by decide +kernel⟩, List.mem_of_getElem? (i := 44) (by decide +kernel), List.mem_of_getElem? (i := 399) (by decide +kernel), List.mem_of_getElem? (i := 400) (by decide +kernel)⟩
theorem lw_p6 : lw_okq (⟨"FlutePark$Reader", "doLine", "(LFlutePark$Park;I)V"⟩, 2) := ⟨⟨by decide +kernel, by decide +kernel⟩, List.mem_of_getElem? (i := 44) (by decide +kernel), List.mem_of_getElem? (i := 408) (by decide +kernel), List.mem_of_getElem? (i := 409) (by decide +kernel)⟩
theorem lw_p7 : lw_okq (⟨"FlutePark$Hearing", "soundsOf", "(II)I"⟩, 5) := ⟨⟨by decide +kernel, by decide +kernel⟩, List.mem_of_getElem? (i := 107) (by decide +kernel), List.mem_of_getElem? (i := 493) (by decide +kernel), List.mem_of_getElem? (i := 494) (by decide +kernel)⟩
theorem lw_p8 : lw_okq (⟨"FlutePark", "firstPart", "(III)I"⟩, 17) := ⟨⟨by decide +kernel, by decide +kernel⟩, List.mem_of_getElem? (i := 15) (by decide +kernel), List.mem_of_getElem? (i := 541) (by decide +kernel), List.mem_of_getElem? (i := 542) (by decide +kernel)⟩
theorem lw_p9 : lw_okq (⟨"FlutePark$Hearing", "marginBy", "(I)I"⟩, 5) := ⟨⟨by decide +kernel, by decide +kernel⟩, List.mem_of_getElem? (i := 107) (by decide +kernel), List.mem_of_getElem? (i := 566) (by decide +kernel), List.mem_of_getElem? (i := 567) (by decide +kernel)⟩
theorem lw_p10 : lw_okq (⟨"FlutePark", "holdingTraits", "(III)J"⟩, 17) := ⟨⟨by decide +kernel, by decide +kernel⟩, List.mem_of_getElem? (i := 15) (by decide +kernel), List.mem_of_getElem? (i := 575) (by decide +kernel), List.mem_of_getElem? (i := 576) (by decide +kernel)⟩
theorem lw_p11 : lw_okq (⟨"FlutePark", "holdsWithHedges", "(J)Z"⟩, 17) := ⟨⟨by decide +kernel, by decide +kernel⟩, List.mem_of_getElem? (i := 15) (by decide +kernel), List.mem_of_getElem? (i := 604) (by decide +kernel), List.mem_of_getElem? (i := 605) (by decide +kernel)⟩
theorem lw_p12 : lw_okq (⟨"FlutePark", "weightOf", "(II)I"⟩, 17) := ⟨⟨by decide +kernel, by decide +kernel⟩, List.mem_of_getElem? (i := 15) (by decide +kernel), List.mem_of_getElem? (i := 635) (by decide +kernel), List.mem_of_getElem? (i := 636) (by decide +kernel)⟩
theorem lw_p13 : lw_okq (⟨"FlutePark", "isAsSeen", "(I)Z"⟩, 17) := ⟨⟨by decide +kernel, by decide +kernel⟩, List.mem_of_getElem? (i := 15) (by decide +kernel), List.mem_of_getElem? (i := 654) (by decide +kernel), List.mem_of_getElem? (i := 655) (by decide +kernel)⟩
theorem lw_p14 : lw_okq (⟨"FluteParkModel", "token", "()V"⟩, 25) := ⟨⟨by decide +kernel, by decide +kernel⟩, List.mem_of_getElem? (i := 662) (by decide +kernel), List.mem_of_getElem? (i := 762) (by decide +kernel), List.mem_of_getElem? (i := 763) (by decide +kernel)⟩
theorem lw_p15 : lw_okq (⟨"FluteParkModel", "readsLine", "()Z"⟩, 25) := ⟨⟨by decide +kernel, by decide +kernel⟩, List.mem_of_getElem? (i := 662) (by decide +kernel), List.mem_of_getElem? (i := 769) (by decide +kernel), List.mem_of_getElem? (i := 770) (by decide +kernel)⟩
def lw_privs_1 : List (MethodName × Nat) := [(⟨"FlutePark$Park", "liesToSide", "(III)Z"⟩, 9), (⟨"FlutePark", "startAnew", "()V"⟩, 17), (⟨"FlutePark$Reader", "readLine", "(LFlutePark$Text;LFlutePark$Park;)Z"⟩, 2), (⟨"FlutePark$Text", "byteAt", "(I)I"⟩, 4), (⟨"FlutePark$Reader", "canStand", "(LFlutePark$Park;II)Z"⟩, 2), (⟨"FlutePark$Reader", "leastNumber", "(II)I"⟩, 2), (⟨"FlutePark$Reader", "doLine", "(LFlutePark$Park;I)V"⟩, 2), (⟨"FlutePark$Hearing", "soundsOf", "(II)I"⟩, 5), (⟨"FlutePark", "firstPart", "(III)I"⟩, 17), (⟨"FlutePark$Hearing", "marginBy", "(I)I"⟩, 5), (⟨"FlutePark", "holdingTraits", "(III)J"⟩, 17), (⟨"FlutePark", "holdsWithHedges", "(J)Z"⟩, 17), (⟨"FlutePark", "weightOf", "(II)I"⟩, 17), (⟨"FlutePark", "isAsSeen", "(I)Z"⟩, 17), (⟨"FluteParkModel", "token", "()V"⟩, 25), (⟨"FluteParkModel", "readsLine", "()Z"⟩, 25)]
theorem lw_r1 : ∀ q ∈ lw_privs_1, lw_okq q := List.forall_mem_cons.mpr ⟨lw_p0, List.forall_mem_cons.mpr ⟨lw_p1, List.forall_mem_cons.mpr ⟨lw_p2, List.forall_mem_cons.mpr ⟨lw_p3, List.forall_mem_cons.mpr ⟨lw_p4, List.forall_mem_cons.mpr ⟨lw_p5, List.forall_mem_cons.mpr ⟨lw_p6, List.forall_mem_cons.mpr ⟨lw_p7, List.forall_mem_cons.mpr ⟨lw_p8, List.forall_mem_cons.mpr ⟨lw_p9, List.forall_mem_cons.mpr ⟨lw_p10, List.forall_mem_cons.mpr ⟨lw_p11, List.forall_mem_cons.mpr ⟨lw_p12, List.forall_mem_cons.mpr ⟨lw_p13, List.forall_mem_cons.mpr ⟨lw_p14, List.forall_mem_cons.mpr ⟨lw_p15, fun _ h => absurd h List.not_mem_nil⟩⟩⟩⟩⟩⟩⟩⟩⟩⟩⟩⟩⟩⟩⟩⟩
theorem lw_p16 : lw_okq (⟨"FluteParkModel", "wordOf", "()I"⟩, 25) := ⟨⟨by decide +kernel, by decide +kernel⟩, List.mem_of_getElem? (i := 662) (by decide +kernel), List.mem_of_getElem? (i := 773) (by decide +kernel), List.mem_of_getElem? (i := 774) (by decide +kernel)⟩
theorem lw_p17 : lw_okq (⟨"FluteParkModel", "bandWord", "()I"⟩, 25) := ⟨⟨by decide +kernel, by decide +kernel⟩, List.mem_of_getElem? (i := 662) (by decide +kernel), List.mem_of_getElem? (i := 777) (by decide +kernel), List.mem_of_getElem? (i := 778) (by decide +kernel)⟩
theorem lw_p18 : lw_okq (⟨"FluteParkModel", "isWord", "(II)Z"⟩, 25) := ⟨⟨by decide +kernel, by decide +kernel⟩, List.mem_of_getElem? (i := 662) (by decide +kernel), List.mem_of_getElem? (i := 782) (by decide +kernel), List.mem_of_getElem? (i := 783) (by decide +kernel)⟩
theorem lw_p19 : lw_okq (⟨"FluteParkModel", "readsRest", "(I)Z"⟩, 25) := ⟨⟨by decide +kernel, by decide +kernel⟩, List.mem_of_getElem? (i := 662) (by decide +kernel), List.mem_of_getElem? (i := 802) (by decide +kernel), List.mem_of_getElem? (i := 803) (by decide +kernel)⟩
theorem lw_p20 : lw_okq (⟨"FluteParkModel", "reads", "(III)Z"⟩, 25) := ⟨⟨by decide +kernel, by decide +kernel⟩, List.mem_of_getElem? (i := 662) (by decide +kernel), List.mem_of_getElem? (i := 806) (by decide +kernel), List.mem_of_getElem? (i := 807) (by decide +kernel)⟩
theorem lw_p21 : lw_okq (⟨"FluteParkModel", "numberHere", "()I"⟩, 25) := ⟨⟨by decide +kernel, by decide +kernel⟩, List.mem_of_getElem? (i := 662) (by decide +kernel), List.mem_of_getElem? (i := 810) (by decide +kernel), List.mem_of_getElem? (i := 811) (by decide +kernel)⟩
theorem lw_p22 : lw_okq (⟨"FluteParkModel", "readsHedge", "()Z"⟩, 25) := ⟨⟨by decide +kernel, by decide +kernel⟩, List.mem_of_getElem? (i := 662) (by decide +kernel), List.mem_of_getElem? (i := 814) (by decide +kernel), List.mem_of_getElem? (i := 815) (by decide +kernel)⟩
theorem lw_p23 : lw_okq (⟨"FluteParkModel", "tell", "(I)V"⟩, 25) := ⟨⟨by decide +kernel, by decide +kernel⟩, List.mem_of_getElem? (i := 662) (by decide +kernel), List.mem_of_getElem? (i := 826) (by decide +kernel), List.mem_of_getElem? (i := 827) (by decide +kernel)⟩
theorem lw_p24 : lw_okq (⟨"FluteParkModel", "clear", "(II)V"⟩, 25) := ⟨⟨by decide +kernel, by decide +kernel⟩, List.mem_of_getElem? (i := 662) (by decide +kernel), List.mem_of_getElem? (i := 830) (by decide +kernel), List.mem_of_getElem? (i := 831) (by decide +kernel)⟩
theorem lw_p25 : lw_okq (⟨"FluteParkModel", "addBand", "(I)V"⟩, 25) := ⟨⟨by decide +kernel, by decide +kernel⟩, List.mem_of_getElem? (i := 662) (by decide +kernel), List.mem_of_getElem? (i := 834) (by decide +kernel), List.mem_of_getElem? (i := 835) (by decide +kernel)⟩
theorem lw_p26 : lw_okq (⟨"FluteParkModel", "isPlace", "(I)Z"⟩, 25) := ⟨⟨by decide +kernel, by decide +kernel⟩, List.mem_of_getElem? (i := 662) (by decide +kernel), List.mem_of_getElem? (i := 842) (by decide +kernel), List.mem_of_getElem? (i := 843) (by decide +kernel)⟩
theorem lw_p27 : lw_okq (⟨"FluteParkModel", "fluteAt", "(I)I"⟩, 25) := ⟨⟨by decide +kernel, by decide +kernel⟩, List.mem_of_getElem? (i := 662) (by decide +kernel), List.mem_of_getElem? (i := 846) (by decide +kernel), List.mem_of_getElem? (i := 847) (by decide +kernel)⟩
theorem lw_p28 : lw_okq (⟨"FluteParkModel", "far", "(II)I"⟩, 25) := ⟨⟨by decide +kernel, by decide +kernel⟩, List.mem_of_getElem? (i := 662) (by decide +kernel), List.mem_of_getElem? (i := 850) (by decide +kernel), List.mem_of_getElem? (i := 851) (by decide +kernel)⟩
theorem lw_p29 : lw_okq (⟨"FluteParkModel", "isBand", "(I)Z"⟩, 25) := ⟨⟨by decide +kernel, by decide +kernel⟩, List.mem_of_getElem? (i := 662) (by decide +kernel), List.mem_of_getElem? (i := 858) (by decide +kernel), List.mem_of_getElem? (i := 859) (by decide +kernel)⟩
theorem lw_p30 : lw_okq (⟨"FluteParkModel", "soundOf", "(III)I"⟩, 25) := ⟨⟨by decide +kernel, by decide +kernel⟩, List.mem_of_getElem? (i := 662) (by decide +kernel), List.mem_of_getElem? (i := 867) (by decide +kernel), List.mem_of_getElem? (i := 868) (by decide +kernel)⟩
theorem lw_p31 : lw_okq (⟨"FluteParkModel", "isToSide", "(II)Z"⟩, 25) := ⟨⟨by decide +kernel, by decide +kernel⟩, List.mem_of_getElem? (i := 662) (by decide +kernel), List.mem_of_getElem? (i := 871) (by decide +kernel), List.mem_of_getElem? (i := 872) (by decide +kernel)⟩
def lw_privs_2 : List (MethodName × Nat) := [(⟨"FluteParkModel", "wordOf", "()I"⟩, 25), (⟨"FluteParkModel", "bandWord", "()I"⟩, 25), (⟨"FluteParkModel", "isWord", "(II)Z"⟩, 25), (⟨"FluteParkModel", "readsRest", "(I)Z"⟩, 25), (⟨"FluteParkModel", "reads", "(III)Z"⟩, 25), (⟨"FluteParkModel", "numberHere", "()I"⟩, 25), (⟨"FluteParkModel", "readsHedge", "()Z"⟩, 25), (⟨"FluteParkModel", "tell", "(I)V"⟩, 25), (⟨"FluteParkModel", "clear", "(II)V"⟩, 25), (⟨"FluteParkModel", "addBand", "(I)V"⟩, 25), (⟨"FluteParkModel", "isPlace", "(I)Z"⟩, 25), (⟨"FluteParkModel", "fluteAt", "(I)I"⟩, 25), (⟨"FluteParkModel", "far", "(II)I"⟩, 25), (⟨"FluteParkModel", "isBand", "(I)Z"⟩, 25), (⟨"FluteParkModel", "soundOf", "(III)I"⟩, 25), (⟨"FluteParkModel", "isToSide", "(II)Z"⟩, 25)]
theorem lw_r2 : ∀ q ∈ lw_privs_2, lw_okq q := List.forall_mem_cons.mpr ⟨lw_p16, List.forall_mem_cons.mpr ⟨lw_p17, List.forall_mem_cons.mpr ⟨lw_p18, List.forall_mem_cons.mpr ⟨lw_p19, List.forall_mem_cons.mpr ⟨lw_p20, List.forall_mem_cons.mpr ⟨lw_p21, List.forall_mem_cons.mpr ⟨lw_p22, List.forall_mem_cons.mpr ⟨lw_p23, List.forall_mem_cons.mpr ⟨lw_p24, List.forall_mem_cons.mpr ⟨lw_p25, List.forall_mem_cons.mpr ⟨lw_p26, List.forall_mem_cons.mpr ⟨lw_p27, List.forall_mem_cons.mpr ⟨lw_p28, List.forall_mem_cons.mpr ⟨lw_p29, List.forall_mem_cons.mpr ⟨lw_p30, List.forall_mem_cons.mpr ⟨lw_p31, fun _ h => absurd h List.not_mem_nil⟩⟩⟩⟩⟩⟩⟩⟩⟩⟩⟩⟩⟩⟩⟩⟩
theorem lw_p32 : lw_okq (⟨"FluteParkModel", "noiseBy", "(III)I"⟩, 25) := ⟨⟨by decide +kernel, by decide +kernel⟩, List.mem_of_getElem? (i := 662) (by decide +kernel), List.mem_of_getElem? (i := 891) (by decide +kernel), List.mem_of_getElem? (i := 892) (by decide +kernel)⟩
theorem lw_p33 : lw_okq (⟨"FluteParkModel", "isHeard", "(III)Z"⟩, 25) := ⟨⟨by decide +kernel, by decide +kernel⟩, List.mem_of_getElem? (i := 662) (by decide +kernel), List.mem_of_getElem? (i := 899) (by decide +kernel), List.mem_of_getElem? (i := 900) (by decide +kernel)⟩
theorem lw_p34 : lw_okq (⟨"FluteParkModel", "copy", "(II)V"⟩, 25) := ⟨⟨by decide +kernel, by decide +kernel⟩, List.mem_of_getElem? (i := 662) (by decide +kernel), List.mem_of_getElem? (i := 907) (by decide +kernel), List.mem_of_getElem? (i := 908) (by decide +kernel)⟩
theorem lw_p35 : lw_okq (⟨"FluteParkModel", "loudest", "(III)I"⟩, 25) := ⟨⟨by decide +kernel, by decide +kernel⟩, List.mem_of_getElem? (i := 662) (by decide +kernel), List.mem_of_getElem? (i := 920) (by decide +kernel), List.mem_of_getElem? (i := 921) (by decide +kernel)⟩
theorem lw_p36 : lw_okq (⟨"FluteParkModel", "worthOf", "(I)I"⟩, 25) := ⟨⟨by decide +kernel, by decide +kernel⟩, List.mem_of_getElem? (i := 662) (by decide +kernel), List.mem_of_getElem? (i := 928) (by decide +kernel), List.mem_of_getElem? (i := 929) (by decide +kernel)⟩
theorem lw_p37 : lw_okq (⟨"FluteParkModel", "holdsBy", "(I)Z"⟩, 25) := ⟨⟨by decide +kernel, by decide +kernel⟩, List.mem_of_getElem? (i := 662) (by decide +kernel), List.mem_of_getElem? (i := 932) (by decide +kernel), List.mem_of_getElem? (i := 933) (by decide +kernel)⟩
theorem lw_p38 : lw_okq (⟨"FluteParkModel", "marginBy", "(I)I"⟩, 25) := ⟨⟨by decide +kernel, by decide +kernel⟩, List.mem_of_getElem? (i := 662) (by decide +kernel), List.mem_of_getElem? (i := 936) (by decide +kernel), List.mem_of_getElem? (i := 937) (by decide +kernel)⟩
theorem lw_p39 : lw_okq (⟨"FluteParkModel", "laySpots", "()V"⟩, 25) := ⟨⟨by decide +kernel, by decide +kernel⟩, List.mem_of_getElem? (i := 662) (by decide +kernel), List.mem_of_getElem? (i := 954) (by decide +kernel), List.mem_of_getElem? (i := 955) (by decide +kernel)⟩
theorem lw_p40 : lw_okq (⟨"FluteParkModel", "placesOf", "(I)J"⟩, 25) := ⟨⟨by decide +kernel, by decide +kernel⟩, List.mem_of_getElem? (i := 662) (by decide +kernel), List.mem_of_getElem? (i := 961) (by decide +kernel), List.mem_of_getElem? (i := 962) (by decide +kernel)⟩
theorem lw_p41 : lw_okq (⟨"FluteParkModel", "nextOf", "(JI)J"⟩, 25) := ⟨⟨by decide +kernel, by decide +kernel⟩, List.mem_of_getElem? (i := 662) (by decide +kernel), List.mem_of_getElem? (i := 978) (by decide +kernel), List.mem_of_getElem? (i := 979) (by decide +kernel)⟩
theorem lw_p42 : lw_okq (⟨"FluteParkModel", "isSoBy", "(I)Z"⟩, 25) := ⟨⟨by decide +kernel, by decide +kernel⟩, List.mem_of_getElem? (i := 662) (by decide +kernel), List.mem_of_getElem? (i := 999) (by decide +kernel), List.mem_of_getElem? (i := 1000) (by decide +kernel)⟩
def lw_privs_3 : List (MethodName × Nat) := [(⟨"FluteParkModel", "noiseBy", "(III)I"⟩, 25), (⟨"FluteParkModel", "isHeard", "(III)Z"⟩, 25), (⟨"FluteParkModel", "copy", "(II)V"⟩, 25), (⟨"FluteParkModel", "loudest", "(III)I"⟩, 25), (⟨"FluteParkModel", "worthOf", "(I)I"⟩, 25), (⟨"FluteParkModel", "holdsBy", "(I)Z"⟩, 25), (⟨"FluteParkModel", "marginBy", "(I)I"⟩, 25), (⟨"FluteParkModel", "laySpots", "()V"⟩, 25), (⟨"FluteParkModel", "placesOf", "(I)J"⟩, 25), (⟨"FluteParkModel", "nextOf", "(JI)J"⟩, 25), (⟨"FluteParkModel", "isSoBy", "(I)Z"⟩, 25)]
theorem lw_r3 : ∀ q ∈ lw_privs_3, lw_okq q := List.forall_mem_cons.mpr ⟨lw_p32, List.forall_mem_cons.mpr ⟨lw_p33, List.forall_mem_cons.mpr ⟨lw_p34, List.forall_mem_cons.mpr ⟨lw_p35, List.forall_mem_cons.mpr ⟨lw_p36, List.forall_mem_cons.mpr ⟨lw_p37, List.forall_mem_cons.mpr ⟨lw_p38, List.forall_mem_cons.mpr ⟨lw_p39, List.forall_mem_cons.mpr ⟨lw_p40, List.forall_mem_cons.mpr ⟨lw_p41, List.forall_mem_cons.mpr ⟨lw_p42, fun _ h => absurd h List.not_mem_nil⟩⟩⟩⟩⟩⟩⟩⟩⟩⟩⟩
def lw_privs : List (MethodName × Nat) := lw_privs_1 ++ (lw_privs_2 ++ (lw_privs_3))
def lw_tbl : List Cond := k2_sels lw_privs ++ tables_1
theorem lw_privs_ok : ∀ q ∈ lw_privs, lw_okq q := by
  show ∀ q ∈ lw_privs_1 ++ (lw_privs_2 ++ (lw_privs_3)), lw_okq q
  exact List.forall_mem_append.mpr ⟨lw_r1, List.forall_mem_append.mpr ⟨lw_r2, lw_r3⟩⟩
def RX0 : String := "FlutePark$Hearing"
def TX0 : u_T := fun k => match k with
  | 0 => ("FlutePark$Hearing", "places", "I", false)
  | 1 => ("FlutePark$Hearing", "walk", "J", false)
  | 2 => ("FlutePark$Hearing", "fluteSounds", "[I", true)
  | 3 => ("FlutePark$Hearing", "bandSounds", "[I", true)
  | _ => ("FlutePark$Hearing", "playing", "[I", true)
def tyX0 : Nat → FieldType := fun k => match k with
  | 0 => .int
  | 1 => .long
  | 2 => .array .int
  | 3 => .array .int
  | _ => .array .int
abbrev wsX00 : List Cond := u_ws RX0 TX0 5
theorem nmX0 : ∀ a, a < 5 → ∀ b, b < 5 → a ≠ b → (TX0 a).2.1 ≠ (TX0 b).2.1 := by decide +kernel
theorem tyX0_ok : ∀ k, k < 5 → parseFieldDescriptor (TX0 k).2.2.1 = some (tyX0 k) := by decide +kernel
abbrev cX0_init : ByteArray := prog_2_method_1_code
def yX0_init : MethodName := ⟨RX0, "<init>", "()V"⟩
abbrev cX0_listen : ByteArray := prog_2_method_2_code
def yX0_listen : MethodName := ⟨RX0, "listen", "(LFlutePark$Park;)V"⟩
abbrev cX0_listenToBand : ByteArray := prog_2_method_3_code
def yX0_listenToBand : MethodName := ⟨RX0, "listenToBand", "(LFlutePark$Park;I)V"⟩
abbrev cX0_fluteAt : ByteArray := prog_2_method_4_code
def yX0_fluteAt : MethodName := ⟨RX0, "fluteAt", "(I)I"⟩
abbrev cX0_noiseOf : ByteArray := prog_2_method_5_code
def yX0_noiseOf : MethodName := ⟨RX0, "noiseOf", "(III)I"⟩
abbrev cX0_soundsOf : ByteArray := prog_2_method_6_code
def yX0_soundsOf : MethodName := ⟨RX0, "soundsOf", "(II)I"⟩
abbrev cX0_isHeard : ByteArray := prog_2_method_7_code
def yX0_isHeard : MethodName := ⟨RX0, "isHeard", "(III)Z"⟩
abbrev cX0_heardOfWalk : ByteArray := prog_2_method_8_code
def yX0_heardOfWalk : MethodName := ⟨RX0, "heardOfWalk", "(II)J"⟩
abbrev cX0_loudestOf : ByteArray := prog_2_method_9_code
def yX0_loudestOf : MethodName := ⟨RX0, "loudestOf", "(III)I"⟩
abbrev cX0_marginOf : ByteArray := prog_2_method_10_code
def yX0_marginOf : MethodName := ⟨RX0, "marginOf", "(I)I"⟩
abbrev cX0_marginBy : ByteArray := prog_2_method_11_code
def yX0_marginBy : MethodName := ⟨RX0, "marginBy", "(I)I"⟩
abbrev cX0_holds : ByteArray := prog_2_method_12_code
def yX0_holds : MethodName := ⟨RX0, "holds", "(I)Z"⟩
def RX1 : String := "FlutePark$Park"
def TX1 : u_T := fun k => match k with
  | 0 => ("FlutePark$Park", "columns", "I", false)
  | 1 => ("FlutePark$Park", "rows", "I", false)
  | 2 => ("FlutePark$Park", "fall", "I", false)
  | 3 => ("FlutePark$Park", "flutePlace", "I", false)
  | 4 => ("FlutePark$Park", "fluteLoud", "I", false)
  | 5 => ("FlutePark$Park", "bands", "I", false)
  | 6 => ("FlutePark$Park", "walk", "J", false)
  | 7 => ("FlutePark$Park", "hedges", "J", false)
  | _ => ("FlutePark$Park", "traits", "[I", true)
def tyX1 : Nat → FieldType := fun k => match k with
  | 0 => .int
  | 1 => .int
  | 2 => .int
  | 3 => .int
  | 4 => .int
  | 5 => .int
  | 6 => .long
  | 7 => .long
  | _ => .array .int
abbrev wsX10 : List Cond := u_ws RX1 TX1 9
theorem nmX1 : ∀ a, a < 9 → ∀ b, b < 9 → a ≠ b → (TX1 a).2.1 ≠ (TX1 b).2.1 := by decide +kernel
theorem tyX1_ok : ∀ k, k < 9 → parseFieldDescriptor (TX1 k).2.2.1 = some (tyX1 k) := by decide +kernel
abbrev cX1_init : ByteArray := prog_3_method_1_code
def yX1_init : MethodName := ⟨RX1, "<init>", "()V"⟩
abbrev cX1_lay : ByteArray := prog_3_method_2_code
def yX1_lay : MethodName := ⟨RX1, "lay", "(II)V"⟩
abbrev cX1_become : ByteArray := prog_3_method_3_code
def yX1_become : MethodName := ⟨RX1, "become", "(LFlutePark$Park;)V"⟩
abbrev cX1_places : ByteArray := prog_3_method_4_code
def yX1_places : MethodName := ⟨RX1, "places", "()I"⟩
abbrev cX1_hasPlace : ByteArray := prog_3_method_5_code
def yX1_hasPlace : MethodName := ⟨RX1, "hasPlace", "(I)Z"⟩
abbrev cX1_isOfWalk : ByteArray := prog_3_method_6_code
def yX1_isOfWalk : MethodName := ⟨RX1, "isOfWalk", "(I)Z"⟩
abbrev cX1_hasHedge : ByteArray := prog_3_method_7_code
def yX1_hasHedge : MethodName := ⟨RX1, "hasHedge", "(I)Z"⟩
abbrev cX1_addHedge : ByteArray := prog_3_method_8_code
def yX1_addHedge : MethodName := ⟨RX1, "addHedge", "(I)V"⟩
abbrev cX1_addWalk : ByteArray := prog_3_method_9_code
def yX1_addWalk : MethodName := ⟨RX1, "addWalk", "(II)V"⟩
abbrev cX1_leastOfWalk : ByteArray := prog_3_method_10_code
def yX1_leastOfWalk : MethodName := ⟨RX1, "leastOfWalk", "()I"⟩
abbrev cX1_column : ByteArray := prog_3_method_11_code
def yX1_column : MethodName := ⟨RX1, "column", "(I)I"⟩
abbrev cX1_row : ByteArray := prog_3_method_12_code
def yX1_row : MethodName := ⟨RX1, "row", "(I)I"⟩
abbrev cX1_far : ByteArray := prog_3_method_13_code
def yX1_far : MethodName := ⟨RX1, "far", "(II)I"⟩
abbrev cX1_around : ByteArray := prog_3_method_14_code
def yX1_around : MethodName := ⟨RX1, "around", "(J)J"⟩
abbrev cX1_hasBand : ByteArray := prog_3_method_15_code
def yX1_hasBand : MethodName := ⟨RX1, "hasBand", "(I)Z"⟩
abbrev cX1_bandSets : ByteArray := prog_3_method_16_code
def yX1_bandSets : MethodName := ⟨RX1, "bandSets", "()I"⟩
abbrev cX1_addBand : ByteArray := prog_3_method_17_code
def yX1_addBand : MethodName := ⟨RX1, "addBand", "(IIIII)V"⟩
abbrev cX1_trait : ByteArray := prog_3_method_18_code
def yX1_trait : MethodName := ⟨RX1, "trait", "(II)I"⟩
abbrev cX1_setTrait : ByteArray := prog_3_method_19_code
def yX1_setTrait : MethodName := ⟨RX1, "setTrait", "(III)V"⟩
abbrev cX1_isTrait : ByteArray := prog_3_method_20_code
def yX1_isTrait : MethodName := ⟨RX1, "isTrait", "(II)Z"⟩
abbrev cX1_isOfKind : ByteArray := prog_3_method_21_code
def yX1_isOfKind : MethodName := ⟨RX1, "isOfKind", "(II)Z"⟩
abbrev cX1_bandsAt : ByteArray := prog_3_method_22_code
def yX1_bandsAt : MethodName := ⟨RX1, "bandsAt", "(I)I"⟩
abbrev cX1_placesOf : ByteArray := prog_3_method_23_code
def yX1_placesOf : MethodName := ⟨RX1, "placesOf", "(I)J"⟩
abbrev cX1_worthOf : ByteArray := prog_3_method_24_code
def yX1_worthOf : MethodName := ⟨RX1, "worthOf", "(I)I"⟩
abbrev cX1_fluteSound : ByteArray := prog_3_method_25_code
def yX1_fluteSound : MethodName := ⟨RX1, "fluteSound", "(I)I"⟩
abbrev cX1_bandSound : ByteArray := prog_3_method_26_code
def yX1_bandSound : MethodName := ⟨RX1, "bandSound", "(II)I"⟩
abbrev cX1_liesToSide : ByteArray := prog_3_method_27_code
def yX1_liesToSide : MethodName := ⟨RX1, "liesToSide", "(III)Z"⟩
abbrev cX1_plays : ByteArray := prog_3_method_28_code
def yX1_plays : MethodName := ⟨RX1, "plays", "(II)Z"⟩
def RX2 : String := "FlutePark$Reader"
def TX2 : u_T := fun k => match k with
  | 0 => ("FlutePark$Reader", "lines", "I", false)
  | _ => ("FlutePark$Reader", "numbers", "[I", true)
def tyX2 : Nat → FieldType := fun k => match k with
  | 0 => .int
  | _ => .array .int
abbrev wsX20 : List Cond := u_ws RX2 TX2 2
theorem nmX2 : ∀ a, a < 2 → ∀ b, b < 2 → a ≠ b → (TX2 a).2.1 ≠ (TX2 b).2.1 := by decide +kernel
theorem tyX2_ok : ∀ k, k < 2 → parseFieldDescriptor (TX2 k).2.2.1 = some (tyX2 k) := by decide +kernel
abbrev cX2_init : ByteArray := prog_4_method_1_code
def yX2_init : MethodName := ⟨RX2, "<init>", "()V"⟩
abbrev cX2_readLines : ByteArray := prog_4_method_2_code
def yX2_readLines : MethodName := ⟨RX2, "readLines", "(LFlutePark$Text;LFlutePark$Park;LFlutePark$Park;)I"⟩
abbrev cX2_readLine : ByteArray := prog_4_method_3_code
def yX2_readLine : MethodName := ⟨RX2, "readLine", "(LFlutePark$Text;LFlutePark$Park;)Z"⟩
abbrev cX2_lineOf : ByteArray := prog_4_method_4_code
def yX2_lineOf : MethodName := ⟨RX2, "lineOf", "(LFlutePark$Text;)I"⟩
abbrev cX2_wordOf : ByteArray := prog_4_method_5_code
def yX2_wordOf : MethodName := ⟨RX2, "wordOf", "(I)Ljava/lang/String;"⟩
abbrev cX2_isOfBand : ByteArray := prog_4_method_6_code
def yX2_isOfBand : MethodName := ⟨RX2, "isOfBand", "(I)Z"⟩
abbrev cX2_canStand : ByteArray := prog_4_method_7_code
def yX2_canStand : MethodName := ⟨RX2, "canStand", "(LFlutePark$Park;II)Z"⟩
abbrev cX2_leastNumber : ByteArray := prog_4_method_8_code
def yX2_leastNumber : MethodName := ⟨RX2, "leastNumber", "(II)I"⟩
abbrev cX2_greatestNumber : ByteArray := prog_4_method_9_code
def yX2_greatestNumber : MethodName := ⟨RX2, "greatestNumber", "(LFlutePark$Park;II)I"⟩
abbrev cX2_doLine : ByteArray := prog_4_method_10_code
def yX2_doLine : MethodName := ⟨RX2, "doLine", "(LFlutePark$Park;I)V"⟩
def RX3 : String := "FlutePark$Text"
def TX3 : u_T := fun k => match k with
  | 0 => ("FlutePark$Text", "length", "I", false)
  | 1 => ("FlutePark$Text", "bytes", "[I", true)
  | 2 => ("FlutePark$Text", "tokenStart", "I", false)
  | _ => ("FlutePark$Text", "tokenEnd", "I", false)
def tyX3 : Nat → FieldType := fun k => match k with
  | 0 => .int
  | 1 => .array .int
  | 2 => .int
  | _ => .int
abbrev wsX30 : List Cond := u_ws RX3 TX3 4
theorem nmX3 : ∀ a, a < 4 → ∀ b, b < 4 → a ≠ b → (TX3 a).2.1 ≠ (TX3 b).2.1 := by decide +kernel
theorem tyX3_ok : ∀ k, k < 4 → parseFieldDescriptor (TX3 k).2.2.1 = some (tyX3 k) := by decide +kernel
abbrev cX3_init : ByteArray := prog_5_method_1_code
def yX3_init : MethodName := ⟨RX3, "<init>", "()V"⟩
abbrev cX3_add : ByteArray := prog_5_method_2_code
def yX3_add : MethodName := ⟨RX3, "add", "(I)V"⟩
abbrev cX3_clear : ByteArray := prog_5_method_3_code
def yX3_clear : MethodName := ⟨RX3, "clear", "()I"⟩
abbrev cX3_rewind : ByteArray := prog_5_method_4_code
def yX3_rewind : MethodName := ⟨RX3, "rewind", "()V"⟩
abbrev cX3_takeToken : ByteArray := prog_5_method_5_code
def yX3_takeToken : MethodName := ⟨RX3, "takeToken", "()V"⟩
abbrev cX3_tokenPlace : ByteArray := prog_5_method_6_code
def yX3_tokenPlace : MethodName := ⟨RX3, "tokenPlace", "()I"⟩
abbrev cX3_isAtEnd : ByteArray := prog_5_method_7_code
def yX3_isAtEnd : MethodName := ⟨RX3, "isAtEnd", "()Z"⟩
abbrev cX3_isToken : ByteArray := prog_5_method_8_code
def yX3_isToken : MethodName := ⟨RX3, "isToken", "(Ljava/lang/String;)Z"⟩
abbrev cX3_number : ByteArray := prog_5_method_9_code
def yX3_number : MethodName := ⟨RX3, "number", "()I"⟩
abbrev cX3_byteAt : ByteArray := prog_5_method_10_code
def yX3_byteAt : MethodName := ⟨RX3, "byteAt", "(I)I"⟩
abbrev cX3_areOfOneRow : ByteArray := prog_5_method_11_code
def yX3_areOfOneRow : MethodName := ⟨RX3, "areOfOneRow", "(II)Z"⟩
abbrev cX3_isDigit : ByteArray := prog_5_method_12_code
def yX3_isDigit : MethodName := ⟨RX3, "isDigit", "(I)Z"⟩
abbrev cX3_isLetter : ByteArray := prog_5_method_13_code
def yX3_isLetter : MethodName := ⟨RX3, "isLetter", "(I)Z"⟩
def RX4 : String := "FlutePark"
def TX4 : u_T := fun k => match k with
  | 0 => ("FlutePark", "text", "LFlutePark$Text;", true)
  | 1 => ("FlutePark", "reader", "LFlutePark$Reader;", true)
  | 2 => ("FlutePark", "told", "LFlutePark$Park;", true)
  | 3 => ("FlutePark", "hearing", "LFlutePark$Hearing;", true)
  | 4 => ("FlutePark", "draft", "LFlutePark$Park;", true)
  | 5 => ("FlutePark", "trial", "LFlutePark$Hearing;", true)
  | 6 => ("FlutePark", "licences", "I", false)
  | 7 => ("FlutePark", "where", "I", false)
  | 8 => ("FlutePark", "hourNow", "I", false)
  | 9 => ("FlutePark", "keptLicences", "[I", true)
  | 10 => ("FlutePark", "keptWhere", "[I", true)
  | 11 => ("FlutePark", "keptHour", "[I", true)
  | 12 => ("FlutePark", "seenPlace", "[I", true)
  | 13 => ("FlutePark", "seenHour", "[I", true)
  | 14 => ("FlutePark", "seenHeard", "[I", true)
  | 15 => ("FlutePark", "seenCount", "I", false)
  | _ => ("FlutePark", "heardPlaces", "[J", true)
def tyX4 : Nat → FieldType := fun k => match k with
  | 0 => .object "FlutePark$Text"
  | 1 => .object "FlutePark$Reader"
  | 2 => .object "FlutePark$Park"
  | 3 => .object "FlutePark$Hearing"
  | 4 => .object "FlutePark$Park"
  | 5 => .object "FlutePark$Hearing"
  | 6 => .int
  | 7 => .int
  | 8 => .int
  | 9 => .array .int
  | 10 => .array .int
  | 11 => .array .int
  | 12 => .array .int
  | 13 => .array .int
  | 14 => .array .int
  | 15 => .int
  | _ => .array .long
abbrev wsX40 : List Cond := u_ws RX4 TX4 17
theorem nmX4 : ∀ a, a < 17 → ∀ b, b < 17 → a ≠ b → (TX4 a).2.1 ≠ (TX4 b).2.1 := by decide +kernel
theorem tyX4_ok : ∀ k, k < 17 → parseFieldDescriptor (TX4 k).2.2.1 = some (tyX4 k) := by decide +kernel
abbrev cX4_init : ByteArray := prog_1_method_1_code
def yX4_init : MethodName := ⟨RX4, "<init>", "()V"⟩
abbrev cX4_write : ByteArray := prog_1_method_2_code
def yX4_write : MethodName := ⟨RX4, "write", "(JI)I"⟩
abbrev cX4_erase : ByteArray := prog_1_method_3_code
def yX4_erase : MethodName := ⟨RX4, "erase", "()I"⟩
abbrev cX4_fault : ByteArray := prog_1_method_4_code
def yX4_fault : MethodName := ⟨RX4, "fault", "()I"⟩
abbrev cX4_park : ByteArray := prog_1_method_5_code
def yX4_park : MethodName := ⟨RX4, "park", "()I"⟩
abbrev cX4_place : ByteArray := prog_1_method_6_code
def yX4_place : MethodName := ⟨RX4, "place", "(II)I"⟩
abbrev cX4_band : ByteArray := prog_1_method_7_code
def yX4_band : MethodName := ⟨RX4, "band", "(II)I"⟩
abbrev cX4_as : ByteArray := prog_1_method_8_code
def yX4_as : MethodName := ⟨RX4, "as", "(II)I"⟩
abbrev cX4_licence : ByteArray := prog_1_method_9_code
def yX4_licence : MethodName := ⟨RX4, "licence", "(II)I"⟩
abbrev cX4_sound : ByteArray := prog_1_method_10_code
def yX4_sound : MethodName := ⟨RX4, "sound", "(III)I"⟩
abbrev cX4_noise : ByteArray := prog_1_method_11_code
def yX4_noise : MethodName := ⟨RX4, "noise", "(II)I"⟩
abbrev cX4_step : ByteArray := prog_1_method_12_code
def yX4_step : MethodName := ⟨RX4, "step", "(I)I"⟩
abbrev cX4_keep : ByteArray := prog_1_method_13_code
def yX4_keep : MethodName := ⟨RX4, "keep", "(I)I"⟩
abbrev cX4_back : ByteArray := prog_1_method_14_code
def yX4_back : MethodName := ⟨RX4, "back", "(I)I"⟩
abbrev cX4_first : ByteArray := prog_1_method_15_code
def yX4_first : MethodName := ⟨RX4, "first", "(I)I"⟩
abbrev cX4_most : ByteArray := prog_1_method_16_code
def yX4_most : MethodName := ⟨RX4, "most", "(I)I"⟩
abbrev cX4_stands : ByteArray := prog_1_method_17_code
def yX4_stands : MethodName := ⟨RX4, "stands", "(I)J"⟩
abbrev cX4_sides : ByteArray := prog_1_method_18_code
def yX4_sides : MethodName := ⟨RX4, "sides", "(I)I"⟩
abbrev cX4_hedged : ByteArray := prog_1_method_19_code
def yX4_hedged : MethodName := ⟨RX4, "hedged", "(I)J"⟩
abbrev cX4_margin : ByteArray := prog_1_method_20_code
def yX4_margin : MethodName := ⟨RX4, "margin", "()I"⟩
abbrev cX4_price : ByteArray := prog_1_method_21_code
def yX4_price : MethodName := ⟨RX4, "price", "(I)I"⟩
abbrev cX4_way : ByteArray := prog_1_method_22_code
def yX4_way : MethodName := ⟨RX4, "way", "(I)I"⟩
abbrev cX4_wind : ByteArray := prog_1_method_23_code
def yX4_wind : MethodName := ⟨RX4, "wind", "(IIII)I"⟩
abbrev cX4_seen : ByteArray := prog_1_method_24_code
def yX4_seen : MethodName := ⟨RX4, "seen", "(III)I"⟩
abbrev cX4_forget : ByteArray := prog_1_method_25_code
def yX4_forget : MethodName := ⟨RX4, "forget", "()I"⟩
abbrev cX4_played : ByteArray := prog_1_method_26_code
def yX4_played : MethodName := ⟨RX4, "played", "(I)I"⟩
abbrev cX4_count : ByteArray := prog_1_method_27_code
def yX4_count : MethodName := ⟨RX4, "count", "(I)I"⟩
abbrev cX4_startAnew : ByteArray := prog_1_method_28_code
def yX4_startAnew : MethodName := ⟨RX4, "startAnew", "()V"⟩
abbrev cX4_firstPart : ByteArray := prog_1_method_29_code
def yX4_firstPart : MethodName := ⟨RX4, "firstPart", "(III)I"⟩
abbrev cX4_holdingTraits : ByteArray := prog_1_method_30_code
def yX4_holdingTraits : MethodName := ⟨RX4, "holdingTraits", "(III)J"⟩
abbrev cX4_holdsWithHedges : ByteArray := prog_1_method_31_code
def yX4_holdsWithHedges : MethodName := ⟨RX4, "holdsWithHedges", "(J)Z"⟩
abbrev cX4_areFewer : ByteArray := prog_1_method_32_code
def yX4_areFewer : MethodName := ⟨RX4, "areFewer", "(JJ)Z"⟩
abbrev cX4_isAsSeen : ByteArray := prog_1_method_33_code
def yX4_isAsSeen : MethodName := ⟨RX4, "isAsSeen", "(I)Z"⟩
abbrev cX4_weightOf : ByteArray := prog_1_method_34_code
def yX4_weightOf : MethodName := ⟨RX4, "weightOf", "(II)I"⟩
abbrev cX4_greatestDivisor : ByteArray := prog_1_method_35_code
def yX4_greatestDivisor : MethodName := ⟨RX4, "greatestDivisor", "(II)I"⟩
abbrev cX4_hourBehind : ByteArray := prog_1_method_36_code
def yX4_hourBehind : MethodName := ⟨RX4, "hourBehind", "(I)I"⟩
abbrev cX4_isHour : ByteArray := prog_1_method_37_code
def yX4_isHour : MethodName := ⟨RX4, "isHour", "(I)Z"⟩
abbrev cX4_isBit : ByteArray := prog_1_method_38_code
def yX4_isBit : MethodName := ⟨RX4, "isBit", "(I)Z"⟩
abbrev cX4_isIn : ByteArray := prog_1_method_39_code
def yX4_isIn : MethodName := ⟨RX4, "isIn", "(II)Z"⟩
abbrev cX4_bitOf : ByteArray := prog_1_method_40_code
def yX4_bitOf : MethodName := ⟨RX4, "bitOf", "(Z)I"⟩
def RX5 : String := "FluteParkModel"
def TX5 : u_T := fun k => match k with
  | 0 => ("FluteParkModel", "row", "[I", true)
  | 1 => ("FluteParkModel", "isKept", "[Z", true)
  | 2 => ("FluteParkModel", "text", "[I", true)
  | 3 => ("FluteParkModel", "length", "I", false)
  | 4 => ("FluteParkModel", "read", "[I", true)
  | 5 => ("FluteParkModel", "readMany", "I", false)
  | 6 => ("FluteParkModel", "wide", "I", false)
  | 7 => ("FluteParkModel", "high", "I", false)
  | 8 => ("FluteParkModel", "fall", "I", false)
  | 9 => ("FluteParkModel", "flute", "I", false)
  | 10 => ("FluteParkModel", "loud", "I", false)
  | 11 => ("FluteParkModel", "walks", "J", false)
  | 12 => ("FluteParkModel", "hedges", "J", false)
  | 13 => ("FluteParkModel", "bands", "[I", true)
  | 14 => ("FluteParkModel", "many", "I", false)
  | 15 => ("FluteParkModel", "at", "I", false)
  | 16 => ("FluteParkModel", "place", "I", false)
  | 17 => ("FluteParkModel", "end", "I", false)
  | 18 => ("FluteParkModel", "readPlaces", "I", false)
  | 19 => ("FluteParkModel", "readBands", "I", false)
  | 20 => ("FluteParkModel", "readHedges", "J", false)
  | 21 => ("FluteParkModel", "spots", "[I", true)
  | 22 => ("FluteParkModel", "spotMany", "I", false)
  | 23 => ("FluteParkModel", "sights", "[I", true)
  | _ => ("FluteParkModel", "seenMany", "I", false)
def tyX5 : Nat → FieldType := fun k => match k with
  | 0 => .array .int
  | 1 => .array .boolean
  | 2 => .array .int
  | 3 => .int
  | 4 => .array .int
  | 5 => .int
  | 6 => .int
  | 7 => .int
  | 8 => .int
  | 9 => .int
  | 10 => .int
  | 11 => .long
  | 12 => .long
  | 13 => .array .int
  | 14 => .int
  | 15 => .int
  | 16 => .int
  | 17 => .int
  | 18 => .int
  | 19 => .int
  | 20 => .long
  | 21 => .array .int
  | 22 => .int
  | 23 => .array .int
  | _ => .int
abbrev wsX50 : List Cond := u_ws RX5 TX5 25
theorem nmX5 : ∀ a, a < 25 → ∀ b, b < 25 → a ≠ b → (TX5 a).2.1 ≠ (TX5 b).2.1 := by decide +kernel
theorem tyX5_ok : ∀ k, k < 25 → parseFieldDescriptor (TX5 k).2.2.1 = some (tyX5 k) := by decide +kernel
abbrev cX5_init : ByteArray := prog_7_method_1_code
def yX5_init : MethodName := ⟨RX5, "<init>", "()V"⟩
abbrev cX5_in : ByteArray := prog_7_method_2_code
def yX5_in : MethodName := ⟨RX5, "in", "(JJJ)Z"⟩
abbrev cX5_has : ByteArray := prog_7_method_3_code
def yX5_has : MethodName := ⟨RX5, "has", "(JI)Z"⟩
abbrev cX5_bits : ByteArray := prog_7_method_4_code
def yX5_bits : MethodName := ⟨RX5, "bits", "(I)I"⟩
abbrev cX5_write : ByteArray := prog_7_method_5_code
def yX5_write : MethodName := ⟨RX5, "write", "(JI)I"⟩
abbrev cX5_erase : ByteArray := prog_7_method_6_code
def yX5_erase : MethodName := ⟨RX5, "erase", "()I"⟩
abbrev cX5_sort : ByteArray := prog_7_method_7_code
def yX5_sort : MethodName := ⟨RX5, "sort", "(I)I"⟩
abbrev cX5_token : ByteArray := prog_7_method_8_code
def yX5_token : MethodName := ⟨RX5, "token", "()V"⟩
abbrev cX5_isWord : ByteArray := prog_7_method_9_code
def yX5_isWord : MethodName := ⟨RX5, "isWord", "(II)Z"⟩
abbrev cX5_bandWord : ByteArray := prog_7_method_10_code
def yX5_bandWord : MethodName := ⟨RX5, "bandWord", "()I"⟩
abbrev cX5_wordOf : ByteArray := prog_7_method_11_code
def yX5_wordOf : MethodName := ⟨RX5, "wordOf", "()I"⟩
abbrev cX5_numberHere : ByteArray := prog_7_method_12_code
def yX5_numberHere : MethodName := ⟨RX5, "numberHere", "()I"⟩
abbrev cX5_reads : ByteArray := prog_7_method_13_code
def yX5_reads : MethodName := ⟨RX5, "reads", "(III)Z"⟩
abbrev cX5_readsHedge : ByteArray := prog_7_method_14_code
def yX5_readsHedge : MethodName := ⟨RX5, "readsHedge", "()Z"⟩
abbrev cX5_readsRest : ByteArray := prog_7_method_15_code
def yX5_readsRest : MethodName := ⟨RX5, "readsRest", "(I)Z"⟩
abbrev cX5_isBandWord : ByteArray := prog_7_method_16_code
def yX5_isBandWord : MethodName := ⟨RX5, "isBandWord", "(I)Z"⟩
abbrev cX5_readsLine : ByteArray := prog_7_method_17_code
def yX5_readsLine : MethodName := ⟨RX5, "readsLine", "()Z"⟩
abbrev cX5_fault : ByteArray := prog_7_method_18_code
def yX5_fault : MethodName := ⟨RX5, "fault", "()I"⟩
abbrev cX5_clear : ByteArray := prog_7_method_19_code
def yX5_clear : MethodName := ⟨RX5, "clear", "(II)V"⟩
abbrev cX5_addBand : ByteArray := prog_7_method_20_code
def yX5_addBand : MethodName := ⟨RX5, "addBand", "(I)V"⟩
abbrev cX5_tell : ByteArray := prog_7_method_21_code
def yX5_tell : MethodName := ⟨RX5, "tell", "(I)V"⟩
abbrev cX5_park : ByteArray := prog_7_method_22_code
def yX5_park : MethodName := ⟨RX5, "park", "()I"⟩
abbrev cX5_isPlace : ByteArray := prog_7_method_23_code
def yX5_isPlace : MethodName := ⟨RX5, "isPlace", "(I)Z"⟩
abbrev cX5_isBand : ByteArray := prog_7_method_24_code
def yX5_isBand : MethodName := ⟨RX5, "isBand", "(I)Z"⟩
abbrev cX5_far : ByteArray := prog_7_method_25_code
def yX5_far : MethodName := ⟨RX5, "far", "(II)I"⟩
abbrev cX5_fluteAt : ByteArray := prog_7_method_26_code
def yX5_fluteAt : MethodName := ⟨RX5, "fluteAt", "(I)I"⟩
abbrev cX5_isToSide : ByteArray := prog_7_method_27_code
def yX5_isToSide : MethodName := ⟨RX5, "isToSide", "(II)Z"⟩
abbrev cX5_soundOf : ByteArray := prog_7_method_28_code
def yX5_soundOf : MethodName := ⟨RX5, "soundOf", "(III)I"⟩
abbrev cX5_noiseBy : ByteArray := prog_7_method_29_code
def yX5_noiseBy : MethodName := ⟨RX5, "noiseBy", "(III)I"⟩
abbrev cX5_isHeard : ByteArray := prog_7_method_30_code
def yX5_isHeard : MethodName := ⟨RX5, "isHeard", "(III)Z"⟩
abbrev cX5_marginBy : ByteArray := prog_7_method_31_code
def yX5_marginBy : MethodName := ⟨RX5, "marginBy", "(I)I"⟩
abbrev cX5_holdsBy : ByteArray := prog_7_method_32_code
def yX5_holdsBy : MethodName := ⟨RX5, "holdsBy", "(I)Z"⟩
abbrev cX5_place : ByteArray := prog_7_method_33_code
def yX5_place : MethodName := ⟨RX5, "place", "(II)I"⟩
abbrev cX5_band : ByteArray := prog_7_method_34_code
def yX5_band : MethodName := ⟨RX5, "band", "(II)I"⟩
abbrev cX5_as : ByteArray := prog_7_method_35_code
def yX5_as : MethodName := ⟨RX5, "as", "(II)I"⟩
abbrev cX5_licence : ByteArray := prog_7_method_36_code
def yX5_licence : MethodName := ⟨RX5, "licence", "(II)I"⟩
abbrev cX5_isHour : ByteArray := prog_7_method_37_code
def yX5_isHour : MethodName := ⟨RX5, "isHour", "(I)Z"⟩
abbrev cX5_sound : ByteArray := prog_7_method_38_code
def yX5_sound : MethodName := ⟨RX5, "sound", "(III)I"⟩
abbrev cX5_noise : ByteArray := prog_7_method_39_code
def yX5_noise : MethodName := ⟨RX5, "noise", "(II)I"⟩
abbrev cX5_step : ByteArray := prog_7_method_40_code
def yX5_step : MethodName := ⟨RX5, "step", "(I)I"⟩
abbrev cX5_copy : ByteArray := prog_7_method_41_code
def yX5_copy : MethodName := ⟨RX5, "copy", "(II)V"⟩
abbrev cX5_keep : ByteArray := prog_7_method_42_code
def yX5_keep : MethodName := ⟨RX5, "keep", "(I)I"⟩
abbrev cX5_back : ByteArray := prog_7_method_43_code
def yX5_back : MethodName := ⟨RX5, "back", "(I)I"⟩
abbrev cX5_loudest : ByteArray := prog_7_method_44_code
def yX5_loudest : MethodName := ⟨RX5, "loudest", "(III)I"⟩
abbrev cX5_first : ByteArray := prog_7_method_45_code
def yX5_first : MethodName := ⟨RX5, "first", "(I)I"⟩
abbrev cX5_worthOf : ByteArray := prog_7_method_46_code
def yX5_worthOf : MethodName := ⟨RX5, "worthOf", "(I)I"⟩
abbrev cX5_most : ByteArray := prog_7_method_47_code
def yX5_most : MethodName := ⟨RX5, "most", "(I)I"⟩
abbrev cX5_stands : ByteArray := prog_7_method_48_code
def yX5_stands : MethodName := ⟨RX5, "stands", "(I)J"⟩
abbrev cX5_sides : ByteArray := prog_7_method_49_code
def yX5_sides : MethodName := ⟨RX5, "sides", "(I)I"⟩
abbrev cX5_laySpots : ByteArray := prog_7_method_50_code
def yX5_laySpots : MethodName := ⟨RX5, "laySpots", "()V"⟩
abbrev cX5_placesOf : ByteArray := prog_7_method_51_code
def yX5_placesOf : MethodName := ⟨RX5, "placesOf", "(I)J"⟩
abbrev cX5_hedged : ByteArray := prog_7_method_52_code
def yX5_hedged : MethodName := ⟨RX5, "hedged", "(I)J"⟩
abbrev cX5_margin : ByteArray := prog_7_method_53_code
def yX5_margin : MethodName := ⟨RX5, "margin", "()I"⟩
abbrev cX5_price : ByteArray := prog_7_method_54_code
def yX5_price : MethodName := ⟨RX5, "price", "(I)I"⟩
abbrev cX5_way : ByteArray := prog_7_method_55_code
def yX5_way : MethodName := ⟨RX5, "way", "(I)I"⟩
abbrev cX5_nextOf : ByteArray := prog_7_method_56_code
def yX5_nextOf : MethodName := ⟨RX5, "nextOf", "(JI)J"⟩
abbrev cX5_wind : ByteArray := prog_7_method_57_code
def yX5_wind : MethodName := ⟨RX5, "wind", "(IIII)I"⟩
abbrev cX5_seen : ByteArray := prog_7_method_58_code
def yX5_seen : MethodName := ⟨RX5, "seen", "(III)I"⟩
abbrev cX5_forget : ByteArray := prog_7_method_59_code
def yX5_forget : MethodName := ⟨RX5, "forget", "()I"⟩
abbrev cX5_isSoBy : ByteArray := prog_7_method_60_code
def yX5_isSoBy : MethodName := ⟨RX5, "isSoBy", "(I)Z"⟩
abbrev cX5_played : ByteArray := prog_7_method_61_code
def yX5_played : MethodName := ⟨RX5, "played", "(I)I"⟩
abbrev cX5_count : ByteArray := prog_7_method_62_code
def yX5_count : MethodName := ⟨RX5, "count", "(I)I"⟩
def RJ13 : String := "java/lang/Long"
def TJ13 : u_T := fun k => match k with
  | _ => ("", "", "", false)
def tyJ13 : Nat → FieldType := fun k => match k with
  | _ => .int
abbrev wsJ130 : List Cond := u_ws RJ13 TJ13 0
theorem nmJ13 : ∀ a, a < 0 → ∀ b, b < 0 → a ≠ b → (TJ13 a).2.1 ≠ (TJ13 b).2.1 := by decide +kernel
theorem tyJ13_ok : ∀ k, k < 0 → parseFieldDescriptor (TJ13 k).2.2.1 = some (tyJ13 k) := by decide +kernel
abbrev cJ13_bitCount_95d88 : ByteArray := prog_8_method_50_code
def yJ13_bitCount_95d88 : MethodName := ⟨RJ13, "bitCount", "(J)I"⟩
def RJ9 : String := "java/lang/Math"
def TJ9 : u_T := fun k => match k with
  | _ => ("", "", "", false)
def tyJ9 : Nat → FieldType := fun k => match k with
  | _ => .int
abbrev wsJ90 : List Cond := u_ws RJ9 TJ9 0
theorem nmJ9 : ∀ a, a < 0 → ∀ b, b < 0 → a ≠ b → (TJ9 a).2.1 ≠ (TJ9 b).2.1 := by decide +kernel
theorem tyJ9_ok : ∀ k, k < 0 → parseFieldDescriptor (TJ9 k).2.2.1 = some (tyJ9 k) := by decide +kernel
abbrev cJ9_abs_0f7a4 : ByteArray := prog_9_method_59_code
def yJ9_abs_0f7a4 : MethodName := ⟨RJ9, "abs", "(I)I"⟩
abbrev cJ9_max_7cf53 : ByteArray := prog_9_method_65_code
def yJ9_max_7cf53 : MethodName := ⟨RJ9, "max", "(II)I"⟩
abbrev cJ9_min_7cf53 : ByteArray := prog_9_method_69_code
def yJ9_min_7cf53 : MethodName := ⟨RJ9, "min", "(II)I"⟩
def RJ0 : String := "java/lang/String"
def TJ0 : u_T := fun k => match k with
  | _ => ("", "", "", false)
def tyJ0 : Nat → FieldType := fun k => match k with
  | _ => .int
abbrev wsJ00 : List Cond := u_ws RJ0 TJ0 0
theorem nmJ0 : ∀ a, a < 0 → ∀ b, b < 0 → a ≠ b → (TJ0 a).2.1 ≠ (TJ0 b).2.1 := by decide +kernel
theorem tyJ0_ok : ∀ k, k < 0 → parseFieldDescriptor (TJ0 k).2.2.1 = some (tyJ0 k) := by decide +kernel
abbrev cJ0_length_8abf5 : ByteArray := prog_10_method_54_code
def yJ0_length_8abf5 : MethodName := ⟨RJ0, "length", "()I"⟩
abbrev cJ0_charAt_5068e : ByteArray := prog_10_method_56_code
def yJ0_charAt_5068e : MethodName := ⟨RJ0, "charAt", "(I)C"⟩
abbrev cJ0_coder_7d493 : ByteArray := prog_10_method_152_code
def yJ0_coder_7d493 : MethodName := ⟨RJ0, "coder", "()B"⟩
abbrev cJ0_isLatin1_aae02 : ByteArray := prog_10_method_154_code
def yJ0_isLatin1_aae02 : MethodName := ⟨RJ0, "isLatin1", "()Z"⟩
abbrev cJ0_checkIndex_df160 : ByteArray := prog_10_method_155_code
def yJ0_checkIndex_df160 : MethodName := ⟨RJ0, "checkIndex", "(II)V"⟩
def RJ1 : String := "java/lang/StringLatin1"
def TJ1 : u_T := fun k => match k with
  | _ => ("", "", "", false)
def tyJ1 : Nat → FieldType := fun k => match k with
  | _ => .int
abbrev wsJ10 : List Cond := u_ws RJ1 TJ1 0
theorem nmJ1 : ∀ a, a < 0 → ∀ b, b < 0 → a ≠ b → (TJ1 a).2.1 ≠ (TJ1 b).2.1 := by decide +kernel
theorem tyJ1_ok : ∀ k, k < 0 → parseFieldDescriptor (TJ1 k).2.2.1 = some (tyJ1 k) := by decide +kernel
abbrev cJ1_charAt_3b067 : ByteArray := prog_11_method_2_code
def yJ1_charAt_3b067 : MethodName := ⟨RJ1, "charAt", "([BI)C"⟩
def RJ2 : String := "java/lang/StringUTF16"
def TJ2 : u_T := fun k => match k with
  | _ => ("", "", "", false)
def tyJ2 : Nat → FieldType := fun k => match k with
  | _ => .int
abbrev wsJ20 : List Cond := u_ws RJ2 TJ2 0
theorem nmJ2 : ∀ a, a < 0 → ∀ b, b < 0 → a ≠ b → (TJ2 a).2.1 ≠ (TJ2 b).2.1 := by decide +kernel
theorem tyJ2_ok : ∀ k, k < 0 → parseFieldDescriptor (TJ2 k).2.2.1 = some (tyJ2 k) := by decide +kernel
abbrev cJ2_getChar_3b067 : ByteArray := prog_12_method_5_code
def yJ2_getChar_3b067 : MethodName := ⟨RJ2, "getChar", "([BI)C"⟩
abbrev cJ2_length_9d52b : ByteArray := prog_12_method_6_code
def yJ2_length_9d52b : MethodName := ⟨RJ2, "length", "([B)I"⟩
abbrev cJ2_charAt_3b067 : ByteArray := prog_12_method_83_code
def yJ2_charAt_3b067 : MethodName := ⟨RJ2, "charAt", "([BI)C"⟩
abbrev cJ2_checkIndex_2214a : ByteArray := prog_12_method_91_code
def yJ2_checkIndex_2214a : MethodName := ⟨RJ2, "checkIndex", "(I[B)V"⟩
def RJ10 : String := "java/lang/System"
def TJ10 : u_T := fun k => match k with
  | _ => ("", "", "", false)
def tyJ10 : Nat → FieldType := fun k => match k with
  | _ => .int
abbrev wsJ100 : List Cond := u_ws RJ10 TJ10 0
theorem nmJ10 : ∀ a, a < 0 → ∀ b, b < 0 → a ≠ b → (TJ10 a).2.1 ≠ (TJ10 b).2.1 := by decide +kernel
theorem tyJ10_ok : ∀ k, k < 0 → parseFieldDescriptor (TJ10 k).2.2.1 = some (tyJ10 k) := by decide +kernel
def RJ3 : String := "jdk/internal/util/Preconditions"
def TJ3 : u_T := fun k => match k with
  | _ => ("", "", "", false)
def tyJ3 : Nat → FieldType := fun k => match k with
  | _ => .int
abbrev wsJ30 : List Cond := u_ws RJ3 TJ3 0
theorem nmJ3 : ∀ a, a < 0 → ∀ b, b < 0 → a ≠ b → (TJ3 a).2.1 ≠ (TJ3 b).2.1 := by decide +kernel
theorem tyJ3_ok : ∀ k, k < 0 → parseFieldDescriptor (TJ3 k).2.2.1 = some (tyJ3 k) := by decide +kernel
abbrev cJ3_checkIndex_8e157 : ByteArray := prog_14_method_11_code
def yJ3_checkIndex_8e157 : MethodName := ⟨RJ3, "checkIndex", "(IILjava/util/function/BiFunction;)I"⟩
def RL : String := "FluteParkLaw"
abbrev cL_law : ByteArray := code
def yL_law : MethodName := ⟨RL, "law", "([I)Z"⟩
abbrev vwCl : List vw_C := [(RX0, TX0, 5), (RX1, TX1, 9), (RX2, TX2, 2), (RX3, TX3, 4), (RX4, TX4, 17), (RX5, TX5, 25)]
