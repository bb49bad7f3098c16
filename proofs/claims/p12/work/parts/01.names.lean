-- ===== PART A: goes FIRST, ahead of the names: the tables' words, and 'selects' of the private methods out of them =====
/-- a private method of a class that the tables say can be made, by its rows of tables_1 -/
def lw_okq (q : MethodName × Nat) : Prop := (q.1.cls ≠ "java/lang/invoke/MethodHandle" ∧ q.1.cls ≠ "java/lang/invoke/VarHandle") ∧ Cond.instantiable q.1.cls q.2 ∈ tables_1 ∧ Cond.privateMethod q.1 ∈ tables_1 ∧ Cond.instanceMethod q.1 ∈ tables_1
theorem lw_p0 : lw_okq (⟨"WithoutThem", "refuse", "(I)I"⟩, 9) := ⟨⟨by decide +kernel, by decide +kernel⟩, List.mem_of_getElem? (i := 13) (by decide +kernel), List.mem_of_getElem? (i := 158) (by decide +kernel), List.mem_of_getElem? (i := 159) (by decide +kernel)⟩
theorem lw_p1 : lw_okq (⟨"WithoutThem$Reader", "readStatement", "()Z"⟩, 7) := ⟨⟨by decide +kernel, by decide +kernel⟩, List.mem_of_getElem? (i := 69) (by decide +kernel), List.mem_of_getElem? (i := 192) (by decide +kernel), List.mem_of_getElem? (i := 193) (by decide +kernel)⟩
theorem lw_p2 : lw_okq (⟨"WithoutThem$Reader", "here", "()I"⟩, 7) := ⟨⟨by decide +kernel, by decide +kernel⟩, List.mem_of_getElem? (i := 69) (by decide +kernel), List.mem_of_getElem? (i := 196) (by decide +kernel), List.mem_of_getElem? (i := 197) (by decide +kernel)⟩
theorem lw_p3 : lw_okq (⟨"WithoutThem$Reader", "readThing", "()Z"⟩, 7) := ⟨⟨by decide +kernel, by decide +kernel⟩, List.mem_of_getElem? (i := 69) (by decide +kernel), List.mem_of_getElem? (i := 200) (by decide +kernel), List.mem_of_getElem? (i := 201) (by decide +kernel)⟩
theorem lw_p4 : lw_okq (⟨"WithoutThem$Reader", "readNumber", "()I"⟩, 7) := ⟨⟨by decide +kernel, by decide +kernel⟩, List.mem_of_getElem? (i := 69) (by decide +kernel), List.mem_of_getElem? (i := 207) (by decide +kernel), List.mem_of_getElem? (i := 208) (by decide +kernel)⟩
theorem lw_p5 : lw_okq (⟨"WithoutThem$Reader", "readDigit", "()I"⟩, 7) := ⟨⟨by decide +kernel, by decide +kernel⟩, List.mem_of_getElem? (i := 69) (by decide +kernel), List.mem_of_getElem? (i := 211) (by decide +kernel), List.mem_of_getElem? (i := 212) (by decide +kernel)⟩
theorem lw_p6 : lw_okq (⟨"WithoutThem$Reader", "passes", "(I)Z"⟩, 7) := ⟨⟨by decide +kernel, by decide +kernel⟩, List.mem_of_getElem? (i := 69) (by decide +kernel), List.mem_of_getElem? (i := 215) (by decide +kernel), List.mem_of_getElem? (i := 216) (by decide +kernel)⟩
theorem lw_p7 : lw_okq (⟨"WithoutThem$Reader", "readFirst", "()Z"⟩, 7) := ⟨⟨by decide +kernel, by decide +kernel⟩, List.mem_of_getElem? (i := 69) (by decide +kernel), List.mem_of_getElem? (i := 219) (by decide +kernel), List.mem_of_getElem? (i := 220) (by decide +kernel)⟩
theorem lw_p8 : lw_okq (⟨"WithoutThem$Reader", "readSecond", "()Z"⟩, 7) := ⟨⟨by decide +kernel, by decide +kernel⟩, List.mem_of_getElem? (i := 69) (by decide +kernel), List.mem_of_getElem? (i := 223) (by decide +kernel), List.mem_of_getElem? (i := 224) (by decide +kernel)⟩
theorem lw_p9 : lw_okq (⟨"WithoutThem$Reader", "tellOne", "(LWithoutThem$House;)Z"⟩, 7) := ⟨⟨by decide +kernel, by decide +kernel⟩, List.mem_of_getElem? (i := 69) (by decide +kernel), List.mem_of_getElem? (i := 231) (by decide +kernel), List.mem_of_getElem? (i := 232) (by decide +kernel)⟩
theorem lw_p10 : lw_okq (⟨"WithoutThem$Orders", "walk", "(LWithoutThem$House;Z)V"⟩, 6) := ⟨⟨by decide +kernel, by decide +kernel⟩, List.mem_of_getElem? (i := 98) (by decide +kernel), List.mem_of_getElem? (i := 360) (by decide +kernel), List.mem_of_getElem? (i := 361) (by decide +kernel)⟩
theorem lw_p11 : lw_okq (⟨"WithoutThem$Orders", "step", "(LWithoutThem$House;IIZ)V"⟩, 6) := ⟨⟨by decide +kernel, by decide +kernel⟩, List.mem_of_getElem? (i := 98) (by decide +kernel), List.mem_of_getElem? (i := 368) (by decide +kernel), List.mem_of_getElem? (i := 369) (by decide +kernel)⟩
theorem lw_p12 : lw_okq (⟨"WithoutThem", "refuseLong", "(I)J"⟩, 9) := ⟨⟨by decide +kernel, by decide +kernel⟩, List.mem_of_getElem? (i := 13) (by decide +kernel), List.mem_of_getElem? (i := 380) (by decide +kernel), List.mem_of_getElem? (i := 381) (by decide +kernel)⟩
theorem lw_p13 : lw_okq (⟨"WithoutThem", "refusalOfWay", "(I)I"⟩, 9) := ⟨⟨by decide +kernel, by decide +kernel⟩, List.mem_of_getElem? (i := 13) (by decide +kernel), List.mem_of_getElem? (i := 454) (by decide +kernel), List.mem_of_getElem? (i := 455) (by decide +kernel)⟩
theorem lw_p14 : lw_okq (⟨"WithoutThemModel", "no", "(I)I"⟩, 26) := ⟨⟨by decide +kernel, by decide +kernel⟩, List.mem_of_getElem? (i := 552) (by decide +kernel), List.mem_of_getElem? (i := 644) (by decide +kernel), List.mem_of_getElem? (i := 645) (by decide +kernel)⟩
theorem lw_p15 : lw_okq (⟨"WithoutThemModel", "statement", "()Z"⟩, 26) := ⟨⟨by decide +kernel, by decide +kernel⟩, List.mem_of_getElem? (i := 552) (by decide +kernel), List.mem_of_getElem? (i := 652) (by decide +kernel), List.mem_of_getElem? (i := 653) (by decide +kernel)⟩
def lw_privs_1 : List (MethodName × Nat) := [(⟨"WithoutThem", "refuse", "(I)I"⟩, 9), (⟨"WithoutThem$Reader", "readStatement", "()Z"⟩, 7), (⟨"WithoutThem$Reader", "here", "()I"⟩, 7), (⟨"WithoutThem$Reader", "readThing", "()Z"⟩, 7), (⟨"WithoutThem$Reader", "readNumber", "()I"⟩, 7), (⟨"WithoutThem$Reader", "readDigit", "()I"⟩, 7), (⟨"WithoutThem$Reader", "passes", "(I)Z"⟩, 7), (⟨"WithoutThem$Reader", "readFirst", "()Z"⟩, 7), (⟨"WithoutThem$Reader", "readSecond", "()Z"⟩, 7), (⟨"WithoutThem$Reader", "tellOne", "(LWithoutThem$House;)Z"⟩, 7), (⟨"WithoutThem$Orders", "walk", "(LWithoutThem$House;Z)V"⟩, 6), (⟨"WithoutThem$Orders", "step", "(LWithoutThem$House;IIZ)V"⟩, 6), (⟨"WithoutThem", "refuseLong", "(I)J"⟩, 9), (⟨"WithoutThem", "refusalOfWay", "(I)I"⟩, 9), (⟨"WithoutThemModel", "no", "(I)I"⟩, 26), (⟨"WithoutThemModel", "statement", "()Z"⟩, 26)]
theorem lw_r1 : ∀ q ∈ lw_privs_1, lw_okq q := List.forall_mem_cons.mpr ⟨lw_p0, List.forall_mem_cons.mpr ⟨lw_p1, List.forall_mem_cons.mpr ⟨lw_p2, List.forall_mem_cons.mpr ⟨lw_p3, List.forall_mem_cons.mpr ⟨lw_p4, List.forall_mem_cons.mpr ⟨lw_p5, List.forall_mem_cons.mpr ⟨lw_p6, List.forall_mem_cons.mpr ⟨lw_p7, List.forall_mem_cons.mpr ⟨lw_p8, List.forall_mem_cons.mpr ⟨lw_p9, List.forall_mem_cons.mpr ⟨lw_p10, List.forall_mem_cons.mpr ⟨lw_p11, List.forall_mem_cons.mpr ⟨lw_p12, List.forall_mem_cons.mpr ⟨lw_p13, List.forall_mem_cons.mpr ⟨lw_p14, List.forall_mem_cons.mpr ⟨lw_p15, fun _ h => absurd h List.not_mem_nil⟩⟩⟩⟩⟩⟩⟩⟩⟩⟩⟩⟩⟩⟩⟩⟩
theorem lw_p16 : lw_okq (⟨"WithoutThemModel", "next", "()I"⟩, 26) := ⟨⟨by decide +kernel, by decide +kernel⟩, List.mem_of_getElem? (i := 552) (by decide +kernel), List.mem_of_getElem? (i := 656) (by decide +kernel), List.mem_of_getElem? (i := 657) (by decide +kernel)⟩
theorem lw_p17 : lw_okq (⟨"WithoutThemModel", "readsThing", "(I)Z"⟩, 26) := ⟨⟨by decide +kernel, by decide +kernel⟩, List.mem_of_getElem? (i := 552) (by decide +kernel), List.mem_of_getElem? (i := 660) (by decide +kernel), List.mem_of_getElem? (i := 661) (by decide +kernel)⟩
theorem lw_p18 : lw_okq (⟨"WithoutThemModel", "readsNumber", "(II)Z"⟩, 26) := ⟨⟨by decide +kernel, by decide +kernel⟩, List.mem_of_getElem? (i := 552) (by decide +kernel), List.mem_of_getElem? (i := 667) (by decide +kernel), List.mem_of_getElem? (i := 668) (by decide +kernel)⟩
theorem lw_p19 : lw_okq (⟨"WithoutThemModel", "passesAll", "(IZ)V"⟩, 26) := ⟨⟨by decide +kernel, by decide +kernel⟩, List.mem_of_getElem? (i := 552) (by decide +kernel), List.mem_of_getElem? (i := 674) (by decide +kernel), List.mem_of_getElem? (i := 675) (by decide +kernel)⟩
theorem lw_p20 : lw_okq (⟨"WithoutThemModel", "passes", "([I)V"⟩, 26) := ⟨⟨by decide +kernel, by decide +kernel⟩, List.mem_of_getElem? (i := 552) (by decide +kernel), List.mem_of_getElem? (i := 678) (by decide +kernel), List.mem_of_getElem? (i := 679) (by decide +kernel)⟩
theorem lw_p21 : lw_okq (⟨"WithoutThemModel", "passOne", "(I)I"⟩, 26) := ⟨⟨by decide +kernel, by decide +kernel⟩, List.mem_of_getElem? (i := 552) (by decide +kernel), List.mem_of_getElem? (i := 682) (by decide +kernel), List.mem_of_getElem? (i := 683) (by decide +kernel)⟩
theorem lw_p22 : lw_okq (⟨"WithoutThemModel", "comes", "(I)Z"⟩, 26) := ⟨⟨by decide +kernel, by decide +kernel⟩, List.mem_of_getElem? (i := 552) (by decide +kernel), List.mem_of_getElem? (i := 686) (by decide +kernel), List.mem_of_getElem? (i := 687) (by decide +kernel)⟩
theorem lw_p23 : lw_okq (⟨"WithoutThemModel", "comesThing", "(I)Z"⟩, 26) := ⟨⟨by decide +kernel, by decide +kernel⟩, List.mem_of_getElem? (i := 552) (by decide +kernel), List.mem_of_getElem? (i := 690) (by decide +kernel), List.mem_of_getElem? (i := 691) (by decide +kernel)⟩
theorem lw_p24 : lw_okq (⟨"WithoutThemModel", "areTwo", "(II)Z"⟩, 26) := ⟨⟨by decide +kernel, by decide +kernel⟩, List.mem_of_getElem? (i := 552) (by decide +kernel), List.mem_of_getElem? (i := 694) (by decide +kernel), List.mem_of_getElem? (i := 695) (by decide +kernel)⟩
theorem lw_p25 : lw_okq (⟨"WithoutThemModel", "isThing", "(I)Z"⟩, 26) := ⟨⟨by decide +kernel, by decide +kernel⟩, List.mem_of_getElem? (i := 552) (by decide +kernel), List.mem_of_getElem? (i := 698) (by decide +kernel), List.mem_of_getElem? (i := 699) (by decide +kernel)⟩
theorem lw_p26 : lw_okq (⟨"WithoutThemModel", "goOf", "(II)I"⟩, 26) := ⟨⟨by decide +kernel, by decide +kernel⟩, List.mem_of_getElem? (i := 552) (by decide +kernel), List.mem_of_getElem? (i := 714) (by decide +kernel), List.mem_of_getElem? (i := 715) (by decide +kernel)⟩
theorem lw_p27 : lw_okq (⟨"WithoutThemModel", "mayBy", "(I)I"⟩, 26) := ⟨⟨by decide +kernel, by decide +kernel⟩, List.mem_of_getElem? (i := 552) (by decide +kernel), List.mem_of_getElem? (i := 736) (by decide +kernel), List.mem_of_getElem? (i := 737) (by decide +kernel)⟩
theorem lw_p28 : lw_okq (⟨"WithoutThemModel", "canHave", "(II)Z"⟩, 26) := ⟨⟨by decide +kernel, by decide +kernel⟩, List.mem_of_getElem? (i := 552) (by decide +kernel), List.mem_of_getElem? (i := 740) (by decide +kernel), List.mem_of_getElem? (i := 741) (by decide +kernel)⟩
theorem lw_p29 : lw_okq (⟨"WithoutThemModel", "areThings", "(I)Z"⟩, 26) := ⟨⟨by decide +kernel, by decide +kernel⟩, List.mem_of_getElem? (i := 552) (by decide +kernel), List.mem_of_getElem? (i := 752) (by decide +kernel), List.mem_of_getElem? (i := 753) (by decide +kernel)⟩
theorem lw_p30 : lw_okq (⟨"WithoutThemModel", "reachOf", "(II)I"⟩, 26) := ⟨⟨by decide +kernel, by decide +kernel⟩, List.mem_of_getElem? (i := 552) (by decide +kernel), List.mem_of_getElem? (i := 760) (by decide +kernel), List.mem_of_getElem? (i := 761) (by decide +kernel)⟩
theorem lw_p31 : lw_okq (⟨"WithoutThemModel", "findRest", "(IZ)V"⟩, 26) := ⟨⟨by decide +kernel, by decide +kernel⟩, List.mem_of_getElem? (i := 552) (by decide +kernel), List.mem_of_getElem? (i := 768) (by decide +kernel), List.mem_of_getElem? (i := 769) (by decide +kernel)⟩
def lw_privs_2 : List (MethodName × Nat) := [(⟨"WithoutThemModel", "next", "()I"⟩, 26), (⟨"WithoutThemModel", "readsThing", "(I)Z"⟩, 26), (⟨"WithoutThemModel", "readsNumber", "(II)Z"⟩, 26), (⟨"WithoutThemModel", "passesAll", "(IZ)V"⟩, 26), (⟨"WithoutThemModel", "passes", "([I)V"⟩, 26), (⟨"WithoutThemModel", "passOne", "(I)I"⟩, 26), (⟨"WithoutThemModel", "comes", "(I)Z"⟩, 26), (⟨"WithoutThemModel", "comesThing", "(I)Z"⟩, 26), (⟨"WithoutThemModel", "areTwo", "(II)Z"⟩, 26), (⟨"WithoutThemModel", "isThing", "(I)Z"⟩, 26), (⟨"WithoutThemModel", "goOf", "(II)I"⟩, 26), (⟨"WithoutThemModel", "mayBy", "(I)I"⟩, 26), (⟨"WithoutThemModel", "canHave", "(II)Z"⟩, 26), (⟨"WithoutThemModel", "areThings", "(I)Z"⟩, 26), (⟨"WithoutThemModel", "reachOf", "(II)I"⟩, 26), (⟨"WithoutThemModel", "findRest", "(IZ)V"⟩, 26)]
theorem lw_r2 : ∀ q ∈ lw_privs_2, lw_okq q := List.forall_mem_cons.mpr ⟨lw_p16, List.forall_mem_cons.mpr ⟨lw_p17, List.forall_mem_cons.mpr ⟨lw_p18, List.forall_mem_cons.mpr ⟨lw_p19, List.forall_mem_cons.mpr ⟨lw_p20, List.forall_mem_cons.mpr ⟨lw_p21, List.forall_mem_cons.mpr ⟨lw_p22, List.forall_mem_cons.mpr ⟨lw_p23, List.forall_mem_cons.mpr ⟨lw_p24, List.forall_mem_cons.mpr ⟨lw_p25, List.forall_mem_cons.mpr ⟨lw_p26, List.forall_mem_cons.mpr ⟨lw_p27, List.forall_mem_cons.mpr ⟨lw_p28, List.forall_mem_cons.mpr ⟨lw_p29, List.forall_mem_cons.mpr ⟨lw_p30, List.forall_mem_cons.mpr ⟨lw_p31, fun _ h => absurd h List.not_mem_nil⟩⟩⟩⟩⟩⟩⟩⟩⟩⟩⟩⟩⟩⟩⟩⟩
theorem lw_p32 : lw_okq (⟨"WithoutThemModel", "whole", "()I"⟩, 26) := ⟨⟨by decide +kernel, by decide +kernel⟩, List.mem_of_getElem? (i := 552) (by decide +kernel), List.mem_of_getElem? (i := 772) (by decide +kernel), List.mem_of_getElem? (i := 773) (by decide +kernel)⟩
theorem lw_p33 : lw_okq (⟨"WithoutThemModel", "restBy", "(IIZ)I"⟩, 26) := ⟨⟨by decide +kernel, by decide +kernel⟩, List.mem_of_getElem? (i := 552) (by decide +kernel), List.mem_of_getElem? (i := 777) (by decide +kernel), List.mem_of_getElem? (i := 778) (by decide +kernel)⟩
theorem lw_p34 : lw_okq (⟨"WithoutThemModel", "lowest", "(I)J"⟩, 26) := ⟨⟨by decide +kernel, by decide +kernel⟩, List.mem_of_getElem? (i := 552) (by decide +kernel), List.mem_of_getElem? (i := 785) (by decide +kernel), List.mem_of_getElem? (i := 786) (by decide +kernel)⟩
theorem lw_p35 : lw_okq (⟨"WithoutThemModel", "isRinged", "(II)Z"⟩, 26) := ⟨⟨by decide +kernel, by decide +kernel⟩, List.mem_of_getElem? (i := 552) (by decide +kernel), List.mem_of_getElem? (i := 806) (by decide +kernel), List.mem_of_getElem? (i := 807) (by decide +kernel)⟩
theorem lw_p36 : lw_okq (⟨"WithoutThemModel", "costOf", "(I)I"⟩, 26) := ⟨⟨by decide +kernel, by decide +kernel⟩, List.mem_of_getElem? (i := 552) (by decide +kernel), List.mem_of_getElem? (i := 814) (by decide +kernel), List.mem_of_getElem? (i := 815) (by decide +kernel)⟩
theorem lw_p37 : lw_okq (⟨"WithoutThemModel", "notAimed", "(I)I"⟩, 26) := ⟨⟨by decide +kernel, by decide +kernel⟩, List.mem_of_getElem? (i := 552) (by decide +kernel), List.mem_of_getElem? (i := 834) (by decide +kernel), List.mem_of_getElem? (i := 835) (by decide +kernel)⟩
theorem lw_p38 : lw_okq (⟨"WithoutThemModel", "findWays", "(I)V"⟩, 26) := ⟨⟨by decide +kernel, by decide +kernel⟩, List.mem_of_getElem? (i := 552) (by decide +kernel), List.mem_of_getElem? (i := 838) (by decide +kernel), List.mem_of_getElem? (i := 839) (by decide +kernel)⟩
theorem lw_p39 : lw_okq (⟨"WithoutThemModel", "isWithin", "(II)Z"⟩, 26) := ⟨⟨by decide +kernel, by decide +kernel⟩, List.mem_of_getElem? (i := 552) (by decide +kernel), List.mem_of_getElem? (i := 842) (by decide +kernel), List.mem_of_getElem? (i := 843) (by decide +kernel)⟩
theorem lw_p40 : lw_okq (⟨"WithoutThemModel", "sought", "(II)I"⟩, 26) := ⟨⟨by decide +kernel, by decide +kernel⟩, List.mem_of_getElem? (i := 552) (by decide +kernel), List.mem_of_getElem? (i := 863) (by decide +kernel), List.mem_of_getElem? (i := 864) (by decide +kernel)⟩
theorem lw_p41 : lw_okq (⟨"WithoutThemModel", "isBetter", "(IIII)Z"⟩, 26) := ⟨⟨by decide +kernel, by decide +kernel⟩, List.mem_of_getElem? (i := 552) (by decide +kernel), List.mem_of_getElem? (i := 867) (by decide +kernel), List.mem_of_getElem? (i := 868) (by decide +kernel)⟩
def lw_privs_3 : List (MethodName × Nat) := [(⟨"WithoutThemModel", "whole", "()I"⟩, 26), (⟨"WithoutThemModel", "restBy", "(IIZ)I"⟩, 26), (⟨"WithoutThemModel", "lowest", "(I)J"⟩, 26), (⟨"WithoutThemModel", "isRinged", "(II)Z"⟩, 26), (⟨"WithoutThemModel", "costOf", "(I)I"⟩, 26), (⟨"WithoutThemModel", "notAimed", "(I)I"⟩, 26), (⟨"WithoutThemModel", "findWays", "(I)V"⟩, 26), (⟨"WithoutThemModel", "isWithin", "(II)Z"⟩, 26), (⟨"WithoutThemModel", "sought", "(II)I"⟩, 26), (⟨"WithoutThemModel", "isBetter", "(IIII)Z"⟩, 26)]
theorem lw_r3 : ∀ q ∈ lw_privs_3, lw_okq q := List.forall_mem_cons.mpr ⟨lw_p32, List.forall_mem_cons.mpr ⟨lw_p33, List.forall_mem_cons.mpr ⟨lw_p34, List.forall_mem_cons.mpr ⟨lw_p35, List.forall_mem_cons.mpr ⟨lw_p36, List.forall_mem_cons.mpr ⟨lw_p37, List.forall_mem_cons.mpr ⟨lw_p38, List.forall_mem_cons.mpr ⟨lw_p39, List.forall_mem_cons.mpr ⟨lw_p40, List.forall_mem_cons.mpr ⟨lw_p41, fun _ h => absurd h List.not_mem_nil⟩⟩⟩⟩⟩⟩⟩⟩⟩⟩
def lw_privs : List (MethodName × Nat) := lw_privs_1 ++ (lw_privs_2 ++ (lw_privs_3))
def lw_tbl : List Cond := k2_sels lw_privs ++ tables_1
theorem lw_privs_ok : ∀ q ∈ lw_privs, lw_okq q := by
  show ∀ q ∈ lw_privs_1 ++ (lw_privs_2 ++ (lw_privs_3)), lw_okq q
  exact List.forall_mem_append.mpr ⟨lw_r1, List.forall_mem_append.mpr ⟨lw_r2, lw_r3⟩⟩

/-! the classes: fields by their slots -/
def RX1 : String := "WithoutThem$House"
def TX1 : u_T := fun k => match k with
  | 0 => ("WithoutThem$House", "kinds", "[I", true)
  | 1 => ("WithoutThem$House", "minutes", "[I", true)
  | 2 => ("WithoutThem$House", "sures", "[I", true)
  | 3 => ("WithoutThem$House", "costs", "[I", true)
  | 4 => ("WithoutThem$House", "anys", "[I", true)
  | 5 => ("WithoutThem$House", "alls", "[I", true)
  | 6 => ("WithoutThem$House", "things", "I", false)
  | 7 => ("WithoutThem$House", "had", "I", false)
  | _ => ("WithoutThem$House", "minute", "I", false)
def tyX1 : Nat → FieldType := fun k => match k with
  | 0 => .array .int
  | 1 => .array .int
  | 2 => .array .int
  | 3 => .array .int
  | 4 => .array .int
  | 5 => .array .int
  | 6 => .int
  | 7 => .int
  | _ => .int
abbrev wsX10 : List Cond := u_ws RX1 TX1 9
theorem nmX1 : ∀ a, a < 9 → ∀ b, b < 9 → a ≠ b → (TX1 a).2.1 ≠ (TX1 b).2.1 := by decide +kernel
theorem tyX1_ok : ∀ k, k < 9 → parseFieldDescriptor (TX1 k).2.2.1 = some (tyX1 k) := by decide +kernel
def RX2 : String := "WithoutThem$Orders"
def TX2 : u_T := fun k => match k with
  | 0 => ("WithoutThem$Orders", "least", "[I", true)
  | 1 => ("WithoutThem$Orders", "leads", "[I", true)
  | 2 => ("WithoutThem$Orders", "counts", "[I", true)
  | 3 => ("WithoutThem$Orders", "found", "Z", false)
  | 4 => ("WithoutThem$Orders", "fewest", "I", false)
  | _ => ("WithoutThem$Orders", "first", "I", false)
def tyX2 : Nat → FieldType := fun k => match k with
  | 0 => .array .int
  | 1 => .array .int
  | 2 => .array .int
  | 3 => .boolean
  | 4 => .int
  | _ => .int
abbrev wsX20 : List Cond := u_ws RX2 TX2 6
theorem nmX2 : ∀ a, a < 6 → ∀ b, b < 6 → a ≠ b → (TX2 a).2.1 ≠ (TX2 b).2.1 := by decide +kernel
theorem tyX2_ok : ∀ k, k < 6 → parseFieldDescriptor (TX2 k).2.2.1 = some (tyX2 k) := by decide +kernel
def RX3 : String := "WithoutThem$Reader"
def TX3 : u_T := fun k => match k with
  | 0 => ("WithoutThem$Reader", "text", "[I", true)
  | 1 => ("WithoutThem$Reader", "letters", "I", false)
  | 2 => ("WithoutThem$Reader", "place", "I", false)
  | 3 => ("WithoutThem$Reader", "sign", "I", false)
  | 4 => ("WithoutThem$Reader", "kind", "I", false)
  | 5 => ("WithoutThem$Reader", "first", "I", false)
  | _ => ("WithoutThem$Reader", "second", "I", false)
def tyX3 : Nat → FieldType := fun k => match k with
  | 0 => .array .int
  | 1 => .int
  | 2 => .int
  | 3 => .int
  | 4 => .int
  | 5 => .int
  | _ => .int
abbrev wsX30 : List Cond := u_ws RX3 TX3 7
theorem nmX3 : ∀ a, a < 7 → ∀ b, b < 7 → a ≠ b → (TX3 a).2.1 ≠ (TX3 b).2.1 := by decide +kernel
theorem tyX3_ok : ∀ k, k < 7 → parseFieldDescriptor (TX3 k).2.2.1 = some (tyX3 k) := by decide +kernel
def RX7 : String := "WithoutThem"
def TX7 : u_T := fun k => match k with
  | 0 => ("WithoutThem", "now", "LWithoutThem$House;", true)
  | 1 => ("WithoutThem", "then", "LWithoutThem$House;", true)
  | 2 => ("WithoutThem", "tried", "LWithoutThem$House;", true)
  | 3 => ("WithoutThem", "reader", "LWithoutThem$Reader;", true)
  | 4 => ("WithoutThem", "orders", "LWithoutThem$Orders;", true)
  | 5 => ("WithoutThem", "told", "[I", true)
  | 6 => ("WithoutThem", "refusals", "[I", true)
  | 7 => ("WithoutThem", "inRow", "I", false)
  | _ => ("WithoutThem", "imaged", "Z", false)
def tyX7 : Nat → FieldType := fun k => match k with
  | 0 => .object "WithoutThem$House"
  | 1 => .object "WithoutThem$House"
  | 2 => .object "WithoutThem$House"
  | 3 => .object "WithoutThem$Reader"
  | 4 => .object "WithoutThem$Orders"
  | 5 => .array .int
  | 6 => .array .int
  | 7 => .int
  | _ => .boolean
abbrev wsX70 : List Cond := u_ws RX7 TX7 9
theorem nmX7 : ∀ a, a < 9 → ∀ b, b < 9 → a ≠ b → (TX7 a).2.1 ≠ (TX7 b).2.1 := by decide +kernel
theorem tyX7_ok : ∀ k, k < 9 → parseFieldDescriptor (TX7 k).2.2.1 = some (tyX7 k) := by decide +kernel
def RX8 : String := "WithoutThemModel"
def TX8 : u_T := fun k => match k with
  | 0 => ("WithoutThemModel", "refused", "[I", true)
  | 1 => ("WithoutThemModel", "kind", "[I", true)
  | 2 => ("WithoutThemModel", "lasting", "[I", true)
  | 3 => ("WithoutThemModel", "sure", "[I", true)
  | 4 => ("WithoutThemModel", "cost", "[I", true)
  | 5 => ("WithoutThemModel", "any", "[I", true)
  | 6 => ("WithoutThemModel", "all", "[I", true)
  | 7 => ("WithoutThemModel", "things", "I", false)
  | 8 => ("WithoutThemModel", "hand", "I", false)
  | 9 => ("WithoutThemModel", "minute", "I", false)
  | 10 => ("WithoutThemModel", "tape", "[I", true)
  | 11 => ("WithoutThemModel", "letter", "[I", true)
  | 12 => ("WithoutThemModel", "letterAt", "[I", true)
  | 13 => ("WithoutThemModel", "told", "[I", true)
  | 14 => ("WithoutThemModel", "taped", "I", false)
  | 15 => ("WithoutThemModel", "at", "I", false)
  | 16 => ("WithoutThemModel", "statements", "I", false)
  | 17 => ("WithoutThemModel", "kept", "[I", true)
  | 18 => ("WithoutThemModel", "hasImage", "Z", false)
  | 19 => ("WithoutThemModel", "isKeeping", "Z", false)
  | 20 => ("WithoutThemModel", "cursor", "I", false)
  | 21 => ("WithoutThemModel", "rest", "[I", true)
  | 22 => ("WithoutThemModel", "upTo", "[I", true)
  | 23 => ("WithoutThemModel", "fromOn", "[I", true)
  | 24 => ("WithoutThemModel", "row", "[I", true)
  | _ => ("WithoutThemModel", "rowMany", "I", false)
def tyX8 : Nat → FieldType := fun k => match k with
  | 0 => .array .int
  | 1 => .array .int
  | 2 => .array .int
  | 3 => .array .int
  | 4 => .array .int
  | 5 => .array .int
  | 6 => .array .int
  | 7 => .int
  | 8 => .int
  | 9 => .int
  | 10 => .array .int
  | 11 => .array .int
  | 12 => .array .int
  | 13 => .array .int
  | 14 => .int
  | 15 => .int
  | 16 => .int
  | 17 => .array .int
  | 18 => .boolean
  | 19 => .boolean
  | 20 => .int
  | 21 => .array .int
  | 22 => .array .int
  | 23 => .array .int
  | 24 => .array .int
  | _ => .int
abbrev wsX80 : List Cond := u_ws RX8 TX8 26
theorem nmX8 : ∀ a, a < 26 → ∀ b, b < 26 → a ≠ b → (TX8 a).2.1 ≠ (TX8 b).2.1 := by decide +kernel
theorem tyX8_ok : ∀ k, k < 26 → parseFieldDescriptor (TX8 k).2.2.1 = some (tyX8 k) := by decide +kernel
abbrev vwCl : List vw_C := [(RX1, TX1, 9), (RX2, TX2, 6), (RX3, TX3, 7), (RX7, TX7, 9), (RX8, TX8, 26)]
/-! the cells of the system: rows of ints, objects (a field: the cell that it names, or an int) -/
def q_lay : List (Nat ⊕ (Nat × List (Option Nat))) := [.inr (3, [some 1, some 8, some 15, some 22, some 24, some 28, some 29, none, none]), .inr (0, [some 2, some 3, some 4, some 5, some 6, some 7, none, none, none]), .inl 10, .inl 10, .inl 10, .inl 10, .inl 10, .inl 10, .inr (0, [some 9, some 10, some 11, some 12, some 13, some 14, none, none, none]), .inl 10, .inl 10, .inl 10, .inl 10, .inl 10, .inl 10, .inr (0, [some 16, some 17, some 18, some 19, some 20, some 21, none, none, none]), .inl 10, .inl 10, .inl 10, .inl 10, .inl 10, .inl 10, .inr (2, [some 23, none, none, none, none, none, none]), .inl 96, .inr (1, [some 25, some 26, some 27, none, none, none]), .inl 1024, .inl 1024, .inl 1024, .inl 12, .inl 7, .inr (4, [some 31, some 32, some 33, some 34, some 35, some 36, some 37, none, none, none, some 38, some 39, some 40, some 41, none, none, none, some 42, none, none, none, some 43, some 44, some 45, some 46, none]), .inl 7, .inl 10, .inl 10, .inl 10, .inl 10, .inl 10, .inl 10, .inl 96, .inl 48, .inl 48, .inl 144, .inl 130, .inl 1024, .inl 1024, .inl 1024, .inl 12]
/-- a class' fields: references? -/
def q_shl (ci : Nat) : List Bool := match ci with
  | 0 => [true, true, true, true, true, true, false, false, false]
  | 1 => [true, true, true, false, false, false]
  | 2 => [true, false, false, false, false, false, false]
  | 3 => [true, true, true, true, true, true, true, false, false]
  | 4 => [true, true, true, true, true, true, true, false, false, false, true, true, true, true, false, false, false, true, false, false, false, true, true, true, true, false]
  | _ => []
def q_sh (ci j : Nat) : Option Bool := (q_shl ci)[j]?
theorem q_lay_sh : q_lay.all (fun c => match c with
  | .inl _ => true
  | .inr q => decide (q.2.map Option.isSome = q_shl q.1)) = true := by decide +kernel
def q_isB (ci j : Nat) : Bool := [((1 : Nat), (3 : Nat)), ((3 : Nat), (8 : Nat)), ((4 : Nat), (18 : Nat)), ((4 : Nat), (19 : Nat))].any fun q => q.1 == ci && q.2 == j
/-! the methods -/
def q_name (y : Nat) : MethodName := match y with
  | 0 => ⟨"WithoutThem$Rows", "copy", "([I[I)V"⟩
  | 1 => ⟨"WithoutThem$Rows", "get", "([II)I"⟩
  | 2 => ⟨"WithoutThem$Rows", "put", "([III)V"⟩
  | 3 => ⟨"WithoutThem$House", "addThing", "(III)Z"⟩
  | 4 => ⟨"WithoutThem$House", "barred", "()I"⟩
  | 5 => ⟨"WithoutThem$House", "canBeHad", "(II)Z"⟩
  | 6 => ⟨"WithoutThem$House", "chanceOf", "(II)J"⟩
  | 7 => ⟨"WithoutThem$House", "copyFrom", "(LWithoutThem$House;)V"⟩
  | 8 => ⟨"WithoutThem$House", "costOf", "(I)I"⟩
  | 9 => ⟨"WithoutThem$House", "everything", "()I"⟩
  | 10 => ⟨"WithoutThem$House", "isSet", "(I)Z"⟩
  | 11 => ⟨"WithoutThem$House", "isThing", "(I)Z"⟩
  | 12 => ⟨"WithoutThem$House", "mayBy", "(I)I"⟩
  | 13 => ⟨"WithoutThem$House", "minutesOfGo", "(II)I"⟩
  | 14 => ⟨"WithoutThem$House", "reachFrom", "(I)I"⟩
  | 15 => ⟨"WithoutThem$House", "reachWithin", "(II)I"⟩
  | 16 => ⟨"WithoutThem$House", "takeIt", "(I)I"⟩
  | 17 => ⟨"WithoutThem$House", "tell", "(II)I"⟩
  | 18 => ⟨"WithoutThem$House", "turn", "([III)I"⟩
  | 19 => ⟨"WithoutThem$House", "turnAll", "(II)I"⟩
  | 20 => ⟨"WithoutThem$House", "turnAny", "(II)I"⟩
  | 21 => ⟨"WithoutThem$House", "turnHand", "(I)I"⟩
  | 22 => ⟨"WithoutThem$Orders", "countTo", "(LWithoutThem$House;I)I"⟩
  | 23 => ⟨"WithoutThem$Orders", "hadInAll", "(LWithoutThem$House;II)I"⟩
  | 24 => ⟨"WithoutThem$Orders", "priceOfGo", "(LWithoutThem$House;IIZ)I"⟩
  | 25 => ⟨"WithoutThem$Orders", "seek", "(LWithoutThem$House;IZ)V"⟩
  | 26 => ⟨"WithoutThem$Orders", "step", "(LWithoutThem$House;IIZ)V"⟩
  | 27 => ⟨"WithoutThem$Orders", "walk", "(LWithoutThem$House;Z)V"⟩
  | 28 => ⟨"WithoutThem$Reader", "faultHere", "()I"⟩
  | 29 => ⟨"WithoutThem$Reader", "forget", "()V"⟩
  | 30 => ⟨"WithoutThem$Reader", "hear", "(I)I"⟩
  | 31 => ⟨"WithoutThem$Reader", "here", "()I"⟩
  | 32 => ⟨"WithoutThem$Reader", "isFull", "()Z"⟩
  | 33 => ⟨"WithoutThem$Reader", "kindOf", "(I)I"⟩
  | 34 => ⟨"WithoutThem$Reader", "passes", "(I)Z"⟩
  | 35 => ⟨"WithoutThem$Reader", "readDigit", "()I"⟩
  | 36 => ⟨"WithoutThem$Reader", "readFirst", "()Z"⟩
  | 37 => ⟨"WithoutThem$Reader", "readNumber", "()I"⟩
  | 38 => ⟨"WithoutThem$Reader", "readSecond", "()Z"⟩
  | 39 => ⟨"WithoutThem$Reader", "readStatement", "()Z"⟩
  | 40 => ⟨"WithoutThem$Reader", "readThing", "()Z"⟩
  | 41 => ⟨"WithoutThem$Reader", "readsWell", "()Z"⟩
  | 42 => ⟨"WithoutThem$Reader", "tellEach", "(LWithoutThem$House;)I"⟩
  | 43 => ⟨"WithoutThem$Reader", "tellOne", "(LWithoutThem$House;)Z"⟩
  | 44 => ⟨"WithoutThem$Search", "bestSpare", "(LWithoutThem$House;)I"⟩
  | 45 => ⟨"WithoutThem$Search", "cheapestBegged", "(LWithoutThem$House;)I"⟩
  | 46 => ⟨"WithoutThem$Search", "fewestNails", "(LWithoutThem$House;)I"⟩
  | 47 => ⟨"WithoutThem$Search", "firstNotHad", "(LWithoutThem$House;[II)I"⟩
  | 48 => ⟨"WithoutThem$Search", "lostWithout", "(LWithoutThem$House;I)I"⟩
  | 49 => ⟨"WithoutThem$Search", "neededWithin", "(LWithoutThem$House;I)I"⟩
  | 50 => ⟨"WithoutThem$Search", "ringedIn", "(LWithoutThem$House;)I"⟩
  | 51 => ⟨"WithoutThem$Seeker", "chosen", "(LWithoutThem$House;II)I"⟩
  | 52 => ⟨"WithoutThem$Seeker", "minutesByLot", "(LWithoutThem$House;II)I"⟩
  | 53 => ⟨"WithoutThem$Seeker", "minutesOfAll", "(LWithoutThem$House;I)I"⟩
  | 54 => ⟨"WithoutThem$Seeker", "rankOf", "(LWithoutThem$House;III)I"⟩
  | 55 => ⟨"WithoutThem$Seeker", "takenAt", "(LWithoutThem$House;II)I"⟩
  | 56 => ⟨"WithoutThem$Fraction", "greatestShared", "(JJ)J"⟩
  | 57 => ⟨"WithoutThem$Fraction", "partOf", "(JJI)J"⟩
  | 58 => ⟨"WithoutThem", "beg", "(I)I"⟩
  | 59 => ⟨"WithoutThem", "count", "(I)I"⟩
  | 60 => ⟨"WithoutThem", "does", "(I)I"⟩
  | 61 => ⟨"WithoutThem", "drawer", "(III)J"⟩
  | 62 => ⟨"WithoutThem", "halfway", "(II)I"⟩
  | 63 => ⟨"WithoutThem", "hand", "(I)I"⟩
  | 64 => ⟨"WithoutThem", "house", "()I"⟩
  | 65 => ⟨"WithoutThem", "image", "()I"⟩
  | 66 => ⟨"WithoutThem", "isNoPart", "(I)Z"⟩
  | 67 => ⟨"WithoutThem", "isNoSeeker", "(I)Z"⟩
  | 68 => ⟨"WithoutThem", "judge", "()I"⟩
  | 69 => ⟨"WithoutThem", "letter", "(I)I"⟩
  | 70 => ⟨"WithoutThem", "lots", "(II)I"⟩
  | 71 => ⟨"WithoutThem", "may", "()I"⟩
  | 72 => ⟨"WithoutThem", "mean", "(II)J"⟩
  | 73 => ⟨"WithoutThem", "must", "(I)I"⟩
  | 74 => ⟨"WithoutThem", "nails", "()I"⟩
  | 75 => ⟨"WithoutThem", "need", "(III)I"⟩
  | 76 => ⟨"WithoutThem", "on", "()I"⟩
  | 77 => ⟨"WithoutThem", "reach", "()I"⟩
  | 78 => ⟨"WithoutThem", "refusalOfWay", "(I)I"⟩
  | 79 => ⟨"WithoutThem", "refuse", "(I)I"⟩
  | 80 => ⟨"WithoutThem", "refuseLong", "(I)J"⟩
  | 81 => ⟨"WithoutThem", "ringed", "()I"⟩
  | 82 => ⟨"WithoutThem", "row", "(I)I"⟩
  | 83 => ⟨"WithoutThem", "seeker", "(II)I"⟩
  | 84 => ⟨"WithoutThem", "seeks", "(I)I"⟩
  | 85 => ⟨"WithoutThem", "soonest", "(II)I"⟩
  | 86 => ⟨"WithoutThem", "spare", "()I"⟩
  | 87 => ⟨"WithoutThem", "surely", "(I)J"⟩
  | 88 => ⟨"WithoutThem", "take", "(I)I"⟩
  | 89 => ⟨"WithoutThem", "thing", "(II)I"⟩
  | 90 => ⟨"WithoutThem", "ways", "(I)I"⟩
  | 91 => ⟨"WithoutThem", "with", "(I)I"⟩
  | 92 => ⟨"WithoutThemModel", "areThings", "(I)Z"⟩
  | 93 => ⟨"WithoutThemModel", "areTwo", "(II)Z"⟩
  | 94 => ⟨"WithoutThemModel", "beg", "(I)I"⟩
  | 95 => ⟨"WithoutThemModel", "bits", "(I)I"⟩
  | 96 => ⟨"WithoutThemModel", "bound", "(III)I"⟩
  | 97 => ⟨"WithoutThemModel", "canHave", "(II)Z"⟩
  | 98 => ⟨"WithoutThemModel", "comes", "(I)Z"⟩
  | 99 => ⟨"WithoutThemModel", "comesThing", "(I)Z"⟩
  | 100 => ⟨"WithoutThemModel", "costOf", "(I)I"⟩
  | 101 => ⟨"WithoutThemModel", "count", "(I)I"⟩
  | 102 => ⟨"WithoutThemModel", "divisor", "(JJ)J"⟩
  | 103 => ⟨"WithoutThemModel", "does", "(I)I"⟩
  | 104 => ⟨"WithoutThemModel", "drawer", "(III)J"⟩
  | 105 => ⟨"WithoutThemModel", "findRest", "(IZ)V"⟩
  | 106 => ⟨"WithoutThemModel", "findWays", "(I)V"⟩
  | 107 => ⟨"WithoutThemModel", "goOf", "(II)I"⟩
  | 108 => ⟨"WithoutThemModel", "halfway", "(II)I"⟩
  | 109 => ⟨"WithoutThemModel", "hand", "(I)I"⟩
  | 110 => ⟨"WithoutThemModel", "has", "(II)Z"⟩
  | 111 => ⟨"WithoutThemModel", "house", "()I"⟩
  | 112 => ⟨"WithoutThemModel", "image", "()I"⟩
  | 113 => ⟨"WithoutThemModel", "isBetter", "(IIII)Z"⟩
  | 114 => ⟨"WithoutThemModel", "isIn", "(III)Z"⟩
  | 115 => ⟨"WithoutThemModel", "isRinged", "(II)Z"⟩
  | 116 => ⟨"WithoutThemModel", "isThing", "(I)Z"⟩
  | 117 => ⟨"WithoutThemModel", "isWithin", "(II)Z"⟩
  | 118 => ⟨"WithoutThemModel", "judge", "()I"⟩
  | 119 => ⟨"WithoutThemModel", "kindOf", "(I)I"⟩
  | 120 => ⟨"WithoutThemModel", "letter", "(I)I"⟩
  | 121 => ⟨"WithoutThemModel", "lots", "(II)I"⟩
  | 122 => ⟨"WithoutThemModel", "lowest", "(I)J"⟩
  | 123 => ⟨"WithoutThemModel", "may", "()I"⟩
  | 124 => ⟨"WithoutThemModel", "mayBy", "(I)I"⟩
  | 125 => ⟨"WithoutThemModel", "mean", "(II)J"⟩
  | 126 => ⟨"WithoutThemModel", "must", "(I)I"⟩
  | 127 => ⟨"WithoutThemModel", "nails", "()I"⟩
  | 128 => ⟨"WithoutThemModel", "need", "(III)I"⟩
  | 129 => ⟨"WithoutThemModel", "next", "()I"⟩
  | 130 => ⟨"WithoutThemModel", "no", "(I)I"⟩
  | 131 => ⟨"WithoutThemModel", "notAimed", "(I)I"⟩
  | 132 => ⟨"WithoutThemModel", "on", "()I"⟩
  | 133 => ⟨"WithoutThemModel", "partOf", "(JJI)J"⟩
  | 134 => ⟨"WithoutThemModel", "passOne", "(I)I"⟩
  | 135 => ⟨"WithoutThemModel", "passes", "([I)V"⟩
  | 136 => ⟨"WithoutThemModel", "passesAll", "(IZ)V"⟩
  | 137 => ⟨"WithoutThemModel", "reach", "()I"⟩
  | 138 => ⟨"WithoutThemModel", "reachOf", "(II)I"⟩
  | 139 => ⟨"WithoutThemModel", "readsNumber", "(II)Z"⟩
  | 140 => ⟨"WithoutThemModel", "readsThing", "(I)Z"⟩
  | 141 => ⟨"WithoutThemModel", "restBy", "(IIZ)I"⟩
  | 142 => ⟨"WithoutThemModel", "ringed", "()I"⟩
  | 143 => ⟨"WithoutThemModel", "row", "(I)I"⟩
  | 144 => ⟨"WithoutThemModel", "seeker", "(II)I"⟩
  | 145 => ⟨"WithoutThemModel", "seeks", "(I)I"⟩
  | 146 => ⟨"WithoutThemModel", "soonest", "(II)I"⟩
  | 147 => ⟨"WithoutThemModel", "sought", "(II)I"⟩
  | 148 => ⟨"WithoutThemModel", "spare", "()I"⟩
  | 149 => ⟨"WithoutThemModel", "statement", "()Z"⟩
  | 150 => ⟨"WithoutThemModel", "surely", "(I)J"⟩
  | 151 => ⟨"WithoutThemModel", "take", "(I)I"⟩
  | 152 => ⟨"WithoutThemModel", "thing", "(II)I"⟩
  | 153 => ⟨"WithoutThemModel", "ways", "(I)I"⟩
  | 154 => ⟨"WithoutThemModel", "whole", "()I"⟩
  | 155 => ⟨"WithoutThemModel", "with", "(I)I"⟩
  | 156 => ⟨"java/lang/Integer", "bitCount", "(I)I"⟩
  | 157 => ⟨"WithoutThemLaw", "law", "([I)Z"⟩
  | _ => ⟨"", "", ""⟩
def q_code (y : Nat) : ByteArray := match y with
  | 0 => prog_6_method_4_code
  | 1 => prog_6_method_2_code
  | 2 => prog_6_method_3_code
  | 3 => prog_3_method_7_code
  | 4 => prog_3_method_18_code
  | 5 => prog_3_method_14_code
  | 6 => prog_3_method_20_code
  | 7 => prog_3_method_2_code
  | 8 => prog_3_method_19_code
  | 9 => prog_3_method_4_code
  | 10 => prog_3_method_5_code
  | 11 => prog_3_method_3_code
  | 12 => prog_3_method_15_code
  | 13 => prog_3_method_13_code
  | 14 => prog_3_method_16_code
  | 15 => prog_3_method_17_code
  | 16 => prog_3_method_12_code
  | 17 => prog_3_method_6_code
  | 18 => prog_3_method_10_code
  | 19 => prog_3_method_9_code
  | 20 => prog_3_method_8_code
  | 21 => prog_3_method_11_code
  | 22 => prog_4_method_6_code
  | 23 => prog_4_method_7_code
  | 24 => prog_4_method_5_code
  | 25 => prog_4_method_2_code
  | 26 => prog_4_method_4_code
  | 27 => prog_4_method_3_code
  | 28 => prog_5_method_6_code
  | 29 => prog_5_method_4_code
  | 30 => prog_5_method_3_code
  | 31 => prog_5_method_16_code
  | 32 => prog_5_method_2_code
  | 33 => prog_5_method_17_code
  | 34 => prog_5_method_15_code
  | 35 => prog_5_method_14_code
  | 36 => prog_5_method_11_code
  | 37 => prog_5_method_13_code
  | 38 => prog_5_method_12_code
  | 39 => prog_5_method_9_code
  | 40 => prog_5_method_10_code
  | 41 => prog_5_method_5_code
  | 42 => prog_5_method_7_code
  | 43 => prog_5_method_8_code
  | 44 => prog_7_method_5_code
  | 45 => prog_7_method_3_code
  | 46 => prog_7_method_4_code
  | 47 => prog_7_method_8_code
  | 48 => prog_7_method_6_code
  | 49 => prog_7_method_7_code
  | 50 => prog_7_method_2_code
  | 51 => prog_8_method_5_code
  | 52 => prog_8_method_4_code
  | 53 => prog_8_method_3_code
  | 54 => prog_8_method_6_code
  | 55 => prog_8_method_2_code
  | 56 => prog_2_method_3_code
  | 57 => prog_2_method_2_code
  | 58 => prog_1_method_15_code
  | 59 => prog_1_method_30_code
  | 60 => prog_1_method_18_code
  | 61 => prog_1_method_22_code
  | 62 => prog_1_method_21_code
  | 63 => prog_1_method_6_code
  | 64 => prog_1_method_3_code
  | 65 => prog_1_method_28_code
  | 66 => prog_1_method_34_code
  | 67 => prog_1_method_35_code
  | 68 => prog_1_method_26_code
  | 69 => prog_1_method_2_code
  | 70 => prog_1_method_27_code
  | 71 => prog_1_method_8_code
  | 72 => prog_1_method_12_code
  | 73 => prog_1_method_20_code
  | 74 => prog_1_method_16_code
  | 75 => prog_1_method_5_code
  | 76 => prog_1_method_29_code
  | 77 => prog_1_method_10_code
  | 78 => prog_1_method_33_code
  | 79 => prog_1_method_31_code
  | 80 => prog_1_method_32_code
  | 81 => prog_1_method_14_code
  | 82 => prog_1_method_25_code
  | 83 => prog_1_method_23_code
  | 84 => prog_1_method_24_code
  | 85 => prog_1_method_11_code
  | 86 => prog_1_method_17_code
  | 87 => prog_1_method_13_code
  | 88 => prog_1_method_7_code
  | 89 => prog_1_method_4_code
  | 90 => prog_1_method_19_code
  | 91 => prog_1_method_9_code
  | 92 => prog_10_method_9_code
  | 93 => prog_10_method_10_code
  | 94 => prog_10_method_47_code
  | 95 => prog_10_method_7_code
  | 96 => prog_10_method_5_code
  | 97 => prog_10_method_25_code
  | 98 => prog_10_method_18_code
  | 99 => prog_10_method_17_code
  | 100 => prog_10_method_46_code
  | 101 => prog_10_method_65_code
  | 102 => prog_10_method_40_code
  | 103 => prog_10_method_50_code
  | 104 => prog_10_method_57_code
  | 105 => prog_10_method_37_code
  | 106 => prog_10_method_52_code
  | 107 => prog_10_method_27_code
  | 108 => prog_10_method_56_code
  | 109 => prog_10_method_32_code
  | 110 => prog_10_method_6_code
  | 111 => prog_10_method_19_code
  | 112 => prog_10_method_23_code
  | 113 => prog_10_method_58_code
  | 114 => prog_10_method_4_code
  | 115 => prog_10_method_44_code
  | 116 => prog_10_method_8_code
  | 117 => prog_10_method_51_code
  | 118 => prog_10_method_63_code
  | 119 => prog_10_method_14_code
  | 120 => prog_10_method_11_code
  | 121 => prog_10_method_64_code
  | 122 => prog_10_method_3_code
  | 123 => prog_10_method_34_code
  | 124 => prog_10_method_26_code
  | 125 => prog_10_method_42_code
  | 126 => prog_10_method_55_code
  | 127 => prog_10_method_48_code
  | 128 => prog_10_method_31_code
  | 129 => prog_10_method_12_code
  | 130 => prog_10_method_2_code
  | 131 => prog_10_method_53_code
  | 132 => prog_10_method_24_code
  | 133 => prog_10_method_41_code
  | 134 => prog_10_method_21_code
  | 135 => prog_10_method_20_code
  | 136 => prog_10_method_22_code
  | 137 => prog_10_method_36_code
  | 138 => prog_10_method_28_code
  | 139 => prog_10_method_13_code
  | 140 => prog_10_method_15_code
  | 141 => prog_10_method_38_code
  | 142 => prog_10_method_45_code
  | 143 => prog_10_method_62_code
  | 144 => prog_10_method_60_code
  | 145 => prog_10_method_61_code
  | 146 => prog_10_method_39_code
  | 147 => prog_10_method_59_code
  | 148 => prog_10_method_49_code
  | 149 => prog_10_method_16_code
  | 150 => prog_10_method_43_code
  | 151 => prog_10_method_33_code
  | 152 => prog_10_method_30_code
  | 153 => prog_10_method_54_code
  | 154 => prog_10_method_29_code
  | 155 => prog_10_method_35_code
  | 156 => prog_11_method_49_code
  | 157 => code
  | _ => ⟨#[]⟩
def q_maxL (y : Nat) : Nat := match y with
  | 0 => 3
  | 1 => 2
  | 2 => 3
  | 3 => 5
  | 4 => 1
  | 5 => 8
  | 6 => 8
  | 7 => 2
  | 8 => 4
  | 9 => 1
  | 10 => 2
  | 11 => 2
  | 12 => 4
  | 13 => 5
  | 14 => 2
  | 15 => 6
  | 16 => 2
  | 17 => 3
  | 18 => 4
  | 19 => 3
  | 20 => 3
  | 21 => 2
  | 22 => 8
  | 23 => 7
  | 24 => 6
  | 25 => 7
  | 26 => 10
  | 27 => 7
  | 28 => 1
  | 29 => 1
  | 30 => 2
  | 31 => 1
  | 32 => 1
  | 33 => 1
  | 34 => 2
  | 35 => 2
  | 36 => 1
  | 37 => 3
  | 38 => 1
  | 39 => 1
  | 40 => 1
  | 41 => 3
  | 42 => 5
  | 43 => 2
  | 44 => 5
  | 45 => 8
  | 46 => 4
  | 47 => 6
  | 48 => 4
  | 49 => 7
  | 50 => 7
  | 51 => 8
  | 52 => 9
  | 53 => 6
  | 54 => 4
  | 55 => 6
  | 56 => 11
  | 57 => 9
  | 58 => 3
  | 59 => 2
  | 60 => 2
  | 61 => 5
  | 62 => 4
  | 63 => 2
  | 64 => 2
  | 65 => 1
  | 66 => 1
  | 67 => 1
  | 68 => 2
  | 69 => 2
  | 70 => 3
  | 71 => 1
  | 72 => 5
  | 73 => 3
  | 74 => 1
  | 75 => 4
  | 76 => 1
  | 77 => 1
  | 78 => 2
  | 79 => 2
  | 80 => 2
  | 81 => 1
  | 82 => 2
  | 83 => 3
  | 84 => 2
  | 85 => 3
  | 86 => 1
  | 87 => 2
  | 88 => 2
  | 89 => 3
  | 90 => 3
  | 91 => 2
  | 92 => 2
  | 93 => 3
  | 94 => 4
  | 95 => 3
  | 96 => 3
  | 97 => 6
  | 98 => 5
  | 99 => 2
  | 100 => 4
  | 101 => 2
  | 102 => 10
  | 103 => 3
  | 104 => 5
  | 105 => 7
  | 106 => 5
  | 107 => 4
  | 108 => 6
  | 109 => 2
  | 110 => 2
  | 111 => 3
  | 112 => 1
  | 113 => 5
  | 114 => 3
  | 115 => 5
  | 116 => 2
  | 117 => 3
  | 118 => 4
  | 119 => 1
  | 120 => 3
  | 121 => 8
  | 122 => 2
  | 123 => 1
  | 124 => 4
  | 125 => 3
  | 126 => 7
  | 127 => 3
  | 128 => 4
  | 129 => 1
  | 130 => 2
  | 131 => 2
  | 132 => 1
  | 133 => 5
  | 134 => 3
  | 135 => 3
  | 136 => 3
  | 137 => 1
  | 138 => 5
  | 139 => 5
  | 140 => 2
  | 141 => 4
  | 142 => 4
  | 143 => 3
  | 144 => 7
  | 145 => 5
  | 146 => 5
  | 147 => 6
  | 148 => 5
  | 149 => 4
  | 150 => 8
  | 151 => 3
  | 152 => 3
  | 153 => 3
  | 154 => 1
  | 155 => 2
  | 156 => 1
  | 157 => 4
  | _ => 0
def q_ret (y : Nat) : Option FieldType := match y with
  | 0 => none
  | 1 => some .int
  | 2 => none
  | 3 => some .boolean
  | 4 => some .int
  | 5 => some .boolean
  | 6 => some .long
  | 7 => none
  | 8 => some .int
  | 9 => some .int
  | 10 => some .boolean
  | 11 => some .boolean
  | 12 => some .int
  | 13 => some .int
  | 14 => some .int
  | 15 => some .int
  | 16 => some .int
  | 17 => some .int
  | 18 => some .int
  | 19 => some .int
  | 20 => some .int
  | 21 => some .int
  | 22 => some .int
  | 23 => some .int
  | 24 => some .int
  | 25 => none
  | 26 => none
  | 27 => none
  | 28 => some .int
  | 29 => none
  | 30 => some .int
  | 31 => some .int
  | 32 => some .boolean
  | 33 => some .int
  | 34 => some .boolean
  | 35 => some .int
  | 36 => some .boolean
  | 37 => some .int
  | 38 => some .boolean
  | 39 => some .boolean
  | 40 => some .boolean
  | 41 => some .boolean
  | 42 => some .int
  | 43 => some .boolean
  | 44 => some .int
  | 45 => some .int
  | 46 => some .int
  | 47 => some .int
  | 48 => some .int
  | 49 => some .int
  | 50 => some .int
  | 51 => some .int
  | 52 => some .int
  | 53 => some .int
  | 54 => some .int
  | 55 => some .int
  | 56 => some .long
  | 57 => some .long
  | 58 => some .int
  | 59 => some .int
  | 60 => some .int
  | 61 => some .long
  | 62 => some .int
  | 63 => some .int
  | 64 => some .int
  | 65 => some .int
  | 66 => some .boolean
  | 67 => some .boolean
  | 68 => some .int
  | 69 => some .int
  | 70 => some .int
  | 71 => some .int
  | 72 => some .long
  | 73 => some .int
  | 74 => some .int
  | 75 => some .int
  | 76 => some .int
  | 77 => some .int
  | 78 => some .int
  | 79 => some .int
  | 80 => some .long
  | 81 => some .int
  | 82 => some .int
  | 83 => some .int
  | 84 => some .int
  | 85 => some .int
  | 86 => some .int
  | 87 => some .long
  | 88 => some .int
  | 89 => some .int
  | 90 => some .int
  | 91 => some .int
  | 92 => some .boolean
  | 93 => some .boolean
  | 94 => some .int
  | 95 => some .int
  | 96 => some .int
  | 97 => some .boolean
  | 98 => some .boolean
  | 99 => some .boolean
  | 100 => some .int
  | 101 => some .int
  | 102 => some .long
  | 103 => some .int
  | 104 => some .long
  | 105 => none
  | 106 => none
  | 107 => some .int
  | 108 => some .int
  | 109 => some .int
  | 110 => some .boolean
  | 111 => some .int
  | 112 => some .int
  | 113 => some .boolean
  | 114 => some .boolean
  | 115 => some .boolean
  | 116 => some .boolean
  | 117 => some .boolean
  | 118 => some .int
  | 119 => some .int
  | 120 => some .int
  | 121 => some .int
  | 122 => some .long
  | 123 => some .int
  | 124 => some .int
  | 125 => some .long
  | 126 => some .int
  | 127 => some .int
  | 128 => some .int
  | 129 => some .int
  | 130 => some .int
  | 131 => some .int
  | 132 => some .int
  | 133 => some .long
  | 134 => some .int
  | 135 => none
  | 136 => none
  | 137 => some .int
  | 138 => some .int
  | 139 => some .boolean
  | 140 => some .boolean
  | 141 => some .int
  | 142 => some .int
  | 143 => some .int
  | 144 => some .int
  | 145 => some .int
  | 146 => some .int
  | 147 => some .int
  | 148 => some .int
  | 149 => some .boolean
  | 150 => some .long
  | 151 => some .int
  | 152 => some .int
  | 153 => some .int
  | 154 => some .int
  | 155 => some .int
  | 156 => some .int
  | 157 => some .boolean
  | _ => none
def q_cn (y : Nat) : Nat := match y with
  | 0 => 0
  | 1 => 0
  | 2 => 0
  | 3 => 1
  | 4 => 1
  | 5 => 1
  | 6 => 1
  | 7 => 1
  | 8 => 1
  | 9 => 1
  | 10 => 1
  | 11 => 1
  | 12 => 1
  | 13 => 1
  | 14 => 1
  | 15 => 1
  | 16 => 1
  | 17 => 1
  | 18 => 1
  | 19 => 1
  | 20 => 1
  | 21 => 1
  | 22 => 2
  | 23 => 2
  | 24 => 2
  | 25 => 2
  | 26 => 2
  | 27 => 2
  | 28 => 3
  | 29 => 3
  | 30 => 3
  | 31 => 3
  | 32 => 3
  | 33 => 3
  | 34 => 3
  | 35 => 3
  | 36 => 3
  | 37 => 3
  | 38 => 3
  | 39 => 3
  | 40 => 3
  | 41 => 3
  | 42 => 3
  | 43 => 3
  | 44 => 4
  | 45 => 4
  | 46 => 4
  | 47 => 4
  | 48 => 4
  | 49 => 4
  | 50 => 4
  | 51 => 5
  | 52 => 5
  | 53 => 5
  | 54 => 5
  | 55 => 5
  | 56 => 6
  | 57 => 6
  | 58 => 7
  | 59 => 7
  | 60 => 7
  | 61 => 7
  | 62 => 7
  | 63 => 7
  | 64 => 7
  | 65 => 7
  | 66 => 7
  | 67 => 7
  | 68 => 7
  | 69 => 7
  | 70 => 7
  | 71 => 7
  | 72 => 7
  | 73 => 7
  | 74 => 7
  | 75 => 7
  | 76 => 7
  | 77 => 7
  | 78 => 7
  | 79 => 7
  | 80 => 7
  | 81 => 7
  | 82 => 7
  | 83 => 7
  | 84 => 7
  | 85 => 7
  | 86 => 7
  | 87 => 7
  | 88 => 7
  | 89 => 7
  | 90 => 7
  | 91 => 7
  | 92 => 8
  | 93 => 8
  | 94 => 8
  | 95 => 8
  | 96 => 8
  | 97 => 8
  | 98 => 8
  | 99 => 8
  | 100 => 8
  | 101 => 8
  | 102 => 8
  | 103 => 8
  | 104 => 8
  | 105 => 8
  | 106 => 8
  | 107 => 8
  | 108 => 8
  | 109 => 8
  | 110 => 8
  | 111 => 8
  | 112 => 8
  | 113 => 8
  | 114 => 8
  | 115 => 8
  | 116 => 8
  | 117 => 8
  | 118 => 8
  | 119 => 8
  | 120 => 8
  | 121 => 8
  | 122 => 8
  | 123 => 8
  | 124 => 8
  | 125 => 8
  | 126 => 8
  | 127 => 8
  | 128 => 8
  | 129 => 8
  | 130 => 8
  | 131 => 8
  | 132 => 8
  | 133 => 8
  | 134 => 8
  | 135 => 8
  | 136 => 8
  | 137 => 8
  | 138 => 8
  | 139 => 8
  | 140 => 8
  | 141 => 8
  | 142 => 8
  | 143 => 8
  | 144 => 8
  | 145 => 8
  | 146 => 8
  | 147 => 8
  | 148 => 8
  | 149 => 8
  | 150 => 8
  | 151 => 8
  | 152 => 8
  | 153 => 8
  | 154 => 8
  | 155 => 8
  | 156 => 9
  | 157 => 11
  | _ => 99
def q_fr (y : Nat) : Nat := match y with
  | 0 => 0
  | 1 => 0
  | 2 => 0
  | 3 => 1
  | 4 => 4
  | 5 => 1
  | 6 => 2
  | 7 => 1
  | 8 => 1
  | 9 => 0
  | 10 => 1
  | 11 => 0
  | 12 => 2
  | 13 => 1
  | 14 => 4
  | 15 => 3
  | 16 => 2
  | 17 => 2
  | 18 => 1
  | 19 => 2
  | 20 => 2
  | 21 => 0
  | 22 => 3
  | 23 => 4
  | 24 => 2
  | 25 => 5
  | 26 => 3
  | 27 => 4
  | 28 => 0
  | 29 => 0
  | 30 => 1
  | 31 => 0
  | 32 => 0
  | 33 => 0
  | 34 => 1
  | 35 => 1
  | 36 => 2
  | 37 => 2
  | 38 => 2
  | 39 => 4
  | 40 => 3
  | 41 => 5
  | 42 => 5
  | 43 => 3
  | 44 => 5
  | 45 => 5
  | 46 => 5
  | 47 => 2
  | 48 => 5
  | 49 => 4
  | 50 => 5
  | 51 => 4
  | 52 => 5
  | 53 => 5
  | 54 => 3
  | 55 => 5
  | 56 => 0
  | 57 => 1
  | 58 => 6
  | 59 => 5
  | 60 => 6
  | 61 => 3
  | 62 => 5
  | 63 => 2
  | 64 => 6
  | 65 => 2
  | 66 => 0
  | 67 => 0
  | 68 => 3
  | 69 => 2
  | 70 => 6
  | 71 => 3
  | 72 => 6
  | 73 => 5
  | 74 => 6
  | 75 => 3
  | 76 => 2
  | 77 => 5
  | 78 => 2
  | 79 => 1
  | 80 => 2
  | 81 => 6
  | 82 => 2
  | 83 => 6
  | 84 => 6
  | 85 => 6
  | 86 => 6
  | 87 => 5
  | 88 => 3
  | 89 => 3
  | 90 => 4
  | 91 => 3
  | 92 => 0
  | 93 => 1
  | 94 => 4
  | 95 => 0
  | 96 => 0
  | 97 => 1
  | 98 => 2
  | 99 => 1
  | 100 => 1
  | 101 => 4
  | 102 => 0
  | 103 => 4
  | 104 => 2
  | 105 => 3
  | 106 => 2
  | 107 => 1
  | 108 => 3
  | 109 => 1
  | 110 => 0
  | 111 => 4
  | 112 => 2
  | 113 => 3
  | 114 => 0
  | 115 => 4
  | 116 => 0
  | 117 => 0
  | 118 => 3
  | 119 => 0
  | 120 => 1
  | 121 => 5
  | 122 => 0
  | 123 => 3
  | 124 => 2
  | 125 => 4
  | 126 => 4
  | 127 => 4
  | 128 => 2
  | 129 => 0
  | 130 => 0
  | 131 => 1
  | 132 => 2
  | 133 => 1
  | 134 => 0
  | 135 => 0
  | 136 => 1
  | 137 => 4
  | 138 => 3
  | 139 => 1
  | 140 => 2
  | 141 => 2
  | 142 => 5
  | 143 => 1
  | 144 => 5
  | 145 => 5
  | 146 => 4
  | 147 => 4
  | 148 => 4
  | 149 => 3
  | 150 => 4
  | 151 => 3
  | 152 => 2
  | 153 => 3
  | 154 => 0
  | 155 => 3
  | 156 => 0
  | 157 => 7
  | _ => 0
def q_lo (y : Nat) : Nat := match y with
  | 0 => 0
  | 1 => 0
  | 2 => 0
  | 3 => 22
  | 4 => 96
  | 5 => 21
  | 6 => 58
  | 7 => 22
  | 8 => 21
  | 9 => 0
  | 10 => 20
  | 11 => 0
  | 12 => 48
  | 13 => 21
  | 14 => 96
  | 15 => 71
  | 16 => 45
  | 17 => 45
  | 18 => 22
  | 19 => 45
  | 20 => 45
  | 21 => 0
  | 22 => 71
  | 23 => 98
  | 24 => 45
  | 25 => 125
  | 26 => 70
  | 27 => 99
  | 28 => 0
  | 29 => 0
  | 30 => 22
  | 31 => 0
  | 32 => 0
  | 33 => 0
  | 34 => 20
  | 35 => 20
  | 36 => 41
  | 37 => 41
  | 38 => 41
  | 39 => 83
  | 40 => 63
  | 41 => 103
  | 42 => 103
  | 43 => 67
  | 44 => 117
  | 45 => 117
  | 46 => 117
  | 47 => 48
  | 48 => 117
  | 49 => 96
  | 50 => 117
  | 51 => 94
  | 52 => 121
  | 53 => 121
  | 54 => 71
  | 55 => 121
  | 56 => 0
  | 57 => 30
  | 58 => 144
  | 59 => 116
  | 60 => 140
  | 61 => 64
  | 62 => 124
  | 63 => 43
  | 64 => 127
  | 65 => 43
  | 66 => 0
  | 67 => 0
  | 68 => 73
  | 69 => 43
  | 70 => 149
  | 71 => 71
  | 72 => 151
  | 73 => 122
  | 74 => 140
  | 75 => 67
  | 76 => 43
  | 77 => 117
  | 78 => 41
  | 79 => 22
  | 80 => 43
  | 81 => 143
  | 82 => 43
  | 83 => 146
  | 84 => 146
  | 85 => 151
  | 86 => 141
  | 87 => 117
  | 88 => 66
  | 89 => 67
  | 90 => 98
  | 91 => 71
  | 92 => 0
  | 93 => 21
  | 94 => 94
  | 95 => 0
  | 96 => 0
  | 97 => 22
  | 98 => 43
  | 99 => 22
  | 100 => 21
  | 101 => 94
  | 102 => 0
  | 103 => 94
  | 104 => 53
  | 105 => 70
  | 106 => 47
  | 107 => 22
  | 108 => 71
  | 109 => 21
  | 110 => 0
  | 111 => 90
  | 112 => 44
  | 113 => 70
  | 114 => 0
  | 115 => 94
  | 116 => 0
  | 117 => 0
  | 118 => 70
  | 119 => 0
  | 120 => 22
  | 121 => 119
  | 122 => 0
  | 123 => 70
  | 124 => 47
  | 125 => 96
  | 126 => 94
  | 127 => 94
  | 128 => 43
  | 129 => 0
  | 130 => 0
  | 131 => 21
  | 132 => 44
  | 133 => 29
  | 134 => 0
  | 135 => 0
  | 136 => 22
  | 137 => 94
  | 138 => 70
  | 139 => 22
  | 140 => 46
  | 141 => 45
  | 142 => 118
  | 143 => 22
  | 144 => 119
  | 145 => 119
  | 146 => 96
  | 147 => 94
  | 148 => 94
  | 149 => 67
  | 150 => 94
  | 151 => 70
  | 152 => 45
  | 153 => 71
  | 154 => 0
  | 155 => 70
  | 156 => 0
  | 157 => 175
  | _ => 0
def q_ownC (n : Nat) : String := match n with
  | 0 => "WithoutThem$Rows"
  | 1 => "WithoutThem$House"
  | 2 => "WithoutThem$Orders"
  | 3 => "WithoutThem$Reader"
  | 4 => "WithoutThem$Search"
  | 5 => "WithoutThem$Seeker"
  | 6 => "WithoutThem$Fraction"
  | 7 => "WithoutThem"
  | 8 => "WithoutThemModel"
  | 9 => "java/lang/Integer"
  | 10 => "java/lang/Math"
  | 11 => "WithoutThemLaw"
  | _ => ""
/-! what the pool's entries name: fields (class, place; the word's place in lw_tbl), calls (method, arguments, receiver's class; the words' places), constants -/
def q_fl (n : Nat) : List (Nat × (Nat × Nat × Nat)) := match n with
  | 1 => [(9, (0, 0, 68)), (15, (0, 1, 69)), (18, (0, 2, 70)), (21, (0, 3, 73)), (24, (0, 4, 76)), (27, (0, 5, 77)), (36, (0, 6, 79)), (40, (0, 7, 86)), (43, (0, 8, 88))]
  | 2 => [(9, (1, 0, 145)), (15, (1, 1, 146)), (18, (1, 2, 147)), (25, (1, 3, 148)), (29, (1, 4, 150)), (33, (1, 5, 152)), (36, (0, 7, 84)), (59, (0, 6, 80)), (74, (0, 2, 72))]
  | 3 => [(9, (2, 0, 116)), (15, (2, 1, 117)), (25, (2, 2, 119)), (36, (2, 3, 120)), (39, (2, 4, 121)), (42, (2, 5, 122)), (45, (2, 6, 123)), (58, (0, 3, 75))]
  | 4 => [(15, (0, 6, 78)), (19, (0, 7, 85))]
  | 5 => [(9, (0, 7, 83)), (28, (0, 2, 71)), (42, (0, 6, 81)), (54, (0, 3, 74))]
  | 7 => [(10, (3, 0, 167)), (16, (3, 1, 168)), (19, (3, 2, 169)), (25, (3, 3, 170)), (32, (3, 4, 171)), (36, (3, 5, 172)), (40, (3, 6, 173)), (43, (3, 7, 174)), (47, (3, 8, 175)), (100, (0, 7, 87)), (107, (0, 8, 89)), (129, (1, 3, 149)), (132, (1, 4, 151)), (135, (1, 5, 153)), (224, (0, 6, 82)), (233, (2, 1, 118))]
  | 8 => [(7, (4, 0, 599)), (13, (4, 1, 600)), (16, (4, 2, 601)), (19, (4, 3, 602)), (22, (4, 4, 603)), (25, (4, 5, 604)), (28, (4, 6, 605)), (31, (4, 10, 609)), (34, (4, 11, 610)), (37, (4, 12, 611)), (40, (4, 13, 612)), (43, (4, 17, 616)), (46, (4, 21, 620)), (49, (4, 22, 621)), (52, (4, 23, 622)), (55, (4, 24, 623)), (60, (4, 7, 606)), (72, (4, 14, 613)), (79, (4, 15, 614)), (97, (4, 16, 615)), (109, (4, 8, 607)), (123, (4, 19, 618)), (127, (4, 20, 619)), (137, (4, 9, 608)), (140, (4, 18, 617)), (217, (4, 25, 624))]
  | _ => []
def q_cl (n : Nat) : List (Nat × ((Nat × Nat × Option Nat) × (Nat × Nat × Nat × Nat))) := match n with
  | 1 => [(30, ((0, 2, none), (226, 227, 0, 48))), (46, ((9, 1, some 0), (376, 377, 378, 44))), (50, ((1, 2, none), (296, 204, 0, 48))), (54, ((13, 3, some 0), (318, 319, 320, 44))), (58, ((2, 3, none), (280, 207, 0, 48))), (62, ((18, 3, none), (293, 294, 0, 44))), (66, ((156, 1, none), (322, 323, 0, 49))), (72, ((11, 2, some 0), (350, 282, 283, 44))), (81, ((5, 3, some 0), (367, 347, 348, 44))), (85, ((15, 3, some 0), (388, 389, 390, 44))), (88, ((12, 2, some 0), (392, 364, 365, 44))), (93, ((57, 3, none), (442, 428, 0, 51)))]
  | 2 => [(21, ((27, 3, some 1), (401, 403, 10, 46))), (41, ((9, 1, some 0), (405, 377, 378, 44))), (45, ((1, 2, none), (407, 204, 0, 48))), (51, ((2, 3, none), (406, 207, 0, 48))), (55, ((12, 2, some 0), (408, 364, 365, 44))), (62, ((26, 5, some 1), (409, 411, 11, 46))), (66, ((24, 4, none), (413, 414, 0, 46))), (70, ((13, 3, some 0), (416, 319, 320, 44))), (77, ((22, 3, some 1), (519, 500, 501, 46))), (81, ((156, 1, none), (520, 323, 0, 49)))]
  | 3 => [(19, ((2, 3, none), (217, 207, 0, 48))), (28, ((39, 1, some 2), (233, 235, 1, 45))), (32, ((43, 2, some 2), (272, 274, 9, 45))), (48, ((3, 4, some 0), (276, 277, 278, 44))), (54, ((11, 2, some 0), (281, 282, 283, 44))), (61, ((21, 2, some 0), (285, 286, 287, 44))), (65, ((20, 3, some 0), (289, 290, 291, 44))), (69, ((19, 3, some 0), (297, 298, 299, 44))), (72, ((31, 1, some 2), (237, 239, 2, 45))), (76, ((40, 1, some 2), (241, 243, 3, 45))), (79, ((34, 2, some 2), (256, 258, 6, 45))), (82, ((36, 1, some 2), (260, 262, 7, 45))), (85, ((38, 1, some 2), (264, 266, 8, 45))), (88, ((33, 1, none), (245, 246, 0, 45))), (91, ((37, 1, some 2), (248, 250, 4, 45))), (94, ((35, 1, some 2), (252, 254, 5, 45)))]
  | 4 => [(9, ((4, 1, some 0), (450, 451, 452, 44))), (22, ((14, 2, some 0), (454, 385, 386, 44))), (26, ((9, 1, some 0), (462, 377, 378, 44))), (29, ((8, 2, some 0), (463, 464, 465, 44))), (32, ((156, 1, none), (475, 323, 0, 49))), (37, ((15, 3, some 0), (490, 389, 390, 44))), (41, ((1, 2, none), (567, 204, 0, 48))), (47, ((5, 3, some 0), (568, 347, 348, 44)))]
  | 5 => [(15, ((51, 3, none), (539, 540, 0, 53))), (21, ((13, 3, some 0), (546, 319, 320, 44))), (32, ((1, 2, none), (547, 204, 0, 48))), (38, ((12, 2, some 0), (542, 364, 365, 44))), (45, ((54, 4, none), (543, 544, 0, 53))), (49, ((156, 1, none), (548, 323, 0, 49)))]
  | 6 => [(7, ((56, 2, none), (430, 431, 0, 51)))]
  | 7 => [(51, ((79, 2, some 3), (199, 201, 0, 43))), (55, ((32, 1, some 2), (209, 210, 211, 45))), (59, ((30, 2, some 2), (213, 214, 215, 45))), (62, ((7, 2, some 0), (222, 223, 224, 44))), (66, ((41, 1, some 2), (229, 230, 231, 45))), (69, ((42, 2, some 2), (268, 269, 270, 45))), (73, ((28, 1, some 2), (301, 302, 303, 45))), (77, ((29, 1, some 2), (305, 306, 307, 45))), (80, ((11, 2, some 0), (313, 282, 283, 44))), (84, ((17, 3, some 0), (314, 315, 316, 44))), (88, ((66, 1, none), (332, 333, 0, 43))), (91, ((20, 3, some 0), (335, 290, 291, 44))), (94, ((19, 3, some 0), (336, 298, 299, 44))), (97, ((21, 2, some 0), (341, 286, 287, 44))), (103, ((5, 3, some 0), (346, 347, 348, 44))), (110, ((13, 3, some 0), (354, 319, 320, 44))), (113, ((16, 2, some 0), (355, 356, 357, 44))), (116, ((12, 2, some 0), (363, 364, 365, 44))), (119, ((10, 2, some 0), (372, 373, 374, 44))), (122, ((14, 2, some 0), (384, 385, 386, 44))), (125, ((25, 4, some 1), (397, 398, 399, 46))), (138, ((80, 2, some 3), (421, 423, 12, 43))), (144, ((57, 3, none), (427, 428, 0, 51))), (150, ((6, 3, some 0), (437, 438, 439, 44))), (154, ((50, 1, none), (447, 448, 0, 52))), (159, ((45, 1, none), (459, 460, 0, 52))), (162, ((8, 2, some 0), (467, 464, 465, 44))), (165, ((46, 1, none), (472, 473, 0, 52))), (168, ((44, 1, none), (480, 481, 0, 52))), (171, ((48, 2, none), (487, 488, 0, 52))), (175, ((78, 2, some 3), (495, 497, 13, 43))), (178, ((22, 3, some 1), (499, 500, 501, 46))), (181, ((49, 2, none), (507, 508, 0, 52))), (184, ((156, 1, none), (514, 323, 0, 49))), (189, ((23, 4, some 1), (515, 516, 517, 46))), (200, ((67, 1, none), (533, 534, 0, 43))), (203, ((55, 3, none), (536, 537, 0, 53))), (208, ((53, 2, none), (553, 554, 0, 53))), (211, ((2, 3, none), (206, 207, 0, 48))), (217, ((47, 3, none), (564, 565, 0, 52))), (221, ((52, 3, none), (573, 574, 0, 53))), (227, ((4, 1, some 0), (591, 451, 452, 44))), (230, ((9, 1, some 0), (592, 377, 378, 44))), (236, ((1, 2, none), (203, 204, 0, 48)))]
  | 8 => [(64, ((116, 2, some 4), (739, 741, 25, 47))), (68, ((96, 3, none), (682, 683, 0, 47))), (75, ((130, 2, some 4), (685, 687, 14, 47))), (82, ((129, 1, some 4), (697, 699, 16, 47))), (86, ((114, 3, none), (712, 713, 0, 47))), (90, ((119, 1, none), (705, 706, 0, 47))), (93, ((139, 3, some 4), (708, 710, 18, 47))), (100, ((140, 2, some 4), (701, 703, 17, 47))), (103, ((99, 2, some 4), (731, 733, 23, 47))), (106, ((93, 3, some 4), (735, 737, 24, 47))), (112, ((149, 1, some 4), (693, 695, 15, 47))), (116, ((136, 3, some 4), (715, 717, 19, 47))), (120, ((98, 2, some 4), (727, 729, 22, 47))), (130, ((135, 2, some 4), (719, 721, 20, 47))), (134, ((134, 2, some 4), (723, 725, 21, 47))), (143, ((95, 1, none), (762, 763, 0, 47))), (146, ((110, 2, none), (759, 760, 0, 47))), (149, ((97, 3, some 4), (781, 783, 28, 47))), (152, ((124, 2, some 4), (777, 779, 27, 47))), (155, ((107, 3, some 4), (755, 757, 26, 47))), (159, ((92, 2, some 4), (793, 795, 29, 47))), (162, ((138, 3, some 4), (801, 803, 30, 47))), (165, ((154, 1, some 4), (813, 815, 32, 47))), (169, ((141, 4, some 4), (818, 820, 33, 47))), (173, ((105, 3, some 4), (809, 811, 31, 47))), (176, ((102, 2, none), (835, 836, 0, 47))), (180, ((122, 2, some 4), (826, 828, 34, 47))), (186, ((133, 3, none), (832, 833, 0, 47))), (192, ((115, 3, some 4), (847, 849, 35, 47))), (195, ((100, 2, some 4), (855, 857, 36, 47))), (198, ((117, 3, some 4), (883, 885, 39, 47))), (201, ((131, 2, some 4), (875, 877, 37, 47))), (204, ((106, 2, some 4), (879, 881, 38, 47))), (210, ((113, 5, some 4), (908, 910, 41, 47))), (214, ((147, 3, some 4), (904, 906, 40, 47)))]
  | 11 => [(13, ((69, 2, some 3), (195, 196, 197, 43))), (17, ((120, 2, some 4), (678, 679, 680, 47))), (18, ((64, 1, some 3), (218, 219, 220, 43))), (22, ((111, 1, some 4), (689, 690, 691, 47))), (23, ((89, 3, some 3), (309, 310, 311, 43))), (27, ((152, 3, some 4), (751, 752, 753, 47))), (28, ((75, 4, some 3), (328, 329, 330, 43))), (32, ((128, 4, some 4), (765, 766, 767, 47))), (33, ((63, 2, some 3), (337, 338, 339, 43))), (36, ((109, 2, some 4), (769, 770, 771, 47))), (37, ((88, 2, some 3), (342, 343, 344, 43))), (40, ((151, 2, some 4), (773, 774, 775, 47))), (41, ((71, 1, some 3), (359, 360, 361, 43))), (44, ((123, 1, some 4), (785, 786, 787, 47))), (45, ((91, 2, some 3), (368, 369, 370, 43))), (48, ((155, 2, some 4), (789, 790, 791, 47))), (49, ((77, 1, some 3), (380, 381, 382, 43))), (52, ((137, 1, some 4), (797, 798, 799, 47))), (53, ((85, 3, some 3), (393, 394, 395, 43))), (56, ((146, 3, some 4), (805, 806, 807, 47))), (57, ((72, 3, some 3), (417, 418, 419, 43))), (61, ((125, 3, some 4), (822, 823, 824, 47))), (62, ((87, 2, some 3), (433, 434, 435, 43))), (66, ((150, 2, some 4), (838, 839, 840, 47))), (67, ((81, 1, some 3), (443, 444, 445, 43))), (70, ((142, 1, some 4), (843, 844, 845, 47))), (71, ((58, 2, some 3), (455, 456, 457, 43))), (74, ((94, 2, some 4), (851, 852, 853, 47))), (75, ((74, 1, some 3), (468, 469, 470, 43))), (78, ((127, 1, some 4), (859, 860, 861, 47))), (79, ((86, 1, some 3), (476, 477, 478, 43))), (82, ((148, 1, some 4), (863, 864, 865, 47))), (83, ((60, 2, some 3), (483, 484, 485, 43))), (86, ((103, 2, some 4), (867, 868, 869, 47))), (87, ((90, 2, some 3), (491, 492, 493, 43))), (90, ((153, 2, some 4), (871, 872, 873, 47))), (91, ((73, 2, some 3), (503, 504, 505, 43))), (94, ((126, 2, some 4), (887, 888, 889, 47))), (95, ((62, 3, some 3), (510, 511, 512, 43))), (98, ((108, 3, some 4), (891, 892, 893, 47))), (99, ((61, 4, some 3), (521, 522, 523, 43))), (103, ((104, 4, some 4), (895, 896, 897, 47))), (104, ((83, 3, some 3), (529, 530, 531, 43))), (107, ((144, 3, some 4), (900, 901, 902, 47))), (108, ((84, 2, some 3), (549, 550, 551, 43))), (111, ((145, 2, some 4), (912, 913, 914, 47))), (112, ((82, 2, some 3), (556, 557, 558, 43))), (115, ((143, 2, some 4), (916, 917, 918, 47))), (116, ((68, 1, some 3), (560, 561, 562, 43))), (119, ((118, 1, some 4), (920, 921, 922, 47))), (120, ((70, 3, some 3), (569, 570, 571, 43))), (123, ((121, 3, some 4), (924, 925, 926, 47))), (124, ((65, 1, some 3), (579, 580, 581, 43))), (127, ((112, 1, some 4), (743, 744, 745, 47))), (128, ((76, 1, some 3), (583, 584, 585, 43))), (131, ((132, 1, some 4), (747, 748, 749, 47))), (132, ((59, 2, some 3), (587, 588, 589, 43))), (135, ((101, 2, some 4), (931, 932, 933, 47)))]
  | _ => []
def q_cs (n : Nat) : List (Nat × (Value × Nat)) := match n with
  | 1 => [(91, (.long 10, 441))]
  | 5 => [(25, (.int 1664525, 576)), (26, (.int 1013904223, 577)), (27, (.int 2147483647, 578))]
  | 7 => [(142, (.long 2520, 426)), (198, (.long 2, 528)), (240, (.long 4000000000000000000, 425))]
  | 8 => [(58, (.long 4000000000000000000, 830)), (168, (.int 100000000, 817)), (184, (.long 2520, 831)), (190, (.long 10, 842)), (208, (.long 2, 899)), (220, (.int 1664525, 928)), (221, (.int 1013904223, 929)), (222, (.int 2147483647, 930))]
  | 9 => [(265, (.int 1431655765, 325)), (266, (.int 858993459, 326)), (267, (.int 252645135, 327))]
  | _ => []
/-- Math.min (true), Math.max (false) -/
def q_ml (n : Nat) : List (Nat × (Bool × Nat)) := match n with
  | 1 => [(76, (true, 351))]
  | 7 => [(193, (false, 525))]
  | _ => []
def q_cp (y : Nat) : Nat := match y with
  | 0 => 228
  | 1 => 205
  | 2 => 208
  | 3 => 279
  | 4 => 453
  | 5 => 349
  | 6 => 440
  | 7 => 225
  | 8 => 466
  | 9 => 379
  | 10 => 375
  | 11 => 284
  | 12 => 366
  | 13 => 321
  | 14 => 387
  | 15 => 391
  | 16 => 358
  | 17 => 317
  | 18 => 295
  | 19 => 300
  | 20 => 292
  | 21 => 288
  | 22 => 502
  | 23 => 518
  | 24 => 415
  | 25 => 400
  | 26 => 412
  | 27 => 404
  | 28 => 304
  | 29 => 308
  | 30 => 216
  | 31 => 240
  | 32 => 212
  | 33 => 247
  | 34 => 259
  | 35 => 255
  | 36 => 263
  | 37 => 251
  | 38 => 267
  | 39 => 236
  | 40 => 244
  | 41 => 232
  | 42 => 271
  | 43 => 275
  | 44 => 482
  | 45 => 461
  | 46 => 474
  | 47 => 566
  | 48 => 489
  | 49 => 509
  | 50 => 449
  | 51 => 541
  | 52 => 575
  | 53 => 555
  | 54 => 545
  | 55 => 538
  | 56 => 432
  | 57 => 429
  | 58 => 458
  | 59 => 590
  | 60 => 486
  | 61 => 524
  | 62 => 513
  | 63 => 340
  | 64 => 221
  | 65 => 582
  | 66 => 334
  | 67 => 535
  | 68 => 563
  | 69 => 198
  | 70 => 572
  | 71 => 362
  | 72 => 420
  | 73 => 506
  | 74 => 471
  | 75 => 331
  | 76 => 586
  | 77 => 383
  | 78 => 498
  | 79 => 202
  | 80 => 424
  | 81 => 446
  | 82 => 559
  | 83 => 532
  | 84 => 552
  | 85 => 396
  | 86 => 479
  | 87 => 436
  | 88 => 345
  | 89 => 312
  | 90 => 494
  | 91 => 371
  | 92 => 796
  | 93 => 738
  | 94 => 854
  | 95 => 764
  | 96 => 684
  | 97 => 784
  | 98 => 730
  | 99 => 734
  | 100 => 858
  | 101 => 934
  | 102 => 837
  | 103 => 870
  | 104 => 898
  | 105 => 812
  | 106 => 882
  | 107 => 758
  | 108 => 894
  | 109 => 772
  | 110 => 761
  | 111 => 692
  | 112 => 746
  | 113 => 911
  | 114 => 714
  | 115 => 850
  | 116 => 742
  | 117 => 886
  | 118 => 923
  | 119 => 707
  | 120 => 681
  | 121 => 927
  | 122 => 829
  | 123 => 788
  | 124 => 780
  | 125 => 825
  | 126 => 890
  | 127 => 862
  | 128 => 768
  | 129 => 700
  | 130 => 688
  | 131 => 878
  | 132 => 750
  | 133 => 834
  | 134 => 726
  | 135 => 722
  | 136 => 718
  | 137 => 800
  | 138 => 804
  | 139 => 711
  | 140 => 704
  | 141 => 821
  | 142 => 846
  | 143 => 919
  | 144 => 903
  | 145 => 915
  | 146 => 808
  | 147 => 907
  | 148 => 866
  | 149 => 696
  | 150 => 841
  | 151 => 776
  | 152 => 754
  | 153 => 874
  | 154 => 816
  | 155 => 792
  | 156 => 324
  | _ => 0
def q_nM : Nat := 157
def q_own (y : Nat) : String := q_ownC (q_cn y)
def q_fld (y i : Nat) : Option (Nat × Nat) := ((q_fl (q_cn y)).lookup i).map fun e => (e.1, e.2.1)
def q_tgt (y i : Nat) : Option (Nat × Nat × Option Nat) := ((q_cl (q_cn y)).lookup i).map fun e => e.1
def q_mm (y i : Nat) : Option Bool := ((q_ml (q_cn y)).lookup i).map fun e => e.1
def q_mfit (y : Nat) : Bool := decide (1 ≤ q_fr y) && decide (21 ≤ q_lo y)
def q_ldc (y i : Nat) : Option Value := ((q_cs (q_cn y)).lookup i).map fun e => e.1
def q_fchk (n : Nat) (e : Nat × (Nat × Nat × Nat)) : Bool := match vwCl[e.2.1]? with
  | some r => decide (e.2.2.1 < r.2.2) && decide (lw_tbl[e.2.2.2]? = some (Cond.fieldLink (q_ownC n) e.1 (r.2.1 e.2.2.1).1 (r.2.1 e.2.2.1).2.1 (r.2.1 e.2.2.1).2.2.1))
  | none => false
def q_cchk (n : Nat) (e : Nat × ((Nat × Nat × Option Nat) × (Nat × Nat × Nat × Nat))) : Bool :=
  decide (e.2.1.1 < q_nM) && (decide ((parseMethodDescriptor (q_name e.2.1.1).desc).map (fun d => d.parameters.length) = some (match e.2.1.2.2 with
    | some _ => e.2.1.2.1 - 1
    | none => e.2.1.2.1)) && (decide (lw_tbl[e.2.2.1]? = some (Cond.methodLink (q_ownC n) e.1 (q_name e.2.1.1))) && (decide (lw_tbl[e.2.2.2.2.2]? = some (Cond.initialized (q_name e.2.1.1).cls)) && (match e.2.1.2.2 with
    | some ci => decide (0 < e.2.1.2.1) && (decide ((vwCl[ci]?).map (fun r => r.1) = some (q_name e.2.1.1).cls) && (decide (lw_tbl[e.2.2.2.1]? = some (Cond.instanceMethod (q_name e.2.1.1))) && decide (lw_tbl[e.2.2.2.2.1]? = some (Cond.selects (q_name e.2.1.1).cls (q_name e.2.1.1) (q_name e.2.1.1)))))
    | none => decide (lw_tbl[e.2.2.2.1]? = some (Cond.static (q_name e.2.1.1)))))))
def q_mn (b : Bool) : MethodName := match b with
  | true => Lib.Math.min.name
  | false => Lib.Math.max.name
def q_mchk (n : Nat) (e : Nat × (Bool × Nat)) : Bool := decide (lw_tbl[e.2.2]? = some (Cond.methodLink (q_ownC n) e.1 (q_mn e.2.1)))
def q_schk (n : Nat) (e : Nat × (Value × Nat)) : Bool := match e.2.1 with
  | .int v => decide (lw_tbl[e.2.2]? = some (Cond.constant (q_ownC n) e.1 v))
  | .long v => decide (lw_tbl[e.2.2]? = some (Cond.constantLong (q_ownC n) e.1 v))
  | _ => false
theorem q_fok_1 : (q_fl 1).all (q_fchk 1) = true := by decide +kernel
theorem q_cok_1 : (q_cl 1).all (q_cchk 1) = true := by decide +kernel
theorem q_sok_1 : (q_cs 1).all (q_schk 1) = true := by decide +kernel
theorem q_fok_2 : (q_fl 2).all (q_fchk 2) = true := by decide +kernel
theorem q_cok_2 : (q_cl 2).all (q_cchk 2) = true := by decide +kernel
theorem q_fok_3 : (q_fl 3).all (q_fchk 3) = true := by decide +kernel
theorem q_cok_3 : (q_cl 3).all (q_cchk 3) = true := by decide +kernel
theorem q_fok_4 : (q_fl 4).all (q_fchk 4) = true := by decide +kernel
theorem q_cok_4 : (q_cl 4).all (q_cchk 4) = true := by decide +kernel
theorem q_fok_5 : (q_fl 5).all (q_fchk 5) = true := by decide +kernel
theorem q_cok_5 : (q_cl 5).all (q_cchk 5) = true := by decide +kernel
theorem q_sok_5 : (q_cs 5).all (q_schk 5) = true := by decide +kernel
theorem q_cok_6 : (q_cl 6).all (q_cchk 6) = true := by decide +kernel
theorem q_fok_7 : (q_fl 7).all (q_fchk 7) = true := by decide +kernel
theorem q_cok_7 : (q_cl 7).all (q_cchk 7) = true := by decide +kernel
theorem q_sok_7 : (q_cs 7).all (q_schk 7) = true := by decide +kernel
theorem q_fok_8 : (q_fl 8).all (q_fchk 8) = true := by decide +kernel
theorem q_cok_8 : (q_cl 8).all (q_cchk 8) = true := by decide +kernel
theorem q_sok_8 : (q_cs 8).all (q_schk 8) = true := by decide +kernel
theorem q_sok_9 : (q_cs 9).all (q_schk 9) = true := by decide +kernel
theorem q_cok_11 : (q_cl 11).all (q_cchk 11) = true := by decide +kernel
def q_fits (y t : Nat) : Bool := decide (q_fr t + 1 ≤ q_fr y) && decide (8 + (q_maxL t + 11) + q_lo t ≤ q_lo y)
theorem q_cw_0 : lw_tbl[q_cp 0]? = some (Cond.code (q_name 0) (q_code 0) (q_maxL 0) (q_ret 0)) := by decide +kernel
theorem q_cw_1 : lw_tbl[q_cp 1]? = some (Cond.code (q_name 1) (q_code 1) (q_maxL 1) (q_ret 1)) := by decide +kernel
theorem q_cw_2 : lw_tbl[q_cp 2]? = some (Cond.code (q_name 2) (q_code 2) (q_maxL 2) (q_ret 2)) := by decide +kernel
theorem q_cw_3 : lw_tbl[q_cp 3]? = some (Cond.code (q_name 3) (q_code 3) (q_maxL 3) (q_ret 3)) := by decide +kernel
theorem q_cw_4 : lw_tbl[q_cp 4]? = some (Cond.code (q_name 4) (q_code 4) (q_maxL 4) (q_ret 4)) := by decide +kernel
theorem q_cw_5 : lw_tbl[q_cp 5]? = some (Cond.code (q_name 5) (q_code 5) (q_maxL 5) (q_ret 5)) := by decide +kernel
theorem q_cw_6 : lw_tbl[q_cp 6]? = some (Cond.code (q_name 6) (q_code 6) (q_maxL 6) (q_ret 6)) := by decide +kernel
theorem q_cw_7 : lw_tbl[q_cp 7]? = some (Cond.code (q_name 7) (q_code 7) (q_maxL 7) (q_ret 7)) := by decide +kernel
theorem q_cw_8 : lw_tbl[q_cp 8]? = some (Cond.code (q_name 8) (q_code 8) (q_maxL 8) (q_ret 8)) := by decide +kernel
theorem q_cw_9 : lw_tbl[q_cp 9]? = some (Cond.code (q_name 9) (q_code 9) (q_maxL 9) (q_ret 9)) := by decide +kernel
theorem q_cw_10 : lw_tbl[q_cp 10]? = some (Cond.code (q_name 10) (q_code 10) (q_maxL 10) (q_ret 10)) := by decide +kernel
theorem q_cw_11 : lw_tbl[q_cp 11]? = some (Cond.code (q_name 11) (q_code 11) (q_maxL 11) (q_ret 11)) := by decide +kernel
theorem q_cw_12 : lw_tbl[q_cp 12]? = some (Cond.code (q_name 12) (q_code 12) (q_maxL 12) (q_ret 12)) := by decide +kernel
theorem q_cw_13 : lw_tbl[q_cp 13]? = some (Cond.code (q_name 13) (q_code 13) (q_maxL 13) (q_ret 13)) := by decide +kernel
theorem q_cw_14 : lw_tbl[q_cp 14]? = some (Cond.code (q_name 14) (q_code 14) (q_maxL 14) (q_ret 14)) := by decide +kernel
theorem q_cw_15 : lw_tbl[q_cp 15]? = some (Cond.code (q_name 15) (q_code 15) (q_maxL 15) (q_ret 15)) := by decide +kernel
theorem q_cw_16 : lw_tbl[q_cp 16]? = some (Cond.code (q_name 16) (q_code 16) (q_maxL 16) (q_ret 16)) := by decide +kernel
theorem q_cw_17 : lw_tbl[q_cp 17]? = some (Cond.code (q_name 17) (q_code 17) (q_maxL 17) (q_ret 17)) := by decide +kernel
theorem q_cw_18 : lw_tbl[q_cp 18]? = some (Cond.code (q_name 18) (q_code 18) (q_maxL 18) (q_ret 18)) := by decide +kernel
theorem q_cw_19 : lw_tbl[q_cp 19]? = some (Cond.code (q_name 19) (q_code 19) (q_maxL 19) (q_ret 19)) := by decide +kernel
theorem q_cw_20 : lw_tbl[q_cp 20]? = some (Cond.code (q_name 20) (q_code 20) (q_maxL 20) (q_ret 20)) := by decide +kernel
theorem q_cw_21 : lw_tbl[q_cp 21]? = some (Cond.code (q_name 21) (q_code 21) (q_maxL 21) (q_ret 21)) := by decide +kernel
theorem q_cw_22 : lw_tbl[q_cp 22]? = some (Cond.code (q_name 22) (q_code 22) (q_maxL 22) (q_ret 22)) := by decide +kernel
theorem q_cw_23 : lw_tbl[q_cp 23]? = some (Cond.code (q_name 23) (q_code 23) (q_maxL 23) (q_ret 23)) := by decide +kernel
theorem q_cw_24 : lw_tbl[q_cp 24]? = some (Cond.code (q_name 24) (q_code 24) (q_maxL 24) (q_ret 24)) := by decide +kernel
theorem q_cw_25 : lw_tbl[q_cp 25]? = some (Cond.code (q_name 25) (q_code 25) (q_maxL 25) (q_ret 25)) := by decide +kernel
theorem q_cw_26 : lw_tbl[q_cp 26]? = some (Cond.code (q_name 26) (q_code 26) (q_maxL 26) (q_ret 26)) := by decide +kernel
theorem q_cw_27 : lw_tbl[q_cp 27]? = some (Cond.code (q_name 27) (q_code 27) (q_maxL 27) (q_ret 27)) := by decide +kernel
theorem q_cw_28 : lw_tbl[q_cp 28]? = some (Cond.code (q_name 28) (q_code 28) (q_maxL 28) (q_ret 28)) := by decide +kernel
theorem q_cw_29 : lw_tbl[q_cp 29]? = some (Cond.code (q_name 29) (q_code 29) (q_maxL 29) (q_ret 29)) := by decide +kernel
theorem q_cw_30 : lw_tbl[q_cp 30]? = some (Cond.code (q_name 30) (q_code 30) (q_maxL 30) (q_ret 30)) := by decide +kernel
theorem q_cw_31 : lw_tbl[q_cp 31]? = some (Cond.code (q_name 31) (q_code 31) (q_maxL 31) (q_ret 31)) := by decide +kernel
theorem q_cw_32 : lw_tbl[q_cp 32]? = some (Cond.code (q_name 32) (q_code 32) (q_maxL 32) (q_ret 32)) := by decide +kernel
theorem q_cw_33 : lw_tbl[q_cp 33]? = some (Cond.code (q_name 33) (q_code 33) (q_maxL 33) (q_ret 33)) := by decide +kernel
theorem q_cw_34 : lw_tbl[q_cp 34]? = some (Cond.code (q_name 34) (q_code 34) (q_maxL 34) (q_ret 34)) := by decide +kernel
theorem q_cw_35 : lw_tbl[q_cp 35]? = some (Cond.code (q_name 35) (q_code 35) (q_maxL 35) (q_ret 35)) := by decide +kernel
theorem q_cw_36 : lw_tbl[q_cp 36]? = some (Cond.code (q_name 36) (q_code 36) (q_maxL 36) (q_ret 36)) := by decide +kernel
theorem q_cw_37 : lw_tbl[q_cp 37]? = some (Cond.code (q_name 37) (q_code 37) (q_maxL 37) (q_ret 37)) := by decide +kernel
theorem q_cw_38 : lw_tbl[q_cp 38]? = some (Cond.code (q_name 38) (q_code 38) (q_maxL 38) (q_ret 38)) := by decide +kernel
theorem q_cw_39 : lw_tbl[q_cp 39]? = some (Cond.code (q_name 39) (q_code 39) (q_maxL 39) (q_ret 39)) := by decide +kernel
theorem q_cw_40 : lw_tbl[q_cp 40]? = some (Cond.code (q_name 40) (q_code 40) (q_maxL 40) (q_ret 40)) := by decide +kernel
theorem q_cw_41 : lw_tbl[q_cp 41]? = some (Cond.code (q_name 41) (q_code 41) (q_maxL 41) (q_ret 41)) := by decide +kernel
theorem q_cw_42 : lw_tbl[q_cp 42]? = some (Cond.code (q_name 42) (q_code 42) (q_maxL 42) (q_ret 42)) := by decide +kernel
theorem q_cw_43 : lw_tbl[q_cp 43]? = some (Cond.code (q_name 43) (q_code 43) (q_maxL 43) (q_ret 43)) := by decide +kernel
theorem q_cw_44 : lw_tbl[q_cp 44]? = some (Cond.code (q_name 44) (q_code 44) (q_maxL 44) (q_ret 44)) := by decide +kernel
theorem q_cw_45 : lw_tbl[q_cp 45]? = some (Cond.code (q_name 45) (q_code 45) (q_maxL 45) (q_ret 45)) := by decide +kernel
theorem q_cw_46 : lw_tbl[q_cp 46]? = some (Cond.code (q_name 46) (q_code 46) (q_maxL 46) (q_ret 46)) := by decide +kernel
theorem q_cw_47 : lw_tbl[q_cp 47]? = some (Cond.code (q_name 47) (q_code 47) (q_maxL 47) (q_ret 47)) := by decide +kernel
theorem q_cw_48 : lw_tbl[q_cp 48]? = some (Cond.code (q_name 48) (q_code 48) (q_maxL 48) (q_ret 48)) := by decide +kernel
theorem q_cw_49 : lw_tbl[q_cp 49]? = some (Cond.code (q_name 49) (q_code 49) (q_maxL 49) (q_ret 49)) := by decide +kernel
theorem q_cw_50 : lw_tbl[q_cp 50]? = some (Cond.code (q_name 50) (q_code 50) (q_maxL 50) (q_ret 50)) := by decide +kernel
theorem q_cw_51 : lw_tbl[q_cp 51]? = some (Cond.code (q_name 51) (q_code 51) (q_maxL 51) (q_ret 51)) := by decide +kernel
theorem q_cw_52 : lw_tbl[q_cp 52]? = some (Cond.code (q_name 52) (q_code 52) (q_maxL 52) (q_ret 52)) := by decide +kernel
theorem q_cw_53 : lw_tbl[q_cp 53]? = some (Cond.code (q_name 53) (q_code 53) (q_maxL 53) (q_ret 53)) := by decide +kernel
theorem q_cw_54 : lw_tbl[q_cp 54]? = some (Cond.code (q_name 54) (q_code 54) (q_maxL 54) (q_ret 54)) := by decide +kernel
theorem q_cw_55 : lw_tbl[q_cp 55]? = some (Cond.code (q_name 55) (q_code 55) (q_maxL 55) (q_ret 55)) := by decide +kernel
theorem q_cw_56 : lw_tbl[q_cp 56]? = some (Cond.code (q_name 56) (q_code 56) (q_maxL 56) (q_ret 56)) := by decide +kernel
theorem q_cw_57 : lw_tbl[q_cp 57]? = some (Cond.code (q_name 57) (q_code 57) (q_maxL 57) (q_ret 57)) := by decide +kernel
theorem q_cw_58 : lw_tbl[q_cp 58]? = some (Cond.code (q_name 58) (q_code 58) (q_maxL 58) (q_ret 58)) := by decide +kernel
theorem q_cw_59 : lw_tbl[q_cp 59]? = some (Cond.code (q_name 59) (q_code 59) (q_maxL 59) (q_ret 59)) := by decide +kernel
theorem q_cw_60 : lw_tbl[q_cp 60]? = some (Cond.code (q_name 60) (q_code 60) (q_maxL 60) (q_ret 60)) := by decide +kernel
theorem q_cw_61 : lw_tbl[q_cp 61]? = some (Cond.code (q_name 61) (q_code 61) (q_maxL 61) (q_ret 61)) := by decide +kernel
theorem q_cw_62 : lw_tbl[q_cp 62]? = some (Cond.code (q_name 62) (q_code 62) (q_maxL 62) (q_ret 62)) := by decide +kernel
theorem q_cw_63 : lw_tbl[q_cp 63]? = some (Cond.code (q_name 63) (q_code 63) (q_maxL 63) (q_ret 63)) := by decide +kernel
theorem q_cw_64 : lw_tbl[q_cp 64]? = some (Cond.code (q_name 64) (q_code 64) (q_maxL 64) (q_ret 64)) := by decide +kernel
theorem q_cw_65 : lw_tbl[q_cp 65]? = some (Cond.code (q_name 65) (q_code 65) (q_maxL 65) (q_ret 65)) := by decide +kernel
theorem q_cw_66 : lw_tbl[q_cp 66]? = some (Cond.code (q_name 66) (q_code 66) (q_maxL 66) (q_ret 66)) := by decide +kernel
theorem q_cw_67 : lw_tbl[q_cp 67]? = some (Cond.code (q_name 67) (q_code 67) (q_maxL 67) (q_ret 67)) := by decide +kernel
theorem q_cw_68 : lw_tbl[q_cp 68]? = some (Cond.code (q_name 68) (q_code 68) (q_maxL 68) (q_ret 68)) := by decide +kernel
theorem q_cw_69 : lw_tbl[q_cp 69]? = some (Cond.code (q_name 69) (q_code 69) (q_maxL 69) (q_ret 69)) := by decide +kernel
theorem q_cw_70 : lw_tbl[q_cp 70]? = some (Cond.code (q_name 70) (q_code 70) (q_maxL 70) (q_ret 70)) := by decide +kernel
theorem q_cw_71 : lw_tbl[q_cp 71]? = some (Cond.code (q_name 71) (q_code 71) (q_maxL 71) (q_ret 71)) := by decide +kernel
theorem q_cw_72 : lw_tbl[q_cp 72]? = some (Cond.code (q_name 72) (q_code 72) (q_maxL 72) (q_ret 72)) := by decide +kernel
theorem q_cw_73 : lw_tbl[q_cp 73]? = some (Cond.code (q_name 73) (q_code 73) (q_maxL 73) (q_ret 73)) := by decide +kernel
theorem q_cw_74 : lw_tbl[q_cp 74]? = some (Cond.code (q_name 74) (q_code 74) (q_maxL 74) (q_ret 74)) := by decide +kernel
theorem q_cw_75 : lw_tbl[q_cp 75]? = some (Cond.code (q_name 75) (q_code 75) (q_maxL 75) (q_ret 75)) := by decide +kernel
theorem q_cw_76 : lw_tbl[q_cp 76]? = some (Cond.code (q_name 76) (q_code 76) (q_maxL 76) (q_ret 76)) := by decide +kernel
theorem q_cw_77 : lw_tbl[q_cp 77]? = some (Cond.code (q_name 77) (q_code 77) (q_maxL 77) (q_ret 77)) := by decide +kernel
theorem q_cw_78 : lw_tbl[q_cp 78]? = some (Cond.code (q_name 78) (q_code 78) (q_maxL 78) (q_ret 78)) := by decide +kernel
theorem q_cw_79 : lw_tbl[q_cp 79]? = some (Cond.code (q_name 79) (q_code 79) (q_maxL 79) (q_ret 79)) := by decide +kernel
theorem q_cw_80 : lw_tbl[q_cp 80]? = some (Cond.code (q_name 80) (q_code 80) (q_maxL 80) (q_ret 80)) := by decide +kernel
theorem q_cw_81 : lw_tbl[q_cp 81]? = some (Cond.code (q_name 81) (q_code 81) (q_maxL 81) (q_ret 81)) := by decide +kernel
theorem q_cw_82 : lw_tbl[q_cp 82]? = some (Cond.code (q_name 82) (q_code 82) (q_maxL 82) (q_ret 82)) := by decide +kernel
theorem q_cw_83 : lw_tbl[q_cp 83]? = some (Cond.code (q_name 83) (q_code 83) (q_maxL 83) (q_ret 83)) := by decide +kernel
theorem q_cw_84 : lw_tbl[q_cp 84]? = some (Cond.code (q_name 84) (q_code 84) (q_maxL 84) (q_ret 84)) := by decide +kernel
theorem q_cw_85 : lw_tbl[q_cp 85]? = some (Cond.code (q_name 85) (q_code 85) (q_maxL 85) (q_ret 85)) := by decide +kernel
theorem q_cw_86 : lw_tbl[q_cp 86]? = some (Cond.code (q_name 86) (q_code 86) (q_maxL 86) (q_ret 86)) := by decide +kernel
theorem q_cw_87 : lw_tbl[q_cp 87]? = some (Cond.code (q_name 87) (q_code 87) (q_maxL 87) (q_ret 87)) := by decide +kernel
theorem q_cw_88 : lw_tbl[q_cp 88]? = some (Cond.code (q_name 88) (q_code 88) (q_maxL 88) (q_ret 88)) := by decide +kernel
theorem q_cw_89 : lw_tbl[q_cp 89]? = some (Cond.code (q_name 89) (q_code 89) (q_maxL 89) (q_ret 89)) := by decide +kernel
theorem q_cw_90 : lw_tbl[q_cp 90]? = some (Cond.code (q_name 90) (q_code 90) (q_maxL 90) (q_ret 90)) := by decide +kernel
theorem q_cw_91 : lw_tbl[q_cp 91]? = some (Cond.code (q_name 91) (q_code 91) (q_maxL 91) (q_ret 91)) := by decide +kernel
theorem q_cw_92 : lw_tbl[q_cp 92]? = some (Cond.code (q_name 92) (q_code 92) (q_maxL 92) (q_ret 92)) := by decide +kernel
theorem q_cw_93 : lw_tbl[q_cp 93]? = some (Cond.code (q_name 93) (q_code 93) (q_maxL 93) (q_ret 93)) := by decide +kernel
theorem q_cw_94 : lw_tbl[q_cp 94]? = some (Cond.code (q_name 94) (q_code 94) (q_maxL 94) (q_ret 94)) := by decide +kernel
theorem q_cw_95 : lw_tbl[q_cp 95]? = some (Cond.code (q_name 95) (q_code 95) (q_maxL 95) (q_ret 95)) := by decide +kernel
theorem q_cw_96 : lw_tbl[q_cp 96]? = some (Cond.code (q_name 96) (q_code 96) (q_maxL 96) (q_ret 96)) := by decide +kernel
theorem q_cw_97 : lw_tbl[q_cp 97]? = some (Cond.code (q_name 97) (q_code 97) (q_maxL 97) (q_ret 97)) := by decide +kernel
theorem q_cw_98 : lw_tbl[q_cp 98]? = some (Cond.code (q_name 98) (q_code 98) (q_maxL 98) (q_ret 98)) := by decide +kernel
theorem q_cw_99 : lw_tbl[q_cp 99]? = some (Cond.code (q_name 99) (q_code 99) (q_maxL 99) (q_ret 99)) := by decide +kernel
theorem q_cw_100 : lw_tbl[q_cp 100]? = some (Cond.code (q_name 100) (q_code 100) (q_maxL 100) (q_ret 100)) := by decide +kernel
theorem q_cw_101 : lw_tbl[q_cp 101]? = some (Cond.code (q_name 101) (q_code 101) (q_maxL 101) (q_ret 101)) := by decide +kernel
theorem q_cw_102 : lw_tbl[q_cp 102]? = some (Cond.code (q_name 102) (q_code 102) (q_maxL 102) (q_ret 102)) := by decide +kernel
theorem q_cw_103 : lw_tbl[q_cp 103]? = some (Cond.code (q_name 103) (q_code 103) (q_maxL 103) (q_ret 103)) := by decide +kernel
theorem q_cw_104 : lw_tbl[q_cp 104]? = some (Cond.code (q_name 104) (q_code 104) (q_maxL 104) (q_ret 104)) := by decide +kernel
theorem q_cw_105 : lw_tbl[q_cp 105]? = some (Cond.code (q_name 105) (q_code 105) (q_maxL 105) (q_ret 105)) := by decide +kernel
theorem q_cw_106 : lw_tbl[q_cp 106]? = some (Cond.code (q_name 106) (q_code 106) (q_maxL 106) (q_ret 106)) := by decide +kernel
theorem q_cw_107 : lw_tbl[q_cp 107]? = some (Cond.code (q_name 107) (q_code 107) (q_maxL 107) (q_ret 107)) := by decide +kernel
theorem q_cw_108 : lw_tbl[q_cp 108]? = some (Cond.code (q_name 108) (q_code 108) (q_maxL 108) (q_ret 108)) := by decide +kernel
theorem q_cw_109 : lw_tbl[q_cp 109]? = some (Cond.code (q_name 109) (q_code 109) (q_maxL 109) (q_ret 109)) := by decide +kernel
theorem q_cw_110 : lw_tbl[q_cp 110]? = some (Cond.code (q_name 110) (q_code 110) (q_maxL 110) (q_ret 110)) := by decide +kernel
theorem q_cw_111 : lw_tbl[q_cp 111]? = some (Cond.code (q_name 111) (q_code 111) (q_maxL 111) (q_ret 111)) := by decide +kernel
theorem q_cw_112 : lw_tbl[q_cp 112]? = some (Cond.code (q_name 112) (q_code 112) (q_maxL 112) (q_ret 112)) := by decide +kernel
theorem q_cw_113 : lw_tbl[q_cp 113]? = some (Cond.code (q_name 113) (q_code 113) (q_maxL 113) (q_ret 113)) := by decide +kernel
theorem q_cw_114 : lw_tbl[q_cp 114]? = some (Cond.code (q_name 114) (q_code 114) (q_maxL 114) (q_ret 114)) := by decide +kernel
theorem q_cw_115 : lw_tbl[q_cp 115]? = some (Cond.code (q_name 115) (q_code 115) (q_maxL 115) (q_ret 115)) := by decide +kernel
theorem q_cw_116 : lw_tbl[q_cp 116]? = some (Cond.code (q_name 116) (q_code 116) (q_maxL 116) (q_ret 116)) := by decide +kernel
theorem q_cw_117 : lw_tbl[q_cp 117]? = some (Cond.code (q_name 117) (q_code 117) (q_maxL 117) (q_ret 117)) := by decide +kernel
theorem q_cw_118 : lw_tbl[q_cp 118]? = some (Cond.code (q_name 118) (q_code 118) (q_maxL 118) (q_ret 118)) := by decide +kernel
theorem q_cw_119 : lw_tbl[q_cp 119]? = some (Cond.code (q_name 119) (q_code 119) (q_maxL 119) (q_ret 119)) := by decide +kernel
theorem q_cw_120 : lw_tbl[q_cp 120]? = some (Cond.code (q_name 120) (q_code 120) (q_maxL 120) (q_ret 120)) := by decide +kernel
theorem q_cw_121 : lw_tbl[q_cp 121]? = some (Cond.code (q_name 121) (q_code 121) (q_maxL 121) (q_ret 121)) := by decide +kernel
theorem q_cw_122 : lw_tbl[q_cp 122]? = some (Cond.code (q_name 122) (q_code 122) (q_maxL 122) (q_ret 122)) := by decide +kernel
theorem q_cw_123 : lw_tbl[q_cp 123]? = some (Cond.code (q_name 123) (q_code 123) (q_maxL 123) (q_ret 123)) := by decide +kernel
theorem q_cw_124 : lw_tbl[q_cp 124]? = some (Cond.code (q_name 124) (q_code 124) (q_maxL 124) (q_ret 124)) := by decide +kernel
theorem q_cw_125 : lw_tbl[q_cp 125]? = some (Cond.code (q_name 125) (q_code 125) (q_maxL 125) (q_ret 125)) := by decide +kernel
theorem q_cw_126 : lw_tbl[q_cp 126]? = some (Cond.code (q_name 126) (q_code 126) (q_maxL 126) (q_ret 126)) := by decide +kernel
theorem q_cw_127 : lw_tbl[q_cp 127]? = some (Cond.code (q_name 127) (q_code 127) (q_maxL 127) (q_ret 127)) := by decide +kernel
theorem q_cw_128 : lw_tbl[q_cp 128]? = some (Cond.code (q_name 128) (q_code 128) (q_maxL 128) (q_ret 128)) := by decide +kernel
theorem q_cw_129 : lw_tbl[q_cp 129]? = some (Cond.code (q_name 129) (q_code 129) (q_maxL 129) (q_ret 129)) := by decide +kernel
theorem q_cw_130 : lw_tbl[q_cp 130]? = some (Cond.code (q_name 130) (q_code 130) (q_maxL 130) (q_ret 130)) := by decide +kernel
theorem q_cw_131 : lw_tbl[q_cp 131]? = some (Cond.code (q_name 131) (q_code 131) (q_maxL 131) (q_ret 131)) := by decide +kernel
theorem q_cw_132 : lw_tbl[q_cp 132]? = some (Cond.code (q_name 132) (q_code 132) (q_maxL 132) (q_ret 132)) := by decide +kernel
theorem q_cw_133 : lw_tbl[q_cp 133]? = some (Cond.code (q_name 133) (q_code 133) (q_maxL 133) (q_ret 133)) := by decide +kernel
theorem q_cw_134 : lw_tbl[q_cp 134]? = some (Cond.code (q_name 134) (q_code 134) (q_maxL 134) (q_ret 134)) := by decide +kernel
theorem q_cw_135 : lw_tbl[q_cp 135]? = some (Cond.code (q_name 135) (q_code 135) (q_maxL 135) (q_ret 135)) := by decide +kernel
theorem q_cw_136 : lw_tbl[q_cp 136]? = some (Cond.code (q_name 136) (q_code 136) (q_maxL 136) (q_ret 136)) := by decide +kernel
theorem q_cw_137 : lw_tbl[q_cp 137]? = some (Cond.code (q_name 137) (q_code 137) (q_maxL 137) (q_ret 137)) := by decide +kernel
theorem q_cw_138 : lw_tbl[q_cp 138]? = some (Cond.code (q_name 138) (q_code 138) (q_maxL 138) (q_ret 138)) := by decide +kernel
theorem q_cw_139 : lw_tbl[q_cp 139]? = some (Cond.code (q_name 139) (q_code 139) (q_maxL 139) (q_ret 139)) := by decide +kernel
theorem q_cw_140 : lw_tbl[q_cp 140]? = some (Cond.code (q_name 140) (q_code 140) (q_maxL 140) (q_ret 140)) := by decide +kernel
theorem q_cw_141 : lw_tbl[q_cp 141]? = some (Cond.code (q_name 141) (q_code 141) (q_maxL 141) (q_ret 141)) := by decide +kernel
theorem q_cw_142 : lw_tbl[q_cp 142]? = some (Cond.code (q_name 142) (q_code 142) (q_maxL 142) (q_ret 142)) := by decide +kernel
theorem q_cw_143 : lw_tbl[q_cp 143]? = some (Cond.code (q_name 143) (q_code 143) (q_maxL 143) (q_ret 143)) := by decide +kernel
theorem q_cw_144 : lw_tbl[q_cp 144]? = some (Cond.code (q_name 144) (q_code 144) (q_maxL 144) (q_ret 144)) := by decide +kernel
theorem q_cw_145 : lw_tbl[q_cp 145]? = some (Cond.code (q_name 145) (q_code 145) (q_maxL 145) (q_ret 145)) := by decide +kernel
theorem q_cw_146 : lw_tbl[q_cp 146]? = some (Cond.code (q_name 146) (q_code 146) (q_maxL 146) (q_ret 146)) := by decide +kernel
theorem q_cw_147 : lw_tbl[q_cp 147]? = some (Cond.code (q_name 147) (q_code 147) (q_maxL 147) (q_ret 147)) := by decide +kernel
theorem q_cw_148 : lw_tbl[q_cp 148]? = some (Cond.code (q_name 148) (q_code 148) (q_maxL 148) (q_ret 148)) := by decide +kernel
theorem q_cw_149 : lw_tbl[q_cp 149]? = some (Cond.code (q_name 149) (q_code 149) (q_maxL 149) (q_ret 149)) := by decide +kernel
theorem q_cw_150 : lw_tbl[q_cp 150]? = some (Cond.code (q_name 150) (q_code 150) (q_maxL 150) (q_ret 150)) := by decide +kernel
theorem q_cw_151 : lw_tbl[q_cp 151]? = some (Cond.code (q_name 151) (q_code 151) (q_maxL 151) (q_ret 151)) := by decide +kernel
theorem q_cw_152 : lw_tbl[q_cp 152]? = some (Cond.code (q_name 152) (q_code 152) (q_maxL 152) (q_ret 152)) := by decide +kernel
theorem q_cw_153 : lw_tbl[q_cp 153]? = some (Cond.code (q_name 153) (q_code 153) (q_maxL 153) (q_ret 153)) := by decide +kernel
theorem q_cw_154 : lw_tbl[q_cp 154]? = some (Cond.code (q_name 154) (q_code 154) (q_maxL 154) (q_ret 154)) := by decide +kernel
theorem q_cw_155 : lw_tbl[q_cp 155]? = some (Cond.code (q_name 155) (q_code 155) (q_maxL 155) (q_ret 155)) := by decide +kernel
theorem q_cw_156 : lw_tbl[q_cp 156]? = some (Cond.code (q_name 156) (q_code 156) (q_maxL 156) (q_ret 156)) := by decide +kernel
theorem q_cw : ∀ y, y < q_nM → lw_tbl[q_cp y]? = some (Cond.code (q_name y) (q_code y) (q_maxL y) (q_ret y)) := by
  intro y hy
  match y, hy with
  | 0, _ => exact q_cw_0
  | 1, _ => exact q_cw_1
  | 2, _ => exact q_cw_2
  | 3, _ => exact q_cw_3
  | 4, _ => exact q_cw_4
  | 5, _ => exact q_cw_5
  | 6, _ => exact q_cw_6
  | 7, _ => exact q_cw_7
  | 8, _ => exact q_cw_8
  | 9, _ => exact q_cw_9
  | 10, _ => exact q_cw_10
  | 11, _ => exact q_cw_11
  | 12, _ => exact q_cw_12
  | 13, _ => exact q_cw_13
  | 14, _ => exact q_cw_14
  | 15, _ => exact q_cw_15
  | 16, _ => exact q_cw_16
  | 17, _ => exact q_cw_17
  | 18, _ => exact q_cw_18
  | 19, _ => exact q_cw_19
  | 20, _ => exact q_cw_20
  | 21, _ => exact q_cw_21
  | 22, _ => exact q_cw_22
  | 23, _ => exact q_cw_23
  | 24, _ => exact q_cw_24
  | 25, _ => exact q_cw_25
  | 26, _ => exact q_cw_26
  | 27, _ => exact q_cw_27
  | 28, _ => exact q_cw_28
  | 29, _ => exact q_cw_29
  | 30, _ => exact q_cw_30
  | 31, _ => exact q_cw_31
  | 32, _ => exact q_cw_32
  | 33, _ => exact q_cw_33
  | 34, _ => exact q_cw_34
  | 35, _ => exact q_cw_35
  | 36, _ => exact q_cw_36
  | 37, _ => exact q_cw_37
  | 38, _ => exact q_cw_38
  | 39, _ => exact q_cw_39
  | 40, _ => exact q_cw_40
  | 41, _ => exact q_cw_41
  | 42, _ => exact q_cw_42
  | 43, _ => exact q_cw_43
  | 44, _ => exact q_cw_44
  | 45, _ => exact q_cw_45
  | 46, _ => exact q_cw_46
  | 47, _ => exact q_cw_47
  | 48, _ => exact q_cw_48
  | 49, _ => exact q_cw_49
  | 50, _ => exact q_cw_50
  | 51, _ => exact q_cw_51
  | 52, _ => exact q_cw_52
  | 53, _ => exact q_cw_53
  | 54, _ => exact q_cw_54
  | 55, _ => exact q_cw_55
  | 56, _ => exact q_cw_56
  | 57, _ => exact q_cw_57
  | 58, _ => exact q_cw_58
  | 59, _ => exact q_cw_59
  | 60, _ => exact q_cw_60
  | 61, _ => exact q_cw_61
  | 62, _ => exact q_cw_62
  | 63, _ => exact q_cw_63
  | 64, _ => exact q_cw_64
  | 65, _ => exact q_cw_65
  | 66, _ => exact q_cw_66
  | 67, _ => exact q_cw_67
  | 68, _ => exact q_cw_68
  | 69, _ => exact q_cw_69
  | 70, _ => exact q_cw_70
  | 71, _ => exact q_cw_71
  | 72, _ => exact q_cw_72
  | 73, _ => exact q_cw_73
  | 74, _ => exact q_cw_74
  | 75, _ => exact q_cw_75
  | 76, _ => exact q_cw_76
  | 77, _ => exact q_cw_77
  | 78, _ => exact q_cw_78
  | 79, _ => exact q_cw_79
  | 80, _ => exact q_cw_80
  | 81, _ => exact q_cw_81
  | 82, _ => exact q_cw_82
  | 83, _ => exact q_cw_83
  | 84, _ => exact q_cw_84
  | 85, _ => exact q_cw_85
  | 86, _ => exact q_cw_86
  | 87, _ => exact q_cw_87
  | 88, _ => exact q_cw_88
  | 89, _ => exact q_cw_89
  | 90, _ => exact q_cw_90
  | 91, _ => exact q_cw_91
  | 92, _ => exact q_cw_92
  | 93, _ => exact q_cw_93
  | 94, _ => exact q_cw_94
  | 95, _ => exact q_cw_95
  | 96, _ => exact q_cw_96
  | 97, _ => exact q_cw_97
  | 98, _ => exact q_cw_98
  | 99, _ => exact q_cw_99
  | 100, _ => exact q_cw_100
  | 101, _ => exact q_cw_101
  | 102, _ => exact q_cw_102
  | 103, _ => exact q_cw_103
  | 104, _ => exact q_cw_104
  | 105, _ => exact q_cw_105
  | 106, _ => exact q_cw_106
  | 107, _ => exact q_cw_107
  | 108, _ => exact q_cw_108
  | 109, _ => exact q_cw_109
  | 110, _ => exact q_cw_110
  | 111, _ => exact q_cw_111
  | 112, _ => exact q_cw_112
  | 113, _ => exact q_cw_113
  | 114, _ => exact q_cw_114
  | 115, _ => exact q_cw_115
  | 116, _ => exact q_cw_116
  | 117, _ => exact q_cw_117
  | 118, _ => exact q_cw_118
  | 119, _ => exact q_cw_119
  | 120, _ => exact q_cw_120
  | 121, _ => exact q_cw_121
  | 122, _ => exact q_cw_122
  | 123, _ => exact q_cw_123
  | 124, _ => exact q_cw_124
  | 125, _ => exact q_cw_125
  | 126, _ => exact q_cw_126
  | 127, _ => exact q_cw_127
  | 128, _ => exact q_cw_128
  | 129, _ => exact q_cw_129
  | 130, _ => exact q_cw_130
  | 131, _ => exact q_cw_131
  | 132, _ => exact q_cw_132
  | 133, _ => exact q_cw_133
  | 134, _ => exact q_cw_134
  | 135, _ => exact q_cw_135
  | 136, _ => exact q_cw_136
  | 137, _ => exact q_cw_137
  | 138, _ => exact q_cw_138
  | 139, _ => exact q_cw_139
  | 140, _ => exact q_cw_140
  | 141, _ => exact q_cw_141
  | 142, _ => exact q_cw_142
  | 143, _ => exact q_cw_143
  | 144, _ => exact q_cw_144
  | 145, _ => exact q_cw_145
  | 146, _ => exact q_cw_146
  | 147, _ => exact q_cw_147
  | 148, _ => exact q_cw_148
  | 149, _ => exact q_cw_149
  | 150, _ => exact q_cw_150
  | 151, _ => exact q_cw_151
  | 152, _ => exact q_cw_152
  | 153, _ => exact q_cw_153
  | 154, _ => exact q_cw_154
  | 155, _ => exact q_cw_155
  | 156, _ => exact q_cw_156
  | y + 157, h => exact absurd h (by unfold q_nM; omega)
theorem q_iw_0 : u_ws RX1 TX1 9 = [90, 92, 94, 96, 98, 100, 102, 104, 106].filterMap (fun i => lw_tbl[i]?) := by decide +kernel
theorem q_iw_1 : u_ws RX2 TX2 6 = [154, 156, 158, 160, 162, 164].filterMap (fun i => lw_tbl[i]?) := by decide +kernel
theorem q_iw_2 : u_ws RX3 TX3 7 = [124, 126, 128, 130, 132, 134, 136].filterMap (fun i => lw_tbl[i]?) := by decide +kernel
theorem q_iw_3 : u_ws RX7 TX7 9 = [176, 178, 180, 182, 184, 186, 188, 190, 192].filterMap (fun i => lw_tbl[i]?) := by decide +kernel
theorem q_iw_4 : u_ws RX8 TX8 26 = [625, 627, 629, 631, 633, 635, 637, 639, 641, 643, 645, 647, 649, 651, 653, 655, 657, 659, 661, 663, 665, 667, 669, 671, 673, 675].filterMap (fun i => lw_tbl[i]?) := by decide +kernel
/-- the words that stay -/
def q_gw (w : Cond) : Bool := k2_isCode w || goodWord w
def q_T : List Cond := lw_tbl.filter q_gw
theorem q_T_in {w : Cond} {i : Nat} (h : lw_tbl[i]? = some w) (hg : q_gw w = true) : w ∈ q_T := List.mem_filter.mpr ⟨List.mem_of_getElem? h, hg⟩
theorem q_T_good {w : Cond} (h : w ∈ q_T) : (w.onTables && w.keeps) = true ∨ ∃ ty, w = .arrayClass ty := by
  have h1 := (List.mem_filter.mp h).2
  unfold q_gw at h1
  rcases (Bool.or_eq_true _ _).mp h1 with h | h
  · cases w <;> first | (simp [k2_isCode] at h; done) | exact Or.inl rfl
  · exact good_of_word h
theorem q_T_code (y : Nat) (hy : y < q_nM) : Cond.code (q_name y) (q_code y) (q_maxL y) (q_ret y) ∈ q_T := q_T_in (q_cw y hy) rfl
theorem q_iT_0 : ∀ w ∈ u_ws RX1 TX1 9, w ∈ q_T := by
  intro w hw
  have hg : (u_ws RX1 TX1 9).all q_gw = true := by decide +kernel
  have h1 := List.all_eq_true.mp hg w hw
  rw [q_iw_0] at hw
  obtain ⟨i, -, hi⟩ := List.mem_filterMap.mp hw
  exact q_T_in hi h1
theorem q_iT_1 : ∀ w ∈ u_ws RX2 TX2 6, w ∈ q_T := by
  intro w hw
  have hg : (u_ws RX2 TX2 6).all q_gw = true := by decide +kernel
  have h1 := List.all_eq_true.mp hg w hw
  rw [q_iw_1] at hw
  obtain ⟨i, -, hi⟩ := List.mem_filterMap.mp hw
  exact q_T_in hi h1
theorem q_iT_2 : ∀ w ∈ u_ws RX3 TX3 7, w ∈ q_T := by
  intro w hw
  have hg : (u_ws RX3 TX3 7).all q_gw = true := by decide +kernel
  have h1 := List.all_eq_true.mp hg w hw
  rw [q_iw_2] at hw
  obtain ⟨i, -, hi⟩ := List.mem_filterMap.mp hw
  exact q_T_in hi h1
theorem q_iT_3 : ∀ w ∈ u_ws RX7 TX7 9, w ∈ q_T := by
  intro w hw
  have hg : (u_ws RX7 TX7 9).all q_gw = true := by decide +kernel
  have h1 := List.all_eq_true.mp hg w hw
  rw [q_iw_3] at hw
  obtain ⟨i, -, hi⟩ := List.mem_filterMap.mp hw
  exact q_T_in hi h1
theorem q_iT_4 : ∀ w ∈ u_ws RX8 TX8 26, w ∈ q_T := by
  intro w hw
  have hg : (u_ws RX8 TX8 26).all q_gw = true := by decide +kernel
  have h1 := List.all_eq_true.mp hg w hw
  rw [q_iw_4] at hw
  obtain ⟨i, -, hi⟩ := List.mem_filterMap.mp hw
  exact q_T_in hi h1
theorem q_ptOK : (List.range 5).all (fun ci => match vwCl[ci]? with
  | some r => (List.range r.2.2).all fun j => decide (q_sh ci j = some true) || (!(r.2.1 j).2.2.2 && decide (parseFieldDescriptor (r.2.1 j).2.2.1 = some (if q_isB ci j then .boolean else .int)))
  | none => false) = true := by decide +kernel
theorem q_clf : ∀ (ci : Nat) (C : String) (T : u_T) (N : Nat), vwCl[ci]? = some (C, T, N) → ci < 5 ∧ (∀ w ∈ u_ws C T N, w ∈ q_T) ∧ (∃ ty0 : Nat → FieldType, ∀ k, k < N → parseFieldDescriptor (T k).2.2.1 = some (ty0 k)) ∧ (∀ a, a < N → ∀ b, b < N → a ≠ b → (T a).2.1 ≠ (T b).2.1)
  | 0, C, T, N, h => by cases h; exact ⟨by omega, q_iT_0, ⟨tyX1, tyX1_ok⟩, nmX1⟩
  | 1, C, T, N, h => by cases h; exact ⟨by omega, q_iT_1, ⟨tyX2, tyX2_ok⟩, nmX2⟩
  | 2, C, T, N, h => by cases h; exact ⟨by omega, q_iT_2, ⟨tyX3, tyX3_ok⟩, nmX3⟩
  | 3, C, T, N, h => by cases h; exact ⟨by omega, q_iT_3, ⟨tyX7, tyX7_ok⟩, nmX7⟩
  | 4, C, T, N, h => by cases h; exact ⟨by omega, q_iT_4, ⟨tyX8, tyX8_ok⟩, nmX8⟩
  | k + 5, C, T, N, h => by simp [vwCl] at h
theorem q_fok_all : ∀ n, (q_fl n).all (q_fchk n) = true := by
  intro n
  unfold q_fl
  split
  · exact q_fok_1
  · exact q_fok_2
  · exact q_fok_3
  · exact q_fok_4
  · exact q_fok_5
  · exact q_fok_7
  · exact q_fok_8
  · rfl
theorem q_cok_all : ∀ n, (q_cl n).all (q_cchk n) = true := by
  intro n
  unfold q_cl
  split
  · exact q_cok_1
  · exact q_cok_2
  · exact q_cok_3
  · exact q_cok_4
  · exact q_cok_5
  · exact q_cok_6
  · exact q_cok_7
  · exact q_cok_8
  · exact q_cok_11
  · rfl
theorem q_mok_all : ∀ n, (q_ml n).all (q_mchk n) = true := by
  intro n
  unfold q_ml
  split
  · decide +kernel
  · decide +kernel
  · rfl
theorem q_min_st : Cond.static Lib.Math.min.name ∈ q_T := q_T_in (i := 352) (by decide +kernel) (by first | rfl | simp [q_gw, goodWord, Cond.onTables, Cond.keeps, Cond.steady])
theorem q_min_cd : Cond.code Lib.Math.min.name Lib.Math.min.code 2 (some .int) ∈ q_T := q_T_in (i := 353) (by decide +kernel) rfl
theorem q_max_st : Cond.static Lib.Math.max.name ∈ q_T := q_T_in (i := 526) (by decide +kernel) (by first | rfl | simp [q_gw, goodWord, Cond.onTables, Cond.keeps, Cond.steady])
theorem q_max_cd : Cond.code Lib.Math.max.name Lib.Math.max.code 2 (some .int) ∈ q_T := q_T_in (i := 527) (by decide +kernel) rfl
theorem q_math_in : Cond.initialized "java/lang/Math" ∈ q_T := q_T_in (i := 50) (by decide +kernel) (by first | rfl | simp [q_gw, goodWord, Cond.onTables, Cond.keeps, Cond.steady])
theorem q_sok_all : ∀ n, (q_cs n).all (q_schk n) = true := by
  intro n
  unfold q_cs
  split
  · exact q_sok_1
  · exact q_sok_5
  · exact q_sok_7
  · exact q_sok_8
  · exact q_sok_9
  · rfl
