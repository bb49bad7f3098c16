section
-- ===== PART A: goes FIRST, ahead of the names: the tables' words, and 'selects' of the private methods out of them =====
/-- a private method of a class that the tables say can be made, by its rows of tables_1 -/
def lw_okq (q : MethodName × Nat) : Prop := (q.1.cls ≠ "java/lang/invoke/MethodHandle" ∧ q.1.cls ≠ "java/lang/invoke/VarHandle") ∧ Cond.instantiable q.1.cls q.2 ∈ tables_1 ∧ Cond.privateMethod q.1 ∈ tables_1 ∧ Cond.instanceMethod q.1 ∈ tables_1
theorem lw_p0 : lw_okq (⟨"WithoutThem", "refuse", "(I)I"⟩, 9) := ⟨⟨by decide +kernel, by decide +kernel⟩, List.mem_of_getElem? (i := 13) (by decide +kernel), List.mem_of_getElem? (i := 158) (by decide +kernel), List.mem_of_getElem? (i := 159) (by decide +kernel)⟩
theorem lw_p1 : lw_okq (⟨"WithoutThem$Reader", "readStatement", "()Z"⟩, 7) := ⟨⟨by decide +kernel, by decide +kernel⟩, List.mem_of_getElem? (i := 69) (by decide +kernel), List.mem_of_getElem? (i := 192) (by decide +kernel), List.mem_of_getElem? (i := 193) (by decide +kernel)⟩
theorem lw_p2 : lw_okq (⟨"WithoutThem$Reader", "here", "()I"⟩, 7) := ⟨⟨by decide +kernel, by decide +kernel⟩, List.mem_of_getElem? (i := 69) (by decide +kernel), List.mem_of_getElem? (i := 196) (by decide +kernel), List.mem_of_getElem? (i := 197) (by decide +kernel)⟩
theorem lw_p3 : lw_okq (⟨"WithoutThem$Reader", "readThing", "()Z"⟩, 7) := ⟨⟨by decide +kernel, by decide +kernel⟩, List.mem_of_getElem? (i := 69) (by decide +kernel), List.mem_of_getElem? (i := 200) (by decide +kernel), List.mem_of_getElem? (i := 201) (by decide +kernel)⟩
theorem lw_p4 : lw_okq (⟨"WithoutThem$Reader", "readNumber", "()I"⟩, 7) := ⟨⟨by decide +kernel, by decide +kernel⟩, List.mem_of_getElem? (i := 69) (by decide +kernel), List.mem_of_getElem? (i := 207) (by decide +kernel), List.mem_of_getElem? (i := 208) (by decide +kernel)⟩
theorem lw_p5 : lw_okq (⟨"WithoutThem$Reader", "readDigit", "()I"⟩, 7) := ⟨⟨by decide +kernel, by decide +kernel⟩, List.mem_of_getElem? (i := 69) (by decide +kernel), List.mem_of_getElem? (i := 211) (by decide +kernel), List.mem_of_getElem? (i := 212) (by decide +kernel)⟩
theorem lw_p6 : lw_okq (⟨"WithoutThem$Reader", "passes", "(I)Z"⟩, 7) := ⟨⟨by decide +kernel, by decide +kernel⟩, List.mem_of_getElem? (i := 69) (by decide +kernel), List.mem_of_getElem? (i := 215) (by decide +kernel), List.mem_of_getElem? (i := 216) (by decide +kernel)⟩
theorem lw_p7 : lw_okq (⟨"WithoutThem$Reader", "readFirst", "()Z"⟩, 7) := ⟨⟨by decide +kernel, by decide +kernel⟩, List.mem_of_getElem? (i := 69) (by decide +kernel), List.mem_of_getElem? (i := 219) (by decide +kernel), List.mem_of_getElem? (i := 220) (by decide +kernel)⟩
theorem lw_p8 : lw_okq (⟨"WithoutThem$Reader", "readSecond", "()Z"⟩, 7) := ⟨⟨by decide +kernel, by decide +kernel⟩, List.mem_of_getElem? (i := 69) (by decide +kernel), List.mem_of_getElem? (i := 223) (by decide +kernel), List.mem_of_getElem? (i := 224) (by decide +kernel)⟩
theorem lw_p9 : lw_okq (⟨"WithoutThem$Reader", "tellOne", "(LWithoutThem$House;)Z"⟩, 7) := ⟨⟨by decide +kernel, by decide +kernel⟩, List.mem_of_getElem? (i := 69) (by decide +kernel), List.mem_of_getElem? (i := 231) (by decide +kernel), List.mem_of_getElem? (i := 232) (by decide +kernel)⟩
theorem lw_p10 : lw_okq (⟨"WithoutThem$Orders", "walk", "(LWithoutThem$House;Z)V"⟩, 6) := ⟨⟨by decide +kernel, by decide +kernel⟩, List.mem_of_getElem? (i := 98) (by decide +kernel), List.mem_of_getElem? (i := 360) (by decide +kernel), List.mem_of_getElem? (i := 361) (by decide +kernel)⟩
theorem lw_p11 : lw_okq (⟨"WithoutThem$Orders", "step", "(LWithoutThem$House;IIZ)V"⟩, 6) := ⟨⟨by decide +kernel, by decide +kernel⟩, List.mem_of_getElem? (i := 98) (by decide +kernel), List.mem_of_getElem? (i := 368) (by decide +kernel), List.mem_of_getElem? (i := 369) (by decide +kernel)⟩
theorem lw_p12 : lw_okq (⟨"WithoutThem", "refuseLong", "(I)J"⟩, 9) := ⟨⟨by decide +kernel, by decide +kernel⟩, List.mem_of_getElem? (i := 13) (by decide +kernel), List.mem_of_getElem? (i := 380) (by decide +kernel), List.mem_of_getElem? (i := 381) (by decide +kernel)⟩
theorem lw_p13 : lw_okq (⟨"WithoutThem", "refusalOfWay", "(I)I"⟩, 9) := ⟨⟨by decide +kernel, by decide +kernel⟩, List.mem_of_getElem? (i := 13) (by decide +kernel), List.mem_of_getElem? (i := 454) (by decide +kernel), List.mem_of_getElem? (i := 455) (by decide +kernel)⟩
theorem lw_p14 : lw_okq (⟨"WithoutThemModel", "no", "(I)I"⟩, 26) := ⟨⟨by decide +kernel, by decide +kernel⟩, List.mem_of_getElem? (i := 552) (by decide +kernel), List.mem_of_getElem? (i := 644) (by decide +kernel), List.mem_of_getElem? (i := 645) (by decide +kernel)⟩
theorem lw_p15 : lw_okq (⟨"WithoutThemModel", "statement", "()Z"⟩, 26) := ⟨⟨by decide +kernel, by decide +kernel⟩, List.mem_of_getElem? (i := 552) (by decide +kernel), List.mem_of_getElem? (i := 652) (by decide +kernel), List.mem_of_getElem? (i := 653) (by decide +kernel)⟩
def lw_privs_1 : List (MethodName × Nat) := [(⟨"WithoutThem", "refuse", "(I)I"⟩, 9), (⟨"WithoutThem$Reader", "readStatement", "()Z"⟩, 7), (⟨"WithoutThem$Reader", "here", "()I"⟩, 7), (⟨"WithoutThem$Reader", "readThing", "()Z"⟩, 7), (⟨"WithoutThem$Reader", "readNumber", "()I"⟩, 7), (⟨"WithoutThem$Reader", "readDigit", "()I"⟩, 7), (⟨"WithoutThem$Reader", "passes", "(I)Z"⟩, 7), (⟨"WithoutThem$Reader", "readFirst", "()Z"⟩, 7), (⟨"WithoutThem$Reader", "readSecond", "()Z"⟩, 7), (⟨"WithoutThem$Reader", "tellOne", "(LWithoutThem$House;)Z"⟩, 7), (⟨"WithoutThem$Orders", "walk", "(LWithoutThem$House;Z)V"⟩, 6), (⟨"WithoutThem$Orders", "step", "(LWithoutThem$House;IIZ)V"⟩, 6), (⟨"WithoutThem", "refuseLong", "(I)J"⟩, 9), (⟨"WithoutThem", "refusalOfWay", "(I)I"⟩, 9), (⟨"WithoutThemModel", "no", "(I)I"⟩, 26), (⟨"WithoutThemModel", "statement", "()Z"⟩, 26)]
theorem lw_r1 : ∀ q ∈ lw_privs_1, lw_okq q := List.forall_mem_cons.mpr ⟨lw_p0, List.forall_mem_cons.mpr ⟨lw_p1, List.forall_mem_cons.mpr ⟨lw_p2, List.forall_mem_cons.mpr ⟨lw_p3, List.forall_mem_cons.mpr ⟨lw_p4, List.forall_mem_cons.mpr ⟨lw_p5, List.forall_mem_cons.mpr ⟨lw_p6, List.forall_mem_cons.mpr ⟨lw_p7, List.forall_mem_cons.mpr ⟨lw_p8, List.forall_mem_cons.mpr ⟨lw_p9, List.forall_mem_cons.mpr ⟨lw_p10, List.forall_mem_cons.mpr ⟨lw_p11, List.forall_mem_cons.mpr ⟨lw_p12, List.forall_mem_cons.mpr ⟨lw_p13, List.forall_mem_cons.mpr ⟨lw_p14, List.forall_mem_cons.mpr ⟨lw_p15, fun _ h => absurd h List.not_mem_nil⟩⟩⟩⟩⟩⟩⟩⟩⟩⟩⟩⟩⟩⟩⟩⟩
theorem lw_p16 : lw_okq (⟨"WithoutThemModel", "next", "()I"⟩, 26) := ⟨⟨by decide +kernel, by decide +kernel⟩, List.mem_of_getElem? (i := 552) (by decide +kernel), List.mem_of_getElem? (i := 656) (by decide +kernel), List.mem_of_getElem? (i := 657) (by decide +kernel)⟩
theorem lw_p17 : lw_okq (⟨"WithoutThemModel", "readsThing", "(I)Z"⟩, 26) := ⟨⟨by decide +kernel, by decide +kernel⟩, List.mem_of_getElem? (i := 552) (by decide +kernel), List.mem_of_getElem? (i := 660) (by decide +kernel), List.mem_of_getElem? (i := 661) (by decide +kernel)⟩
theorem lw_p18 : lw_okq (⟨"WithoutThemModel", "readsNumber", "(II)Z"⟩, 26) := ⟨⟨by decide +kernel, by decide +kernel⟩, List.mem_of_getElem? (i := 552) (by decide +kernel), List.mem_of_getElem? (i := 667) (by decide +kernel), List.mem_of_getElem? (i := 668) (by decide +kernel)⟩
theorem lw_p19 : lw_okq (⟨"WithoutThemModel", "passesAll", "(IZ)V"⟩, 26) := ⟨⟨by decide +kernel, by decide +kernel⟩, List.mem_of_getElem? (i := 552) (by decide +kernel), List.mem_of_getElem? (i := 674) (by decide +kernel), List.mem_of_getElem? (i := 675) (by decide +kernel)⟩
theorem lw_p20 : lw_okq (⟨"WithoutThemModel", "passes", "([I)V"⟩, 26) := ⟨⟨by decide +kernel, by decide +kernel⟩, List.mem_of_getElem? (i := 552) (by decide +kernel), List.mem_of_getElem? (i := 678) (by decide +kernel), List.mem_of_getElem? (i := 679) (by decide +kernel)⟩
theorem lw_p21 : lw_okq (⟨"WithoutThemModel", "passOne", "(I)I"⟩, 26) := ⟨⟨by decide +kernel, by decide +kernel⟩, List.mem_of_getElem? (i := 552) (by decide +kernel), List.mem_of_getElem? (i := 682) (by decide +kernel), List.mem_of_getElem? (i := 683) (by decide +kernel)⟩
theorem lw_p22 : lw_okq (⟨"WithoutThemModel", "comes", "(I)Z"⟩, 26) := ⟨⟨by decide +kernel, by decide +kernel⟩, List.mem_of_getElem? (i := 552) (by decide +kernel), List.mem_of_getElem? (i := 686) (by decide +kernel), List.mem_of_getElem? (i := 687) (by decide +kernel)⟩
theorem lw_p23 : lw_okq (⟨"WithoutThemModel", "comesThing", "(I)Z"⟩, 26) := ⟨⟨by decide +kernel, by decide +kernel⟩, List.mem_of_getElem? (i := 552) (by decide +kernel), List.mem_of_getElem? (i := 690) (by decide +kernel), List.mem_of_getElem? (i := 691) (by decide +kernel)⟩
theorem lw_p24 : lw_okq (⟨"WithoutThemModel", "areTwo", "(II)Z"⟩, 26) := ⟨⟨by decide +kernel, by decide +kernel⟩, List.mem_of_getElem? (i := 552) (by decide +kernel), List.mem_of_getElem? (i := 694) (by decide +kernel), List.mem_of_getElem? (i := 695) (by decide +kernel)⟩
theorem lw_p25 : lw_okq (⟨"WithoutThemModel", "isThing", "(I)Z"⟩, 26) := ⟨⟨by decide +kernel, by decide +kernel⟩, List.mem_of_getElem? (i := 552) (by decide +kernel), List.mem_of_getElem? (i := 698) (by decide +kernel), List.mem_of_getElem? (i := 699) (by decide +kernel)⟩
theorem lw_p26 : lw_okq (⟨"WithoutThemModel", "goOf", "(II)I"⟩, 26) := ⟨⟨by decide +kernel, by decide +kernel⟩, List.mem_of_getElem? (i := 552) (by decide +kernel), List.mem_of_getElem? (i := 714) (by decide +kernel), List.mem_of_getElem? (i := 715) (by decide +kernel)⟩
theorem lw_p27 : lw_okq (⟨"WithoutThemModel", "mayBy", "(I)I"⟩, 26) := ⟨⟨by decide +kernel, by decide +kernel⟩, List.mem_of_getElem? (i := 552) (by decide +kernel), List.mem_of_getElem? (i := 736) (by decide +kernel), List.mem_of_getElem? (i := 737) (by decide +kernel)⟩
theorem lw_p28 : lw_okq (⟨"WithoutThemModel", "canHave", "(II)Z"⟩, 26) := ⟨⟨by decide +kernel, by decide +kernel⟩, List.mem_of_getElem? (i := 552) (by decide +kernel), List.mem_of_getElem? (i := 740) (by decide +kernel), List.mem_of_getElem? (i := 741) (by decide +kernel)⟩
theorem lw_p29 : lw_okq (⟨"WithoutThemModel", "areThings", "(I)Z"⟩, 26) := ⟨⟨by decide +kernel, by decide +kernel⟩, List.mem_of_getElem? (i := 552) (by decide +kernel), List.mem_of_getElem? (i := 752) (by decide +kernel), List.mem_of_getElem? (i := 753) (by decide +kernel)⟩
theorem lw_p30 : lw_okq (⟨"WithoutThemModel", "reachOf", "(II)I"⟩, 26) := ⟨⟨by decide +kernel, by decide +kernel⟩, List.mem_of_getElem? (i := 552) (by decide +kernel), List.mem_of_getElem? (i := 760) (by decide +kernel), List.mem_of_getElem? (i := 761) (by decide +kernel)⟩
theorem lw_p31 : lw_okq (⟨"WithoutThemModel", "findRest", "(IZ)V"⟩, 26) := ⟨⟨by decide +kernel, by decide +kernel⟩, List.mem_of_getElem? (i := 552) (by decide +kernel), List.mem_of_getElem? (i := 768) (by decide +kernel), List.mem_of_getElem? (i := 769) (by decide +kernel)⟩
def lw_privs_2 : List (MethodName × Nat) := [(⟨"WithoutThemModel", "next", "()I"⟩, 26), (⟨"WithoutThemModel", "readsThing", "(I)Z"⟩, 26), (⟨"WithoutThemModel", "readsNumber", "(II)Z"⟩, 26), (⟨"WithoutThemModel", "passesAll", "(IZ)V"⟩, 26), (⟨"WithoutThemModel", "passes", "([I)V"⟩, 26), (⟨"WithoutThemModel", "passOne", "(I)I"⟩, 26), (⟨"WithoutThemModel", "comes", "(I)Z"⟩, 26), (⟨"WithoutThemModel", "comesThing", "(I)Z"⟩, 26), (⟨"WithoutThemModel", "areTwo", "(II)Z"⟩, 26), (⟨"WithoutThemModel", "isThing", "(I)Z"⟩, 26), (⟨"WithoutThemModel", "goOf", "(II)I"⟩, 26), (⟨"WithoutThemModel", "mayBy", "(I)I"⟩, 26), (⟨"WithoutThemModel", "canHave", "(II)Z"⟩, 26), (⟨"WithoutThemModel", "areThings", "(I)Z"⟩, 26), (⟨"WithoutThemModel", "reachOf", "(II)I"⟩, 26), (⟨"WithoutThemModel", "findRest", "(IZ)V"⟩, 26)]
theorem lw_r2 : ∀ q ∈ lw_privs_2, lw_okq q := List.forall_mem_cons.mpr ⟨lw_p16, List.forall_mem_cons.mpr ⟨lw_p17, List.forall_mem_cons.mpr ⟨lw_p18, List.forall_mem_cons.mpr ⟨lw_p19, List.forall_mem_cons.mpr ⟨lw_p20, List.forall_mem_cons.mpr ⟨lw_p21, List.forall_mem_cons.mpr ⟨lw_p22, List.forall_mem_cons.mpr ⟨lw_p23, List.forall_mem_cons.mpr ⟨lw_p24, List.forall_mem_cons.mpr ⟨lw_p25, List.forall_mem_cons.mpr ⟨lw_p26, List.forall_mem_cons.mpr ⟨lw_p27, List.forall_mem_cons.mpr ⟨lw_p28, List.forall_mem_cons.mpr ⟨lw_p29, List.forall_mem_cons.mpr ⟨lw_p30, List.forall_mem_cons.mpr ⟨lw_p31, fun _ h => absurd h List.not_mem_nil⟩⟩⟩⟩⟩⟩⟩⟩⟩⟩⟩⟩⟩⟩⟩⟩
theorem lw_p32 : lw_okq (⟨"WithoutThemModel", "whole", "()I"⟩, 26) := ⟨⟨by decide +kernel, by decide +kernel⟩, List.mem_of_getElem? (i := 552) (by decide +kernel), List.mem_of_getElem? (i := 772) (by decide +kernel), List.mem_of_getElem? (i := 773) (by decide +kernel)⟩
theorem lw_p33 : lw_okq (⟨"WithoutThemModel", "restBy", "(IIZ)I"⟩, 26) := ⟨⟨by decide +kernel, by decide +kernel⟩, List.mem_of_getElem? (i := 552) (by decide +kernel), List.mem_of_getElem? (i := 777) (by decide +kernel), List.mem_of_getElem? (i := 778) (by decide +kernel)⟩
theorem lw_p34 : lw_okq (⟨"WithoutThemModel", "lowest", "(I)J"⟩, 26) := ⟨⟨by decide +kernel, by decide +kernel⟩, List.mem_of_getElem? (i := 552) (by decide +kernel), List.mem_of_getElem? (i := 785) (by decide +kernel), List.mem_of_getElem? (i := 786) (by decide +kernel)⟩
theorem lw_p35 : lw_okq (⟨"WithoutThemModel", "isRinged", "(II)Z"⟩, 26) := ⟨⟨by decide +kernel, by decide +kernel⟩, List.mem_of_getElem? (i := 552) (by decide +kernel), List.mem_of_getElem? (i := 806) (by decide +kernel), List.mem_of_getElem? (i := 807) (by decide +kernel)⟩
theorem lw_p36 : lw_okq (⟨"WithoutThemModel", "costOf", "(I)I"⟩, 26) := ⟨⟨by decide +kernel, by decide +kernel⟩, List.mem_of_getElem? (i := 552) (by decide +kernel), List.mem_of_getElem? (i := 814) (by decide +kernel), List.mem_of_getElem? (i := 815) (by decide +kernel)⟩
theorem lw_p37 : lw_okq (⟨"WithoutThemModel", "notAimed", "(I)I"⟩, 26) := ⟨⟨by decide +kernel, by decide +kernel⟩, List.mem_of_getElem? (i := 552) (by decide +kernel), List.mem_of_getElem? (i := 834) (by decide +kernel), List.mem_of_getElem? (i := 835) (by decide +kernel)⟩
theorem lw_p38 : lw_okq (⟨"WithoutThemModel", "findWays", "(I)V"⟩, 26) := ⟨⟨by decide +kernel, by decide +kernel⟩, List.mem_of_getElem? (i := 552) (by decide +kernel), List.mem_of_getElem? (i := 838) (by decide +kernel), List.mem_of_getElem? (i := 839) (by decide +kernel)⟩
theorem lw_p39 : lw_okq (⟨"WithoutThemModel", "isWithin", "(II)Z"⟩, 26) := ⟨⟨by decide +kernel, by decide +kernel⟩, List.mem_of_getElem? (i := 552) (by decide +kernel), List.mem_of_getElem? (i := 842) (by decide +kernel), List.mem_of_getElem? (i := 843) (by decide +kernel)⟩
theorem lw_p40 : lw_okq (⟨"WithoutThemModel", "sought", "(II)I"⟩, 26) := ⟨⟨by decide +kernel, by decide +kernel⟩, List.mem_of_getElem? (i := 552) (by decide +kernel), List.mem_of_getElem? (i := 863) (by decide +kernel), List.mem_of_getElem? (i := 864) (by decide +kernel)⟩
theorem lw_p41 : lw_okq (⟨"WithoutThemModel", "isBetter", "(IIII)Z"⟩, 26) := ⟨⟨by decide +kernel, by decide +kernel⟩, List.mem_of_getElem? (i := 552) (by decide +kernel), List.mem_of_getElem? (i := 867) (by decide +kernel), List.mem_of_getElem? (i := 868) (by decide +kernel)⟩
def lw_privs_3 : List (MethodName × Nat) := [(⟨"WithoutThemModel", "whole", "()I"⟩, 26), (⟨"WithoutThemModel", "restBy", "(IIZ)I"⟩, 26), (⟨"WithoutThemModel", "lowest", "(I)J"⟩, 26), (⟨"WithoutThemModel", "isRinged", "(II)Z"⟩, 26), (⟨"WithoutThemModel", "costOf", "(I)I"⟩, 26), (⟨"WithoutThemModel", "notAimed", "(I)I"⟩, 26), (⟨"WithoutThemModel", "findWays", "(I)V"⟩, 26), (⟨"WithoutThemModel", "isWithin", "(II)Z"⟩, 26), (⟨"WithoutThemModel", "sought", "(II)I"⟩, 26), (⟨"WithoutThemModel", "isBetter", "(IIII)Z"⟩, 26)]
theorem lw_r3 : ∀ q ∈ lw_privs_3, lw_okq q := List.forall_mem_cons.mpr ⟨lw_p32, List.forall_mem_cons.mpr ⟨lw_p33, List.forall_mem_cons.mpr ⟨lw_p34, List.forall_mem_cons.mpr ⟨lw_p35, List.forall_mem_cons.mpr ⟨lw_p36, List.forall_mem_cons.mpr ⟨lw_p37, List.forall_mem_cons.mpr ⟨lw_p38, List.forall_mem_cons.mpr ⟨lw_p39, List.forall_mem_cons.mpr ⟨lw_p40, List.forall_mem_cons.mpr ⟨lw_p41, fun _ h => absurd h List.not_mem_nil⟩⟩⟩⟩⟩⟩⟩⟩⟩⟩
def lw_privs : List (MethodName × Nat) := lw_privs_1 ++ (lw_privs_2 ++ (lw_privs_3))
def lw_tbl : List Cond := k2_sels lw_privs ++ tables_1
theorem lw_privs_ok : ∀ q ∈ lw_privs, lw_okq q := by
  show ∀ q ∈ lw_privs_1 ++ (lw_privs_2 ++ (lw_privs_3)), lw_okq q
  exact List.forall_mem_append.mpr ⟨lw_r1, List.forall_mem_append.mpr ⟨lw_r2, lw_r3⟩⟩

/-! the classes: fields by their slots -/
def RX1 : String := "WithoutThem$House"
def TX1 : u_T := fun k => match k with
  | 0 => ("WithoutThem$House", "kinds", "[I", true)
  | 1 => ("WithoutThem$House", "minutes", "[I", true)
  | 2 => ("WithoutThem$House", "sures", "[I", true)
  | 3 => ("WithoutThem$House", "costs", "[I", true)
  | 4 => ("WithoutThem$House", "anys", "[I", true)
  | 5 => ("WithoutThem$House", "alls", "[I", true)
  | 6 => ("WithoutThem$House", "things", "I", false)
  | 7 => ("WithoutThem$House", "had", "I", false)
  | _ => ("WithoutThem$House", "minute", "I", false)
def tyX1 : Nat → FieldType := fun k => match k with
  | 0 => .array .int
  | 1 => .array .int
  | 2 => .array .int
  | 3 => .array .int
  | 4 => .array .int
  | 5 => .array .int
  | 6 => .int
  | 7 => .int
  | _ => .int
abbrev wsX10 : List Cond := u_ws RX1 TX1 9
theorem nmX1 : ∀ a, a < 9 → ∀ b, b < 9 → a ≠ b → (TX1 a).2.1 ≠ (TX1 b).2.1 := by decide +kernel
theorem tyX1_ok : ∀ k, k < 9 → parseFieldDescriptor (TX1 k).2.2.1 = some (tyX1 k) := by decide +kernel
def RX2 : String := "WithoutThem$Orders"
def TX2 : u_T := fun k => match k with
  | 0 => ("WithoutThem$Orders", "least", "[I", true)
  | 1 => ("WithoutThem$Orders", "leads", "[I", true)
  | 2 => ("WithoutThem$Orders", "counts", "[I", true)
  | 3 => ("WithoutThem$Orders", "found", "Z", false)
  | 4 => ("WithoutThem$Orders", "fewest", "I", false)
  | _ => ("WithoutThem$Orders", "first", "I", false)
def tyX2 : Nat → FieldType := fun k => match k with
  | 0 => .array .int
  | 1 => .array .int
  | 2 => .array .int
  | 3 => .boolean
  | 4 => .int
  | _ => .int
abbrev wsX20 : List Cond := u_ws RX2 TX2 6
theorem nmX2 : ∀ a, a < 6 → ∀ b, b < 6 → a ≠ b → (TX2 a).2.1 ≠ (TX2 b).2.1 := by decide +kernel
theorem tyX2_ok : ∀ k, k < 6 → parseFieldDescriptor (TX2 k).2.2.1 = some (tyX2 k) := by decide +kernel
def RX3 : String := "WithoutThem$Reader"
def TX3 : u_T := fun k => match k with
  | 0 => ("WithoutThem$Reader", "text", "[I", true)
  | 1 => ("WithoutThem$Reader", "letters", "I", false)
  | 2 => ("WithoutThem$Reader", "place", "I", false)
  | 3 => ("WithoutThem$Reader", "sign", "I", false)
  | 4 => ("WithoutThem$Reader", "kind", "I", false)
  | 5 => ("WithoutThem$Reader", "first", "I", false)
  | _ => ("WithoutThem$Reader", "second", "I", false)
def tyX3 : Nat → FieldType := fun k => match k with
  | 0 => .array .int
  | 1 => .int
  | 2 => .int
  | 3 => .int
  | 4 => .int
  | 5 => .int
  | _ => .int
abbrev wsX30 : List Cond := u_ws RX3 TX3 7
theorem nmX3 : ∀ a, a < 7 → ∀ b, b < 7 → a ≠ b → (TX3 a).2.1 ≠ (TX3 b).2.1 := by decide +kernel
theorem tyX3_ok : ∀ k, k < 7 → parseFieldDescriptor (TX3 k).2.2.1 = some (tyX3 k) := by decide +kernel
def RX7 : String := "WithoutThem"
def TX7 : u_T := fun k => match k with
  | 0 => ("WithoutThem", "now", "LWithoutThem$House;", true)
  | 1 => ("WithoutThem", "then", "LWithoutThem$House;", true)
  | 2 => ("WithoutThem", "tried", "LWithoutThem$House;", true)
  | 3 => ("WithoutThem", "reader", "LWithoutThem$Reader;", true)
  | 4 => ("WithoutThem", "orders", "LWithoutThem$Orders;", true)
  | 5 => ("WithoutThem", "told", "[I", true)
  | 6 => ("WithoutThem", "refusals", "[I", true)
  | 7 => ("WithoutThem", "inRow", "I", false)
  | _ => ("WithoutThem", "imaged", "Z", false)
def tyX7 : Nat → FieldType := fun k => match k with
  | 0 => .object "WithoutThem$House"
  | 1 => .object "WithoutThem$House"
  | 2 => .object "WithoutThem$House"
  | 3 => .object "WithoutThem$Reader"
  | 4 => .object "WithoutThem$Orders"
  | 5 => .array .int
  | 6 => .array .int
  | 7 => .int
  | _ => .boolean
abbrev wsX70 : List Cond := u_ws RX7 TX7 9
theorem nmX7 : ∀ a, a < 9 → ∀ b, b < 9 → a ≠ b → (TX7 a).2.1 ≠ (TX7 b).2.1 := by decide +kernel
theorem tyX7_ok : ∀ k, k < 9 → parseFieldDescriptor (TX7 k).2.2.1 = some (tyX7 k) := by decide +kernel
def RX8 : String := "WithoutThemModel"
def TX8 : u_T := fun k => match k with
  | 0 => ("WithoutThemModel", "refused", "[I", true)
  | 1 => ("WithoutThemModel", "kind", "[I", true)
  | 2 => ("WithoutThemModel", "lasting", "[I", true)
  | 3 => ("WithoutThemModel", "sure", "[I", true)
  | 4 => ("WithoutThemModel", "cost", "[I", true)
  | 5 => ("WithoutThemModel", "any", "[I", true)
  | 6 => ("WithoutThemModel", "all", "[I", true)
  | 7 => ("WithoutThemModel", "things", "I", false)
  | 8 => ("WithoutThemModel", "hand", "I", false)
  | 9 => ("WithoutThemModel", "minute", "I", false)
  | 10 => ("WithoutThemModel", "tape", "[I", true)
  | 11 => ("WithoutThemModel", "letter", "[I", true)
  | 12 => ("WithoutThemModel", "letterAt", "[I", true)
  | 13 => ("WithoutThemModel", "told", "[I", true)
  | 14 => ("WithoutThemModel", "taped", "I", false)
  | 15 => ("WithoutThemModel", "at", "I", false)
  | 16 => ("WithoutThemModel", "statements", "I", false)
  | 17 => ("WithoutThemModel", "kept", "[I", true)
  | 18 => ("WithoutThemModel", "hasImage", "Z", false)
  | 19 => ("WithoutThemModel", "isKeeping", "Z", false)
  | 20 => ("WithoutThemModel", "cursor", "I", false)
  | 21 => ("WithoutThemModel", "rest", "[I", true)
  | 22 => ("WithoutThemModel", "upTo", "[I", true)
  | 23 => ("WithoutThemModel", "fromOn", "[I", true)
  | 24 => ("WithoutThemModel", "row", "[I", true)
  | _ => ("WithoutThemModel", "rowMany", "I", false)
def tyX8 : Nat → FieldType := fun k => match k with
  | 0 => .array .int
  | 1 => .array .int
  | 2 => .array .int
  | 3 => .array .int
  | 4 => .array .int
  | 5 => .array .int
  | 6 => .array .int
  | 7 => .int
  | 8 => .int
  | 9 => .int
  | 10 => .array .int
  | 11 => .array .int
  | 12 => .array .int
  | 13 => .array .int
  | 14 => .int
  | 15 => .int
  | 16 => .int
  | 17 => .array .int
  | 18 => .boolean
  | 19 => .boolean
  | 20 => .int
  | 21 => .array .int
  | 22 => .array .int
  | 23 => .array .int
  | 24 => .array .int
  | _ => .int
abbrev wsX80 : List Cond := u_ws RX8 TX8 26
theorem nmX8 : ∀ a, a < 26 → ∀ b, b < 26 → a ≠ b → (TX8 a).2.1 ≠ (TX8 b).2.1 := by decide +kernel
theorem tyX8_ok : ∀ k, k < 26 → parseFieldDescriptor (TX8 k).2.2.1 = some (tyX8 k) := by decide +kernel
abbrev vwCl : List vw_C := [(RX1, TX1, 9), (RX2, TX2, 6), (RX3, TX3, 7), (RX7, TX7, 9), (RX8, TX8, 26)]
/-! the cells of the system: rows of ints, objects (a field: the cell that it names, or an int) -/
def q_lay : List (Nat ⊕ (Nat × List (Option Nat))) := [.inr (3, [some 1, some 8, some 15, some 22, some 24, some 28, some 29, none, none]), .inr (0, [some 2, some 3, some 4, some 5, some 6, some 7, none, none, none]), .inl 10, .inl 10, .inl 10, .inl 10, .inl 10, .inl 10, .inr (0, [some 9, some 10, some 11, some 12, some 13, some 14, none, none, none]), .inl 10, .inl 10, .inl 10, .inl 10, .inl 10, .inl 10, .inr (0, [some 16, some 17, some 18, some 19, some 20, some 21, none, none, none]), .inl 10, .inl 10, .inl 10, .inl 10, .inl 10, .inl 10, .inr (2, [some 23, none, none, none, none, none, none]), .inl 96, .inr (1, [some 25, some 26, some 27, none, none, none]), .inl 1024, .inl 1024, .inl 1024, .inl 12, .inl 7, .inr (4, [some 31, some 32, some 33, some 34, some 35, some 36, some 37, none, none, none, some 38, some 39, some 40, some 41, none, none, none, some 42, none, none, none, some 43, some 44, some 45, some 46, none]), .inl 7, .inl 10, .inl 10, .inl 10, .inl 10, .inl 10, .inl 10, .inl 96, .inl 48, .inl 48, .inl 144, .inl 130, .inl 1024, .inl 1024, .inl 1024, .inl 12]
/-- a class' fields: references? -/
def q_shl (ci : Nat) : List Bool := match ci with
  | 0 => [true, true, true, true, true, true, false, false, false]
  | 1 => [true, true, true, false, false, false]
  | 2 => [true, false, false, false, false, false, false]
  | 3 => [true, true, true, true, true, true, true, false, false]
  | 4 => [true, true, true, true, true, true, true, false, false, false, true, true, true, true, false, false, false, true, false, false, false, true, true, true, true, false]
  | _ => []
def q_sh (ci j : Nat) : Option Bool := (q_shl ci)[j]?
theorem q_lay_sh : q_lay.all (fun c => match c with
  | .inl _ => true
  | .inr q => decide (q.2.map Option.isSome = q_shl q.1)) = true := by decide +kernel
def q_isB (ci j : Nat) : Bool := [((1 : Nat), (3 : Nat)), ((3 : Nat), (8 : Nat)), ((4 : Nat), (18 : Nat)), ((4 : Nat), (19 : Nat))].any fun q => q.1 == ci && q.2 == j
/-! the methods -/
def q_name (y : Nat) : MethodName := match y with
  | 0 => ⟨"WithoutThem$Rows", "copy", "([I[I)V"⟩
  | 1 => ⟨"WithoutThem$Rows", "get", "([II)I"⟩
  | 2 => ⟨"WithoutThem$Rows", "put", "([III)V"⟩
  | 3 => ⟨"WithoutThem$House", "addThing", "(III)Z"⟩
  | 4 => ⟨"WithoutThem$House", "barred", "()I"⟩
  | 5 => ⟨"WithoutThem$House", "canBeHad", "(II)Z"⟩
  | 6 => ⟨"WithoutThem$House", "chanceOf", "(II)J"⟩
  | 7 => ⟨"WithoutThem$House", "copyFrom", "(LWithoutThem$House;)V"⟩
  | 8 => ⟨"WithoutThem$House", "costOf", "(I)I"⟩
  | 9 => ⟨"WithoutThem$House", "everything", "()I"⟩
  | 10 => ⟨"WithoutThem$House", "isSet", "(I)Z"⟩
  | 11 => ⟨"WithoutThem$House", "isThing", "(I)Z"⟩
  | 12 => ⟨"WithoutThem$House", "mayBy", "(I)I"⟩
  | 13 => ⟨"WithoutThem$House", "minutesOfGo", "(II)I"⟩
  | 14 => ⟨"WithoutThem$House", "reachFrom", "(I)I"⟩
  | 15 => ⟨"WithoutThem$House", "reachWithin", "(II)I"⟩
  | 16 => ⟨"WithoutThem$House", "takeIt", "(I)I"⟩
  | 17 => ⟨"WithoutThem$House", "tell", "(II)I"⟩
  | 18 => ⟨"WithoutThem$House", "turn", "([III)I"⟩
  | 19 => ⟨"WithoutThem$House", "turnAll", "(II)I"⟩
  | 20 => ⟨"WithoutThem$House", "turnAny", "(II)I"⟩
  | 21 => ⟨"WithoutThem$House", "turnHand", "(I)I"⟩
  | 22 => ⟨"WithoutThem$Orders", "countTo", "(LWithoutThem$House;I)I"⟩
  | 23 => ⟨"WithoutThem$Orders", "hadInAll", "(LWithoutThem$House;II)I"⟩
  | 24 => ⟨"WithoutThem$Orders", "priceOfGo", "(LWithoutThem$House;IIZ)I"⟩
  | 25 => ⟨"WithoutThem$Orders", "seek", "(LWithoutThem$House;IZ)V"⟩
  | 26 => ⟨"WithoutThem$Orders", "step", "(LWithoutThem$House;IIZ)V"⟩
  | 27 => ⟨"WithoutThem$Orders", "walk", "(LWithoutThem$House;Z)V"⟩
  | 28 => ⟨"WithoutThem$Reader", "faultHere", "()I"⟩
  | 29 => ⟨"WithoutThem$Reader", "forget", "()V"⟩
  | 30 => ⟨"WithoutThem$Reader", "hear", "(I)I"⟩
  | 31 => ⟨"WithoutThem$Reader", "here", "()I"⟩
  | 32 => ⟨"WithoutThem$Reader", "isFull", "()Z"⟩
  | 33 => ⟨"WithoutThem$Reader", "kindOf", "(I)I"⟩
  | 34 => ⟨"WithoutThem$Reader", "passes", "(I)Z"⟩
  | 35 => ⟨"WithoutThem$Reader", "readDigit", "()I"⟩
  | 36 => ⟨"WithoutThem$Reader", "readFirst", "()Z"⟩
  | 37 => ⟨"WithoutThem$Reader", "readNumber", "()I"⟩
  | 38 => ⟨"WithoutThem$Reader", "readSecond", "()Z"⟩
  | 39 => ⟨"WithoutThem$Reader", "readStatement", "()Z"⟩
  | 40 => ⟨"WithoutThem$Reader", "readThing", "()Z"⟩
  | 41 => ⟨"WithoutThem$Reader", "readsWell", "()Z"⟩
  | 42 => ⟨"WithoutThem$Reader", "tellEach", "(LWithoutThem$House;)I"⟩
  | 43 => ⟨"WithoutThem$Reader", "tellOne", "(LWithoutThem$House;)Z"⟩
  | 44 => ⟨"WithoutThem$Search", "bestSpare", "(LWithoutThem$House;)I"⟩
  | 45 => ⟨"WithoutThem$Search", "cheapestBegged", "(LWithoutThem$House;)I"⟩
  | 46 => ⟨"WithoutThem$Search", "fewestNails", "(LWithoutThem$House;)I"⟩
  | 47 => ⟨"WithoutThem$Search", "firstNotHad", "(LWithoutThem$House;[II)I"⟩
  | 48 => ⟨"WithoutThem$Search", "lostWithout", "(LWithoutThem$House;I)I"⟩
  | 49 => ⟨"WithoutThem$Search", "neededWithin", "(LWithoutThem$House;I)I"⟩
  | 50 => ⟨"WithoutThem$Search", "ringedIn", "(LWithoutThem$House;)I"⟩
  | 51 => ⟨"WithoutThem$Seeker", "chosen", "(LWithoutThem$House;II)I"⟩
  | 52 => ⟨"WithoutThem$Seeker", "minutesByLot", "(LWithoutThem$House;II)I"⟩
  | 53 => ⟨"WithoutThem$Seeker", "minutesOfAll", "(LWithoutThem$House;I)I"⟩
  | 54 => ⟨"WithoutThem$Seeker", "rankOf", "(LWithoutThem$House;III)I"⟩
  | 55 => ⟨"WithoutThem$Seeker", "takenAt", "(LWithoutThem$House;II)I"⟩
  | 56 => ⟨"WithoutThem$Fraction", "greatestShared", "(JJ)J"⟩
  | 57 => ⟨"WithoutThem$Fraction", "partOf", "(JJI)J"⟩
  | 58 => ⟨"WithoutThem", "beg", "(I)I"⟩
  | 59 => ⟨"WithoutThem", "count", "(I)I"⟩
  | 60 => ⟨"WithoutThem", "does", "(I)I"⟩
  | 61 => ⟨"WithoutThem", "drawer", "(III)J"⟩
  | 62 => ⟨"WithoutThem", "halfway", "(II)I"⟩
  | 63 => ⟨"WithoutThem", "hand", "(I)I"⟩
  | 64 => ⟨"WithoutThem", "house", "()I"⟩
  | 65 => ⟨"WithoutThem", "image", "()I"⟩
  | 66 => ⟨"WithoutThem", "isNoPart", "(I)Z"⟩
  | 67 => ⟨"WithoutThem", "isNoSeeker", "(I)Z"⟩
  | 68 => ⟨"WithoutThem", "judge", "()I"⟩
  | 69 => ⟨"WithoutThem", "letter", "(I)I"⟩
  | 70 => ⟨"WithoutThem", "lots", "(II)I"⟩
  | 71 => ⟨"WithoutThem", "may", "()I"⟩
  | 72 => ⟨"WithoutThem", "mean", "(II)J"⟩
  | 73 => ⟨"WithoutThem", "must", "(I)I"⟩
  | 74 => ⟨"WithoutThem", "nails", "()I"⟩
  | 75 => ⟨"WithoutThem", "need", "(III)I"⟩
  | 76 => ⟨"WithoutThem", "on", "()I"⟩
  | 77 => ⟨"WithoutThem", "reach", "()I"⟩
  | 78 => ⟨"WithoutThem", "refusalOfWay", "(I)I"⟩
  | 79 => ⟨"WithoutThem", "refuse", "(I)I"⟩
  | 80 => ⟨"WithoutThem", "refuseLong", "(I)J"⟩
  | 81 => ⟨"WithoutThem", "ringed", "()I"⟩
  | 82 => ⟨"WithoutThem", "row", "(I)I"⟩
  | 83 => ⟨"WithoutThem", "seeker", "(II)I"⟩
  | 84 => ⟨"WithoutThem", "seeks", "(I)I"⟩
  | 85 => ⟨"WithoutThem", "soonest", "(II)I"⟩
  | 86 => ⟨"WithoutThem", "spare", "()I"⟩
  | 87 => ⟨"WithoutThem", "surely", "(I)J"⟩
  | 88 => ⟨"WithoutThem", "take", "(I)I"⟩
  | 89 => ⟨"WithoutThem", "thing", "(II)I"⟩
  | 90 => ⟨"WithoutThem", "ways", "(I)I"⟩
  | 91 => ⟨"WithoutThem", "with", "(I)I"⟩
  | 92 => ⟨"WithoutThemModel", "areThings", "(I)Z"⟩
  | 93 => ⟨"WithoutThemModel", "areTwo", "(II)Z"⟩
  | 94 => ⟨"WithoutThemModel", "beg", "(I)I"⟩
  | 95 => ⟨"WithoutThemModel", "bits", "(I)I"⟩
  | 96 => ⟨"WithoutThemModel", "bound", "(III)I"⟩
  | 97 => ⟨"WithoutThemModel", "canHave", "(II)Z"⟩
  | 98 => ⟨"WithoutThemModel", "comes", "(I)Z"⟩
  | 99 => ⟨"WithoutThemModel", "comesThing", "(I)Z"⟩
  | 100 => ⟨"WithoutThemModel", "costOf", "(I)I"⟩
  | 101 => ⟨"WithoutThemModel", "count", "(I)I"⟩
  | 102 => ⟨"WithoutThemModel", "divisor", "(JJ)J"⟩
  | 103 => ⟨"WithoutThemModel", "does", "(I)I"⟩
  | 104 => ⟨"WithoutThemModel", "drawer", "(III)J"⟩
  | 105 => ⟨"WithoutThemModel", "findRest", "(IZ)V"⟩
  | 106 => ⟨"WithoutThemModel", "findWays", "(I)V"⟩
  | 107 => ⟨"WithoutThemModel", "goOf", "(II)I"⟩
  | 108 => ⟨"WithoutThemModel", "halfway", "(II)I"⟩
  | 109 => ⟨"WithoutThemModel", "hand", "(I)I"⟩
  | 110 => ⟨"WithoutThemModel", "has", "(II)Z"⟩
  | 111 => ⟨"WithoutThemModel", "house", "()I"⟩
  | 112 => ⟨"WithoutThemModel", "image", "()I"⟩
  | 113 => ⟨"WithoutThemModel", "isBetter", "(IIII)Z"⟩
  | 114 => ⟨"WithoutThemModel", "isIn", "(III)Z"⟩
  | 115 => ⟨"WithoutThemModel", "isRinged", "(II)Z"⟩
  | 116 => ⟨"WithoutThemModel", "isThing", "(I)Z"⟩
  | 117 => ⟨"WithoutThemModel", "isWithin", "(II)Z"⟩
  | 118 => ⟨"WithoutThemModel", "judge", "()I"⟩
  | 119 => ⟨"WithoutThemModel", "kindOf", "(I)I"⟩
  | 120 => ⟨"WithoutThemModel", "letter", "(I)I"⟩
  | 121 => ⟨"WithoutThemModel", "lots", "(II)I"⟩
  | 122 => ⟨"WithoutThemModel", "lowest", "(I)J"⟩
  | 123 => ⟨"WithoutThemModel", "may", "()I"⟩
  | 124 => ⟨"WithoutThemModel", "mayBy", "(I)I"⟩
  | 125 => ⟨"WithoutThemModel", "mean", "(II)J"⟩
  | 126 => ⟨"WithoutThemModel", "must", "(I)I"⟩
  | 127 => ⟨"WithoutThemModel", "nails", "()I"⟩
  | 128 => ⟨"WithoutThemModel", "need", "(III)I"⟩
  | 129 => ⟨"WithoutThemModel", "next", "()I"⟩
  | 130 => ⟨"WithoutThemModel", "no", "(I)I"⟩
  | 131 => ⟨"WithoutThemModel", "notAimed", "(I)I"⟩
  | 132 => ⟨"WithoutThemModel", "on", "()I"⟩
  | 133 => ⟨"WithoutThemModel", "partOf", "(JJI)J"⟩
  | 134 => ⟨"WithoutThemModel", "passOne", "(I)I"⟩
  | 135 => ⟨"WithoutThemModel", "passes", "([I)V"⟩
  | 136 => ⟨"WithoutThemModel", "passesAll", "(IZ)V"⟩
  | 137 => ⟨"WithoutThemModel", "reach", "()I"⟩
  | 138 => ⟨"WithoutThemModel", "reachOf", "(II)I"⟩
  | 139 => ⟨"WithoutThemModel", "readsNumber", "(II)Z"⟩
  | 140 => ⟨"WithoutThemModel", "readsThing", "(I)Z"⟩
  | 141 => ⟨"WithoutThemModel", "restBy", "(IIZ)I"⟩
  | 142 => ⟨"WithoutThemModel", "ringed", "()I"⟩
  | 143 => ⟨"WithoutThemModel", "row", "(I)I"⟩
  | 144 => ⟨"WithoutThemModel", "seeker", "(II)I"⟩
  | 145 => ⟨"WithoutThemModel", "seeks", "(I)I"⟩
  | 146 => ⟨"WithoutThemModel", "soonest", "(II)I"⟩
  | 147 => ⟨"WithoutThemModel", "sought", "(II)I"⟩
  | 148 => ⟨"WithoutThemModel", "spare", "()I"⟩
  | 149 => ⟨"WithoutThemModel", "statement", "()Z"⟩
  | 150 => ⟨"WithoutThemModel", "surely", "(I)J"⟩
  | 151 => ⟨"WithoutThemModel", "take", "(I)I"⟩
  | 152 => ⟨"WithoutThemModel", "thing", "(II)I"⟩
  | 153 => ⟨"WithoutThemModel", "ways", "(I)I"⟩
  | 154 => ⟨"WithoutThemModel", "whole", "()I"⟩
  | 155 => ⟨"WithoutThemModel", "with", "(I)I"⟩
  | 156 => ⟨"java/lang/Integer", "bitCount", "(I)I"⟩
  | 157 => ⟨"WithoutThemLaw", "law", "([I)Z"⟩
  | _ => ⟨"", "", ""⟩
def q_code (y : Nat) : ByteArray := match y with
  | 0 => prog_6_method_4_code
  | 1 => prog_6_method_2_code
  | 2 => prog_6_method_3_code
  | 3 => prog_3_method_7_code
  | 4 => prog_3_method_18_code
  | 5 => prog_3_method_14_code
  | 6 => prog_3_method_20_code
  | 7 => prog_3_method_2_code
  | 8 => prog_3_method_19_code
  | 9 => prog_3_method_4_code
  | 10 => prog_3_method_5_code
  | 11 => prog_3_method_3_code
  | 12 => prog_3_method_15_code
  | 13 => prog_3_method_13_code
  | 14 => prog_3_method_16_code
  | 15 => prog_3_method_17_code
  | 16 => prog_3_method_12_code
  | 17 => prog_3_method_6_code
  | 18 => prog_3_method_10_code
  | 19 => prog_3_method_9_code
  | 20 => prog_3_method_8_code
  | 21 => prog_3_method_11_code
  | 22 => prog_4_method_6_code
  | 23 => prog_4_method_7_code
  | 24 => prog_4_method_5_code
  | 25 => prog_4_method_2_code
  | 26 => prog_4_method_4_code
  | 27 => prog_4_method_3_code
  | 28 => prog_5_method_6_code
  | 29 => prog_5_method_4_code
  | 30 => prog_5_method_3_code
  | 31 => prog_5_method_16_code
  | 32 => prog_5_method_2_code
  | 33 => prog_5_method_17_code
  | 34 => prog_5_method_15_code
  | 35 => prog_5_method_14_code
  | 36 => prog_5_method_11_code
  | 37 => prog_5_method_13_code
  | 38 => prog_5_method_12_code
  | 39 => prog_5_method_9_code
  | 40 => prog_5_method_10_code
  | 41 => prog_5_method_5_code
  | 42 => prog_5_method_7_code
  | 43 => prog_5_method_8_code
  | 44 => prog_7_method_5_code
  | 45 => prog_7_method_3_code
  | 46 => prog_7_method_4_code
  | 47 => prog_7_method_8_code
  | 48 => prog_7_method_6_code
  | 49 => prog_7_method_7_code
  | 50 => prog_7_method_2_code
  | 51 => prog_8_method_5_code
  | 52 => prog_8_method_4_code
  | 53 => prog_8_method_3_code
  | 54 => prog_8_method_6_code
  | 55 => prog_8_method_2_code
  | 56 => prog_2_method_3_code
  | 57 => prog_2_method_2_code
  | 58 => prog_1_method_15_code
  | 59 => prog_1_method_30_code
  | 60 => prog_1_method_18_code
  | 61 => prog_1_method_22_code
  | 62 => prog_1_method_21_code
  | 63 => prog_1_method_6_code
  | 64 => prog_1_method_3_code
  | 65 => prog_1_method_28_code
  | 66 => prog_1_method_34_code
  | 67 => prog_1_method_35_code
  | 68 => prog_1_method_26_code
  | 69 => prog_1_method_2_code
  | 70 => prog_1_method_27_code
  | 71 => prog_1_method_8_code
  | 72 => prog_1_method_12_code
  | 73 => prog_1_method_20_code
  | 74 => prog_1_method_16_code
  | 75 => prog_1_method_5_code
  | 76 => prog_1_method_29_code
  | 77 => prog_1_method_10_code
  | 78 => prog_1_method_33_code
  | 79 => prog_1_method_31_code
  | 80 => prog_1_method_32_code
  | 81 => prog_1_method_14_code
  | 82 => prog_1_method_25_code
  | 83 => prog_1_method_23_code
  | 84 => prog_1_method_24_code
  | 85 => prog_1_method_11_code
  | 86 => prog_1_method_17_code
  | 87 => prog_1_method_13_code
  | 88 => prog_1_method_7_code
  | 89 => prog_1_method_4_code
  | 90 => prog_1_method_19_code
  | 91 => prog_1_method_9_code
  | 92 => prog_10_method_9_code
  | 93 => prog_10_method_10_code
  | 94 => prog_10_method_47_code
  | 95 => prog_10_method_7_code
  | 96 => prog_10_method_5_code
  | 97 => prog_10_method_25_code
  | 98 => prog_10_method_18_code
  | 99 => prog_10_method_17_code
  | 100 => prog_10_method_46_code
  | 101 => prog_10_method_65_code
  | 102 => prog_10_method_40_code
  | 103 => prog_10_method_50_code
  | 104 => prog_10_method_57_code
  | 105 => prog_10_method_37_code
  | 106 => prog_10_method_52_code
  | 107 => prog_10_method_27_code
  | 108 => prog_10_method_56_code
  | 109 => prog_10_method_32_code
  | 110 => prog_10_method_6_code
  | 111 => prog_10_method_19_code
  | 112 => prog_10_method_23_code
  | 113 => prog_10_method_58_code
  | 114 => prog_10_method_4_code
  | 115 => prog_10_method_44_code
  | 116 => prog_10_method_8_code
  | 117 => prog_10_method_51_code
  | 118 => prog_10_method_63_code
  | 119 => prog_10_method_14_code
  | 120 => prog_10_method_11_code
  | 121 => prog_10_method_64_code
  | 122 => prog_10_method_3_code
  | 123 => prog_10_method_34_code
  | 124 => prog_10_method_26_code
  | 125 => prog_10_method_42_code
  | 126 => prog_10_method_55_code
  | 127 => prog_10_method_48_code
  | 128 => prog_10_method_31_code
  | 129 => prog_10_method_12_code
  | 130 => prog_10_method_2_code
  | 131 => prog_10_method_53_code
  | 132 => prog_10_method_24_code
  | 133 => prog_10_method_41_code
  | 134 => prog_10_method_21_code
  | 135 => prog_10_method_20_code
  | 136 => prog_10_method_22_code
  | 137 => prog_10_method_36_code
  | 138 => prog_10_method_28_code
  | 139 => prog_10_method_13_code
  | 140 => prog_10_method_15_code
  | 141 => prog_10_method_38_code
  | 142 => prog_10_method_45_code
  | 143 => prog_10_method_62_code
  | 144 => prog_10_method_60_code
  | 145 => prog_10_method_61_code
  | 146 => prog_10_method_39_code
  | 147 => prog_10_method_59_code
  | 148 => prog_10_method_49_code
  | 149 => prog_10_method_16_code
  | 150 => prog_10_method_43_code
  | 151 => prog_10_method_33_code
  | 152 => prog_10_method_30_code
  | 153 => prog_10_method_54_code
  | 154 => prog_10_method_29_code
  | 155 => prog_10_method_35_code
  | 156 => prog_11_method_49_code
  | 157 => code
  | _ => ⟨#[]⟩
def q_maxL (y : Nat) : Nat := match y with
  | 0 => 3
  | 1 => 2
  | 2 => 3
  | 3 => 5
  | 4 => 1
  | 5 => 8
  | 6 => 8
  | 7 => 2
  | 8 => 4
  | 9 => 1
  | 10 => 2
  | 11 => 2
  | 12 => 4
  | 13 => 5
  | 14 => 2
  | 15 => 6
  | 16 => 2
  | 17 => 3
  | 18 => 4
  | 19 => 3
  | 20 => 3
  | 21 => 2
  | 22 => 8
  | 23 => 7
  | 24 => 6
  | 25 => 7
  | 26 => 10
  | 27 => 7
  | 28 => 1
  | 29 => 1
  | 30 => 2
  | 31 => 1
  | 32 => 1
  | 33 => 1
  | 34 => 2
  | 35 => 2
  | 36 => 1
  | 37 => 3
  | 38 => 1
  | 39 => 1
  | 40 => 1
  | 41 => 3
  | 42 => 5
  | 43 => 2
  | 44 => 5
  | 45 => 8
  | 46 => 4
  | 47 => 6
  | 48 => 4
  | 49 => 7
  | 50 => 7
  | 51 => 8
  | 52 => 9
  | 53 => 6
  | 54 => 4
  | 55 => 6
  | 56 => 11
  | 57 => 9
  | 58 => 3
  | 59 => 2
  | 60 => 2
  | 61 => 5
  | 62 => 4
  | 63 => 2
  | 64 => 2
  | 65 => 1
  | 66 => 1
  | 67 => 1
  | 68 => 2
  | 69 => 2
  | 70 => 3
  | 71 => 1
  | 72 => 5
  | 73 => 3
  | 74 => 1
  | 75 => 4
  | 76 => 1
  | 77 => 1
  | 78 => 2
  | 79 => 2
  | 80 => 2
  | 81 => 1
  | 82 => 2
  | 83 => 3
  | 84 => 2
  | 85 => 3
  | 86 => 1
  | 87 => 2
  | 88 => 2
  | 89 => 3
  | 90 => 3
  | 91 => 2
  | 92 => 2
  | 93 => 3
  | 94 => 4
  | 95 => 3
  | 96 => 3
  | 97 => 6
  | 98 => 5
  | 99 => 2
  | 100 => 4
  | 101 => 2
  | 102 => 10
  | 103 => 3
  | 104 => 5
  | 105 => 7
  | 106 => 5
  | 107 => 4
  | 108 => 6
  | 109 => 2
  | 110 => 2
  | 111 => 3
  | 112 => 1
  | 113 => 5
  | 114 => 3
  | 115 => 5
  | 116 => 2
  | 117 => 3
  | 118 => 4
  | 119 => 1
  | 120 => 3
  | 121 => 8
  | 122 => 2
  | 123 => 1
  | 124 => 4
  | 125 => 3
  | 126 => 7
  | 127 => 3
  | 128 => 4
  | 129 => 1
  | 130 => 2
  | 131 => 2
  | 132 => 1
  | 133 => 5
  | 134 => 3
  | 135 => 3
  | 136 => 3
  | 137 => 1
  | 138 => 5
  | 139 => 5
  | 140 => 2
  | 141 => 4
  | 142 => 4
  | 143 => 3
  | 144 => 7
  | 145 => 5
  | 146 => 5
  | 147 => 6
  | 148 => 5
  | 149 => 4
  | 150 => 8
  | 151 => 3
  | 152 => 3
  | 153 => 3
  | 154 => 1
  | 155 => 2
  | 156 => 1
  | 157 => 4
  | _ => 0
def q_ret (y : Nat) : Option FieldType := match y with
  | 0 => none
  | 1 => some .int
  | 2 => none
  | 3 => some .boolean
  | 4 => some .int
  | 5 => some .boolean
  | 6 => some .long
  | 7 => none
  | 8 => some .int
  | 9 => some .int
  | 10 => some .boolean
  | 11 => some .boolean
  | 12 => some .int
  | 13 => some .int
  | 14 => some .int
  | 15 => some .int
  | 16 => some .int
  | 17 => some .int
  | 18 => some .int
  | 19 => some .int
  | 20 => some .int
  | 21 => some .int
  | 22 => some .int
  | 23 => some .int
  | 24 => some .int
  | 25 => none
  | 26 => none
  | 27 => none
  | 28 => some .int
  | 29 => none
  | 30 => some .int
  | 31 => some .int
  | 32 => some .boolean
  | 33 => some .int
  | 34 => some .boolean
  | 35 => some .int
  | 36 => some .boolean
  | 37 => some .int
  | 38 => some .boolean
  | 39 => some .boolean
  | 40 => some .boolean
  | 41 => some .boolean
  | 42 => some .int
  | 43 => some .boolean
  | 44 => some .int
  | 45 => some .int
  | 46 => some .int
  | 47 => some .int
  | 48 => some .int
  | 49 => some .int
  | 50 => some .int
  | 51 => some .int
  | 52 => some .int
  | 53 => some .int
  | 54 => some .int
  | 55 => some .int
  | 56 => some .long
  | 57 => some .long
  | 58 => some .int
  | 59 => some .int
  | 60 => some .int
  | 61 => some .long
  | 62 => some .int
  | 63 => some .int
  | 64 => some .int
  | 65 => some .int
  | 66 => some .boolean
  | 67 => some .boolean
  | 68 => some .int
  | 69 => some .int
  | 70 => some .int
  | 71 => some .int
  | 72 => some .long
  | 73 => some .int
  | 74 => some .int
  | 75 => some .int
  | 76 => some .int
  | 77 => some .int
  | 78 => some .int
  | 79 => some .int
  | 80 => some .long
  | 81 => some .int
  | 82 => some .int
  | 83 => some .int
  | 84 => some .int
  | 85 => some .int
  | 86 => some .int
  | 87 => some .long
  | 88 => some .int
  | 89 => some .int
  | 90 => some .int
  | 91 => some .int
  | 92 => some .boolean
  | 93 => some .boolean
  | 94 => some .int
  | 95 => some .int
  | 96 => some .int
  | 97 => some .boolean
  | 98 => some .boolean
  | 99 => some .boolean
  | 100 => some .int
  | 101 => some .int
  | 102 => some .long
  | 103 => some .int
  | 104 => some .long
  | 105 => none
  | 106 => none
  | 107 => some .int
  | 108 => some .int
  | 109 => some .int
  | 110 => some .boolean
  | 111 => some .int
  | 112 => some .int
  | 113 => some .boolean
  | 114 => some .boolean
  | 115 => some .boolean
  | 116 => some .boolean
  | 117 => some .boolean
  | 118 => some .int
  | 119 => some .int
  | 120 => some .int
  | 121 => some .int
  | 122 => some .long
  | 123 => some .int
  | 124 => some .int
  | 125 => some .long
  | 126 => some .int
  | 127 => some .int
  | 128 => some .int
  | 129 => some .int
  | 130 => some .int
  | 131 => some .int
  | 132 => some .int
  | 133 => some .long
  | 134 => some .int
  | 135 => none
  | 136 => none
  | 137 => some .int
  | 138 => some .int
  | 139 => some .boolean
  | 140 => some .boolean
  | 141 => some .int
  | 142 => some .int
  | 143 => some .int
  | 144 => some .int
  | 145 => some .int
  | 146 => some .int
  | 147 => some .int
  | 148 => some .int
  | 149 => some .boolean
  | 150 => some .long
  | 151 => some .int
  | 152 => some .int
  | 153 => some .int
  | 154 => some .int
  | 155 => some .int
  | 156 => some .int
  | 157 => some .boolean
  | _ => none
def q_cn (y : Nat) : Nat := match y with
  | 0 => 0
  | 1 => 0
  | 2 => 0
  | 3 => 1
  | 4 => 1
  | 5 => 1
  | 6 => 1
  | 7 => 1
  | 8 => 1
  | 9 => 1
  | 10 => 1
  | 11 => 1
  | 12 => 1
  | 13 => 1
  | 14 => 1
  | 15 => 1
  | 16 => 1
  | 17 => 1
  | 18 => 1
  | 19 => 1
  | 20 => 1
  | 21 => 1
  | 22 => 2
  | 23 => 2
  | 24 => 2
  | 25 => 2
  | 26 => 2
  | 27 => 2
  | 28 => 3
  | 29 => 3
  | 30 => 3
  | 31 => 3
  | 32 => 3
  | 33 => 3
  | 34 => 3
  | 35 => 3
  | 36 => 3
  | 37 => 3
  | 38 => 3
  | 39 => 3
  | 40 => 3
  | 41 => 3
  | 42 => 3
  | 43 => 3
  | 44 => 4
  | 45 => 4
  | 46 => 4
  | 47 => 4
  | 48 => 4
  | 49 => 4
  | 50 => 4
  | 51 => 5
  | 52 => 5
  | 53 => 5
  | 54 => 5
  | 55 => 5
  | 56 => 6
  | 57 => 6
  | 58 => 7
  | 59 => 7
  | 60 => 7
  | 61 => 7
  | 62 => 7
  | 63 => 7
  | 64 => 7
  | 65 => 7
  | 66 => 7
  | 67 => 7
  | 68 => 7
  | 69 => 7
  | 70 => 7
  | 71 => 7
  | 72 => 7
  | 73 => 7
  | 74 => 7
  | 75 => 7
  | 76 => 7
  | 77 => 7
  | 78 => 7
  | 79 => 7
  | 80 => 7
  | 81 => 7
  | 82 => 7
  | 83 => 7
  | 84 => 7
  | 85 => 7
  | 86 => 7
  | 87 => 7
  | 88 => 7
  | 89 => 7
  | 90 => 7
  | 91 => 7
  | 92 => 8
  | 93 => 8
  | 94 => 8
  | 95 => 8
  | 96 => 8
  | 97 => 8
  | 98 => 8
  | 99 => 8
  | 100 => 8
  | 101 => 8
  | 102 => 8
  | 103 => 8
  | 104 => 8
  | 105 => 8
  | 106 => 8
  | 107 => 8
  | 108 => 8
  | 109 => 8
  | 110 => 8
  | 111 => 8
  | 112 => 8
  | 113 => 8
  | 114 => 8
  | 115 => 8
  | 116 => 8
  | 117 => 8
  | 118 => 8
  | 119 => 8
  | 120 => 8
  | 121 => 8
  | 122 => 8
  | 123 => 8
  | 124 => 8
  | 125 => 8
  | 126 => 8
  | 127 => 8
  | 128 => 8
  | 129 => 8
  | 130 => 8
  | 131 => 8
  | 132 => 8
  | 133 => 8
  | 134 => 8
  | 135 => 8
  | 136 => 8
  | 137 => 8
  | 138 => 8
  | 139 => 8
  | 140 => 8
  | 141 => 8
  | 142 => 8
  | 143 => 8
  | 144 => 8
  | 145 => 8
  | 146 => 8
  | 147 => 8
  | 148 => 8
  | 149 => 8
  | 150 => 8
  | 151 => 8
  | 152 => 8
  | 153 => 8
  | 154 => 8
  | 155 => 8
  | 156 => 9
  | 157 => 11
  | _ => 99
def q_fr (y : Nat) : Nat := match y with
  | 0 => 0
  | 1 => 0
  | 2 => 0
  | 3 => 1
  | 4 => 4
  | 5 => 1
  | 6 => 2
  | 7 => 1
  | 8 => 1
  | 9 => 0
  | 10 => 1
  | 11 => 0
  | 12 => 2
  | 13 => 1
  | 14 => 4
  | 15 => 3
  | 16 => 2
  | 17 => 2
  | 18 => 1
  | 19 => 2
  | 20 => 2
  | 21 => 0
  | 22 => 3
  | 23 => 4
  | 24 => 2
  | 25 => 5
  | 26 => 3
  | 27 => 4
  | 28 => 0
  | 29 => 0
  | 30 => 1
  | 31 => 0
  | 32 => 0
  | 33 => 0
  | 34 => 1
  | 35 => 1
  | 36 => 2
  | 37 => 2
  | 38 => 2
  | 39 => 4
  | 40 => 3
  | 41 => 5
  | 42 => 5
  | 43 => 3
  | 44 => 5
  | 45 => 5
  | 46 => 5
  | 47 => 2
  | 48 => 5
  | 49 => 4
  | 50 => 5
  | 51 => 4
  | 52 => 5
  | 53 => 5
  | 54 => 3
  | 55 => 5
  | 56 => 0
  | 57 => 1
  | 58 => 6
  | 59 => 5
  | 60 => 6
  | 61 => 3
  | 62 => 5
  | 63 => 2
  | 64 => 6
  | 65 => 2
  | 66 => 0
  | 67 => 0
  | 68 => 3
  | 69 => 2
  | 70 => 6
  | 71 => 3
  | 72 => 6
  | 73 => 5
  | 74 => 6
  | 75 => 3
  | 76 => 2
  | 77 => 5
  | 78 => 2
  | 79 => 1
  | 80 => 2
  | 81 => 6
  | 82 => 2
  | 83 => 6
  | 84 => 6
  | 85 => 6
  | 86 => 6
  | 87 => 5
  | 88 => 3
  | 89 => 3
  | 90 => 4
  | 91 => 3
  | 92 => 0
  | 93 => 1
  | 94 => 4
  | 95 => 0
  | 96 => 0
  | 97 => 1
  | 98 => 2
  | 99 => 1
  | 100 => 1
  | 101 => 4
  | 102 => 0
  | 103 => 4
  | 104 => 2
  | 105 => 3
  | 106 => 2
  | 107 => 1
  | 108 => 3
  | 109 => 1
  | 110 => 0
  | 111 => 4
  | 112 => 2
  | 113 => 3
  | 114 => 0
  | 115 => 4
  | 116 => 0
  | 117 => 0
  | 118 => 3
  | 119 => 0
  | 120 => 1
  | 121 => 5
  | 122 => 0
  | 123 => 3
  | 124 => 2
  | 125 => 4
  | 126 => 4
  | 127 => 4
  | 128 => 2
  | 129 => 0
  | 130 => 0
  | 131 => 1
  | 132 => 2
  | 133 => 1
  | 134 => 0
  | 135 => 0
  | 136 => 1
  | 137 => 4
  | 138 => 3
  | 139 => 1
  | 140 => 2
  | 141 => 2
  | 142 => 5
  | 143 => 1
  | 144 => 5
  | 145 => 5
  | 146 => 4
  | 147 => 4
  | 148 => 4
  | 149 => 3
  | 150 => 4
  | 151 => 3
  | 152 => 2
  | 153 => 3
  | 154 => 0
  | 155 => 3
  | 156 => 0
  | 157 => 7
  | _ => 0
def q_lo (y : Nat) : Nat := match y with
  | 0 => 0
  | 1 => 0
  | 2 => 0
  | 3 => 22
  | 4 => 96
  | 5 => 21
  | 6 => 58
  | 7 => 22
  | 8 => 21
  | 9 => 0
  | 10 => 20
  | 11 => 0
  | 12 => 48
  | 13 => 21
  | 14 => 96
  | 15 => 71
  | 16 => 45
  | 17 => 45
  | 18 => 22
  | 19 => 45
  | 20 => 45
  | 21 => 0
  | 22 => 71
  | 23 => 98
  | 24 => 45
  | 25 => 125
  | 26 => 70
  | 27 => 99
  | 28 => 0
  | 29 => 0
  | 30 => 22
  | 31 => 0
  | 32 => 0
  | 33 => 0
  | 34 => 20
  | 35 => 20
  | 36 => 41
  | 37 => 41
  | 38 => 41
  | 39 => 83
  | 40 => 63
  | 41 => 103
  | 42 => 103
  | 43 => 67
  | 44 => 117
  | 45 => 117
  | 46 => 117
  | 47 => 48
  | 48 => 117
  | 49 => 96
  | 50 => 117
  | 51 => 94
  | 52 => 121
  | 53 => 121
  | 54 => 71
  | 55 => 121
  | 56 => 0
  | 57 => 30
  | 58 => 144
  | 59 => 116
  | 60 => 140
  | 61 => 64
  | 62 => 124
  | 63 => 43
  | 64 => 127
  | 65 => 43
  | 66 => 0
  | 67 => 0
  | 68 => 73
  | 69 => 43
  | 70 => 149
  | 71 => 71
  | 72 => 151
  | 73 => 122
  | 74 => 140
  | 75 => 67
  | 76 => 43
  | 77 => 117
  | 78 => 41
  | 79 => 22
  | 80 => 43
  | 81 => 143
  | 82 => 43
  | 83 => 146
  | 84 => 146
  | 85 => 151
  | 86 => 141
  | 87 => 117
  | 88 => 66
  | 89 => 67
  | 90 => 98
  | 91 => 71
  | 92 => 0
  | 93 => 21
  | 94 => 94
  | 95 => 0
  | 96 => 0
  | 97 => 22
  | 98 => 43
  | 99 => 22
  | 100 => 21
  | 101 => 94
  | 102 => 0
  | 103 => 94
  | 104 => 53
  | 105 => 70
  | 106 => 47
  | 107 => 22
  | 108 => 71
  | 109 => 21
  | 110 => 0
  | 111 => 90
  | 112 => 44
  | 113 => 70
  | 114 => 0
  | 115 => 94
  | 116 => 0
  | 117 => 0
  | 118 => 70
  | 119 => 0
  | 120 => 22
  | 121 => 119
  | 122 => 0
  | 123 => 70
  | 124 => 47
  | 125 => 96
  | 126 => 94
  | 127 => 94
  | 128 => 43
  | 129 => 0
  | 130 => 0
  | 131 => 21
  | 132 => 44
  | 133 => 29
  | 134 => 0
  | 135 => 0
  | 136 => 22
  | 137 => 94
  | 138 => 70
  | 139 => 22
  | 140 => 46
  | 141 => 45
  | 142 => 118
  | 143 => 22
  | 144 => 119
  | 145 => 119
  | 146 => 96
  | 147 => 94
  | 148 => 94
  | 149 => 67
  | 150 => 94
  | 151 => 70
  | 152 => 45
  | 153 => 71
  | 154 => 0
  | 155 => 70
  | 156 => 0
  | 157 => 175
  | _ => 0
def q_ownC (n : Nat) : String := match n with
  | 0 => "WithoutThem$Rows"
  | 1 => "WithoutThem$House"
  | 2 => "WithoutThem$Orders"
  | 3 => "WithoutThem$Reader"
  | 4 => "WithoutThem$Search"
  | 5 => "WithoutThem$Seeker"
  | 6 => "WithoutThem$Fraction"
  | 7 => "WithoutThem"
  | 8 => "WithoutThemModel"
  | 9 => "java/lang/Integer"
  | 10 => "java/lang/Math"
  | 11 => "WithoutThemLaw"
  | _ => ""
/-! what the pool's entries name: fields (class, place; the word's place in lw_tbl), calls (method, arguments, receiver's class; the words' places), constants -/
def q_fl (n : Nat) : List (Nat × (Nat × Nat × Nat)) := match n with
  | 1 => [(9, (0, 0, 68)), (15, (0, 1, 69)), (18, (0, 2, 70)), (21, (0, 3, 73)), (24, (0, 4, 76)), (27, (0, 5, 77)), (36, (0, 6, 79)), (40, (0, 7, 86)), (43, (0, 8, 88))]
  | 2 => [(9, (1, 0, 145)), (15, (1, 1, 146)), (18, (1, 2, 147)), (25, (1, 3, 148)), (29, (1, 4, 150)), (33, (1, 5, 152)), (36, (0, 7, 84)), (59, (0, 6, 80)), (74, (0, 2, 72))]
  | 3 => [(9, (2, 0, 116)), (15, (2, 1, 117)), (25, (2, 2, 119)), (36, (2, 3, 120)), (39, (2, 4, 121)), (42, (2, 5, 122)), (45, (2, 6, 123)), (58, (0, 3, 75))]
  | 4 => [(15, (0, 6, 78)), (19, (0, 7, 85))]
  | 5 => [(9, (0, 7, 83)), (28, (0, 2, 71)), (42, (0, 6, 81)), (54, (0, 3, 74))]
  | 7 => [(10, (3, 0, 167)), (16, (3, 1, 168)), (19, (3, 2, 169)), (25, (3, 3, 170)), (32, (3, 4, 171)), (36, (3, 5, 172)), (40, (3, 6, 173)), (43, (3, 7, 174)), (47, (3, 8, 175)), (100, (0, 7, 87)), (107, (0, 8, 89)), (129, (1, 3, 149)), (132, (1, 4, 151)), (135, (1, 5, 153)), (224, (0, 6, 82)), (233, (2, 1, 118))]
  | 8 => [(7, (4, 0, 599)), (13, (4, 1, 600)), (16, (4, 2, 601)), (19, (4, 3, 602)), (22, (4, 4, 603)), (25, (4, 5, 604)), (28, (4, 6, 605)), (31, (4, 10, 609)), (34, (4, 11, 610)), (37, (4, 12, 611)), (40, (4, 13, 612)), (43, (4, 17, 616)), (46, (4, 21, 620)), (49, (4, 22, 621)), (52, (4, 23, 622)), (55, (4, 24, 623)), (60, (4, 7, 606)), (72, (4, 14, 613)), (79, (4, 15, 614)), (97, (4, 16, 615)), (109, (4, 8, 607)), (123, (4, 19, 618)), (127, (4, 20, 619)), (137, (4, 9, 608)), (140, (4, 18, 617)), (217, (4, 25, 624))]
  | _ => []
def q_cl (n : Nat) : List (Nat × ((Nat × Nat × Option Nat) × (Nat × Nat × Nat × Nat))) := match n with
  | 1 => [(30, ((0, 2, none), (226, 227, 0, 48))), (46, ((9, 1, some 0), (376, 377, 378, 44))), (50, ((1, 2, none), (296, 204, 0, 48))), (54, ((13, 3, some 0), (318, 319, 320, 44))), (58, ((2, 3, none), (280, 207, 0, 48))), (62, ((18, 3, none), (293, 294, 0, 44))), (66, ((156, 1, none), (322, 323, 0, 49))), (72, ((11, 2, some 0), (350, 282, 283, 44))), (81, ((5, 3, some 0), (367, 347, 348, 44))), (85, ((15, 3, some 0), (388, 389, 390, 44))), (88, ((12, 2, some 0), (392, 364, 365, 44))), (93, ((57, 3, none), (442, 428, 0, 51)))]
  | 2 => [(21, ((27, 3, some 1), (401, 403, 10, 46))), (41, ((9, 1, some 0), (405, 377, 378, 44))), (45, ((1, 2, none), (407, 204, 0, 48))), (51, ((2, 3, none), (406, 207, 0, 48))), (55, ((12, 2, some 0), (408, 364, 365, 44))), (62, ((26, 5, some 1), (409, 411, 11, 46))), (66, ((24, 4, none), (413, 414, 0, 46))), (70, ((13, 3, some 0), (416, 319, 320, 44))), (77, ((22, 3, some 1), (519, 500, 501, 46))), (81, ((156, 1, none), (520, 323, 0, 49)))]
  | 3 => [(19, ((2, 3, none), (217, 207, 0, 48))), (28, ((39, 1, some 2), (233, 235, 1, 45))), (32, ((43, 2, some 2), (272, 274, 9, 45))), (48, ((3, 4, some 0), (276, 277, 278, 44))), (54, ((11, 2, some 0), (281, 282, 283, 44))), (61, ((21, 2, some 0), (285, 286, 287, 44))), (65, ((20, 3, some 0), (289, 290, 291, 44))), (69, ((19, 3, some 0), (297, 298, 299, 44))), (72, ((31, 1, some 2), (237, 239, 2, 45))), (76, ((40, 1, some 2), (241, 243, 3, 45))), (79, ((34, 2, some 2), (256, 258, 6, 45))), (82, ((36, 1, some 2), (260, 262, 7, 45))), (85, ((38, 1, some 2), (264, 266, 8, 45))), (88, ((33, 1, none), (245, 246, 0, 45))), (91, ((37, 1, some 2), (248, 250, 4, 45))), (94, ((35, 1, some 2), (252, 254, 5, 45)))]
  | 4 => [(9, ((4, 1, some 0), (450, 451, 452, 44))), (22, ((14, 2, some 0), (454, 385, 386, 44))), (26, ((9, 1, some 0), (462, 377, 378, 44))), (29, ((8, 2, some 0), (463, 464, 465, 44))), (32, ((156, 1, none), (475, 323, 0, 49))), (37, ((15, 3, some 0), (490, 389, 390, 44))), (41, ((1, 2, none), (567, 204, 0, 48))), (47, ((5, 3, some 0), (568, 347, 348, 44)))]
  | 5 => [(15, ((51, 3, none), (539, 540, 0, 53))), (21, ((13, 3, some 0), (546, 319, 320, 44))), (32, ((1, 2, none), (547, 204, 0, 48))), (38, ((12, 2, some 0), (542, 364, 365, 44))), (45, ((54, 4, none), (543, 544, 0, 53))), (49, ((156, 1, none), (548, 323, 0, 49)))]
  | 6 => [(7, ((56, 2, none), (430, 431, 0, 51)))]
  | 7 => [(51, ((79, 2, some 3), (199, 201, 0, 43))), (55, ((32, 1, some 2), (209, 210, 211, 45))), (59, ((30, 2, some 2), (213, 214, 215, 45))), (62, ((7, 2, some 0), (222, 223, 224, 44))), (66, ((41, 1, some 2), (229, 230, 231, 45))), (69, ((42, 2, some 2), (268, 269, 270, 45))), (73, ((28, 1, some 2), (301, 302, 303, 45))), (77, ((29, 1, some 2), (305, 306, 307, 45))), (80, ((11, 2, some 0), (313, 282, 283, 44))), (84, ((17, 3, some 0), (314, 315, 316, 44))), (88, ((66, 1, none), (332, 333, 0, 43))), (91, ((20, 3, some 0), (335, 290, 291, 44))), (94, ((19, 3, some 0), (336, 298, 299, 44))), (97, ((21, 2, some 0), (341, 286, 287, 44))), (103, ((5, 3, some 0), (346, 347, 348, 44))), (110, ((13, 3, some 0), (354, 319, 320, 44))), (113, ((16, 2, some 0), (355, 356, 357, 44))), (116, ((12, 2, some 0), (363, 364, 365, 44))), (119, ((10, 2, some 0), (372, 373, 374, 44))), (122, ((14, 2, some 0), (384, 385, 386, 44))), (125, ((25, 4, some 1), (397, 398, 399, 46))), (138, ((80, 2, some 3), (421, 423, 12, 43))), (144, ((57, 3, none), (427, 428, 0, 51))), (150, ((6, 3, some 0), (437, 438, 439, 44))), (154, ((50, 1, none), (447, 448, 0, 52))), (159, ((45, 1, none), (459, 460, 0, 52))), (162, ((8, 2, some 0), (467, 464, 465, 44))), (165, ((46, 1, none), (472, 473, 0, 52))), (168, ((44, 1, none), (480, 481, 0, 52))), (171, ((48, 2, none), (487, 488, 0, 52))), (175, ((78, 2, some 3), (495, 497, 13, 43))), (178, ((22, 3, some 1), (499, 500, 501, 46))), (181, ((49, 2, none), (507, 508, 0, 52))), (184, ((156, 1, none), (514, 323, 0, 49))), (189, ((23, 4, some 1), (515, 516, 517, 46))), (200, ((67, 1, none), (533, 534, 0, 43))), (203, ((55, 3, none), (536, 537, 0, 53))), (208, ((53, 2, none), (553, 554, 0, 53))), (211, ((2, 3, none), (206, 207, 0, 48))), (217, ((47, 3, none), (564, 565, 0, 52))), (221, ((52, 3, none), (573, 574, 0, 53))), (227, ((4, 1, some 0), (591, 451, 452, 44))), (230, ((9, 1, some 0), (592, 377, 378, 44))), (236, ((1, 2, none), (203, 204, 0, 48)))]
  | 8 => [(64, ((116, 2, some 4), (739, 741, 25, 47))), (68, ((96, 3, none), (682, 683, 0, 47))), (75, ((130, 2, some 4), (685, 687, 14, 47))), (82, ((129, 1, some 4), (697, 699, 16, 47))), (86, ((114, 3, none), (712, 713, 0, 47))), (90, ((119, 1, none), (705, 706, 0, 47))), (93, ((139, 3, some 4), (708, 710, 18, 47))), (100, ((140, 2, some 4), (701, 703, 17, 47))), (103, ((99, 2, some 4), (731, 733, 23, 47))), (106, ((93, 3, some 4), (735, 737, 24, 47))), (112, ((149, 1, some 4), (693, 695, 15, 47))), (116, ((136, 3, some 4), (715, 717, 19, 47))), (120, ((98, 2, some 4), (727, 729, 22, 47))), (130, ((135, 2, some 4), (719, 721, 20, 47))), (134, ((134, 2, some 4), (723, 725, 21, 47))), (143, ((95, 1, none), (762, 763, 0, 47))), (146, ((110, 2, none), (759, 760, 0, 47))), (149, ((97, 3, some 4), (781, 783, 28, 47))), (152, ((124, 2, some 4), (777, 779, 27, 47))), (155, ((107, 3, some 4), (755, 757, 26, 47))), (159, ((92, 2, some 4), (793, 795, 29, 47))), (162, ((138, 3, some 4), (801, 803, 30, 47))), (165, ((154, 1, some 4), (813, 815, 32, 47))), (169, ((141, 4, some 4), (818, 820, 33, 47))), (173, ((105, 3, some 4), (809, 811, 31, 47))), (176, ((102, 2, none), (835, 836, 0, 47))), (180, ((122, 2, some 4), (826, 828, 34, 47))), (186, ((133, 3, none), (832, 833, 0, 47))), (192, ((115, 3, some 4), (847, 849, 35, 47))), (195, ((100, 2, some 4), (855, 857, 36, 47))), (198, ((117, 3, some 4), (883, 885, 39, 47))), (201, ((131, 2, some 4), (875, 877, 37, 47))), (204, ((106, 2, some 4), (879, 881, 38, 47))), (210, ((113, 5, some 4), (908, 910, 41, 47))), (214, ((147, 3, some 4), (904, 906, 40, 47)))]
  | 11 => [(13, ((69, 2, some 3), (195, 196, 197, 43))), (17, ((120, 2, some 4), (678, 679, 680, 47))), (18, ((64, 1, some 3), (218, 219, 220, 43))), (22, ((111, 1, some 4), (689, 690, 691, 47))), (23, ((89, 3, some 3), (309, 310, 311, 43))), (27, ((152, 3, some 4), (751, 752, 753, 47))), (28, ((75, 4, some 3), (328, 329, 330, 43))), (32, ((128, 4, some 4), (765, 766, 767, 47))), (33, ((63, 2, some 3), (337, 338, 339, 43))), (36, ((109, 2, some 4), (769, 770, 771, 47))), (37, ((88, 2, some 3), (342, 343, 344, 43))), (40, ((151, 2, some 4), (773, 774, 775, 47))), (41, ((71, 1, some 3), (359, 360, 361, 43))), (44, ((123, 1, some 4), (785, 786, 787, 47))), (45, ((91, 2, some 3), (368, 369, 370, 43))), (48, ((155, 2, some 4), (789, 790, 791, 47))), (49, ((77, 1, some 3), (380, 381, 382, 43))), (52, ((137, 1, some 4), (797, 798, 799, 47))), (53, ((85, 3, some 3), (393, 394, 395, 43))), (56, ((146, 3, some 4), (805, 806, 807, 47))), (57, ((72, 3, some 3), (417, 418, 419, 43))), (61, ((125, 3, some 4), (822, 823, 824, 47))), (62, ((87, 2, some 3), (433, 434, 435, 43))), (66, ((150, 2, some 4), (838, 839, 840, 47))), (67, ((81, 1, some 3), (443, 444, 445, 43))), (70, ((142, 1, some 4), (843, 844, 845, 47))), (71, ((58, 2, some 3), (455, 456, 457, 43))), (74, ((94, 2, some 4), (851, 852, 853, 47))), (75, ((74, 1, some 3), (468, 469, 470, 43))), (78, ((127, 1, some 4), (859, 860, 861, 47))), (79, ((86, 1, some 3), (476, 477, 478, 43))), (82, ((148, 1, some 4), (863, 864, 865, 47))), (83, ((60, 2, some 3), (483, 484, 485, 43))), (86, ((103, 2, some 4), (867, 868, 869, 47))), (87, ((90, 2, some 3), (491, 492, 493, 43))), (90, ((153, 2, some 4), (871, 872, 873, 47))), (91, ((73, 2, some 3), (503, 504, 505, 43))), (94, ((126, 2, some 4), (887, 888, 889, 47))), (95, ((62, 3, some 3), (510, 511, 512, 43))), (98, ((108, 3, some 4), (891, 892, 893, 47))), (99, ((61, 4, some 3), (521, 522, 523, 43))), (103, ((104, 4, some 4), (895, 896, 897, 47))), (104, ((83, 3, some 3), (529, 530, 531, 43))), (107, ((144, 3, some 4), (900, 901, 902, 47))), (108, ((84, 2, some 3), (549, 550, 551, 43))), (111, ((145, 2, some 4), (912, 913, 914, 47))), (112, ((82, 2, some 3), (556, 557, 558, 43))), (115, ((143, 2, some 4), (916, 917, 918, 47))), (116, ((68, 1, some 3), (560, 561, 562, 43))), (119, ((118, 1, some 4), (920, 921, 922, 47))), (120, ((70, 3, some 3), (569, 570, 571, 43))), (123, ((121, 3, some 4), (924, 925, 926, 47))), (124, ((65, 1, some 3), (579, 580, 581, 43))), (127, ((112, 1, some 4), (743, 744, 745, 47))), (128, ((76, 1, some 3), (583, 584, 585, 43))), (131, ((132, 1, some 4), (747, 748, 749, 47))), (132, ((59, 2, some 3), (587, 588, 589, 43))), (135, ((101, 2, some 4), (931, 932, 933, 47)))]
  | _ => []
def q_cs (n : Nat) : List (Nat × (Value × Nat)) := match n with
  | 1 => [(91, (.long 10, 441))]
  | 5 => [(25, (.int 1664525, 576)), (26, (.int 1013904223, 577)), (27, (.int 2147483647, 578))]
  | 7 => [(142, (.long 2520, 426)), (198, (.long 2, 528)), (240, (.long 4000000000000000000, 425))]
  | 8 => [(58, (.long 4000000000000000000, 830)), (168, (.int 100000000, 817)), (184, (.long 2520, 831)), (190, (.long 10, 842)), (208, (.long 2, 899)), (220, (.int 1664525, 928)), (221, (.int 1013904223, 929)), (222, (.int 2147483647, 930))]
  | 9 => [(265, (.int 1431655765, 325)), (266, (.int 858993459, 326)), (267, (.int 252645135, 327))]
  | _ => []
/-- Math.min (true), Math.max (false) -/
def q_ml (n : Nat) : List (Nat × (Bool × Nat)) := match n with
  | 1 => [(76, (true, 351))]
  | 7 => [(193, (false, 525))]
  | _ => []
def q_cp (y : Nat) : Nat := match y with
  | 0 => 228
  | 1 => 205
  | 2 => 208
  | 3 => 279
  | 4 => 453
  | 5 => 349
  | 6 => 440
  | 7 => 225
  | 8 => 466
  | 9 => 379
  | 10 => 375
  | 11 => 284
  | 12 => 366
  | 13 => 321
  | 14 => 387
  | 15 => 391
  | 16 => 358
  | 17 => 317
  | 18 => 295
  | 19 => 300
  | 20 => 292
  | 21 => 288
  | 22 => 502
  | 23 => 518
  | 24 => 415
  | 25 => 400
  | 26 => 412
  | 27 => 404
  | 28 => 304
  | 29 => 308
  | 30 => 216
  | 31 => 240
  | 32 => 212
  | 33 => 247
  | 34 => 259
  | 35 => 255
  | 36 => 263
  | 37 => 251
  | 38 => 267
  | 39 => 236
  | 40 => 244
  | 41 => 232
  | 42 => 271
  | 43 => 275
  | 44 => 482
  | 45 => 461
  | 46 => 474
  | 47 => 566
  | 48 => 489
  | 49 => 509
  | 50 => 449
  | 51 => 541
  | 52 => 575
  | 53 => 555
  | 54 => 545
  | 55 => 538
  | 56 => 432
  | 57 => 429
  | 58 => 458
  | 59 => 590
  | 60 => 486
  | 61 => 524
  | 62 => 513
  | 63 => 340
  | 64 => 221
  | 65 => 582
  | 66 => 334
  | 67 => 535
  | 68 => 563
  | 69 => 198
  | 70 => 572
  | 71 => 362
  | 72 => 420
  | 73 => 506
  | 74 => 471
  | 75 => 331
  | 76 => 586
  | 77 => 383
  | 78 => 498
  | 79 => 202
  | 80 => 424
  | 81 => 446
  | 82 => 559
  | 83 => 532
  | 84 => 552
  | 85 => 396
  | 86 => 479
  | 87 => 436
  | 88 => 345
  | 89 => 312
  | 90 => 494
  | 91 => 371
  | 92 => 796
  | 93 => 738
  | 94 => 854
  | 95 => 764
  | 96 => 684
  | 97 => 784
  | 98 => 730
  | 99 => 734
  | 100 => 858
  | 101 => 934
  | 102 => 837
  | 103 => 870
  | 104 => 898
  | 105 => 812
  | 106 => 882
  | 107 => 758
  | 108 => 894
  | 109 => 772
  | 110 => 761
  | 111 => 692
  | 112 => 746
  | 113 => 911
  | 114 => 714
  | 115 => 850
  | 116 => 742
  | 117 => 886
  | 118 => 923
  | 119 => 707
  | 120 => 681
  | 121 => 927
  | 122 => 829
  | 123 => 788
  | 124 => 780
  | 125 => 825
  | 126 => 890
  | 127 => 862
  | 128 => 768
  | 129 => 700
  | 130 => 688
  | 131 => 878
  | 132 => 750
  | 133 => 834
  | 134 => 726
  | 135 => 722
  | 136 => 718
  | 137 => 800
  | 138 => 804
  | 139 => 711
  | 140 => 704
  | 141 => 821
  | 142 => 846
  | 143 => 919
  | 144 => 903
  | 145 => 915
  | 146 => 808
  | 147 => 907
  | 148 => 866
  | 149 => 696
  | 150 => 841
  | 151 => 776
  | 152 => 754
  | 153 => 874
  | 154 => 816
  | 155 => 792
  | 156 => 324
  | _ => 0
def q_nM : Nat := 157
def q_own (y : Nat) : String := q_ownC (q_cn y)
def q_fld (y i : Nat) : Option (Nat × Nat) := ((q_fl (q_cn y)).lookup i).map fun e => (e.1, e.2.1)
def q_tgt (y i : Nat) : Option (Nat × Nat × Option Nat) := ((q_cl (q_cn y)).lookup i).map fun e => e.1
def q_mm (y i : Nat) : Option Bool := ((q_ml (q_cn y)).lookup i).map fun e => e.1
def q_mfit (y : Nat) : Bool := decide (1 ≤ q_fr y) && decide (21 ≤ q_lo y)
def q_ldc (y i : Nat) : Option Value := ((q_cs (q_cn y)).lookup i).map fun e => e.1
def q_fchk (n : Nat) (e : Nat × (Nat × Nat × Nat)) : Bool := match vwCl[e.2.1]? with
  | some r => decide (e.2.2.1 < r.2.2) && decide (lw_tbl[e.2.2.2]? = some (Cond.fieldLink (q_ownC n) e.1 (r.2.1 e.2.2.1).1 (r.2.1 e.2.2.1).2.1 (r.2.1 e.2.2.1).2.2.1))
  | none => false
def q_cchk (n : Nat) (e : Nat × ((Nat × Nat × Option Nat) × (Nat × Nat × Nat × Nat))) : Bool :=
  decide (e.2.1.1 < q_nM) && (decide ((parseMethodDescriptor (q_name e.2.1.1).desc).map (fun d => d.parameters.length) = some (match e.2.1.2.2 with
    | some _ => e.2.1.2.1 - 1
    | none => e.2.1.2.1)) && (decide (lw_tbl[e.2.2.1]? = some (Cond.methodLink (q_ownC n) e.1 (q_name e.2.1.1))) && (decide (lw_tbl[e.2.2.2.2.2]? = some (Cond.initialized (q_name e.2.1.1).cls)) && (match e.2.1.2.2 with
    | some ci => decide (0 < e.2.1.2.1) && (decide ((vwCl[ci]?).map (fun r => r.1) = some (q_name e.2.1.1).cls) && (decide (lw_tbl[e.2.2.2.1]? = some (Cond.instanceMethod (q_name e.2.1.1))) && decide (lw_tbl[e.2.2.2.2.1]? = some (Cond.selects (q_name e.2.1.1).cls (q_name e.2.1.1) (q_name e.2.1.1)))))
    | none => decide (lw_tbl[e.2.2.2.1]? = some (Cond.static (q_name e.2.1.1)))))))
def q_mn (b : Bool) : MethodName := match b with
  | true => Lib.Math.min.name
  | false => Lib.Math.max.name
def q_mchk (n : Nat) (e : Nat × (Bool × Nat)) : Bool := decide (lw_tbl[e.2.2]? = some (Cond.methodLink (q_ownC n) e.1 (q_mn e.2.1)))
def q_schk (n : Nat) (e : Nat × (Value × Nat)) : Bool := match e.2.1 with
  | .int v => decide (lw_tbl[e.2.2]? = some (Cond.constant (q_ownC n) e.1 v))
  | .long v => decide (lw_tbl[e.2.2]? = some (Cond.constantLong (q_ownC n) e.1 v))
  | _ => false
theorem q_fok_1 : (q_fl 1).all (q_fchk 1) = true := by decide +kernel
theorem q_cok_1 : (q_cl 1).all (q_cchk 1) = true := by decide +kernel
theorem q_sok_1 : (q_cs 1).all (q_schk 1) = true := by decide +kernel
theorem q_fok_2 : (q_fl 2).all (q_fchk 2) = true := by decide +kernel
theorem q_cok_2 : (q_cl 2).all (q_cchk 2) = true := by decide +kernel
theorem q_fok_3 : (q_fl 3).all (q_fchk 3) = true := by decide +kernel
theorem q_cok_3 : (q_cl 3).all (q_cchk 3) = true := by decide +kernel
theorem q_fok_4 : (q_fl 4).all (q_fchk 4) = true := by decide +kernel
theorem q_cok_4 : (q_cl 4).all (q_cchk 4) = true := by decide +kernel
theorem q_fok_5 : (q_fl 5).all (q_fchk 5) = true := by decide +kernel
theorem q_cok_5 : (q_cl 5).all (q_cchk 5) = true := by decide +kernel
theorem q_sok_5 : (q_cs 5).all (q_schk 5) = true := by decide +kernel
theorem q_cok_6 : (q_cl 6).all (q_cchk 6) = true := by decide +kernel
theorem q_fok_7 : (q_fl 7).all (q_fchk 7) = true := by decide +kernel
theorem q_cok_7 : (q_cl 7).all (q_cchk 7) = true := by decide +kernel
theorem q_sok_7 : (q_cs 7).all (q_schk 7) = true := by decide +kernel
theorem q_fok_8 : (q_fl 8).all (q_fchk 8) = true := by decide +kernel
theorem q_cok_8 : (q_cl 8).all (q_cchk 8) = true := by decide +kernel
theorem q_sok_8 : (q_cs 8).all (q_schk 8) = true := by decide +kernel
theorem q_sok_9 : (q_cs 9).all (q_schk 9) = true := by decide +kernel
theorem q_cok_11 : (q_cl 11).all (q_cchk 11) = true := by decide +kernel
def q_fits (y t : Nat) : Bool := decide (q_fr t + 1 ≤ q_fr y) && decide (8 + (q_maxL t + 11) + q_lo t ≤ q_lo y)
theorem q_cw_0 : lw_tbl[q_cp 0]? = some (Cond.code (q_name 0) (q_code 0) (q_maxL 0) (q_ret 0)) := by decide +kernel
theorem q_cw_1 : lw_tbl[q_cp 1]? = some (Cond.code (q_name 1) (q_code 1) (q_maxL 1) (q_ret 1)) := by decide +kernel
theorem q_cw_2 : lw_tbl[q_cp 2]? = some (Cond.code (q_name 2) (q_code 2) (q_maxL 2) (q_ret 2)) := by decide +kernel
theorem q_cw_3 : lw_tbl[q_cp 3]? = some (Cond.code (q_name 3) (q_code 3) (q_maxL 3) (q_ret 3)) := by decide +kernel
theorem q_cw_4 : lw_tbl[q_cp 4]? = some (Cond.code (q_name 4) (q_code 4) (q_maxL 4) (q_ret 4)) := by decide +kernel
theorem q_cw_5 : lw_tbl[q_cp 5]? = some (Cond.code (q_name 5) (q_code 5) (q_maxL 5) (q_ret 5)) := by decide +kernel
theorem q_cw_6 : lw_tbl[q_cp 6]? = some (Cond.code (q_name 6) (q_code 6) (q_maxL 6) (q_ret 6)) := by decide +kernel
theorem q_cw_7 : lw_tbl[q_cp 7]? = some (Cond.code (q_name 7) (q_code 7) (q_maxL 7) (q_ret 7)) := by decide +kernel
theorem q_cw_8 : lw_tbl[q_cp 8]? = some (Cond.code (q_name 8) (q_code 8) (q_maxL 8) (q_ret 8)) := by decide +kernel
theorem q_cw_9 : lw_tbl[q_cp 9]? = some (Cond.code (q_name 9) (q_code 9) (q_maxL 9) (q_ret 9)) := by decide +kernel
theorem q_cw_10 : lw_tbl[q_cp 10]? = some (Cond.code (q_name 10) (q_code 10) (q_maxL 10) (q_ret 10)) := by decide +kernel
theorem q_cw_11 : lw_tbl[q_cp 11]? = some (Cond.code (q_name 11) (q_code 11) (q_maxL 11) (q_ret 11)) := by decide +kernel
theorem q_cw_12 : lw_tbl[q_cp 12]? = some (Cond.code (q_name 12) (q_code 12) (q_maxL 12) (q_ret 12)) := by decide +kernel
theorem q_cw_13 : lw_tbl[q_cp 13]? = some (Cond.code (q_name 13) (q_code 13) (q_maxL 13) (q_ret 13)) := by decide +kernel
theorem q_cw_14 : lw_tbl[q_cp 14]? = some (Cond.code (q_name 14) (q_code 14) (q_maxL 14) (q_ret 14)) := by decide +kernel
theorem q_cw_15 : lw_tbl[q_cp 15]? = some (Cond.code (q_name 15) (q_code 15) (q_maxL 15) (q_ret 15)) := by decide +kernel
theorem q_cw_16 : lw_tbl[q_cp 16]? = some (Cond.code (q_name 16) (q_code 16) (q_maxL 16) (q_ret 16)) := by decide +kernel
theorem q_cw_17 : lw_tbl[q_cp 17]? = some (Cond.code (q_name 17) (q_code 17) (q_maxL 17) (q_ret 17)) := by decide +kernel
theorem q_cw_18 : lw_tbl[q_cp 18]? = some (Cond.code (q_name 18) (q_code 18) (q_maxL 18) (q_ret 18)) := by decide +kernel
theorem q_cw_19 : lw_tbl[q_cp 19]? = some (Cond.code (q_name 19) (q_code 19) (q_maxL 19) (q_ret 19)) := by decide +kernel
theorem q_cw_20 : lw_tbl[q_cp 20]? = some (Cond.code (q_name 20) (q_code 20) (q_maxL 20) (q_ret 20)) := by decide +kernel
theorem q_cw_21 : lw_tbl[q_cp 21]? = some (Cond.code (q_name 21) (q_code 21) (q_maxL 21) (q_ret 21)) := by decide +kernel
theorem q_cw_22 : lw_tbl[q_cp 22]? = some (Cond.code (q_name 22) (q_code 22) (q_maxL 22) (q_ret 22)) := by decide +kernel
theorem q_cw_23 : lw_tbl[q_cp 23]? = some (Cond.code (q_name 23) (q_code 23) (q_maxL 23) (q_ret 23)) := by decide +kernel
theorem q_cw_24 : lw_tbl[q_cp 24]? = some (Cond.code (q_name 24) (q_code 24) (q_maxL 24) (q_ret 24)) := by decide +kernel
theorem q_cw_25 : lw_tbl[q_cp 25]? = some (Cond.code (q_name 25) (q_code 25) (q_maxL 25) (q_ret 25)) := by decide +kernel
theorem q_cw_26 : lw_tbl[q_cp 26]? = some (Cond.code (q_name 26) (q_code 26) (q_maxL 26) (q_ret 26)) := by decide +kernel
theorem q_cw_27 : lw_tbl[q_cp 27]? = some (Cond.code (q_name 27) (q_code 27) (q_maxL 27) (q_ret 27)) := by decide +kernel
theorem q_cw_28 : lw_tbl[q_cp 28]? = some (Cond.code (q_name 28) (q_code 28) (q_maxL 28) (q_ret 28)) := by decide +kernel
theorem q_cw_29 : lw_tbl[q_cp 29]? = some (Cond.code (q_name 29) (q_code 29) (q_maxL 29) (q_ret 29)) := by decide +kernel
theorem q_cw_30 : lw_tbl[q_cp 30]? = some (Cond.code (q_name 30) (q_code 30) (q_maxL 30) (q_ret 30)) := by decide +kernel
theorem q_cw_31 : lw_tbl[q_cp 31]? = some (Cond.code (q_name 31) (q_code 31) (q_maxL 31) (q_ret 31)) := by decide +kernel
theorem q_cw_32 : lw_tbl[q_cp 32]? = some (Cond.code (q_name 32) (q_code 32) (q_maxL 32) (q_ret 32)) := by decide +kernel
theorem q_cw_33 : lw_tbl[q_cp 33]? = some (Cond.code (q_name 33) (q_code 33) (q_maxL 33) (q_ret 33)) := by decide +kernel
theorem q_cw_34 : lw_tbl[q_cp 34]? = some (Cond.code (q_name 34) (q_code 34) (q_maxL 34) (q_ret 34)) := by decide +kernel
theorem q_cw_35 : lw_tbl[q_cp 35]? = some (Cond.code (q_name 35) (q_code 35) (q_maxL 35) (q_ret 35)) := by decide +kernel
theorem q_cw_36 : lw_tbl[q_cp 36]? = some (Cond.code (q_name 36) (q_code 36) (q_maxL 36) (q_ret 36)) := by decide +kernel
theorem q_cw_37 : lw_tbl[q_cp 37]? = some (Cond.code (q_name 37) (q_code 37) (q_maxL 37) (q_ret 37)) := by decide +kernel
theorem q_cw_38 : lw_tbl[q_cp 38]? = some (Cond.code (q_name 38) (q_code 38) (q_maxL 38) (q_ret 38)) := by decide +kernel
theorem q_cw_39 : lw_tbl[q_cp 39]? = some (Cond.code (q_name 39) (q_code 39) (q_maxL 39) (q_ret 39)) := by decide +kernel
theorem q_cw_40 : lw_tbl[q_cp 40]? = some (Cond.code (q_name 40) (q_code 40) (q_maxL 40) (q_ret 40)) := by decide +kernel
theorem q_cw_41 : lw_tbl[q_cp 41]? = some (Cond.code (q_name 41) (q_code 41) (q_maxL 41) (q_ret 41)) := by decide +kernel
theorem q_cw_42 : lw_tbl[q_cp 42]? = some (Cond.code (q_name 42) (q_code 42) (q_maxL 42) (q_ret 42)) := by decide +kernel
theorem q_cw_43 : lw_tbl[q_cp 43]? = some (Cond.code (q_name 43) (q_code 43) (q_maxL 43) (q_ret 43)) := by decide +kernel
theorem q_cw_44 : lw_tbl[q_cp 44]? = some (Cond.code (q_name 44) (q_code 44) (q_maxL 44) (q_ret 44)) := by decide +kernel
theorem q_cw_45 : lw_tbl[q_cp 45]? = some (Cond.code (q_name 45) (q_code 45) (q_maxL 45) (q_ret 45)) := by decide +kernel
theorem q_cw_46 : lw_tbl[q_cp 46]? = some (Cond.code (q_name 46) (q_code 46) (q_maxL 46) (q_ret 46)) := by decide +kernel
theorem q_cw_47 : lw_tbl[q_cp 47]? = some (Cond.code (q_name 47) (q_code 47) (q_maxL 47) (q_ret 47)) := by decide +kernel
theorem q_cw_48 : lw_tbl[q_cp 48]? = some (Cond.code (q_name 48) (q_code 48) (q_maxL 48) (q_ret 48)) := by decide +kernel
theorem q_cw_49 : lw_tbl[q_cp 49]? = some (Cond.code (q_name 49) (q_code 49) (q_maxL 49) (q_ret 49)) := by decide +kernel
theorem q_cw_50 : lw_tbl[q_cp 50]? = some (Cond.code (q_name 50) (q_code 50) (q_maxL 50) (q_ret 50)) := by decide +kernel
theorem q_cw_51 : lw_tbl[q_cp 51]? = some (Cond.code (q_name 51) (q_code 51) (q_maxL 51) (q_ret 51)) := by decide +kernel
theorem q_cw_52 : lw_tbl[q_cp 52]? = some (Cond.code (q_name 52) (q_code 52) (q_maxL 52) (q_ret 52)) := by decide +kernel
theorem q_cw_53 : lw_tbl[q_cp 53]? = some (Cond.code (q_name 53) (q_code 53) (q_maxL 53) (q_ret 53)) := by decide +kernel
theorem q_cw_54 : lw_tbl[q_cp 54]? = some (Cond.code (q_name 54) (q_code 54) (q_maxL 54) (q_ret 54)) := by decide +kernel
theorem q_cw_55 : lw_tbl[q_cp 55]? = some (Cond.code (q_name 55) (q_code 55) (q_maxL 55) (q_ret 55)) := by decide +kernel
theorem q_cw_56 : lw_tbl[q_cp 56]? = some (Cond.code (q_name 56) (q_code 56) (q_maxL 56) (q_ret 56)) := by decide +kernel
theorem q_cw_57 : lw_tbl[q_cp 57]? = some (Cond.code (q_name 57) (q_code 57) (q_maxL 57) (q_ret 57)) := by decide +kernel
theorem q_cw_58 : lw_tbl[q_cp 58]? = some (Cond.code (q_name 58) (q_code 58) (q_maxL 58) (q_ret 58)) := by decide +kernel
theorem q_cw_59 : lw_tbl[q_cp 59]? = some (Cond.code (q_name 59) (q_code 59) (q_maxL 59) (q_ret 59)) := by decide +kernel
theorem q_cw_60 : lw_tbl[q_cp 60]? = some (Cond.code (q_name 60) (q_code 60) (q_maxL 60) (q_ret 60)) := by decide +kernel
theorem q_cw_61 : lw_tbl[q_cp 61]? = some (Cond.code (q_name 61) (q_code 61) (q_maxL 61) (q_ret 61)) := by decide +kernel
theorem q_cw_62 : lw_tbl[q_cp 62]? = some (Cond.code (q_name 62) (q_code 62) (q_maxL 62) (q_ret 62)) := by decide +kernel
theorem q_cw_63 : lw_tbl[q_cp 63]? = some (Cond.code (q_name 63) (q_code 63) (q_maxL 63) (q_ret 63)) := by decide +kernel
theorem q_cw_64 : lw_tbl[q_cp 64]? = some (Cond.code (q_name 64) (q_code 64) (q_maxL 64) (q_ret 64)) := by decide +kernel
theorem q_cw_65 : lw_tbl[q_cp 65]? = some (Cond.code (q_name 65) (q_code 65) (q_maxL 65) (q_ret 65)) := by decide +kernel
theorem q_cw_66 : lw_tbl[q_cp 66]? = some (Cond.code (q_name 66) (q_code 66) (q_maxL 66) (q_ret 66)) := by decide +kernel
theorem q_cw_67 : lw_tbl[q_cp 67]? = some (Cond.code (q_name 67) (q_code 67) (q_maxL 67) (q_ret 67)) := by decide +kernel
theorem q_cw_68 : lw_tbl[q_cp 68]? = some (Cond.code (q_name 68) (q_code 68) (q_maxL 68) (q_ret 68)) := by decide +kernel
theorem q_cw_69 : lw_tbl[q_cp 69]? = some (Cond.code (q_name 69) (q_code 69) (q_maxL 69) (q_ret 69)) := by decide +kernel
theorem q_cw_70 : lw_tbl[q_cp 70]? = some (Cond.code (q_name 70) (q_code 70) (q_maxL 70) (q_ret 70)) := by decide +kernel
theorem q_cw_71 : lw_tbl[q_cp 71]? = some (Cond.code (q_name 71) (q_code 71) (q_maxL 71) (q_ret 71)) := by decide +kernel
theorem q_cw_72 : lw_tbl[q_cp 72]? = some (Cond.code (q_name 72) (q_code 72) (q_maxL 72) (q_ret 72)) := by decide +kernel
theorem q_cw_73 : lw_tbl[q_cp 73]? = some (Cond.code (q_name 73) (q_code 73) (q_maxL 73) (q_ret 73)) := by decide +kernel
theorem q_cw_74 : lw_tbl[q_cp 74]? = some (Cond.code (q_name 74) (q_code 74) (q_maxL 74) (q_ret 74)) := by decide +kernel
theorem q_cw_75 : lw_tbl[q_cp 75]? = some (Cond.code (q_name 75) (q_code 75) (q_maxL 75) (q_ret 75)) := by decide +kernel
theorem q_cw_76 : lw_tbl[q_cp 76]? = some (Cond.code (q_name 76) (q_code 76) (q_maxL 76) (q_ret 76)) := by decide +kernel
theorem q_cw_77 : lw_tbl[q_cp 77]? = some (Cond.code (q_name 77) (q_code 77) (q_maxL 77) (q_ret 77)) := by decide +kernel
theorem q_cw_78 : lw_tbl[q_cp 78]? = some (Cond.code (q_name 78) (q_code 78) (q_maxL 78) (q_ret 78)) := by decide +kernel
theorem q_cw_79 : lw_tbl[q_cp 79]? = some (Cond.code (q_name 79) (q_code 79) (q_maxL 79) (q_ret 79)) := by decide +kernel
theorem q_cw_80 : lw_tbl[q_cp 80]? = some (Cond.code (q_name 80) (q_code 80) (q_maxL 80) (q_ret 80)) := by decide +kernel
theorem q_cw_81 : lw_tbl[q_cp 81]? = some (Cond.code (q_name 81) (q_code 81) (q_maxL 81) (q_ret 81)) := by decide +kernel
theorem q_cw_82 : lw_tbl[q_cp 82]? = some (Cond.code (q_name 82) (q_code 82) (q_maxL 82) (q_ret 82)) := by decide +kernel
theorem q_cw_83 : lw_tbl[q_cp 83]? = some (Cond.code (q_name 83) (q_code 83) (q_maxL 83) (q_ret 83)) := by decide +kernel
theorem q_cw_84 : lw_tbl[q_cp 84]? = some (Cond.code (q_name 84) (q_code 84) (q_maxL 84) (q_ret 84)) := by decide +kernel
theorem q_cw_85 : lw_tbl[q_cp 85]? = some (Cond.code (q_name 85) (q_code 85) (q_maxL 85) (q_ret 85)) := by decide +kernel
theorem q_cw_86 : lw_tbl[q_cp 86]? = some (Cond.code (q_name 86) (q_code 86) (q_maxL 86) (q_ret 86)) := by decide +kernel
theorem q_cw_87 : lw_tbl[q_cp 87]? = some (Cond.code (q_name 87) (q_code 87) (q_maxL 87) (q_ret 87)) := by decide +kernel
theorem q_cw_88 : lw_tbl[q_cp 88]? = some (Cond.code (q_name 88) (q_code 88) (q_maxL 88) (q_ret 88)) := by decide +kernel
theorem q_cw_89 : lw_tbl[q_cp 89]? = some (Cond.code (q_name 89) (q_code 89) (q_maxL 89) (q_ret 89)) := by decide +kernel
theorem q_cw_90 : lw_tbl[q_cp 90]? = some (Cond.code (q_name 90) (q_code 90) (q_maxL 90) (q_ret 90)) := by decide +kernel
theorem q_cw_91 : lw_tbl[q_cp 91]? = some (Cond.code (q_name 91) (q_code 91) (q_maxL 91) (q_ret 91)) := by decide +kernel
theorem q_cw_92 : lw_tbl[q_cp 92]? = some (Cond.code (q_name 92) (q_code 92) (q_maxL 92) (q_ret 92)) := by decide +kernel
theorem q_cw_93 : lw_tbl[q_cp 93]? = some (Cond.code (q_name 93) (q_code 93) (q_maxL 93) (q_ret 93)) := by decide +kernel
theorem q_cw_94 : lw_tbl[q_cp 94]? = some (Cond.code (q_name 94) (q_code 94) (q_maxL 94) (q_ret 94)) := by decide +kernel
theorem q_cw_95 : lw_tbl[q_cp 95]? = some (Cond.code (q_name 95) (q_code 95) (q_maxL 95) (q_ret 95)) := by decide +kernel
theorem q_cw_96 : lw_tbl[q_cp 96]? = some (Cond.code (q_name 96) (q_code 96) (q_maxL 96) (q_ret 96)) := by decide +kernel
theorem q_cw_97 : lw_tbl[q_cp 97]? = some (Cond.code (q_name 97) (q_code 97) (q_maxL 97) (q_ret 97)) := by decide +kernel
theorem q_cw_98 : lw_tbl[q_cp 98]? = some (Cond.code (q_name 98) (q_code 98) (q_maxL 98) (q_ret 98)) := by decide +kernel
theorem q_cw_99 : lw_tbl[q_cp 99]? = some (Cond.code (q_name 99) (q_code 99) (q_maxL 99) (q_ret 99)) := by decide +kernel
theorem q_cw_100 : lw_tbl[q_cp 100]? = some (Cond.code (q_name 100) (q_code 100) (q_maxL 100) (q_ret 100)) := by decide +kernel
theorem q_cw_101 : lw_tbl[q_cp 101]? = some (Cond.code (q_name 101) (q_code 101) (q_maxL 101) (q_ret 101)) := by decide +kernel
theorem q_cw_102 : lw_tbl[q_cp 102]? = some (Cond.code (q_name 102) (q_code 102) (q_maxL 102) (q_ret 102)) := by decide +kernel
theorem q_cw_103 : lw_tbl[q_cp 103]? = some (Cond.code (q_name 103) (q_code 103) (q_maxL 103) (q_ret 103)) := by decide +kernel
theorem q_cw_104 : lw_tbl[q_cp 104]? = some (Cond.code (q_name 104) (q_code 104) (q_maxL 104) (q_ret 104)) := by decide +kernel
theorem q_cw_105 : lw_tbl[q_cp 105]? = some (Cond.code (q_name 105) (q_code 105) (q_maxL 105) (q_ret 105)) := by decide +kernel
theorem q_cw_106 : lw_tbl[q_cp 106]? = some (Cond.code (q_name 106) (q_code 106) (q_maxL 106) (q_ret 106)) := by decide +kernel
theorem q_cw_107 : lw_tbl[q_cp 107]? = some (Cond.code (q_name 107) (q_code 107) (q_maxL 107) (q_ret 107)) := by decide +kernel
theorem q_cw_108 : lw_tbl[q_cp 108]? = some (Cond.code (q_name 108) (q_code 108) (q_maxL 108) (q_ret 108)) := by decide +kernel
theorem q_cw_109 : lw_tbl[q_cp 109]? = some (Cond.code (q_name 109) (q_code 109) (q_maxL 109) (q_ret 109)) := by decide +kernel
theorem q_cw_110 : lw_tbl[q_cp 110]? = some (Cond.code (q_name 110) (q_code 110) (q_maxL 110) (q_ret 110)) := by decide +kernel
theorem q_cw_111 : lw_tbl[q_cp 111]? = some (Cond.code (q_name 111) (q_code 111) (q_maxL 111) (q_ret 111)) := by decide +kernel
theorem q_cw_112 : lw_tbl[q_cp 112]? = some (Cond.code (q_name 112) (q_code 112) (q_maxL 112) (q_ret 112)) := by decide +kernel
theorem q_cw_113 : lw_tbl[q_cp 113]? = some (Cond.code (q_name 113) (q_code 113) (q_maxL 113) (q_ret 113)) := by decide +kernel
theorem q_cw_114 : lw_tbl[q_cp 114]? = some (Cond.code (q_name 114) (q_code 114) (q_maxL 114) (q_ret 114)) := by decide +kernel
theorem q_cw_115 : lw_tbl[q_cp 115]? = some (Cond.code (q_name 115) (q_code 115) (q_maxL 115) (q_ret 115)) := by decide +kernel
theorem q_cw_116 : lw_tbl[q_cp 116]? = some (Cond.code (q_name 116) (q_code 116) (q_maxL 116) (q_ret 116)) := by decide +kernel
theorem q_cw_117 : lw_tbl[q_cp 117]? = some (Cond.code (q_name 117) (q_code 117) (q_maxL 117) (q_ret 117)) := by decide +kernel
theorem q_cw_118 : lw_tbl[q_cp 118]? = some (Cond.code (q_name 118) (q_code 118) (q_maxL 118) (q_ret 118)) := by decide +kernel
theorem q_cw_119 : lw_tbl[q_cp 119]? = some (Cond.code (q_name 119) (q_code 119) (q_maxL 119) (q_ret 119)) := by decide +kernel
theorem q_cw_120 : lw_tbl[q_cp 120]? = some (Cond.code (q_name 120) (q_code 120) (q_maxL 120) (q_ret 120)) := by decide +kernel
theorem q_cw_121 : lw_tbl[q_cp 121]? = some (Cond.code (q_name 121) (q_code 121) (q_maxL 121) (q_ret 121)) := by decide +kernel
theorem q_cw_122 : lw_tbl[q_cp 122]? = some (Cond.code (q_name 122) (q_code 122) (q_maxL 122) (q_ret 122)) := by decide +kernel
theorem q_cw_123 : lw_tbl[q_cp 123]? = some (Cond.code (q_name 123) (q_code 123) (q_maxL 123) (q_ret 123)) := by decide +kernel
theorem q_cw_124 : lw_tbl[q_cp 124]? = some (Cond.code (q_name 124) (q_code 124) (q_maxL 124) (q_ret 124)) := by decide +kernel
theorem q_cw_125 : lw_tbl[q_cp 125]? = some (Cond.code (q_name 125) (q_code 125) (q_maxL 125) (q_ret 125)) := by decide +kernel
theorem q_cw_126 : lw_tbl[q_cp 126]? = some (Cond.code (q_name 126) (q_code 126) (q_maxL 126) (q_ret 126)) := by decide +kernel
theorem q_cw_127 : lw_tbl[q_cp 127]? = some (Cond.code (q_name 127) (q_code 127) (q_maxL 127) (q_ret 127)) := by decide +kernel
theorem q_cw_128 : lw_tbl[q_cp 128]? = some (Cond.code (q_name 128) (q_code 128) (q_maxL 128) (q_ret 128)) := by decide +kernel
theorem q_cw_129 : lw_tbl[q_cp 129]? = some (Cond.code (q_name 129) (q_code 129) (q_maxL 129) (q_ret 129)) := by decide +kernel
theorem q_cw_130 : lw_tbl[q_cp 130]? = some (Cond.code (q_name 130) (q_code 130) (q_maxL 130) (q_ret 130)) := by decide +kernel
theorem q_cw_131 : lw_tbl[q_cp 131]? = some (Cond.code (q_name 131) (q_code 131) (q_maxL 131) (q_ret 131)) := by decide +kernel
theorem q_cw_132 : lw_tbl[q_cp 132]? = some (Cond.code (q_name 132) (q_code 132) (q_maxL 132) (q_ret 132)) := by decide +kernel
theorem q_cw_133 : lw_tbl[q_cp 133]? = some (Cond.code (q_name 133) (q_code 133) (q_maxL 133) (q_ret 133)) := by decide +kernel
theorem q_cw_134 : lw_tbl[q_cp 134]? = some (Cond.code (q_name 134) (q_code 134) (q_maxL 134) (q_ret 134)) := by decide +kernel
theorem q_cw_135 : lw_tbl[q_cp 135]? = some (Cond.code (q_name 135) (q_code 135) (q_maxL 135) (q_ret 135)) := by decide +kernel
theorem q_cw_136 : lw_tbl[q_cp 136]? = some (Cond.code (q_name 136) (q_code 136) (q_maxL 136) (q_ret 136)) := by decide +kernel
theorem q_cw_137 : lw_tbl[q_cp 137]? = some (Cond.code (q_name 137) (q_code 137) (q_maxL 137) (q_ret 137)) := by decide +kernel
theorem q_cw_138 : lw_tbl[q_cp 138]? = some (Cond.code (q_name 138) (q_code 138) (q_maxL 138) (q_ret 138)) := by decide +kernel
theorem q_cw_139 : lw_tbl[q_cp 139]? = some (Cond.code (q_name 139) (q_code 139) (q_maxL 139) (q_ret 139)) := by decide +kernel
theorem q_cw_140 : lw_tbl[q_cp 140]? = some (Cond.code (q_name 140) (q_code 140) (q_maxL 140) (q_ret 140)) := by decide +kernel
theorem q_cw_141 : lw_tbl[q_cp 141]? = some (Cond.code (q_name 141) (q_code 141) (q_maxL 141) (q_ret 141)) := by decide +kernel
theorem q_cw_142 : lw_tbl[q_cp 142]? = some (Cond.code (q_name 142) (q_code 142) (q_maxL 142) (q_ret 142)) := by decide +kernel
theorem q_cw_143 : lw_tbl[q_cp 143]? = some (Cond.code (q_name 143) (q_code 143) (q_maxL 143) (q_ret 143)) := by decide +kernel
theorem q_cw_144 : lw_tbl[q_cp 144]? = some (Cond.code (q_name 144) (q_code 144) (q_maxL 144) (q_ret 144)) := by decide +kernel
theorem q_cw_145 : lw_tbl[q_cp 145]? = some (Cond.code (q_name 145) (q_code 145) (q_maxL 145) (q_ret 145)) := by decide +kernel
theorem q_cw_146 : lw_tbl[q_cp 146]? = some (Cond.code (q_name 146) (q_code 146) (q_maxL 146) (q_ret 146)) := by decide +kernel
theorem q_cw_147 : lw_tbl[q_cp 147]? = some (Cond.code (q_name 147) (q_code 147) (q_maxL 147) (q_ret 147)) := by decide +kernel
theorem q_cw_148 : lw_tbl[q_cp 148]? = some (Cond.code (q_name 148) (q_code 148) (q_maxL 148) (q_ret 148)) := by decide +kernel
theorem q_cw_149 : lw_tbl[q_cp 149]? = some (Cond.code (q_name 149) (q_code 149) (q_maxL 149) (q_ret 149)) := by decide +kernel
theorem q_cw_150 : lw_tbl[q_cp 150]? = some (Cond.code (q_name 150) (q_code 150) (q_maxL 150) (q_ret 150)) := by decide +kernel
theorem q_cw_151 : lw_tbl[q_cp 151]? = some (Cond.code (q_name 151) (q_code 151) (q_maxL 151) (q_ret 151)) := by decide +kernel
theorem q_cw_152 : lw_tbl[q_cp 152]? = some (Cond.code (q_name 152) (q_code 152) (q_maxL 152) (q_ret 152)) := by decide +kernel
theorem q_cw_153 : lw_tbl[q_cp 153]? = some (Cond.code (q_name 153) (q_code 153) (q_maxL 153) (q_ret 153)) := by decide +kernel
theorem q_cw_154 : lw_tbl[q_cp 154]? = some (Cond.code (q_name 154) (q_code 154) (q_maxL 154) (q_ret 154)) := by decide +kernel
theorem q_cw_155 : lw_tbl[q_cp 155]? = some (Cond.code (q_name 155) (q_code 155) (q_maxL 155) (q_ret 155)) := by decide +kernel
theorem q_cw_156 : lw_tbl[q_cp 156]? = some (Cond.code (q_name 156) (q_code 156) (q_maxL 156) (q_ret 156)) := by decide +kernel
theorem q_cw : ∀ y, y < q_nM → lw_tbl[q_cp y]? = some (Cond.code (q_name y) (q_code y) (q_maxL y) (q_ret y)) := by
  intro y hy
  match y, hy with
  | 0, _ => exact q_cw_0
  | 1, _ => exact q_cw_1
  | 2, _ => exact q_cw_2
  | 3, _ => exact q_cw_3
  | 4, _ => exact q_cw_4
  | 5, _ => exact q_cw_5
  | 6, _ => exact q_cw_6
  | 7, _ => exact q_cw_7
  | 8, _ => exact q_cw_8
  | 9, _ => exact q_cw_9
  | 10, _ => exact q_cw_10
  | 11, _ => exact q_cw_11
  | 12, _ => exact q_cw_12
  | 13, _ => exact q_cw_13
  | 14, _ => exact q_cw_14
  | 15, _ => exact q_cw_15
  | 16, _ => exact q_cw_16
  | 17, _ => exact q_cw_17
  | 18, _ => exact q_cw_18
  | 19, _ => exact q_cw_19
  | 20, _ => exact q_cw_20
  | 21, _ => exact q_cw_21
  | 22, _ => exact q_cw_22
  | 23, _ => exact q_cw_23
  | 24, _ => exact q_cw_24
  | 25, _ => exact q_cw_25
  | 26, _ => exact q_cw_26
  | 27, _ => exact q_cw_27
  | 28, _ => exact q_cw_28
  | 29, _ => exact q_cw_29
  | 30, _ => exact q_cw_30
  | 31, _ => exact q_cw_31
  | 32, _ => exact q_cw_32
  | 33, _ => exact q_cw_33
  | 34, _ => exact q_cw_34
  | 35, _ => exact q_cw_35
  | 36, _ => exact q_cw_36
  | 37, _ => exact q_cw_37
  | 38, _ => exact q_cw_38
  | 39, _ => exact q_cw_39
  | 40, _ => exact q_cw_40
  | 41, _ => exact q_cw_41
  | 42, _ => exact q_cw_42
  | 43, _ => exact q_cw_43
  | 44, _ => exact q_cw_44
  | 45, _ => exact q_cw_45
  | 46, _ => exact q_cw_46
  | 47, _ => exact q_cw_47
  | 48, _ => exact q_cw_48
  | 49, _ => exact q_cw_49
  | 50, _ => exact q_cw_50
  | 51, _ => exact q_cw_51
  | 52, _ => exact q_cw_52
  | 53, _ => exact q_cw_53
  | 54, _ => exact q_cw_54
  | 55, _ => exact q_cw_55
  | 56, _ => exact q_cw_56
  | 57, _ => exact q_cw_57
  | 58, _ => exact q_cw_58
  | 59, _ => exact q_cw_59
  | 60, _ => exact q_cw_60
  | 61, _ => exact q_cw_61
  | 62, _ => exact q_cw_62
  | 63, _ => exact q_cw_63
  | 64, _ => exact q_cw_64
  | 65, _ => exact q_cw_65
  | 66, _ => exact q_cw_66
  | 67, _ => exact q_cw_67
  | 68, _ => exact q_cw_68
  | 69, _ => exact q_cw_69
  | 70, _ => exact q_cw_70
  | 71, _ => exact q_cw_71
  | 72, _ => exact q_cw_72
  | 73, _ => exact q_cw_73
  | 74, _ => exact q_cw_74
  | 75, _ => exact q_cw_75
  | 76, _ => exact q_cw_76
  | 77, _ => exact q_cw_77
  | 78, _ => exact q_cw_78
  | 79, _ => exact q_cw_79
  | 80, _ => exact q_cw_80
  | 81, _ => exact q_cw_81
  | 82, _ => exact q_cw_82
  | 83, _ => exact q_cw_83
  | 84, _ => exact q_cw_84
  | 85, _ => exact q_cw_85
  | 86, _ => exact q_cw_86
  | 87, _ => exact q_cw_87
  | 88, _ => exact q_cw_88
  | 89, _ => exact q_cw_89
  | 90, _ => exact q_cw_90
  | 91, _ => exact q_cw_91
  | 92, _ => exact q_cw_92
  | 93, _ => exact q_cw_93
  | 94, _ => exact q_cw_94
  | 95, _ => exact q_cw_95
  | 96, _ => exact q_cw_96
  | 97, _ => exact q_cw_97
  | 98, _ => exact q_cw_98
  | 99, _ => exact q_cw_99
  | 100, _ => exact q_cw_100
  | 101, _ => exact q_cw_101
  | 102, _ => exact q_cw_102
  | 103, _ => exact q_cw_103
  | 104, _ => exact q_cw_104
  | 105, _ => exact q_cw_105
  | 106, _ => exact q_cw_106
  | 107, _ => exact q_cw_107
  | 108, _ => exact q_cw_108
  | 109, _ => exact q_cw_109
  | 110, _ => exact q_cw_110
  | 111, _ => exact q_cw_111
  | 112, _ => exact q_cw_112
  | 113, _ => exact q_cw_113
  | 114, _ => exact q_cw_114
  | 115, _ => exact q_cw_115
  | 116, _ => exact q_cw_116
  | 117, _ => exact q_cw_117
  | 118, _ => exact q_cw_118
  | 119, _ => exact q_cw_119
  | 120, _ => exact q_cw_120
  | 121, _ => exact q_cw_121
  | 122, _ => exact q_cw_122
  | 123, _ => exact q_cw_123
  | 124, _ => exact q_cw_124
  | 125, _ => exact q_cw_125
  | 126, _ => exact q_cw_126
  | 127, _ => exact q_cw_127
  | 128, _ => exact q_cw_128
  | 129, _ => exact q_cw_129
  | 130, _ => exact q_cw_130
  | 131, _ => exact q_cw_131
  | 132, _ => exact q_cw_132
  | 133, _ => exact q_cw_133
  | 134, _ => exact q_cw_134
  | 135, _ => exact q_cw_135
  | 136, _ => exact q_cw_136
  | 137, _ => exact q_cw_137
  | 138, _ => exact q_cw_138
  | 139, _ => exact q_cw_139
  | 140, _ => exact q_cw_140
  | 141, _ => exact q_cw_141
  | 142, _ => exact q_cw_142
  | 143, _ => exact q_cw_143
  | 144, _ => exact q_cw_144
  | 145, _ => exact q_cw_145
  | 146, _ => exact q_cw_146
  | 147, _ => exact q_cw_147
  | 148, _ => exact q_cw_148
  | 149, _ => exact q_cw_149
  | 150, _ => exact q_cw_150
  | 151, _ => exact q_cw_151
  | 152, _ => exact q_cw_152
  | 153, _ => exact q_cw_153
  | 154, _ => exact q_cw_154
  | 155, _ => exact q_cw_155
  | 156, _ => exact q_cw_156
  | y + 157, h => exact absurd h (by unfold q_nM; omega)
theorem q_iw_0 : u_ws RX1 TX1 9 = [90, 92, 94, 96, 98, 100, 102, 104, 106].filterMap (fun i => lw_tbl[i]?) := by decide +kernel
theorem q_iw_1 : u_ws RX2 TX2 6 = [154, 156, 158, 160, 162, 164].filterMap (fun i => lw_tbl[i]?) := by decide +kernel
theorem q_iw_2 : u_ws RX3 TX3 7 = [124, 126, 128, 130, 132, 134, 136].filterMap (fun i => lw_tbl[i]?) := by decide +kernel
theorem q_iw_3 : u_ws RX7 TX7 9 = [176, 178, 180, 182, 184, 186, 188, 190, 192].filterMap (fun i => lw_tbl[i]?) := by decide +kernel
theorem q_iw_4 : u_ws RX8 TX8 26 = [625, 627, 629, 631, 633, 635, 637, 639, 641, 643, 645, 647, 649, 651, 653, 655, 657, 659, 661, 663, 665, 667, 669, 671, 673, 675].filterMap (fun i => lw_tbl[i]?) := by decide +kernel
/-- the words that stay -/
def q_gw (w : Cond) : Bool := k2_isCode w || goodWord w
def q_T : List Cond := lw_tbl.filter q_gw
theorem q_T_in {w : Cond} {i : Nat} (h : lw_tbl[i]? = some w) (hg : q_gw w = true) : w ∈ q_T := List.mem_filter.mpr ⟨List.mem_of_getElem? h, hg⟩
theorem q_T_good {w : Cond} (h : w ∈ q_T) : (w.onTables && w.keeps) = true ∨ ∃ ty, w = .arrayClass ty := by
  have h1 := (List.mem_filter.mp h).2
  unfold q_gw at h1
  rcases (Bool.or_eq_true _ _).mp h1 with h | h
  · cases w <;> first | (simp [k2_isCode] at h; done) | exact Or.inl rfl
  · exact good_of_word h
theorem q_T_code (y : Nat) (hy : y < q_nM) : Cond.code (q_name y) (q_code y) (q_maxL y) (q_ret y) ∈ q_T := q_T_in (q_cw y hy) rfl
theorem q_iT_0 : ∀ w ∈ u_ws RX1 TX1 9, w ∈ q_T := by
  intro w hw
  have hg : (u_ws RX1 TX1 9).all q_gw = true := by decide +kernel
  have h1 := List.all_eq_true.mp hg w hw
  rw [q_iw_0] at hw
  obtain ⟨i, -, hi⟩ := List.mem_filterMap.mp hw
  exact q_T_in hi h1
theorem q_iT_1 : ∀ w ∈ u_ws RX2 TX2 6, w ∈ q_T := by
  intro w hw
  have hg : (u_ws RX2 TX2 6).all q_gw = true := by decide +kernel
  have h1 := List.all_eq_true.mp hg w hw
  rw [q_iw_1] at hw
  obtain ⟨i, -, hi⟩ := List.mem_filterMap.mp hw
  exact q_T_in hi h1
theorem q_iT_2 : ∀ w ∈ u_ws RX3 TX3 7, w ∈ q_T := by
  intro w hw
  have hg : (u_ws RX3 TX3 7).all q_gw = true := by decide +kernel
  have h1 := List.all_eq_true.mp hg w hw
  rw [q_iw_2] at hw
  obtain ⟨i, -, hi⟩ := List.mem_filterMap.mp hw
  exact q_T_in hi h1
theorem q_iT_3 : ∀ w ∈ u_ws RX7 TX7 9, w ∈ q_T := by
  intro w hw
  have hg : (u_ws RX7 TX7 9).all q_gw = true := by decide +kernel
  have h1 := List.all_eq_true.mp hg w hw
  rw [q_iw_3] at hw
  obtain ⟨i, -, hi⟩ := List.mem_filterMap.mp hw
  exact q_T_in hi h1
theorem q_iT_4 : ∀ w ∈ u_ws RX8 TX8 26, w ∈ q_T := by
  intro w hw
  have hg : (u_ws RX8 TX8 26).all q_gw = true := by decide +kernel
  have h1 := List.all_eq_true.mp hg w hw
  rw [q_iw_4] at hw
  obtain ⟨i, -, hi⟩ := List.mem_filterMap.mp hw
  exact q_T_in hi h1
theorem q_ptOK : (List.range 5).all (fun ci => match vwCl[ci]? with
  | some r => (List.range r.2.2).all fun j => decide (q_sh ci j = some true) || (!(r.2.1 j).2.2.2 && decide (parseFieldDescriptor (r.2.1 j).2.2.1 = some (if q_isB ci j then .boolean else .int)))
  | none => false) = true := by decide +kernel
theorem q_clf : ∀ (ci : Nat) (C : String) (T : u_T) (N : Nat), vwCl[ci]? = some (C, T, N) → ci < 5 ∧ (∀ w ∈ u_ws C T N, w ∈ q_T) ∧ (∃ ty0 : Nat → FieldType, ∀ k, k < N → parseFieldDescriptor (T k).2.2.1 = some (ty0 k)) ∧ (∀ a, a < N → ∀ b, b < N → a ≠ b → (T a).2.1 ≠ (T b).2.1)
  | 0, C, T, N, h => by cases h; exact ⟨by omega, q_iT_0, ⟨tyX1, tyX1_ok⟩, nmX1⟩
  | 1, C, T, N, h => by cases h; exact ⟨by omega, q_iT_1, ⟨tyX2, tyX2_ok⟩, nmX2⟩
  | 2, C, T, N, h => by cases h; exact ⟨by omega, q_iT_2, ⟨tyX3, tyX3_ok⟩, nmX3⟩
  | 3, C, T, N, h => by cases h; exact ⟨by omega, q_iT_3, ⟨tyX7, tyX7_ok⟩, nmX7⟩
  | 4, C, T, N, h => by cases h; exact ⟨by omega, q_iT_4, ⟨tyX8, tyX8_ok⟩, nmX8⟩
  | k + 5, C, T, N, h => by simp [vwCl] at h
theorem q_fok_all : ∀ n, (q_fl n).all (q_fchk n) = true := by
  intro n
  unfold q_fl
  split
  · exact q_fok_1
  · exact q_fok_2
  · exact q_fok_3
  · exact q_fok_4
  · exact q_fok_5
  · exact q_fok_7
  · exact q_fok_8
  · rfl
theorem q_cok_all : ∀ n, (q_cl n).all (q_cchk n) = true := by
  intro n
  unfold q_cl
  split
  · exact q_cok_1
  · exact q_cok_2
  · exact q_cok_3
  · exact q_cok_4
  · exact q_cok_5
  · exact q_cok_6
  · exact q_cok_7
  · exact q_cok_8
  · exact q_cok_11
  · rfl
theorem q_mok_all : ∀ n, (q_ml n).all (q_mchk n) = true := by
  intro n
  unfold q_ml
  split
  · decide +kernel
  · decide +kernel
  · rfl
theorem q_min_st : Cond.static Lib.Math.min.name ∈ q_T := q_T_in (i := 352) (by decide +kernel) (by first | rfl | simp [q_gw, goodWord, Cond.onTables, Cond.keeps, Cond.steady])
theorem q_min_cd : Cond.code Lib.Math.min.name Lib.Math.min.code 2 (some .int) ∈ q_T := q_T_in (i := 353) (by decide +kernel) rfl
theorem q_max_st : Cond.static Lib.Math.max.name ∈ q_T := q_T_in (i := 526) (by decide +kernel) (by first | rfl | simp [q_gw, goodWord, Cond.onTables, Cond.keeps, Cond.steady])
theorem q_max_cd : Cond.code Lib.Math.max.name Lib.Math.max.code 2 (some .int) ∈ q_T := q_T_in (i := 527) (by decide +kernel) rfl
theorem q_math_in : Cond.initialized "java/lang/Math" ∈ q_T := q_T_in (i := 50) (by decide +kernel) (by first | rfl | simp [q_gw, goodWord, Cond.onTables, Cond.keeps, Cond.steady])
theorem q_sok_all : ∀ n, (q_cs n).all (q_schk n) = true := by
  intro n
  unfold q_cs
  split
  · exact q_sok_1
  · exact q_sok_5
  · exact q_sok_7
  · exact q_sok_8
  · exact q_sok_9
  · rfl
end
section
/-! THE PURE MACHINE: a method's code run over a memory of numbers (cell, place -> int), its references the cells' numbers; calls by a method's number, down to a depth -/
abbrev q_M : Type := Nat → Nat → Int32
def q_put (M : q_M) (k j : Nat) (v : Int32) : q_M := fun k' => if k' = k then upd (M k) j v else M k'
abbrev q_L : Type := List (Option Value)
abbrev q_S : Type := Nat × q_L × List Value × q_M
abbrev q_X : Type := Option (Nat × (Nat → Int32))
abbrev q_R : Type := Option Value → q_M → Prop
abbrev q_C : Type := Nat → List Value → q_M → q_R → Prop
abbrev q_G : Type := Nat → q_L → List Value → q_M → Prop
/-- next; a call (method, arguments, where it goes on); an end; nothing: stuck -/
abbrev q_Res : Type := Option (q_S ⊕ ((Nat × List Value × (Nat × q_L × List Value)) ⊕ Option Value))
def q_nx (pc : Nat) (L : q_L) (st : List Value) (M : q_M) : q_Res := some (.inl (pc, L, st, M))
def q_gd (b : Bool) (r : q_Res) : q_Res := match b with
  | true => r
  | false => none
def q_in (i : Int32) (n : Nat) : Bool := decide (¬ (i < 0 ∨ n ≤ i.toNatClampNeg))
def q_alen (k : Nat) : Option Nat := match q_lay[k]? with
  | some (.inl n) => some n
  | _ => none
/-- is the cell an object of that class -/
def q_isC (ci k : Nat) : Bool := match q_lay[k]? with
  | some (.inr (c, _)) => c == ci
  | _ => false
/-- a cell's reference field -/
def q_rf (k j : Nat) : Nat := match q_lay[k]? with
  | some (.inr (_, fs)) => match fs[j]? with
    | some (some a) => a
    | _ => 0
  | _ => 0
def q_alenD (k : Nat) : Nat := (q_alen k).getD 0
def q_ii (f : Int32 → Int32 → Int32) (n pc : Nat) (L : q_L) (st : List Value) (M : q_M) : q_Res := match st with
  | .int b :: .int a :: r => q_gd (n == 1) (q_nx (pc + 1) L (.int (f a b) :: r) M)
  | _ => none
def q_ll (f : Int64 → Int64 → Int64) (n pc : Nat) (L : q_L) (st : List Value) (M : q_M) : q_Res := match st with
  | .long b :: .long a :: r => q_gd (n == 1) (q_nx (pc + 1) L (.long (f a b) :: r) M)
  | _ => none
def q_iload (k n1 n pc : Nat) (L : q_L) (st : List Value) (M : q_M) : q_Res := match L[k]? with
  | some (some (.int x)) => q_gd (n == n1) (q_nx (pc + n1) L (.int x :: st) M)
  | _ => none
def q_lload (k n1 n pc : Nat) (L : q_L) (st : List Value) (M : q_M) : q_Res := match L[k]? with
  | some (some (.long x)) => q_gd (n == n1) (q_nx (pc + n1) L (.long x :: st) M)
  | _ => none
def q_aload (k n1 n pc : Nat) (L : q_L) (st : List Value) (M : q_M) : q_Res := match L[k]? with
  | some (some (.ref x)) => q_gd (n == n1) (q_nx (pc + n1) L (.ref x :: st) M)
  | _ => none
/-- what a store leaves of the place ahead of its own: a long there is gone -/
def q_kill : Option Value → Option Value
  | some (.long _) => none
  | some (.double _) => none
  | o => o
def q_set1 : q_L → Nat → Value → q_L
  | [], _, _ => []
  | _ :: r, 0, v => some v :: r
  | o :: r, 1, v => q_kill o :: q_set1 r 0 v
  | o :: r, k + 2, v => o :: q_set1 r (k + 1) v
def q_unset : q_L → Nat → q_L
  | [], _ => []
  | _ :: r, 0 => none :: r
  | o :: r, k + 1 => o :: q_unset r k
def q_istore (k n1 n pc : Nat) (L : q_L) (st : List Value) (M : q_M) : q_Res := match st with
  | .int x :: r => q_gd (n == n1 && decide (k < L.length)) (q_nx (pc + n1) (q_set1 L k (.int x)) r M)
  | _ => none
def q_lstore (k n1 n pc : Nat) (L : q_L) (st : List Value) (M : q_M) : q_Res := match st with
  | .long x :: r => q_gd (n == n1 && decide (k + 1 < L.length)) (q_nx (pc + n1) (q_unset (q_set1 L k (.long x)) (k + 1)) r M)
  | _ => none
def q_astore (k n1 n pc : Nat) (L : q_L) (st : List Value) (M : q_M) : q_Res := match st with
  | .ref x :: r => q_gd (n == n1 && decide (k < L.length)) (q_nx (pc + n1) (q_set1 L k (.ref x)) r M)
  | _ => none
def q_iinc (k : Nat) (v : Int) (n pc : Nat) (L : q_L) (st : List Value) (M : q_M) : q_Res := match L[k]? with
  | some (some (.int x)) => q_gd (n == 3) (q_nx (pc + 3) (q_set1 L k (.int (x + Int32.ofInt v))) st M)
  | _ => none
def q_to (pc : Nat) (off : Int) : Nat := ((pc : Int) + off).toNat
def q_tok (pc : Nat) (off : Int) : Bool := decide (0 ≤ (pc : Int) + off)
def q_br (b : Bool) (off : Int) (n pc : Nat) (L : q_L) (r : List Value) (M : q_M) : q_Res :=
  q_gd (n == 3 && q_tok pc off) (q_nx (bif b then q_to pc off else pc + 3) L r M)
def q_c1 (c : ClassFile.Cond) (x : Int32) : Bool := match c with
  | .eq => decide (x = 0)
  | .ne => decide (x ≠ 0)
  | .lt => decide (x < 0)
  | .ge => decide (0 ≤ x)
  | .gt => decide (0 < x)
  | .le => decide (x ≤ 0)
def q_c2 (c : ClassFile.Cond) (x y : Int32) : Bool := match c with
  | .eq => decide (x = y)
  | .ne => decide (x ≠ y)
  | .lt => decide (x < y)
  | .ge => decide (y ≤ x)
  | .gt => decide (y < x)
  | .le => decide (x ≤ y)
def q_sw (dflt lo hi : Int) (offs : Array Int) (x : Int32) : Option Int := if x.toInt < lo ∨ hi < x.toInt then some dflt else offs[(x.toInt - lo).toNat]?
def q_lkok (ps : Array (Int × Int)) : Bool := (ps.toList.zip (ps.toList.drop 1)).all (fun (a, next) => a.1 < next.1)
/-- the receiver's class, where there is one -/
def q_recv (o : Option Nat) (a : List Value) : Bool := match o with
  | none => true
  | some ci => match a with
    | .ref k :: _ => q_isC ci k
    | _ => false
/-- a call's target: the method's number, how many arguments with the receiver, the receiver's class -/
def q_call (v : Bool) (y i n pc : Nat) (L : q_L) (st : List Value) (M : q_M) : q_Res := match q_tgt y i with
  | some (t, k, o) => q_gd (n == 3 && (o.isSome == v && (decide (k ≤ st.length) && (decide ((st.drop k).length ≤ 4) && (q_recv o (st.take k).reverse && q_fits y t))))) (some (.inr (.inl (t, (st.take k).reverse, (pc + 3, L, st.drop k)))))
  | none => none
def q_ireturn (y n : Nat) (st : List Value) : q_Res := match st with
  | [.int v] => match q_ret y with
    | some .int => q_gd (n == 1) (some (.inr (.inr (some (.int v)))))
    | some .boolean => q_gd (n == 1 && decide (v = 0 ∨ v = 1)) (some (.inr (.inr (some (.int v)))))
    | _ => none
  | _ => none
def q_exec (y : Nat) (X : q_X) (i : ClassFile.Instr) (n pc : Nat) (L : q_L) (st : List Value) (M : q_M) : q_Res := match i with
  | .iconst v => q_gd (n == 1) (q_nx (pc + 1) L (.int (Int32.ofInt v) :: st) M)
  | .bipush v => q_gd (n == 2) (q_nx (pc + 2) L (.int (Int8.ofInt v).toInt32 :: st) M)
  | .sipush v => q_gd (n == 3) (q_nx (pc + 3) L (.int (Int16.ofInt v).toInt32 :: st) M)
  | .lconst v => q_gd (n == 1) (q_nx (pc + 1) L (.long (Int64.ofNat (v : Nat)) :: st) M)
  | .ldc k => match q_ldc y k with
    | some (.int v) => q_gd (n == 2) (q_nx (pc + 2) L (.int v :: st) M)
    | _ => none
  | .ldc_w k => match q_ldc y k with
    | some (.int v) => q_gd (n == 3) (q_nx (pc + 3) L (.int v :: st) M)
    | _ => none
  | .ldc2_w k => match q_ldc y k with
    | some (.long v) => q_gd (n == 3) (q_nx (pc + 3) L (.long v :: st) M)
    | _ => none
  | .iload k => q_iload k 2 n pc L st M
  | .iload_n k => q_iload k 1 n pc L st M
  | .lload k => q_lload k 2 n pc L st M
  | .lload_n k => q_lload k 1 n pc L st M
  | .aload k => q_aload k 2 n pc L st M
  | .aload_n k => q_aload k 1 n pc L st M
  | .istore k => q_istore k 2 n pc L st M
  | .istore_n k => q_istore k 1 n pc L st M
  | .lstore k => q_lstore k 2 n pc L st M
  | .lstore_n k => q_lstore k 1 n pc L st M
  | .astore k => q_astore k 2 n pc L st M
  | .astore_n k => q_astore k 1 n pc L st M
  | .iinc k v => q_iinc k v n pc L st M
  | .iadd => q_ii (fun a b => a + b) n pc L st M
  | .isub => q_ii (fun a b => a - b) n pc L st M
  | .imul => q_ii (fun a b => a * b) n pc L st M
  | .iand => q_ii (fun a b => a &&& b) n pc L st M
  | .ior => q_ii (fun a b => a ||| b) n pc L st M
  | .ixor => q_ii (fun a b => a ^^^ b) n pc L st M
  | .ishl => q_ii (fun a b => a <<< (b &&& 31)) n pc L st M
  | .ishr => q_ii (fun a b => a >>> (b &&& 31)) n pc L st M
  | .iushr => q_ii (fun a b => (a.toUInt32 >>> (b.toUInt32 &&& Int32.toUInt32 31)).toInt32) n pc L st M
  | .idiv => match st with
    | .int b :: .int a :: r => q_gd (n == 1 && !decide (b = 0)) (q_nx (pc + 1) L (.int (a / b) :: r) M)
    | _ => none
  | .irem => match st with
    | .int b :: .int a :: r => q_gd (n == 1 && !decide (b = 0)) (q_nx (pc + 1) L (.int (a - a / b * b) :: r) M)
    | _ => none
  | .ineg => match st with
    | .int a :: r => q_gd (n == 1) (q_nx (pc + 1) L (.int (-a) :: r) M)
    | _ => none
  | .ladd => q_ll (fun a b => a + b) n pc L st M
  | .lsub => q_ll (fun a b => a - b) n pc L st M
  | .lmul => q_ll (fun a b => a * b) n pc L st M
  | .ldiv => match st with
    | .long b :: .long a :: r => q_gd (n == 1 && !decide (b = 0)) (q_nx (pc + 1) L (.long (a / b) :: r) M)
    | _ => none
  | .lrem => match st with
    | .long b :: .long a :: r => q_gd (n == 1 && !decide (b = 0)) (q_nx (pc + 1) L (.long (a - a / b * b) :: r) M)
    | _ => none
  | .lcmp => match st with
    | .long b :: .long a :: r => q_gd (n == 1) (q_nx (pc + 1) L (.int (lg_cmp a b) :: r) M)
    | _ => none
  | .i2l => match st with
    | .int a :: r => q_gd (n == 1) (q_nx (pc + 1) L (.long a.toInt64 :: r) M)
    | _ => none
  | .dup => match st with
    | v :: r => q_gd (n == 1 && v.category == 1) (q_nx (pc + 1) L (v :: v :: r) M)
    | _ => none
  | .pop => match st with
    | v :: r => q_gd (n == 1 && v.category == 1) (q_nx (pc + 1) L r M)
    | _ => none
  | .pop2 => match st with
    | .long _ :: r => q_gd (n == 1) (q_nx (pc + 1) L r M)
    | _ => none
  | .dup_x1 => match st with
    | v :: w :: r => q_gd (n == 1 && (v.category == 1 && w.category == 1)) (q_nx (pc + 1) L (v :: w :: v :: r) M)
    | _ => none
  | .dup_x2 => match st with
    | v :: w :: u :: r => q_gd (n == 1 && (v.category == 1 && (w.category == 1 && u.category == 1))) (q_nx (pc + 1) L (v :: w :: u :: v :: r) M)
    | _ => none
  | .dup2 => match st with
    | v :: w :: r => q_gd (n == 1 && (v.category == 1 && w.category == 1)) (q_nx (pc + 1) L (v :: w :: v :: w :: r) M)
    | _ => none
  | .getfield i => match st with
    | .ref k :: r => match q_fld y i with
      | some (ci, j) => match q_sh ci j with
        | some true => q_gd (n == 3 && q_isC ci k) (q_nx (pc + 3) L (.ref (q_rf k j) :: r) M)
        | some false => q_gd (n == 3 && q_isC ci k) (q_nx (pc + 3) L (.int (M k j) :: r) M)
        | none => none
      | none => none
    | _ => none
  | .putfield i => match st with
    | .int x :: .ref k :: r => match q_fld y i with
      | some (ci, j) => match q_sh ci j with
        | some false => q_gd (n == 3 && (q_isC ci k && (!q_isB ci j || decide (x = 0 ∨ x = 1)))) (q_nx (pc + 3) L r (q_put M k j x))
        | _ => none
      | none => none
    | _ => none
  | .iaload => match st with
    | .int a :: .ref k :: r => match q_alen k with
      | some m => q_gd (n == 1 && q_in a m) (q_nx (pc + 1) L (.int (M k a.toNatClampNeg) :: r) M)
      | none => match X with
        | some (m, f) => q_gd (n == 1 && (k == 1000 && q_in a m)) (q_nx (pc + 1) L (.int (f a.toNatClampNeg) :: r) M)
        | none => none
    | _ => none
  | .iastore => match st with
    | .int x :: .int a :: .ref k :: r => match q_alen k with
      | some m => q_gd (n == 1 && q_in a m) (q_nx (pc + 1) L r (q_put M k a.toNatClampNeg x))
      | none => none
    | _ => none
  | .arraylength => match st with
    | .ref k :: r => match q_alen k with
      | some m => q_gd (n == 1) (q_nx (pc + 1) L (.int (Int32.ofNat m) :: r) M)
      | none => match X with
        | some (m, _) => q_gd (n == 1 && k == 1000) (q_nx (pc + 1) L (.int (Int32.ofNat m) :: r) M)
        | none => none
    | _ => none
  | .ifnull off => match st with
    | .ref _ :: r => q_gd (n == 3) (q_nx (pc + 3) L r M)
    | _ => none
  | .ifnonnull off => match st with
    | .ref _ :: r => q_br true off n pc L r M
    | _ => none
  | .ifCond c off => match st with
    | .int x :: r => q_br (q_c1 c x) off n pc L r M
    | _ => none
  | .if_icmp c off => match st with
    | .int b :: .int a :: r => q_br (q_c2 c a b) off n pc L r M
    | _ => none
  | .goto off => q_br true off n pc L st M
  | .tableswitch d lo hi offs => match st with
    | .int x :: r => match q_sw d lo hi offs x with
      | some off => q_gd (q_tok pc off) (q_nx (q_to pc off) L r M)
      | none => none
    | _ => none
  | .lookupswitch d ps => match st with
    | .int x :: r => q_gd (q_lkok ps && q_tok pc (Op.lookupswitch.offset ps.toList d x.toInt)) (q_nx (q_to pc (Op.lookupswitch.offset ps.toList d x.toInt)) L r M)
    | _ => none
  | .invokevirtual i => q_call true y i n pc L st M
  | .invokestatic i => match q_mm y i with
    | some b => match st with
      | .int w :: .int x :: r => q_gd (n == 3 && (q_mfit y && decide (r.length ≤ 4))) (q_nx (pc + 3) L (.int (match b with
        | true => if w < x then w else x
        | false => if x < w then w else x) :: r) M)
      | _ => none
    | none => q_call false y i n pc L st M
  | .ireturn => q_ireturn y n st
  | .lreturn => match st with
    | [.long v] => match q_ret y with
      | some .long => q_gd (n == 1) (some (.inr (.inr (some (.long v)))))
      | _ => none
    | _ => none
  | .return_ => match st with
    | [] => match q_ret y with
      | none => q_gd (n == 1) (some (.inr (.inr none)))
      | _ => none
    | _ => none
  | _ => none
def q_fin (C : q_C) (Q : q_R) (G : q_G) (M : q_M) : q_Res → Prop
  | some (.inl s) => G s.1 s.2.1 s.2.2.1 s.2.2.2
  | some (.inr (.inl c)) => C c.1 c.2.1 M (fun v M' => G c.2.2.1 c.2.2.2.1 (v.toList ++ c.2.2.2.2) M')
  | some (.inr (.inr v)) => Q v M
  | none => False
def q_at (C : q_C) (y : Nat) (X : q_X) (Q : q_R) (G : q_G) (pc : Nat) (L : q_L) (st : List Value) (M : q_M) : Prop := match decode (q_code y) pc with
  | .ok (i, n) => q_fin C Q G M (q_exec y X i n pc L st M)
  | .error _ => False
/-- it goes well from here: the least predicate that is closed under the machine's step -/
def q_gG (C : q_C) (y : Nat) (X : q_X) (Q : q_R) (pc : Nat) (L : q_L) (st : List Value) (M : q_M) : Prop :=
  ∀ G : q_G, (∀ pc L st M, q_at C y X Q G pc L st M → G pc L st M) → G pc L st M
def q_lay1 : List Value → q_L
  | [] => []
  | .long x :: r => some (.long x) :: none :: q_lay1 r
  | .double x :: r => some (.double x) :: none :: q_lay1 r
  | v :: r => some v :: q_lay1 r
def q_args (n : Nat) (a : List Value) : q_L := q_lay1 a ++ List.replicate (n - (q_lay1 a).length) none
def q_mono (C : q_C) : Prop := ∀ t a M R R', (∀ v M', R v M' → R' v M') → C t a M R → C t a M R'
/-- a method's body, its calls by C -/
def q_body (C : q_C) : q_C := fun y a M R => (q_lay1 a).length ≤ q_maxL y ∧ q_gG C y none R 0 (q_args (q_maxL y) a) [] M
/-- a method's run: the least that holds its body -/
def q_Run : q_C := fun y a M R => ∀ C : q_C, q_mono C → (∀ y a M R, q_body C y a M R → C y a M R) → C y a M R
theorem q_at_mono {C C' : q_C} (hC : q_mono C) (hCC : ∀ t a M R, C t a M R → C' t a M R) {y : Nat} {X : q_X} {Q Q' : q_R} {G G' : q_G} (hQ : ∀ v M, Q v M → Q' v M) (hG : ∀ pc L st M, G pc L st M → G' pc L st M) {pc : Nat} {L : q_L} {st : List Value} {M : q_M}
    (h : q_at C y X Q G pc L st M) : q_at C' y X Q' G' pc L st M := by
  unfold q_at at h ⊢
  cases hd : decode (q_code y) pc with
  | error _ => rw [hd] at h; exact h
  | ok i =>
    obtain ⟨i, n⟩ := i
    rw [hd] at h
    dsimp only at h ⊢
    cases he : q_exec y X i n pc L st M with
    | none => rw [he] at h; exact h
    | some r =>
      rw [he] at h
      rcases r with s | c | v
      · exact hG _ _ _ _ h
      · exact hCC _ _ _ _ (hC _ _ _ _ _ (fun v M' q => hG _ _ _ _ q) h)
      · exact hQ _ _ h
theorem q_gG_intro {C : q_C} (hC : q_mono C) {y : Nat} {X : q_X} {Q : q_R} {pc : Nat} {L : q_L} {st : List Value} {M : q_M} (h : q_at C y X Q (q_gG C y X Q) pc L st M) : q_gG C y X Q pc L st M := by
  intro G hG
  exact hG _ _ _ _ (q_at_mono hC (fun _ _ _ _ q => q) (fun _ _ q => q) (fun _ _ _ _ q => q G hG) h)
theorem q_gG_elim {C : q_C} (hC : q_mono C) {y : Nat} {X : q_X} {Q : q_R} {pc : Nat} {L : q_L} {st : List Value} {M : q_M} (h : q_gG C y X Q pc L st M) : q_at C y X Q (q_gG C y X Q) pc L st M :=
  h (q_at C y X Q (q_gG C y X Q)) (fun _ _ _ _ q => q_at_mono hC (fun _ _ _ _ q => q) (fun _ _ q => q) (fun _ _ _ _ q => q_gG_intro hC q) q)
theorem q_gG_mono {C C' : q_C} (hC : q_mono C) (hC' : q_mono C') (hCC : ∀ t a M R, C t a M R → C' t a M R) {y : Nat} {X : q_X} {Q Q' : q_R} (hQ : ∀ v M, Q v M → Q' v M) {pc : Nat} {L : q_L} {st : List Value} {M : q_M} (h : q_gG C y X Q pc L st M) : q_gG C' y X Q' pc L st M :=
  h (q_gG C' y X Q') (fun _ _ _ _ q => q_gG_intro hC' (q_at_mono hC hCC hQ (fun _ _ _ _ q => q) q))
theorem q_Run_mono : q_mono q_Run := fun _ _ _ _ _ hR h C hC hcl => hC _ _ _ _ _ hR (h C hC hcl)
theorem q_body_mono {C C' : q_C} (hC : q_mono C) (hC' : q_mono C') (hCC : ∀ t a M R, C t a M R → C' t a M R) {y : Nat} {a : List Value} {M : q_M} {R R' : q_R} (hR : ∀ v M', R v M' → R' v M') (h : q_body C y a M R) : q_body C' y a M R' :=
  ⟨h.1, q_gG_mono hC hC' hCC hR h.2⟩
theorem q_Run_intro {y : Nat} {a : List Value} {M : q_M} {R : q_R} (h : q_body q_Run y a M R) : q_Run y a M R := fun C hC hcl =>
  hcl _ _ _ _ (q_body_mono q_Run_mono hC (fun _ _ _ _ q => q C hC hcl) (fun _ _ q => q) h)
theorem q_bR_mono : q_mono (q_body q_Run) := fun t a M R R' hR q => q_body_mono (C := q_Run) (C' := q_Run) q_Run_mono q_Run_mono (fun _ _ _ _ q => q) hR q
theorem q_bR_cl : ∀ y a M R, q_body (q_body q_Run) y a M R → q_body q_Run y a M R := fun y a M R q =>
  q_body_mono (C := q_body q_Run) (C' := q_Run) q_bR_mono q_Run_mono (fun _ _ _ _ q => q_Run_intro q) (fun _ _ q => q) q
theorem q_Run_elim {y : Nat} {a : List Value} {M : q_M} {R : q_R} (h : q_Run y a M R) : q_body q_Run y a M R := h (q_body q_Run) q_bR_mono q_bR_cl
def q_g (y : Nat) (X : q_X) (Q : q_R) : q_G := q_gG q_Run y X Q
theorem q_g_eq {y : Nat} {X : q_X} {Q : q_R} {pc : Nat} {L : q_L} {st : List Value} {M : q_M} : q_g y X Q pc L st M = q_at q_Run y X Q (q_g y X Q) pc L st M :=
  propext ⟨q_gG_elim q_Run_mono, q_gG_intro q_Run_mono⟩
/-- a method's entry -/
theorem q_entry {y : Nat} {a : List Value} {M : q_M} {R : q_R} {L : q_L} (h1 : (q_lay1 a).length ≤ q_maxL y) (h2 : q_args (q_maxL y) a = L) : q_Run y a M R = q_g y none R 0 L [] M := by
  subst h2
  exact propext ⟨fun h => (q_Run_elim h).2, fun h => q_Run_intro ⟨h1, h⟩⟩
end
section
/-! what each instruction does, as equations of q_g -/
theorem r_iconst {y : Nat} {X : q_X} {Q : q_R} {pc : Nat} {L : q_L} {r : List Value} {M : q_M} {k : Int} {v : Int32} (hv : Int32.ofInt k = v) (h : decode (q_code y) pc = .ok (.iconst k, 1)) : q_g y X Q pc L (r) M = q_g y X Q (pc + 1) (L) (.int v :: r) (M) := by
  rw [q_g_eq]
  unfold q_at
  rw [h]
  subst hv
  rfl
theorem r_bipush {y : Nat} {X : q_X} {Q : q_R} {pc : Nat} {L : q_L} {r : List Value} {M : q_M} {k : Int} {v : Int32} (hv : (Int8.ofInt k).toInt32 = v) (h : decode (q_code y) pc = .ok (.bipush k, 2)) : q_g y X Q pc L (r) M = q_g y X Q (pc + 2) (L) (.int v :: r) (M) := by
  rw [q_g_eq]
  unfold q_at
  rw [h]
  subst hv
  rfl
theorem r_sipush {y : Nat} {X : q_X} {Q : q_R} {pc : Nat} {L : q_L} {r : List Value} {M : q_M} {k : Int} {v : Int32} (hv : (Int16.ofInt k).toInt32 = v) (h : decode (q_code y) pc = .ok (.sipush k, 3)) : q_g y X Q pc L (r) M = q_g y X Q (pc + 3) (L) (.int v :: r) (M) := by
  rw [q_g_eq]
  unfold q_at
  rw [h]
  subst hv
  rfl
theorem r_lconst {y : Nat} {X : q_X} {Q : q_R} {pc : Nat} {L : q_L} {r : List Value} {M : q_M} {k : Fin 2} {v : Int64} (hv : Int64.ofNat (k : Nat) = v) (h : decode (q_code y) pc = .ok (.lconst k, 1)) : q_g y X Q pc L (r) M = q_g y X Q (pc + 1) (L) (.long v :: r) (M) := by
  rw [q_g_eq]
  unfold q_at
  rw [h]
  subst hv
  rfl
theorem r_ldc {y : Nat} {X : q_X} {Q : q_R} {pc : Nat} {L : q_L} {r : List Value} {M : q_M} {k : Nat} {v : Int32} (hv : q_ldc y k = some (.int v)) (h : decode (q_code y) pc = .ok (.ldc k, 2)) : q_g y X Q pc L (r) M = q_g y X Q (pc + 2) (L) (.int v :: r) (M) := by
  rw [q_g_eq]
  unfold q_at
  rw [h]
  simp only [q_exec, hv]
  rfl
theorem r_ldcw {y : Nat} {X : q_X} {Q : q_R} {pc : Nat} {L : q_L} {r : List Value} {M : q_M} {k : Nat} {v : Int32} (hv : q_ldc y k = some (.int v)) (h : decode (q_code y) pc = .ok (.ldc_w k, 3)) : q_g y X Q pc L (r) M = q_g y X Q (pc + 3) (L) (.int v :: r) (M) := by
  rw [q_g_eq]
  unfold q_at
  rw [h]
  simp only [q_exec, hv]
  rfl
theorem r_ldc2 {y : Nat} {X : q_X} {Q : q_R} {pc : Nat} {L : q_L} {r : List Value} {M : q_M} {k : Nat} {v : Int64} (hv : q_ldc y k = some (.long v)) (h : decode (q_code y) pc = .ok (.ldc2_w k, 3)) : q_g y X Q pc L (r) M = q_g y X Q (pc + 3) (L) (.long v :: r) (M) := by
  rw [q_g_eq]
  unfold q_at
  rw [h]
  simp only [q_exec, hv]
  rfl
theorem r_iload {y : Nat} {X : q_X} {Q : q_R} {pc : Nat} {L : q_L} {r : List Value} {M : q_M} {k : Nat} {x : Int32} (hl : L[k]? = some (some (.int x))) (h : decode (q_code y) pc = .ok (.iload k, 2)) : q_g y X Q pc L (r) M = q_g y X Q (pc + 2) (L) (.int x :: r) (M) := by
  rw [q_g_eq]
  unfold q_at
  rw [h]
  simp only [q_exec, q_iload, hl]
  rfl
theorem r_iload_n {y : Nat} {X : q_X} {Q : q_R} {pc : Nat} {L : q_L} {r : List Value} {M : q_M} {k : Fin 4} {x : Int32} (hl : L[(k : Nat)]? = some (some (.int x))) (h : decode (q_code y) pc = .ok (.iload_n k, 1)) : q_g y X Q pc L (r) M = q_g y X Q (pc + 1) (L) (.int x :: r) (M) := by
  rw [q_g_eq]
  unfold q_at
  rw [h]
  simp only [q_exec, q_iload, hl]
  rfl
theorem r_istore {y : Nat} {X : q_X} {Q : q_R} {pc : Nat} {L : q_L} {r : List Value} {M : q_M} {k : Nat} {x : Int32} (hk : k < L.length) (h : decode (q_code y) pc = .ok (.istore k, 2)) : q_g y X Q pc L (.int x :: r) M = q_g y X Q (pc + 2) (q_set1 L k (.int x)) (r) (M) := by
  rw [q_g_eq]
  unfold q_at
  rw [h]
  simp only [q_exec, q_istore, decide_eq_true hk]
  rfl
theorem r_istore_n {y : Nat} {X : q_X} {Q : q_R} {pc : Nat} {L : q_L} {r : List Value} {M : q_M} {k : Fin 4} {x : Int32} (hk : (k : Nat) < L.length) (h : decode (q_code y) pc = .ok (.istore_n k, 1)) : q_g y X Q pc L (.int x :: r) M = q_g y X Q (pc + 1) (q_set1 L k (.int x)) (r) (M) := by
  rw [q_g_eq]
  unfold q_at
  rw [h]
  simp only [q_exec, q_istore, decide_eq_true hk]
  rfl
theorem r_lload {y : Nat} {X : q_X} {Q : q_R} {pc : Nat} {L : q_L} {r : List Value} {M : q_M} {k : Nat} {x : Int64} (hl : L[k]? = some (some (.long x))) (h : decode (q_code y) pc = .ok (.lload k, 2)) : q_g y X Q pc L (r) M = q_g y X Q (pc + 2) (L) (.long x :: r) (M) := by
  rw [q_g_eq]
  unfold q_at
  rw [h]
  simp only [q_exec, q_lload, hl]
  rfl
theorem r_lload_n {y : Nat} {X : q_X} {Q : q_R} {pc : Nat} {L : q_L} {r : List Value} {M : q_M} {k : Fin 4} {x : Int64} (hl : L[(k : Nat)]? = some (some (.long x))) (h : decode (q_code y) pc = .ok (.lload_n k, 1)) : q_g y X Q pc L (r) M = q_g y X Q (pc + 1) (L) (.long x :: r) (M) := by
  rw [q_g_eq]
  unfold q_at
  rw [h]
  simp only [q_exec, q_lload, hl]
  rfl
theorem r_lstore {y : Nat} {X : q_X} {Q : q_R} {pc : Nat} {L : q_L} {r : List Value} {M : q_M} {k : Nat} {x : Int64} (hk : k + 1 < L.length) (h : decode (q_code y) pc = .ok (.lstore k, 2)) : q_g y X Q pc L (.long x :: r) M = q_g y X Q (pc + 2) (q_unset (q_set1 L k (.long x)) (k + 1)) (r) (M) := by
  rw [q_g_eq]
  unfold q_at
  rw [h]
  simp only [q_exec, q_lstore, decide_eq_true hk]
  rfl
theorem r_lstore_n {y : Nat} {X : q_X} {Q : q_R} {pc : Nat} {L : q_L} {r : List Value} {M : q_M} {k : Fin 4} {x : Int64} (hk : (k : Nat) + 1 < L.length) (h : decode (q_code y) pc = .ok (.lstore_n k, 1)) : q_g y X Q pc L (.long x :: r) M = q_g y X Q (pc + 1) (q_unset (q_set1 L k (.long x)) (k + 1)) (r) (M) := by
  rw [q_g_eq]
  unfold q_at
  rw [h]
  simp only [q_exec, q_lstore, decide_eq_true hk]
  rfl
theorem r_aload {y : Nat} {X : q_X} {Q : q_R} {pc : Nat} {L : q_L} {r : List Value} {M : q_M} {k : Nat} {x : Nat} (hl : L[k]? = some (some (.ref x))) (h : decode (q_code y) pc = .ok (.aload k, 2)) : q_g y X Q pc L (r) M = q_g y X Q (pc + 2) (L) (.ref x :: r) (M) := by
  rw [q_g_eq]
  unfold q_at
  rw [h]
  simp only [q_exec, q_aload, hl]
  rfl
theorem r_aload_n {y : Nat} {X : q_X} {Q : q_R} {pc : Nat} {L : q_L} {r : List Value} {M : q_M} {k : Fin 4} {x : Nat} (hl : L[(k : Nat)]? = some (some (.ref x))) (h : decode (q_code y) pc = .ok (.aload_n k, 1)) : q_g y X Q pc L (r) M = q_g y X Q (pc + 1) (L) (.ref x :: r) (M) := by
  rw [q_g_eq]
  unfold q_at
  rw [h]
  simp only [q_exec, q_aload, hl]
  rfl
theorem r_astore {y : Nat} {X : q_X} {Q : q_R} {pc : Nat} {L : q_L} {r : List Value} {M : q_M} {k : Nat} {x : Nat} (hk : k < L.length) (h : decode (q_code y) pc = .ok (.astore k, 2)) : q_g y X Q pc L (.ref x :: r) M = q_g y X Q (pc + 2) (q_set1 L k (.ref x)) (r) (M) := by
  rw [q_g_eq]
  unfold q_at
  rw [h]
  simp only [q_exec, q_astore, decide_eq_true hk]
  rfl
theorem r_astore_n {y : Nat} {X : q_X} {Q : q_R} {pc : Nat} {L : q_L} {r : List Value} {M : q_M} {k : Fin 4} {x : Nat} (hk : (k : Nat) < L.length) (h : decode (q_code y) pc = .ok (.astore_n k, 1)) : q_g y X Q pc L (.ref x :: r) M = q_g y X Q (pc + 1) (q_set1 L k (.ref x)) (r) (M) := by
  rw [q_g_eq]
  unfold q_at
  rw [h]
  simp only [q_exec, q_astore, decide_eq_true hk]
  rfl
theorem r_iinc {y : Nat} {X : q_X} {Q : q_R} {pc : Nat} {L : q_L} {r : List Value} {M : q_M} {k : Nat} {c : Int} {x v : Int32} (hl : L[k]? = some (some (.int x))) (hv : Int32.ofInt c = v) (h : decode (q_code y) pc = .ok (.iinc k c, 3)) : q_g y X Q pc L (r) M = q_g y X Q (pc + 3) (q_set1 L k (.int (x + v))) (r) (M) := by
  rw [q_g_eq]
  unfold q_at
  rw [h]
  subst hv
  simp only [q_exec, q_iinc, hl]
  rfl
theorem r_iadd {y : Nat} {X : q_X} {Q : q_R} {pc : Nat} {L : q_L} {r : List Value} {M : q_M} {a b : Int32} (h : decode (q_code y) pc = .ok (.iadd, 1)) : q_g y X Q pc L (.int b :: .int a :: r) M = q_g y X Q (pc + 1) (L) (.int (a + b) :: r) (M) := by
  rw [q_g_eq]
  unfold q_at
  rw [h]
  rfl
theorem r_isub {y : Nat} {X : q_X} {Q : q_R} {pc : Nat} {L : q_L} {r : List Value} {M : q_M} {a b : Int32} (h : decode (q_code y) pc = .ok (.isub, 1)) : q_g y X Q pc L (.int b :: .int a :: r) M = q_g y X Q (pc + 1) (L) (.int (a - b) :: r) (M) := by
  rw [q_g_eq]
  unfold q_at
  rw [h]
  rfl
theorem r_imul {y : Nat} {X : q_X} {Q : q_R} {pc : Nat} {L : q_L} {r : List Value} {M : q_M} {a b : Int32} (h : decode (q_code y) pc = .ok (.imul, 1)) : q_g y X Q pc L (.int b :: .int a :: r) M = q_g y X Q (pc + 1) (L) (.int (a * b) :: r) (M) := by
  rw [q_g_eq]
  unfold q_at
  rw [h]
  rfl
theorem r_iand {y : Nat} {X : q_X} {Q : q_R} {pc : Nat} {L : q_L} {r : List Value} {M : q_M} {a b : Int32} (h : decode (q_code y) pc = .ok (.iand, 1)) : q_g y X Q pc L (.int b :: .int a :: r) M = q_g y X Q (pc + 1) (L) (.int (a &&& b) :: r) (M) := by
  rw [q_g_eq]
  unfold q_at
  rw [h]
  rfl
theorem r_ior {y : Nat} {X : q_X} {Q : q_R} {pc : Nat} {L : q_L} {r : List Value} {M : q_M} {a b : Int32} (h : decode (q_code y) pc = .ok (.ior, 1)) : q_g y X Q pc L (.int b :: .int a :: r) M = q_g y X Q (pc + 1) (L) (.int (a ||| b) :: r) (M) := by
  rw [q_g_eq]
  unfold q_at
  rw [h]
  rfl
theorem r_ixor {y : Nat} {X : q_X} {Q : q_R} {pc : Nat} {L : q_L} {r : List Value} {M : q_M} {a b : Int32} (h : decode (q_code y) pc = .ok (.ixor, 1)) : q_g y X Q pc L (.int b :: .int a :: r) M = q_g y X Q (pc + 1) (L) (.int (a ^^^ b) :: r) (M) := by
  rw [q_g_eq]
  unfold q_at
  rw [h]
  rfl
theorem r_ishl {y : Nat} {X : q_X} {Q : q_R} {pc : Nat} {L : q_L} {r : List Value} {M : q_M} {a b : Int32} (h : decode (q_code y) pc = .ok (.ishl, 1)) : q_g y X Q pc L (.int b :: .int a :: r) M = q_g y X Q (pc + 1) (L) (.int (a <<< (b &&& 31)) :: r) (M) := by
  rw [q_g_eq]
  unfold q_at
  rw [h]
  rfl
theorem r_ishr {y : Nat} {X : q_X} {Q : q_R} {pc : Nat} {L : q_L} {r : List Value} {M : q_M} {a b : Int32} (h : decode (q_code y) pc = .ok (.ishr, 1)) : q_g y X Q pc L (.int b :: .int a :: r) M = q_g y X Q (pc + 1) (L) (.int (a >>> (b &&& 31)) :: r) (M) := by
  rw [q_g_eq]
  unfold q_at
  rw [h]
  rfl
theorem r_iushr {y : Nat} {X : q_X} {Q : q_R} {pc : Nat} {L : q_L} {r : List Value} {M : q_M} {a b : Int32} (h : decode (q_code y) pc = .ok (.iushr, 1)) : q_g y X Q pc L (.int b :: .int a :: r) M = q_g y X Q (pc + 1) (L) (.int ((a.toUInt32 >>> (b.toUInt32 &&& Int32.toUInt32 31)).toInt32) :: r) (M) := by
  rw [q_g_eq]
  unfold q_at
  rw [h]
  rfl
theorem r_ladd {y : Nat} {X : q_X} {Q : q_R} {pc : Nat} {L : q_L} {r : List Value} {M : q_M} {a b : Int64} (h : decode (q_code y) pc = .ok (.ladd, 1)) : q_g y X Q pc L (.long b :: .long a :: r) M = q_g y X Q (pc + 1) (L) (.long (a + b) :: r) (M) := by
  rw [q_g_eq]
  unfold q_at
  rw [h]
  rfl
theorem r_lsub {y : Nat} {X : q_X} {Q : q_R} {pc : Nat} {L : q_L} {r : List Value} {M : q_M} {a b : Int64} (h : decode (q_code y) pc = .ok (.lsub, 1)) : q_g y X Q pc L (.long b :: .long a :: r) M = q_g y X Q (pc + 1) (L) (.long (a - b) :: r) (M) := by
  rw [q_g_eq]
  unfold q_at
  rw [h]
  rfl
theorem r_lmul {y : Nat} {X : q_X} {Q : q_R} {pc : Nat} {L : q_L} {r : List Value} {M : q_M} {a b : Int64} (h : decode (q_code y) pc = .ok (.lmul, 1)) : q_g y X Q pc L (.long b :: .long a :: r) M = q_g y X Q (pc + 1) (L) (.long (a * b) :: r) (M) := by
  rw [q_g_eq]
  unfold q_at
  rw [h]
  rfl
theorem r_ineg {y : Nat} {X : q_X} {Q : q_R} {pc : Nat} {L : q_L} {r : List Value} {M : q_M} {a : Int32} (h : decode (q_code y) pc = .ok (.ineg, 1)) : q_g y X Q pc L (.int a :: r) M = q_g y X Q (pc + 1) (L) (.int (-a) :: r) (M) := by
  rw [q_g_eq]
  unfold q_at
  rw [h]
  rfl
theorem r_idiv {y : Nat} {X : q_X} {Q : q_R} {pc : Nat} {L : q_L} {r : List Value} {M : q_M} {a b : Int32} (h : decode (q_code y) pc = .ok (.idiv, 1)) : q_g y X Q pc L (.int b :: .int a :: r) M = (¬ b = 0 ∧ q_g y X Q (pc + 1) (L) (.int (a / b) :: r) (M)) := by
  rw [q_g_eq]
  unfold q_at
  rw [h]
  by_cases hz : b = 0 <;> simp [q_exec, q_gd, q_nx, q_fin, hz]
theorem r_irem {y : Nat} {X : q_X} {Q : q_R} {pc : Nat} {L : q_L} {r : List Value} {M : q_M} {a b : Int32} (h : decode (q_code y) pc = .ok (.irem, 1)) : q_g y X Q pc L (.int b :: .int a :: r) M = (¬ b = 0 ∧ q_g y X Q (pc + 1) (L) (.int (a - a / b * b) :: r) (M)) := by
  rw [q_g_eq]
  unfold q_at
  rw [h]
  by_cases hz : b = 0 <;> simp [q_exec, q_gd, q_nx, q_fin, hz]
theorem r_ldiv {y : Nat} {X : q_X} {Q : q_R} {pc : Nat} {L : q_L} {r : List Value} {M : q_M} {a b : Int64} (h : decode (q_code y) pc = .ok (.ldiv, 1)) : q_g y X Q pc L (.long b :: .long a :: r) M = (¬ b = 0 ∧ q_g y X Q (pc + 1) (L) (.long (a / b) :: r) (M)) := by
  rw [q_g_eq]
  unfold q_at
  rw [h]
  by_cases hz : b = 0 <;> simp [q_exec, q_gd, q_nx, q_fin, hz]
theorem r_lrem {y : Nat} {X : q_X} {Q : q_R} {pc : Nat} {L : q_L} {r : List Value} {M : q_M} {a b : Int64} (h : decode (q_code y) pc = .ok (.lrem, 1)) : q_g y X Q pc L (.long b :: .long a :: r) M = (¬ b = 0 ∧ q_g y X Q (pc + 1) (L) (.long (a - a / b * b) :: r) (M)) := by
  rw [q_g_eq]
  unfold q_at
  rw [h]
  by_cases hz : b = 0 <;> simp [q_exec, q_gd, q_nx, q_fin, hz]
theorem r_lcmp {y : Nat} {X : q_X} {Q : q_R} {pc : Nat} {L : q_L} {r : List Value} {M : q_M} {a b : Int64} (h : decode (q_code y) pc = .ok (.lcmp, 1)) : q_g y X Q pc L (.long b :: .long a :: r) M = q_g y X Q (pc + 1) (L) (.int (lg_cmp a b) :: r) (M) := by
  rw [q_g_eq]
  unfold q_at
  rw [h]
  rfl
theorem r_i2l {y : Nat} {X : q_X} {Q : q_R} {pc : Nat} {L : q_L} {r : List Value} {M : q_M} {a : Int32} (h : decode (q_code y) pc = .ok (.i2l, 1)) : q_g y X Q pc L (.int a :: r) M = q_g y X Q (pc + 1) (L) (.long a.toInt64 :: r) (M) := by
  rw [q_g_eq]
  unfold q_at
  rw [h]
  rfl
theorem r_dup {y : Nat} {X : q_X} {Q : q_R} {pc : Nat} {L : q_L} {r : List Value} {M : q_M} {v : Value} (hv : (v.category == 1) = true) (h : decode (q_code y) pc = .ok (.dup, 1)) : q_g y X Q pc L (v :: r) M = q_g y X Q (pc + 1) (L) (v :: v :: r) (M) := by
  rw [q_g_eq]
  unfold q_at
  rw [h]
  simp only [q_exec, hv]
  rfl
theorem r_pop {y : Nat} {X : q_X} {Q : q_R} {pc : Nat} {L : q_L} {r : List Value} {M : q_M} {v : Value} (hv : (v.category == 1) = true) (h : decode (q_code y) pc = .ok (.pop, 1)) : q_g y X Q pc L (v :: r) M = q_g y X Q (pc + 1) (L) (r) (M) := by
  rw [q_g_eq]
  unfold q_at
  rw [h]
  simp only [q_exec, hv]
  rfl
theorem r_pop2 {y : Nat} {X : q_X} {Q : q_R} {pc : Nat} {L : q_L} {r : List Value} {M : q_M} {v : Int64} (h : decode (q_code y) pc = .ok (.pop2, 1)) : q_g y X Q pc L (.long v :: r) M = q_g y X Q (pc + 1) (L) (r) (M) := by
  rw [q_g_eq]
  unfold q_at
  rw [h]
  rfl
theorem r_dup_x1 {y : Nat} {X : q_X} {Q : q_R} {pc : Nat} {L : q_L} {r : List Value} {M : q_M} {v w : Value} (hv : (v.category == 1) = true) (hw : (w.category == 1) = true) (h : decode (q_code y) pc = .ok (.dup_x1, 1)) : q_g y X Q pc L (v :: w :: r) M = q_g y X Q (pc + 1) (L) (v :: w :: v :: r) (M) := by
  rw [q_g_eq]
  unfold q_at
  rw [h]
  simp only [q_exec, hv, hw]
  rfl
theorem r_dup_x2 {y : Nat} {X : q_X} {Q : q_R} {pc : Nat} {L : q_L} {r : List Value} {M : q_M} {v w u : Value} (hv : (v.category == 1) = true) (hw : (w.category == 1) = true) (hu : (u.category == 1) = true) (h : decode (q_code y) pc = .ok (.dup_x2, 1)) : q_g y X Q pc L (v :: w :: u :: r) M = q_g y X Q (pc + 1) (L) (v :: w :: u :: v :: r) (M) := by
  rw [q_g_eq]
  unfold q_at
  rw [h]
  simp only [q_exec, hv, hw, hu]
  rfl
theorem r_dup2 {y : Nat} {X : q_X} {Q : q_R} {pc : Nat} {L : q_L} {r : List Value} {M : q_M} {v w : Value} (hv : (v.category == 1) = true) (hw : (w.category == 1) = true) (h : decode (q_code y) pc = .ok (.dup2, 1)) : q_g y X Q pc L (v :: w :: r) M = q_g y X Q (pc + 1) (L) (v :: w :: v :: w :: r) (M) := by
  rw [q_g_eq]
  unfold q_at
  rw [h]
  simp only [q_exec, hv, hw]
  rfl
theorem r_getI {y : Nat} {X : q_X} {Q : q_R} {pc : Nat} {L : q_L} {r : List Value} {M : q_M} {i k ci j : Nat} (h1 : q_fld y i = some (ci, j)) (h2 : q_sh ci j = some false) (h : decode (q_code y) pc = .ok (.getfield i, 3)) : q_g y X Q pc L (.ref k :: r) M = (q_isC ci k = true ∧ q_g y X Q (pc + 3) (L) (.int (M k j) :: r) (M)) := by
  rw [q_g_eq]
  unfold q_at
  rw [h]
  cases hz : q_isC ci k <;> simp [q_exec, h1, h2, q_gd, q_nx, q_fin, hz]
theorem r_getR {y : Nat} {X : q_X} {Q : q_R} {pc : Nat} {L : q_L} {r : List Value} {M : q_M} {i k ci j : Nat} (h1 : q_fld y i = some (ci, j)) (h2 : q_sh ci j = some true) (h : decode (q_code y) pc = .ok (.getfield i, 3)) : q_g y X Q pc L (.ref k :: r) M = (q_isC ci k = true ∧ q_g y X Q (pc + 3) (L) (.ref (q_rf k j) :: r) (M)) := by
  rw [q_g_eq]
  unfold q_at
  rw [h]
  cases hz : q_isC ci k <;> simp [q_exec, h1, h2, q_gd, q_nx, q_fin, hz]
theorem r_putI {y : Nat} {X : q_X} {Q : q_R} {pc : Nat} {L : q_L} {r : List Value} {M : q_M} {i k ci j : Nat} {x : Int32} (h1 : q_fld y i = some (ci, j)) (h2 : q_sh ci j = some false) (h3 : q_isB ci j = false) (h : decode (q_code y) pc = .ok (.putfield i, 3)) : q_g y X Q pc L (.int x :: .ref k :: r) M = (q_isC ci k = true ∧ q_g y X Q (pc + 3) (L) (r) (q_put M k j x)) := by
  rw [q_g_eq]
  unfold q_at
  rw [h]
  cases hz : q_isC ci k <;> simp [q_exec, h1, h2, h3, q_gd, q_nx, q_fin, hz]
theorem r_putB {y : Nat} {X : q_X} {Q : q_R} {pc : Nat} {L : q_L} {r : List Value} {M : q_M} {i k ci j : Nat} {x : Int32} (h1 : q_fld y i = some (ci, j)) (h2 : q_sh ci j = some false) (h3 : q_isB ci j = true) (h : decode (q_code y) pc = .ok (.putfield i, 3)) : q_g y X Q pc L (.int x :: .ref k :: r) M = (q_isC ci k = true ∧ ((x = 0 ∨ x = 1) ∧ q_g y X Q (pc + 3) (L) (r) (q_put M k j x))) := by
  rw [q_g_eq]
  unfold q_at
  rw [h]
  cases hz : q_isC ci k <;> by_cases hw : x = 0 ∨ x = 1 <;> simp [q_exec, h1, h2, h3, q_gd, q_nx, q_fin, hz, hw]
theorem r_iaload {y : Nat} {Q : q_R} {pc : Nat} {L : q_L} {r : List Value} {M : q_M} {a : Int32} {k : Nat} (h : decode (q_code y) pc = .ok (.iaload, 1)) : q_g y none Q pc L (.int a :: .ref k :: r) M = (q_in a (q_alenD k) = true ∧ q_g y none Q (pc + 1) (L) (.int (M k a.toNatClampNeg) :: r) (M)) := by
  rw [q_g_eq]
  unfold q_at
  rw [h]
  unfold q_alenD
  cases hm : q_alen k with
  | none => simp [q_exec, hm, q_fin, q_in]
  | some m => cases hz : q_in a m <;> simp [q_exec, hm, q_gd, q_nx, q_fin, hz]
theorem r_iastore {y : Nat} {X : q_X} {Q : q_R} {pc : Nat} {L : q_L} {r : List Value} {M : q_M} {a x : Int32} {k : Nat} (h : decode (q_code y) pc = .ok (.iastore, 1)) : q_g y X Q pc L (.int x :: .int a :: .ref k :: r) M = (q_in a (q_alenD k) = true ∧ q_g y X Q (pc + 1) (L) (r) (q_put M k a.toNatClampNeg x)) := by
  rw [q_g_eq]
  unfold q_at
  rw [h]
  unfold q_alenD
  cases hm : q_alen k with
  | none => simp [q_exec, hm, q_fin, q_in]
  | some m => cases hz : q_in a m <;> simp [q_exec, hm, q_gd, q_nx, q_fin, hz]
theorem r_alen {y : Nat} {Q : q_R} {pc : Nat} {L : q_L} {r : List Value} {M : q_M} {k : Nat} (h : decode (q_code y) pc = .ok (.arraylength, 1)) : q_g y none Q pc L (.ref k :: r) M = ((q_alen k).isSome = true ∧ q_g y none Q (pc + 1) (L) (.int (Int32.ofNat (q_alenD k)) :: r) (M)) := by
  rw [q_g_eq]
  unfold q_at
  rw [h]
  unfold q_alenD
  cases hm : q_alen k with
  | none => simp [q_exec, hm, q_fin]
  | some m => simp [q_exec, hm, q_gd, q_nx, q_fin]
theorem r_sld {y : Nat} {X : q_X} {Q : q_R} {pc : Nat} {L : q_L} {r : List Value} {M : q_M} {a : Int32} {m : Nat} {f : Nat → Int32} (hX : X = some (m, f)) (h : decode (q_code y) pc = .ok (.iaload, 1)) : q_g y X Q pc L (.int a :: .ref 1000 :: r) M = (q_in a m = true ∧ q_g y X Q (pc + 1) (L) (.int (f a.toNatClampNeg) :: r) (M)) := by
  rw [q_g_eq]
  unfold q_at
  rw [h]
  subst hX
  have hn : q_alen 1000 = none := by decide +kernel
  cases hz : q_in a m <;> simp [q_exec, hn, q_gd, q_nx, q_fin, hz]
theorem r_slen {y : Nat} {X : q_X} {Q : q_R} {pc : Nat} {L : q_L} {r : List Value} {M : q_M} {m : Nat} {f : Nat → Int32} (hX : X = some (m, f)) (h : decode (q_code y) pc = .ok (.arraylength, 1)) : q_g y X Q pc L (.ref 1000 :: r) M = q_g y X Q (pc + 1) (L) (.int (Int32.ofNat m) :: r) (M) := by
  rw [q_g_eq]
  unfold q_at
  rw [h]
  subst hX
  have hn : q_alen 1000 = none := by decide +kernel
  simp only [q_exec, hn]
  rfl
theorem r_ifnull {y : Nat} {X : q_X} {Q : q_R} {pc : Nat} {L : q_L} {r : List Value} {M : q_M} {off : Int} {k : Nat} (h : decode (q_code y) pc = .ok (.ifnull off, 3)) : q_g y X Q pc L (.ref k :: r) M = q_g y X Q (pc + 3) (L) (r) (M) := by
  rw [q_g_eq]
  unfold q_at
  rw [h]
  rfl
theorem r_ifnonnull {y : Nat} {X : q_X} {Q : q_R} {pc : Nat} {L : q_L} {r : List Value} {M : q_M} {off : Int} {k t : Nat} (ht : q_tok pc off = true) (ht2 : q_to pc off = t) (h : decode (q_code y) pc = .ok (.ifnonnull off, 3)) : q_g y X Q pc L (.ref k :: r) M = q_g y X Q (t) (L) (r) (M) := by
  rw [q_g_eq]
  unfold q_at
  rw [h]
  subst ht2
  simp only [q_exec, q_br, ht]
  rfl
theorem r_goto {y : Nat} {X : q_X} {Q : q_R} {pc : Nat} {L : q_L} {r : List Value} {M : q_M} {off : Int} {t : Nat} (ht : q_tok pc off = true) (ht2 : q_to pc off = t) (h : decode (q_code y) pc = .ok (.goto off, 3)) : q_g y X Q pc L (r) M = q_g y X Q (t) (L) (r) (M) := by
  rw [q_g_eq]
  unfold q_at
  rw [h]
  subst ht2
  simp only [q_exec, q_br, ht]
  rfl
theorem r_if_eq {y : Nat} {X : q_X} {Q : q_R} {pc : Nat} {L : q_L} {r : List Value} {M : q_M} {off : Int} {x : Int32} {t : Nat} (ht : q_tok pc off = true) (ht2 : q_to pc off = t) (h : decode (q_code y) pc = .ok (.ifCond .eq off, 3)) : q_g y X Q pc L (.int x :: r) M = (if x = 0 then q_g y X Q (t) (L) (r) (M) else q_g y X Q (pc + 3) (L) (r) (M)) := by
  rw [q_g_eq]
  unfold q_at
  rw [h]
  subst ht2
  by_cases hz : x = 0 <;> simp [q_exec, q_br, q_c1, ht, q_gd, q_nx, q_fin, hz]
theorem r_icmp_eq {y : Nat} {X : q_X} {Q : q_R} {pc : Nat} {L : q_L} {r : List Value} {M : q_M} {off : Int} {x w : Int32} {t : Nat} (ht : q_tok pc off = true) (ht2 : q_to pc off = t) (h : decode (q_code y) pc = .ok (.if_icmp .eq off, 3)) : q_g y X Q pc L (.int w :: .int x :: r) M = (if x = w then q_g y X Q (t) (L) (r) (M) else q_g y X Q (pc + 3) (L) (r) (M)) := by
  rw [q_g_eq]
  unfold q_at
  rw [h]
  subst ht2
  by_cases hz : x = w <;> simp [q_exec, q_br, q_c2, ht, q_gd, q_nx, q_fin, hz]
theorem r_if_ne {y : Nat} {X : q_X} {Q : q_R} {pc : Nat} {L : q_L} {r : List Value} {M : q_M} {off : Int} {x : Int32} {t : Nat} (ht : q_tok pc off = true) (ht2 : q_to pc off = t) (h : decode (q_code y) pc = .ok (.ifCond .ne off, 3)) : q_g y X Q pc L (.int x :: r) M = (if ¬ x = 0 then q_g y X Q (t) (L) (r) (M) else q_g y X Q (pc + 3) (L) (r) (M)) := by
  rw [q_g_eq]
  unfold q_at
  rw [h]
  subst ht2
  by_cases hz : x = 0 <;> simp [q_exec, q_br, q_c1, ht, q_gd, q_nx, q_fin, hz]
theorem r_icmp_ne {y : Nat} {X : q_X} {Q : q_R} {pc : Nat} {L : q_L} {r : List Value} {M : q_M} {off : Int} {x w : Int32} {t : Nat} (ht : q_tok pc off = true) (ht2 : q_to pc off = t) (h : decode (q_code y) pc = .ok (.if_icmp .ne off, 3)) : q_g y X Q pc L (.int w :: .int x :: r) M = (if ¬ x = w then q_g y X Q (t) (L) (r) (M) else q_g y X Q (pc + 3) (L) (r) (M)) := by
  rw [q_g_eq]
  unfold q_at
  rw [h]
  subst ht2
  by_cases hz : x = w <;> simp [q_exec, q_br, q_c2, ht, q_gd, q_nx, q_fin, hz]
theorem r_if_lt {y : Nat} {X : q_X} {Q : q_R} {pc : Nat} {L : q_L} {r : List Value} {M : q_M} {off : Int} {x : Int32} {t : Nat} (ht : q_tok pc off = true) (ht2 : q_to pc off = t) (h : decode (q_code y) pc = .ok (.ifCond .lt off, 3)) : q_g y X Q pc L (.int x :: r) M = (if x < 0 then q_g y X Q (t) (L) (r) (M) else q_g y X Q (pc + 3) (L) (r) (M)) := by
  rw [q_g_eq]
  unfold q_at
  rw [h]
  subst ht2
  by_cases hz : x < 0 <;> simp [q_exec, q_br, q_c1, ht, q_gd, q_nx, q_fin, hz]
theorem r_icmp_lt {y : Nat} {X : q_X} {Q : q_R} {pc : Nat} {L : q_L} {r : List Value} {M : q_M} {off : Int} {x w : Int32} {t : Nat} (ht : q_tok pc off = true) (ht2 : q_to pc off = t) (h : decode (q_code y) pc = .ok (.if_icmp .lt off, 3)) : q_g y X Q pc L (.int w :: .int x :: r) M = (if x < w then q_g y X Q (t) (L) (r) (M) else q_g y X Q (pc + 3) (L) (r) (M)) := by
  rw [q_g_eq]
  unfold q_at
  rw [h]
  subst ht2
  by_cases hz : x < w <;> simp [q_exec, q_br, q_c2, ht, q_gd, q_nx, q_fin, hz]
theorem r_if_ge {y : Nat} {X : q_X} {Q : q_R} {pc : Nat} {L : q_L} {r : List Value} {M : q_M} {off : Int} {x : Int32} {t : Nat} (ht : q_tok pc off = true) (ht2 : q_to pc off = t) (h : decode (q_code y) pc = .ok (.ifCond .ge off, 3)) : q_g y X Q pc L (.int x :: r) M = (if 0 ≤ x then q_g y X Q (t) (L) (r) (M) else q_g y X Q (pc + 3) (L) (r) (M)) := by
  rw [q_g_eq]
  unfold q_at
  rw [h]
  subst ht2
  by_cases hz : 0 ≤ x <;> simp [q_exec, q_br, q_c1, ht, q_gd, q_nx, q_fin, hz]
theorem r_icmp_ge {y : Nat} {X : q_X} {Q : q_R} {pc : Nat} {L : q_L} {r : List Value} {M : q_M} {off : Int} {x w : Int32} {t : Nat} (ht : q_tok pc off = true) (ht2 : q_to pc off = t) (h : decode (q_code y) pc = .ok (.if_icmp .ge off, 3)) : q_g y X Q pc L (.int w :: .int x :: r) M = (if w ≤ x then q_g y X Q (t) (L) (r) (M) else q_g y X Q (pc + 3) (L) (r) (M)) := by
  rw [q_g_eq]
  unfold q_at
  rw [h]
  subst ht2
  by_cases hz : w ≤ x <;> simp [q_exec, q_br, q_c2, ht, q_gd, q_nx, q_fin, hz]
theorem r_if_gt {y : Nat} {X : q_X} {Q : q_R} {pc : Nat} {L : q_L} {r : List Value} {M : q_M} {off : Int} {x : Int32} {t : Nat} (ht : q_tok pc off = true) (ht2 : q_to pc off = t) (h : decode (q_code y) pc = .ok (.ifCond .gt off, 3)) : q_g y X Q pc L (.int x :: r) M = (if 0 < x then q_g y X Q (t) (L) (r) (M) else q_g y X Q (pc + 3) (L) (r) (M)) := by
  rw [q_g_eq]
  unfold q_at
  rw [h]
  subst ht2
  by_cases hz : 0 < x <;> simp [q_exec, q_br, q_c1, ht, q_gd, q_nx, q_fin, hz]
theorem r_icmp_gt {y : Nat} {X : q_X} {Q : q_R} {pc : Nat} {L : q_L} {r : List Value} {M : q_M} {off : Int} {x w : Int32} {t : Nat} (ht : q_tok pc off = true) (ht2 : q_to pc off = t) (h : decode (q_code y) pc = .ok (.if_icmp .gt off, 3)) : q_g y X Q pc L (.int w :: .int x :: r) M = (if w < x then q_g y X Q (t) (L) (r) (M) else q_g y X Q (pc + 3) (L) (r) (M)) := by
  rw [q_g_eq]
  unfold q_at
  rw [h]
  subst ht2
  by_cases hz : w < x <;> simp [q_exec, q_br, q_c2, ht, q_gd, q_nx, q_fin, hz]
theorem r_if_le {y : Nat} {X : q_X} {Q : q_R} {pc : Nat} {L : q_L} {r : List Value} {M : q_M} {off : Int} {x : Int32} {t : Nat} (ht : q_tok pc off = true) (ht2 : q_to pc off = t) (h : decode (q_code y) pc = .ok (.ifCond .le off, 3)) : q_g y X Q pc L (.int x :: r) M = (if x ≤ 0 then q_g y X Q (t) (L) (r) (M) else q_g y X Q (pc + 3) (L) (r) (M)) := by
  rw [q_g_eq]
  unfold q_at
  rw [h]
  subst ht2
  by_cases hz : x ≤ 0 <;> simp [q_exec, q_br, q_c1, ht, q_gd, q_nx, q_fin, hz]
theorem r_icmp_le {y : Nat} {X : q_X} {Q : q_R} {pc : Nat} {L : q_L} {r : List Value} {M : q_M} {off : Int} {x w : Int32} {t : Nat} (ht : q_tok pc off = true) (ht2 : q_to pc off = t) (h : decode (q_code y) pc = .ok (.if_icmp .le off, 3)) : q_g y X Q pc L (.int w :: .int x :: r) M = (if x ≤ w then q_g y X Q (t) (L) (r) (M) else q_g y X Q (pc + 3) (L) (r) (M)) := by
  rw [q_g_eq]
  unfold q_at
  rw [h]
  subst ht2
  by_cases hz : x ≤ w <;> simp [q_exec, q_br, q_c2, ht, q_gd, q_nx, q_fin, hz]
theorem r_table {y : Nat} {X : q_X} {Q : q_R} {pc : Nat} {L : q_L} {r : List Value} {M : q_M} {n : Nat} {df lo hi : Int} {offs : Array Int} {x : Int32} {off : Int} {t : Nat} (ho : q_sw df lo hi offs x = some off) (ht : q_tok pc off = true) (ht2 : q_to pc off = t) (h : decode (q_code y) pc = .ok (.tableswitch df lo hi offs, n)) : q_g y X Q pc L (.int x :: r) M = q_g y X Q (t) (L) (r) (M) := by
  rw [q_g_eq]
  unfold q_at
  rw [h]
  subst ht2
  simp only [q_exec, ho, ht]
  rfl
theorem r_lookup {y : Nat} {X : q_X} {Q : q_R} {pc : Nat} {L : q_L} {r : List Value} {M : q_M} {n : Nat} {df : Int} {ps : Array (Int × Int)} {x : Int32} {off : Int} {t : Nat} (hp : q_lkok ps = true) (ho : Op.lookupswitch.offset ps.toList df x.toInt = off) (ht : q_tok pc off = true) (ht2 : q_to pc off = t) (h : decode (q_code y) pc = .ok (.lookupswitch df ps, n)) : q_g y X Q pc L (.int x :: r) M = q_g y X Q (t) (L) (r) (M) := by
  rw [q_g_eq]
  unfold q_at
  rw [h]
  subst ho
  subst ht2
  simp only [q_exec, hp, ht]
  rfl
theorem r_call_virtual {y : Nat} {X : q_X} {Q : q_R} {pc : Nat} {L : q_L} {r : List Value} {M : q_M} {i t k b ci : Nat} {st as : List Value} (ht : q_tgt y i = some (t, k, some ci)) (hf : q_fits y t = true) (hk : k ≤ st.length) (hr : (st.drop k).length ≤ 4) (ha : (st.take k).reverse = .ref b :: as) (hd : st.drop k = r) (h : decode (q_code y) pc = .ok (.invokevirtual i, 3)) : q_g y X Q pc L st M = (q_isC ci b = true ∧ q_Run t (.ref b :: as) M (fun v M' => q_g y X Q (pc + 3) L (v.toList ++ r) M')) := by
  subst hd
  rw [q_g_eq]
  unfold q_at
  rw [h]
  cases hz : q_isC ci b <;> simp [q_exec, q_call, ht, hf, ha, hk, q_recv, hz, q_gd, q_fin, Nat.sub_le_iff_le_add.mp (List.length_drop ▸ hr)]
theorem r_call_static {y : Nat} {X : q_X} {Q : q_R} {pc : Nat} {L : q_L} {r : List Value} {M : q_M} {i t k : Nat} {st as : List Value} (ht : q_tgt y i = some (t, k, none)) (hm : q_mm y i = none) (hf : q_fits y t = true) (hk : k ≤ st.length) (hr : (st.drop k).length ≤ 4) (ha : (st.take k).reverse = as) (hd : st.drop k = r) (h : decode (q_code y) pc = .ok (.invokestatic i, 3)) : q_g y X Q pc L st M = q_Run t as M (fun v M' => q_g y X Q (pc + 3) L (v.toList ++ r) M') := by
  subst ha
  subst hd
  rw [q_g_eq]
  unfold q_at
  rw [h]
  simp only [q_exec, hm, q_call, ht, hf, q_recv, decide_eq_true hk, decide_eq_true hr]
  rfl
theorem r_min {y : Nat} {X : q_X} {Q : q_R} {pc : Nat} {L : q_L} {r : List Value} {M : q_M} {i : Nat} {w x : Int32} (hm : q_mm y i = some true) (hf : q_mfit y = true) (h : decode (q_code y) pc = .ok (.invokestatic i, 3)) : q_g y X Q pc L (.int w :: .int x :: r) M = (r.length ≤ 4 ∧ q_g y X Q (pc + 3) L (.int (if w < x then w else x) :: r) M) := by
  rw [q_g_eq]
  unfold q_at
  rw [h]
  by_cases hz : r.length ≤ 4 <;> simp [q_exec, hm, hf, q_gd, q_nx, q_fin, hz]
theorem r_max {y : Nat} {X : q_X} {Q : q_R} {pc : Nat} {L : q_L} {r : List Value} {M : q_M} {i : Nat} {w x : Int32} (hm : q_mm y i = some false) (hf : q_mfit y = true) (h : decode (q_code y) pc = .ok (.invokestatic i, 3)) : q_g y X Q pc L (.int w :: .int x :: r) M = (r.length ≤ 4 ∧ q_g y X Q (pc + 3) L (.int (if x < w then w else x) :: r) M) := by
  rw [q_g_eq]
  unfold q_at
  rw [h]
  by_cases hz : r.length ≤ 4 <;> simp [q_exec, hm, hf, q_gd, q_nx, q_fin, hz]
theorem r_iret {y : Nat} {X : q_X} {Q : q_R} {pc : Nat} {L : q_L} {r : List Value} {M : q_M} {v : Int32} (hr : q_ret y = some .int) (h : decode (q_code y) pc = .ok (.ireturn, 1)) : q_g y X Q pc L ([.int v]) M = Q (some (.int v)) M := by
  rw [q_g_eq]
  unfold q_at
  rw [h]
  simp only [q_exec, q_ireturn, hr]
  rfl
theorem r_zret {y : Nat} {X : q_X} {Q : q_R} {pc : Nat} {L : q_L} {r : List Value} {M : q_M} {v : Int32} (hr : q_ret y = some .boolean) (h : decode (q_code y) pc = .ok (.ireturn, 1)) : q_g y X Q pc L ([.int v]) M = ((v = 0 ∨ v = 1) ∧ Q (some (.int v)) M) := by
  rw [q_g_eq]
  unfold q_at
  rw [h]
  by_cases hz : v = 0 ∨ v = 1 <;> simp [q_exec, q_ireturn, hr, q_gd, q_fin, hz]
theorem r_lret {y : Nat} {X : q_X} {Q : q_R} {pc : Nat} {L : q_L} {r : List Value} {M : q_M} {v : Int64} (hr : q_ret y = some .long) (h : decode (q_code y) pc = .ok (.lreturn, 1)) : q_g y X Q pc L ([.long v]) M = Q (some (.long v)) M := by
  rw [q_g_eq]
  unfold q_at
  rw [h]
  simp only [q_exec, hr]
  rfl
theorem r_vret {y : Nat} {X : q_X} {Q : q_R} {pc : Nat} {L : q_L} {r : List Value} {M : q_M} (hr : q_ret y = none) (h : decode (q_code y) pc = .ok (.return_, 1)) : q_g y X Q pc L ([]) M = Q none M := by
  rw [q_g_eq]
  unfold q_at
  rw [h]
  simp only [q_exec, hr]
  rfl
end
section
/-! THE PURE MACHINE IS THE MACHINE: what goes well in the one goes well in the other -/
def q_rho (ad : Nat → Nat) : Value → Value
  | .ref k => .ref (ad k)
  | v => v
theorem q_rho_cat (ad : Nat → Nat) (v : Value) : (q_rho ad v).category = v.category := by cases v <;> rfl
def q_prs (ad : Nat → Nat) : Nat → q_L → List (Nat × Value)
  | _, [] => []
  | i, some v :: r => (i, q_rho ad v) :: q_prs ad (i + 1) r
  | i, none :: r => q_prs ad (i + 1) r
theorem q_prs_mem (ad : Nat → Nat) : ∀ (L : q_L) (b : Nat) (q : Nat × Value), q ∈ q_prs ad b L ↔ ∃ j v, L[j]? = some (some v) ∧ q = (b + j, q_rho ad v)
  | [], b, q => by simp [q_prs]
  | some w :: r, b, q => by
    simp only [q_prs, List.mem_cons, q_prs_mem ad r (b + 1) q]
    constructor
    · rintro (h | ⟨j, v, h1, h2⟩)
      · exact ⟨0, w, rfl, by rw [h]; rfl⟩
      · exact ⟨j + 1, v, by simpa using h1, by rw [h2]; congr 1; omega⟩
    · rintro ⟨j, v, h1, h2⟩
      cases j with
      | zero => simp at h1; subst h1; exact Or.inl h2
      | succ j => exact Or.inr ⟨j, v, by simpa using h1, by rw [h2]; congr 1; omega⟩
  | none :: r, b, q => by
    simp only [q_prs, q_prs_mem ad r (b + 1) q]
    constructor
    · rintro ⟨j, v, h1, h2⟩
      exact ⟨j + 1, v, by simpa using h1, by rw [h2]; congr 1; omega⟩
    · rintro ⟨j, v, h1, h2⟩
      cases j with
      | zero => simp at h1
      | succ j => exact ⟨j, v, by simpa using h1, by rw [h2]; congr 1; omega⟩
theorem q_kill_some {o : Option Value} {w : Value} (h : q_kill o = some w) : o = some w ∧ ¬ w.category = 2 := by
  cases o with
  | none => simp [q_kill] at h
  | some v => cases v <;> simp [q_kill] at h <;> subst h <;> exact ⟨rfl, by simp [Value.category]⟩
theorem q_set1_get : ∀ (L : q_L) (i j : Nat) (v w : Value), (q_set1 L i v)[j]? = some (some w) → (j = i ∧ w = v) ∨ (j ≠ i ∧ L[j]? = some (some w) ∧ ¬ (j + 1 = i ∧ w.category = 2))
  | [], i, j, v, w, h => by simp [q_set1] at h
  | o :: r, 0, 0, v, w, h => by simp [q_set1] at h; exact Or.inl ⟨rfl, h.symm⟩
  | o :: r, 0, j + 1, v, w, h => by simp [q_set1] at h; exact Or.inr ⟨by omega, by simpa using h, by omega⟩
  | o :: r, 1, 0, v, w, h => by
    simp [q_set1] at h
    obtain ⟨h1, h2⟩ := q_kill_some h
    exact Or.inr ⟨by omega, by simp [h1], fun q => h2 q.2⟩
  | o :: r, 1, j + 1, v, w, h => by
    simp only [q_set1, List.getElem?_cons_succ] at h
    rcases q_set1_get r 0 j v w h with ⟨h1, h2⟩ | ⟨h1, h2, h3⟩
    · exact Or.inl ⟨by omega, h2⟩
    · exact Or.inr ⟨by omega, by simpa using h2, by omega⟩
  | o :: r, k + 2, 0, v, w, h => by simp [q_set1] at h; exact Or.inr ⟨by omega, by simp [h], by omega⟩
  | o :: r, k + 2, j + 1, v, w, h => by
    simp only [q_set1, List.getElem?_cons_succ] at h
    rcases q_set1_get r (k + 1) j v w h with ⟨h1, h2⟩ | ⟨h1, h2, h3⟩
    · exact Or.inl ⟨by omega, h2⟩
    · exact Or.inr ⟨by omega, by simpa using h2, fun q => h3 ⟨by omega, q.2⟩⟩
theorem q_set1_len : ∀ (L : q_L) (i : Nat) (v : Value), (q_set1 L i v).length = L.length
  | [], _, _ => rfl
  | _ :: _, 0, _ => rfl
  | _ :: r, 1, v => by simp only [q_set1, List.length_cons, q_set1_len r 0 v]
  | _ :: r, k + 2, v => by simp only [q_set1, List.length_cons, q_set1_len r (k + 1) v]
theorem q_unset_get : ∀ (L : q_L) (i j : Nat) (w : Value), (q_unset L i)[j]? = some (some w) → j ≠ i ∧ L[j]? = some (some w)
  | [], i, j, w, h => by simp [q_unset] at h
  | o :: r, 0, 0, w, h => by simp [q_unset] at h
  | o :: r, 0, j + 1, w, h => by simp [q_unset] at h; exact ⟨by omega, by simpa using h⟩
  | o :: r, k + 1, 0, w, h => by simp [q_unset] at h; exact ⟨by omega, by simp [h]⟩
  | o :: r, k + 1, j + 1, w, h => by
    simp only [q_unset, List.getElem?_cons_succ] at h
    obtain ⟨h1, h2⟩ := q_unset_get r k j w h
    exact ⟨by omega, by simpa using h2⟩
theorem q_unset_len : ∀ (L : q_L) (i : Nat), (q_unset L i).length = L.length
  | [], _ => rfl
  | _ :: _, 0 => rfl
  | _ :: r, k + 1 => by simp only [q_unset, List.length_cons, q_unset_len r k]
/-- the locals -/
def q_lv (ad : Nat → Nat) (ls : Array Slot) (n : Nat) (L : q_L) : Prop := L.length = n ∧ lv_has ls n (q_prs ad 0 L)
theorem q_lv.get {ad : Nat → Nat} {ls : Array Slot} {n : Nat} {L : q_L} (h : q_lv ad ls n L) {i : Nat} {v : Value} (hi : L[i]? = some (some v)) : ls[i]? = some (.val (q_rho ad v)) :=
  h.2.2.2 (i, q_rho ad v) ((q_prs_mem ad L 0 _).mpr ⟨i, v, hi, by simp⟩)
theorem q_lv.lt {ad : Nat → Nat} {ls : Array Slot} {n : Nat} {L : q_L} (h : q_lv ad ls n L) {i : Nat} (hi : i < L.length) : i < n := h.1 ▸ hi
theorem q_lv.set1 {ad : Nat → Nat} {ls ls' : Array Slot} {n : Nat} {L : q_L} (h : q_lv ad ls n L) {i : Nat} {v : Value}
    (h' : lv_has ls' n ((i, q_rho ad v) :: (q_prs ad 0 L).filter (fun q => !(q.1 == i) && !(q.1 + 1 == i && q.2.category == 2)))) : q_lv ad ls' n (q_set1 L i v) := by
  refine ⟨by rw [q_set1_len]; exact h.1, h'.1, h'.2.1, fun q hq => h'.2.2 q ?_⟩
  obtain ⟨j, w, h1, rfl⟩ := (q_prs_mem ad _ 0 q).mp hq
  rcases q_set1_get L i j v w h1 with ⟨rfl, rfl⟩ | ⟨g1, g2, g3⟩
  · simp
  · refine List.mem_cons_of_mem _ (List.mem_filter.mpr ⟨(q_prs_mem ad L 0 _).mpr ⟨j, w, g2, rfl⟩, ?_⟩)
    simp only [Nat.zero_add, q_rho_cat]
    simp only [Bool.and_eq_true, Bool.not_eq_true', beq_eq_false_iff_ne, ne_eq, Bool.and_eq_false_iff]
    refine ⟨g1, ?_⟩
    by_cases e : j + 1 = i
    · exact Or.inr fun z => g3 ⟨e, z⟩
    · exact Or.inl e
theorem q_lv.set2 {ad : Nat → Nat} {ls ls' : Array Slot} {n : Nat} {L : q_L} (h : q_lv ad ls n L) {i : Nat} {v : Value}
    (h' : lv_has ls' n ((i, q_rho ad v) :: (q_prs ad 0 L).filter (fun q => !(q.1 == i) && (!(q.1 == i + 1) && !(q.1 + 1 == i && q.2.category == 2))))) : q_lv ad ls' n (q_unset (q_set1 L i v) (i + 1)) := by
  refine ⟨by rw [q_unset_len, q_set1_len]; exact h.1, h'.1, h'.2.1, fun q hq => h'.2.2 q ?_⟩
  obtain ⟨j, w, h1, rfl⟩ := (q_prs_mem ad _ 0 q).mp hq
  obtain ⟨e1, h1⟩ := q_unset_get _ _ _ _ h1
  rcases q_set1_get L i j v w h1 with ⟨rfl, rfl⟩ | ⟨g1, g2, g3⟩
  · simp
  · refine List.mem_cons_of_mem _ (List.mem_filter.mpr ⟨(q_prs_mem ad L 0 _).mpr ⟨j, w, g2, rfl⟩, ?_⟩)
    simp only [Nat.zero_add, q_rho_cat]
    simp only [Bool.and_eq_true, Bool.not_eq_true', beq_eq_false_iff_ne, ne_eq, Bool.and_eq_false_iff]
    refine ⟨g1, e1, ?_⟩
    by_cases e : j + 1 = i
    · exact Or.inr fun z => g3 ⟨e, z⟩
    · exact Or.inl e
/-- a method's first locals -/
theorem q_lay1_get (ad : Nat → Nat) : ∀ (a : List Value) (b j : Nat) (v : Value), (q_lay1 a)[j]? = some (some v) → (b + j, q_rho ad v) ∈ lv_args b (a.map (q_rho ad))
  | [], b, j, v, h => by simp [q_lay1] at h
  | w :: r, b, j, v, h => by
    simp only [List.map_cons, lv_args, q_rho_cat, List.mem_cons]
    by_cases hc : w.category = 2
    · have e : q_lay1 (w :: r) = some w :: none :: q_lay1 r := by cases w <;> first | rfl | simp [Value.category] at hc
      rw [e] at h
      match j, h with
      | 0, h => simp at h; subst h; exact Or.inl (by simp)
      | 1, h => simp at h
      | j + 2, h =>
        have := q_lay1_get ad r (b + 2) j v (by simpa using h)
        rw [if_pos hc]
        exact Or.inr (by rw [show b + (j + 2) = b + 2 + j by omega]; exact this)
    · have e : q_lay1 (w :: r) = some w :: q_lay1 r := by cases w <;> first | rfl | simp [Value.category] at hc
      rw [e] at h
      match j, h with
      | 0, h => simp at h; subst h; exact Or.inl (by simp)
      | j + 1, h =>
        have := q_lay1_get ad r (b + 1) j v (by simpa using h)
        rw [if_neg hc]
        exact Or.inr (by rw [show b + (j + 1) = b + 1 + j by omega]; exact this)
theorem q_lay1_len (ad : Nat → Nat) : ∀ (a : List Value), (lg_sl (a.map (q_rho ad))).length = (q_lay1 a).length
  | [] => rfl
  | w :: r => by
    have ih := q_lay1_len ad r
    simp only [lg_sl, List.map_cons, List.flatMap_cons, q_rho_cat, List.length_append] at ih ⊢
    rw [ih]
    cases w <;> simp [Value.category, q_lay1] <;> omega
theorem q_lv_entry (ad : Nat → Nat) (a : List Value) {n : Nat} (h : (q_lay1 a).length ≤ n) :
    q_lv ad ((lg_sl (a.map (q_rho ad)) ++ List.replicate (n - (lg_sl (a.map (q_rho ad))).length) Slot.unset).toArray) n (q_args n a) := by
  have h0 := lv_entry (a.map (q_rho ad)) (n := n) (by rw [q_lay1_len]; exact h)
  refine ⟨by simp [q_args]; omega, h0.1, h0.2.1, fun q hq => h0.2.2 q ?_⟩
  obtain ⟨j, v, h1, rfl⟩ := (q_prs_mem ad _ 0 q).mp hq
  unfold q_args at h1
  by_cases hj : j < (q_lay1 a).length
  · rw [List.getElem?_append_left hj] at h1
    exact q_lay1_get ad a 0 j v h1
  · rw [List.getElem?_append_right (by omega)] at h1
    have := List.mem_of_getElem? h1
    simp at this
/-! the world -/
def q_cell (ad : Nat → Nat) (cA : ClassId) (M : q_M) (k : Nat) : Nat ⊕ (Nat × List (Option Nat)) → va_E
  | .inl n => .inl (cA, n, .inl (M k))
  | .inr (ci, fs) => .inr (ci, fs.mapIdx fun j f => match f with
    | some a => .ref (ad a)
    | none => .int (M k j))
def q_wd (ad : Nat → Nat) (cA : ClassId) (M : q_M) : va_W := q_lay.mapIdx fun k c => (ad k, q_cell ad cA M k c)
theorem q_wd_at {ad : Nat → Nat} {cA : ClassId} {M : q_M} {k : Nat} {c : Nat ⊕ (Nat × List (Option Nat))} (h : q_lay[k]? = some c) : (q_wd ad cA M)[k]? = some (ad k, q_cell ad cA M k c) := by
  simp [q_wd, List.getElem?_mapIdx, h]
theorem q_cell_ne {ad : Nat → Nat} {cA : ClassId} {M : q_M} {k k' j : Nat} {v : Int32} (h : k' ≠ k) (c : Nat ⊕ (Nat × List (Option Nat))) : q_cell ad cA (q_put M k j v) k' c = q_cell ad cA M k' c := by
  rcases c with n | ⟨ci, fs⟩ <;> simp [q_cell, q_put, h]
theorem q_wd_set {ad : Nat → Nat} {cA : ClassId} {M : q_M} {k j : Nat} {v : Int32} {c : Nat ⊕ (Nat × List (Option Nat))} {e : va_E} (h : q_lay[k]? = some c) (he : q_cell ad cA (q_put M k j v) k c = e) :
    (q_wd ad cA M).set k (ad k, e) = q_wd ad cA (q_put M k j v) := by
  apply List.ext_getElem?
  intro i
  by_cases hi : i = k
  · subst hi
    rw [q_wd_at h, he, List.getElem?_set_self]
    simp only [q_wd, List.length_mapIdx]
    exact (List.getElem?_eq_some_iff.mp h).1
  · rw [List.getElem?_set_ne (Ne.symm hi)]
    simp only [q_wd, List.getElem?_mapIdx, q_cell_ne hi]
theorem q_wd_arr {ad : Nat → Nat} {cA : ClassId} {M : q_M} {k n j : Nat} {v : Int32} (h : q_lay[k]? = some (.inl n)) :
    (q_wd ad cA M).set k (ad k, .inl (cA, n, .inl (upd (M k) j v))) = q_wd ad cA (q_put M k j v) := q_wd_set h (by simp [q_cell, q_put])
theorem q_wd_obj {ad : Nat → Nat} {cA : ClassId} {M : q_M} {k ci j : Nat} {fs : List (Option Nat)} {v : Int32} (h : q_lay[k]? = some (.inr (ci, fs))) (hj : fs[j]? = some none) :
    (q_wd ad cA M).set k (ad k, .inr (ci, (fs.mapIdx fun j f => match f with
    | some a => Value.ref (ad a)
    | none => .int (M k j)).set j (.int v))) = q_wd ad cA (q_put M k j v) := by
  refine q_wd_set h ?_
  simp only [q_cell]
  congr 2
  apply List.ext_getElem?
  intro i
  by_cases hi : i = j
  · subst hi
    rw [List.getElem?_set_self (by simp only [List.length_mapIdx]; exact (List.getElem?_eq_some_iff.mp hj).1)]
    simp [List.getElem?_mapIdx, hj, q_put, upd]
  · rw [List.getElem?_set_ne (Ne.symm hi)]
    simp only [List.getElem?_mapIdx]
    cases fs[i]? with
    | none => rfl
    | some f => cases f <;> simp [q_put, upd, hi]
def q_A (ad : Nat → Nat) : Nat → Prop := fun q => ∃ k, k < q_lay.length ∧ q = ad k
theorem q_wd_D {ad : Nat → Nat} {cA : ClassId} {M : q_M} {A : Nat → Prop} (hinj : ∀ i j, i < q_lay.length → j < q_lay.length → ad i = ad j → i = j) (hA : ∀ k, k < q_lay.length → A (ad k)) : va_D A (q_wd ad cA M) := by
  have key : ∀ (k : Nat) (q : Nat × va_E), (q_wd ad cA M)[k]? = some q → k < q_lay.length ∧ q.1 = ad k := by
    intro k q h
    simp only [q_wd, List.getElem?_mapIdx] at h
    cases hk : q_lay[k]? with
    | none => rw [hk] at h; simp at h
    | some c =>
      rw [hk] at h
      simp at h
      subst h
      exact ⟨(List.getElem?_eq_some_iff.mp hk).1, rfl⟩
  refine ⟨fun i j p q h1 h2 h3 => ?_, fun k q h => ?_⟩
  · obtain ⟨a1, a2⟩ := key i p h1
    obtain ⟨b1, b2⟩ := key j q h2
    exact hinj i j a1 b1 (by rw [← a2, ← b2]; exact h3)
  · obtain ⟨a1, a2⟩ := key k q h
    rw [a2]
    exact hA k a1
end
section
/-! ONE STEP of the pure machine is one step of the machine -/
theorem q_fin_gd {C : q_C} {Q : q_R} {G : q_G} {M : q_M} {b : Bool} {r : q_Res} (h : q_fin C Q G M (q_gd b r)) : b = true ∧ q_fin C Q G M r := by
  cases b with
  | false => exact False.elim h
  | true => exact ⟨rfl, h⟩
theorem q_lookup_mem {α : Type} {i : Nat} {e : α} : ∀ {l : List (Nat × α)}, l.lookup i = some e → (i, e) ∈ l
  | [], h => by simp at h
  | (k, v) :: r, h => by
    simp only [List.lookup] at h
    split at h
    · rename_i hk
      cases h
      rw [eq_of_beq hk]
      exact List.mem_cons_self
    · exact List.mem_cons_of_mem _ (q_lookup_mem h)
theorem q_fok {y i ci j : Nat} (h : q_fld y i = some (ci, j)) : ∃ C T N, vwCl[ci]? = some (C, T, N) ∧ j < N ∧ Cond.fieldLink (q_own y) i (T j).1 (T j).2.1 (T j).2.2.1 ∈ q_T := by
  unfold q_fld at h
  obtain ⟨e, h1, h2⟩ := Option.map_eq_some_iff.mp h
  cases h2
  have hc := List.all_eq_true.mp (q_fok_all (q_cn y)) _ (q_lookup_mem h1)
  unfold q_fchk at hc
  split at hc
  · rename_i r hr
    obtain ⟨C, T, N⟩ := r
    simp only [Bool.and_eq_true, decide_eq_true_eq] at hc
    exact ⟨C, T, N, hr, hc.1, q_T_in hc.2 (by first | rfl | simp [q_gw, goodWord, Cond.onTables, Cond.keeps, Cond.steady])⟩
  · cases hc
theorem q_isC_lay {ci k : Nat} (h : q_isC ci k = true) : ∃ fs, q_lay[k]? = some (.inr (ci, fs)) ∧ fs.map Option.isSome = q_shl ci := by
  unfold q_isC at h
  split at h
  · rename_i c fs hl
    have hc := eq_of_beq h
    subst hc
    have h1 := List.all_eq_true.mp q_lay_sh _ (List.mem_of_getElem? hl)
    simp only [decide_eq_true_eq] at h1
    exact ⟨fs, hl, h1⟩
  · cases h
theorem q_fs_I {ci k j : Nat} (h : q_isC ci k = true) (hs : q_sh ci j = some false) : ∃ fs, q_lay[k]? = some (.inr (ci, fs)) ∧ fs[j]? = some none := by
  obtain ⟨fs, h1, h2⟩ := q_isC_lay h
  refine ⟨fs, h1, ?_⟩
  unfold q_sh at hs
  rw [← h2, List.getElem?_map] at hs
  cases hj : fs[j]? with
  | none => rw [hj] at hs; cases hs
  | some o => cases o with
    | none => rfl
    | some a => rw [hj] at hs; cases hs
theorem q_fs_R {ci k j : Nat} (h : q_isC ci k = true) (hs : q_sh ci j = some true) : ∃ fs, q_lay[k]? = some (.inr (ci, fs)) ∧ fs[j]? = some (some (q_rf k j)) := by
  obtain ⟨fs, h1, h2⟩ := q_isC_lay h
  refine ⟨fs, h1, ?_⟩
  unfold q_sh at hs
  rw [← h2, List.getElem?_map] at hs
  cases hj : fs[j]? with
  | none => rw [hj] at hs; cases hs
  | some o => cases o with
    | none => rw [hj] at hs; cases hs
    | some a => simp only [q_rf, h1, hj]
def q_cokN (o : Option Nat) (k : Nat) : Nat := match o with
  | some _ => k - 1
  | none => k
def q_cokP (t k : Nat) (o : Option Nat) : Prop := match o with
  | some ci => 0 < k ∧ (vwCl[ci]?).map (fun r => r.1) = some (q_name t).cls ∧ Cond.instanceMethod (q_name t) ∈ q_T ∧ Cond.selects (q_name t).cls (q_name t) (q_name t) ∈ q_T
  | none => Cond.static (q_name t) ∈ q_T
theorem q_cok {y i t k : Nat} {o : Option Nat} (h : q_tgt y i = some (t, k, o)) : t < q_nM ∧ (parseMethodDescriptor (q_name t).desc).map (fun d => d.parameters.length) = some (q_cokN o k) ∧ Cond.methodLink (q_own y) i (q_name t) ∈ q_T ∧ Cond.initialized (q_name t).cls ∈ q_T ∧ q_cokP t k o := by
  unfold q_tgt at h
  obtain ⟨e, h1, h2⟩ := Option.map_eq_some_iff.mp h
  obtain ⟨⟨t', k', o'⟩, ps⟩ := e
  cases h2
  have hc := List.all_eq_true.mp (q_cok_all (q_cn y)) _ (q_lookup_mem h1)
  unfold q_cchk at hc
  simp only [Bool.and_eq_true, decide_eq_true_eq] at hc
  obtain ⟨a1, a2, a3, a4, a5⟩ := hc
  refine ⟨a1, a2, q_T_in a3 (by first | rfl | simp [q_gw, goodWord, Cond.onTables, Cond.keeps, Cond.steady]), q_T_in a4 (by first | rfl | simp [q_gw, goodWord, Cond.onTables, Cond.keeps, Cond.steady]), ?_⟩
  cases o with
  | none =>
    simp only [decide_eq_true_eq] at a5
    exact q_T_in a5 (by first | rfl | simp [q_gw, goodWord, Cond.onTables, Cond.keeps, Cond.steady])
  | some ci =>
    simp only [Bool.and_eq_true, decide_eq_true_eq] at a5
    exact ⟨a5.1, a5.2.1, q_T_in a5.2.2.1 (by first | rfl | simp [q_gw, goodWord, Cond.onTables, Cond.keeps, Cond.steady]), q_T_in a5.2.2.2 (by first | rfl | simp [q_gw, goodWord, Cond.onTables, Cond.keeps, Cond.steady])⟩
def q_sokP (y i : Nat) (v : Value) : Prop := match v with
  | .int v => Cond.constant (q_own y) i v ∈ q_T
  | .long v => Cond.constantLong (q_own y) i v ∈ q_T
  | _ => False
theorem q_sok {y i : Nat} {v : Value} (h : q_ldc y i = some v) : q_sokP y i v := by
  unfold q_ldc at h
  obtain ⟨e, h1, h2⟩ := Option.map_eq_some_iff.mp h
  obtain ⟨v', ps⟩ := e
  dsimp only at h2
  subst h2
  have hc := List.all_eq_true.mp (q_sok_all (q_cn y)) _ (q_lookup_mem h1)
  unfold q_schk at hc
  dsimp only at hc
  unfold q_sokP
  cases v' with
  | int v =>
    simp only [decide_eq_true_eq] at hc
    exact q_T_in hc (by first | rfl | simp [q_gw, goodWord, Cond.onTables, Cond.keeps, Cond.steady])
  | long v =>
    simp only [decide_eq_true_eq] at hc
    exact q_T_in hc (by first | rfl | simp [q_gw, goodWord, Cond.onTables, Cond.keeps, Cond.steady])
  | _ => cases hc
theorem q_plainC : ∀ n, n < 10 → plainName (q_ownC n) = true ∧ q_ownC n ≠ "java/lang/invoke/MethodHandle" ∧ q_ownC n ≠ "java/lang/invoke/VarHandle" := by
  intro n hn
  match n, hn with
  | 0, _ => exact ⟨by decide, by decide, by decide⟩
  | 1, _ => exact ⟨by decide, by decide, by decide⟩
  | 2, _ => exact ⟨by decide, by decide, by decide⟩
  | 3, _ => exact ⟨by decide, by decide, by decide⟩
  | 4, _ => exact ⟨by decide, by decide, by decide⟩
  | 5, _ => exact ⟨by decide, by decide, by decide⟩
  | 6, _ => exact ⟨by decide, by decide, by decide⟩
  | 7, _ => exact ⟨by decide, by decide, by decide⟩
  | 8, _ => exact ⟨by decide, by decide, by decide⟩
  | 9, _ => exact ⟨by decide, by decide, by decide⟩
  | n + 10, h => exact absurd h (by omega)
theorem q_plainK : ∀ t, t < q_nM → q_cn t < 10 ∧ (q_name t).cls = q_ownC (q_cn t) := by decide +kernel
theorem q_plain (t : Nat) (ht : t < q_nM) : plainName (q_name t).cls = true ∧ (q_name t).cls ≠ "java/lang/invoke/MethodHandle" ∧ (q_name t).cls ≠ "java/lang/invoke/VarHandle" := by
  rw [(q_plainK t ht).2]
  exact q_plainC _ (q_plainK t ht).1
theorem q_in_vp {i : Int32} {n : Nat} (h : q_in i n = true) : vp_in i n := by
  simp only [q_in, decide_eq_true_eq] at h
  exact h
/-! the contracts -/
def q_At (D : va_G) (cA : ClassId) (ad : Nat → Nat) (M : q_M) (U : State) : Prop := va_P D vwCl (q_wd ad cA M) U.heap ∧ va_K D vwCl [(cA, .int)] U
def q_rm (t : Nat) : Room := { frames := q_fr t, cells := 0, slots := 0, locals := q_lo t }
def q_ws (t : Nat) : List Cond := .code (q_name t) (q_code t) (q_maxL t) (q_ret t) :: q_T
def q_Qc (D : va_G) (cA : ClassId) (ad : Nat → Nat) (R : q_R) : Array Value → State → Outcome → State → Prop := fun _ st o u =>
  (∃ v M', o = .returned (v.map (q_rho ad)) ∧ R v M' ∧ q_At D cA ad M' u) ∧ va_F (q_A ad) st u
def q_Met (l : Launch) (D : va_G) (cA : ClassId) (ad : Nat → Nat) (t : Nat) (a : List Value) (M : q_M) (R : q_R) : Prop :=
  Met l (q_name t) (q_ws t) (q_rm t) (va_Pc (a.map (q_rho ad)) (q_At D cA ad M)) (q_Qc D cA ad R) 0 0 (q_A ad)
def q_MetC (l : Launch) (D : va_G) (cA : ClassId) (ad : Nat → Nat) : q_C := fun t a M R => t < q_nM → ∃ R0 : q_R, (∀ v M', R0 v M' → R v M') ∧ q_Met l D cA ad t a M R0
theorem q_MetC_mono {l : Launch} {D : va_G} {cA : ClassId} {ad : Nat → Nat} : q_mono (q_MetC l D cA ad) := by
  intro t a M R R' hR h ht
  obtain ⟨R0, h1, h2⟩ := h ht
  exact ⟨R0, fun v M' q => hR v M' (h1 v M' q), h2⟩
/-! what an instruction that went well had on its stack -/
section QI
variable {C : q_C} {Q : q_R} {G : q_G} {M : q_M} {n pc : Nat} {L : q_L} {st : List Value}
theorem q_ii_inv {f : Int32 → Int32 → Int32} (h : q_fin C Q G M (q_ii f n pc L st M)) : ∃ a b r, st = .int b :: .int a :: r ∧ n = 1 ∧ G (pc + 1) L (.int (f a b) :: r) M := by
  unfold q_ii at h
  split at h
  · obtain ⟨hn, h⟩ := q_fin_gd h
    exact ⟨_, _, _, rfl, eq_of_beq hn, h⟩
  · exact False.elim h
theorem q_ll_inv {f : Int64 → Int64 → Int64} (h : q_fin C Q G M (q_ll f n pc L st M)) : ∃ a b r, st = .long b :: .long a :: r ∧ n = 1 ∧ G (pc + 1) L (.long (f a b) :: r) M := by
  unfold q_ll at h
  split at h
  · obtain ⟨hn, h⟩ := q_fin_gd h
    exact ⟨_, _, _, rfl, eq_of_beq hn, h⟩
  · exact False.elim h
theorem q_iload_inv {k n1 : Nat} (h : q_fin C Q G M (q_iload k n1 n pc L st M)) : ∃ x, L[k]? = some (some (.int x)) ∧ n = n1 ∧ G (pc + n1) L (.int x :: st) M := by
  unfold q_iload at h
  split at h
  · obtain ⟨hn, h⟩ := q_fin_gd h
    exact ⟨_, by assumption, eq_of_beq hn, h⟩
  · exact False.elim h
theorem q_lload_inv {k n1 : Nat} (h : q_fin C Q G M (q_lload k n1 n pc L st M)) : ∃ x, L[k]? = some (some (.long x)) ∧ n = n1 ∧ G (pc + n1) L (.long x :: st) M := by
  unfold q_lload at h
  split at h
  · obtain ⟨hn, h⟩ := q_fin_gd h
    exact ⟨_, by assumption, eq_of_beq hn, h⟩
  · exact False.elim h
theorem q_aload_inv {k n1 : Nat} (h : q_fin C Q G M (q_aload k n1 n pc L st M)) : ∃ x, L[k]? = some (some (.ref x)) ∧ n = n1 ∧ G (pc + n1) L (.ref x :: st) M := by
  unfold q_aload at h
  split at h
  · obtain ⟨hn, h⟩ := q_fin_gd h
    exact ⟨_, by assumption, eq_of_beq hn, h⟩
  · exact False.elim h
theorem q_istore_inv {k n1 : Nat} (h : q_fin C Q G M (q_istore k n1 n pc L st M)) : ∃ x r, st = .int x :: r ∧ n = n1 ∧ k < L.length ∧ G (pc + n1) (q_set1 L k (.int x)) r M := by
  unfold q_istore at h
  split at h
  · obtain ⟨hn, h⟩ := q_fin_gd h
    simp only [Bool.and_eq_true, decide_eq_true_eq] at hn
    exact ⟨_, _, rfl, eq_of_beq hn.1, hn.2, h⟩
  · exact False.elim h
theorem q_lstore_inv {k n1 : Nat} (h : q_fin C Q G M (q_lstore k n1 n pc L st M)) : ∃ x r, st = .long x :: r ∧ n = n1 ∧ k + 1 < L.length ∧ G (pc + n1) (q_unset (q_set1 L k (.long x)) (k + 1)) r M := by
  unfold q_lstore at h
  split at h
  · obtain ⟨hn, h⟩ := q_fin_gd h
    simp only [Bool.and_eq_true, decide_eq_true_eq] at hn
    exact ⟨_, _, rfl, eq_of_beq hn.1, hn.2, h⟩
  · exact False.elim h
theorem q_astore_inv {k n1 : Nat} (h : q_fin C Q G M (q_astore k n1 n pc L st M)) : ∃ x r, st = .ref x :: r ∧ n = n1 ∧ k < L.length ∧ G (pc + n1) (q_set1 L k (.ref x)) r M := by
  unfold q_astore at h
  split at h
  · obtain ⟨hn, h⟩ := q_fin_gd h
    simp only [Bool.and_eq_true, decide_eq_true_eq] at hn
    exact ⟨_, _, rfl, eq_of_beq hn.1, hn.2, h⟩
  · exact False.elim h
theorem q_iinc_inv {k : Nat} {v : Int} (h : q_fin C Q G M (q_iinc k v n pc L st M)) : ∃ x, L[k]? = some (some (.int x)) ∧ n = 3 ∧ G (pc + 3) (q_set1 L k (.int (x + Int32.ofInt v))) st M := by
  unfold q_iinc at h
  split at h
  · obtain ⟨hn, h⟩ := q_fin_gd h
    exact ⟨_, by assumption, eq_of_beq hn, h⟩
  · exact False.elim h
theorem q_br_inv {b : Bool} {off : Int} {r : List Value} (h : q_fin C Q G M (q_br b off n pc L r M)) : n = 3 ∧ (pc : Int) + off = (q_to pc off : Int) ∧ (b = true → G (q_to pc off) L r M) ∧ (b = false → G (pc + 3) L r M) := by
  unfold q_br at h
  obtain ⟨hn, h⟩ := q_fin_gd h
  simp only [Bool.and_eq_true, q_tok, decide_eq_true_eq] at hn
  refine ⟨eq_of_beq hn.1, ?_, fun e => ?_, fun e => ?_⟩
  · unfold q_to
    omega
  · subst e
    exact h
  · subst e
    exact h
end QI
theorem q_cat_le (st : List Value) : (st.map fun v => v.category).sum ≤ 2 * st.length := by
  induction st with
  | nil => simp
  | cons v r ih =>
    simp only [List.map_cons, List.sum_cons, List.length_cons]
    have : v.category ≤ 2 := by cases v <;> simp [Value.category]
    omega
theorem q_cat_rho (ad : Nat → Nat) (st : List Value) : ((st.map (q_rho ad)).map fun v => v.category).sum = (st.map fun v => v.category).sum := by
  induction st with
  | nil => rfl
  | cons v r ih => simp only [List.map_cons, List.sum_cons, q_rho_cat, ih]
section QS
variable {p : Program} {l : Launch} {e : Env} {R : Room} {s : State} {m : MethodId} {args : Array Value} {below : List Frame} {meth : Method} {c : Code} {cells slots : Nat} {Q : State → Prop} {D : va_G} {cA : ClassId} {ad : Nat → Nat} {y : Nat} {X : q_X} {Rq : q_R} {A : Nat → Prop} {H0 : Heap}
theorem q_callW {H : Heap} {locs : List Loc} {pc : Nat} {ls : Array Slot} {st0 rest : List Value} {Rc : q_R} (hr : va_Run p l e R s m args below meth c H locs cells slots 0 0 (F0 m pc ls st0) rest (q_Qc D cA ad Rc args) (q_A ad)) (hS : va_S A H0 H locs) (hA : ∀ q, q_A ad q → A q)
    (kk : ∀ (v : Option Value) (M' : q_M) (H1 : Heap) (locs1 : List Loc), Rc v M' → va_P D vwCl (q_wd ad cA M') H1 → va_S A H0 H1 locs1 → W p l e R s m args below meth c H1 locs1 cells slots Q (F0 m (pc + 3) ls ((v.map (q_rho ad)).toList ++ rest))) : W p l e R s m args below meth c H locs cells slots Q (F0 m pc ls st0) := by
  intro T hT X
  obtain ⟨v, st₀, t, T', L, h0, X', hL, e1, e2, ⟨⟨v', M', hv, hR, hAt⟩, hz, hk⟩, st⟩ := hr T hT X
  have hv' : v = v'.map (q_rho ad) := Outcome.returned.inj hv
  subst hv'
  rw [h0] at hz hk
  obtain ⟨t2, a1, b1⟩ := kk v' M' T'.heap (locs ++ L) hR (by rw [e1]; exact hAt.1)
    ⟨Nat.le_trans hS.1 (by rw [e1]; exact hz), fun q h1 h2 => by rw [e1, hk q (Nat.lt_of_lt_of_le h1 hS.1) (fun z => h2 (hA q z))]; exact hS.2.1 q h1 h2, fun q hq => by
      rcases List.mem_append.mp hq with h | h
      · exact hS.2.2 q h
      · exact hA _ (hL q h)⟩ T' rfl X'
  exact ⟨t2, st t2 a1, b1⟩
def q_Go (p : Program) (l : Launch) (e : Env) (R : Room) (s : State) (m : MethodId) (args : Array Value) (below : List Frame) (meth : Method) (c : Code) (cells slots : Nat) (Q : State → Prop) (D : va_G) (cA : ClassId) (ad : Nat → Nat) (y : Nat) (A : Nat → Prop) (H0 : Heap) : q_G := fun pc L st M =>
  ∀ (H : Heap) (locs : List Loc) (ls : Array Slot), va_P D vwCl (q_wd ad cA M) H → va_S A H0 H locs → q_lv ad ls (q_maxL y) L → W p l e R s m args below meth c H locs cells slots Q (F0 m pc ls (st.map (q_rho ad)))
def q_retok (y pc : Nat) (v : Option Value) : Prop := match v with
  | some (.int x) => decode (q_code y) pc = .ok (.ireturn, 1) ∧ (q_ret y = some .int ∨ (q_ret y = some .boolean ∧ (x = 0 ∨ x = 1)))
  | some (.long _) => decode (q_code y) pc = .ok (.lreturn, 1) ∧ q_ret y = some .long
  | none => decode (q_code y) pc = .ok (.return_, 1) ∧ q_ret y = none
  | _ => False
theorem q_blind {t : Nat} {a : List Value} {M : q_M} : FrameBlind (va_Pc (a.map (q_rho ad)) (q_At D cA ad M)) :=
  fun _ U g mk q => ⟨q.1, q.2.1, va_K.moved (u := U) (U := U.calling g mk _) (Vm.Alike.refl U.vm) q.2.2⟩
set_option maxHeartbeats 4000000 in
theorem q_step (hx : p.tables.exec = Jvm.exec) (hb : c.code = q_code y) (hml : c.maxLocals = q_maxL y) (hown : s.vm.findClass (q_own y) = some m.cls) (hts : ∀ w ∈ q_T, w.before args s = true)
    (hinj : ∀ i j, i < q_lay.length → j < q_lay.length → ad i = ad j → i = j) (hA : ∀ k, k < q_lay.length → A (ad k)) (hK : va_K D vwCl [(cA, .int)] s)
    (hR : q_fr y ≤ R.frames ∧ q_lo y ≤ R.locals) (hcs : cells ≤ R.cells ∧ slots ≤ R.slots)
    (hX : ∀ n f, X = some (n, f) → va_X (ad 1000) n f s H0 ∧ ad 1000 < H0.size ∧ ¬ A (ad 1000))
    (hret : ∀ (H : Heap) (locs : List Loc) (M : q_M) (v : Option Value) (pc : Nat) (ls : Array Slot), Rq v M → va_P D vwCl (q_wd ad cA M) H → va_S A H0 H locs → q_retok y pc v → W p l e R s m args below meth c H locs cells slots Q (F0 m pc ls (v.map (q_rho ad)).toList)) :
    ∀ pc L st M, q_at (q_MetC l D cA ad) y X Rq (q_Go p l e R s m args below meth c cells slots Q D cA ad y A H0) pc L st M → q_Go p l e R s m args below meth c cells slots Q D cA ad y A H0 pc L st M := by
  intro pc L st M h H locs ls hP hS hl
  unfold q_at at h
  have hAq : ∀ q, q_A ad q → A q := fun q hq => by
    obtain ⟨k, h1, h2⟩ := hq
    rw [h2]
    exact hA k h1
  have hD : va_D A (q_wd ad cA M) := q_wd_D hinj hA
  cases hd : decode (q_code y) pc with
  | error _ => rw [hd] at h; exact False.elim h
  | ok q =>
  obtain ⟨i, n⟩ := q
  rw [hd] at h
  dsimp only at h
  cases i with
  | iconst v =>
    obtain ⟨hn, hh⟩ := q_fin_gd h
    have hn := eq_of_beq hn
    subst hn
    exact lv_iconst hx hb hd rfl (hh H locs ls hP hS hl)
  | bipush v =>
    obtain ⟨hn, hh⟩ := q_fin_gd h
    have hn := eq_of_beq hn
    subst hn
    exact lv_bipush hx hb hd rfl (hh H locs ls hP hS hl)
  | sipush v =>
    obtain ⟨hn, hh⟩ := q_fin_gd h
    have hn := eq_of_beq hn
    subst hn
    exact lv_sipush hx hb hd rfl (hh H locs ls hP hS hl)
  | lconst v =>
    obtain ⟨hn, hh⟩ := q_fin_gd h
    have hn := eq_of_beq hn
    subst hn
    exact lv_lconst hx hb hd rfl (hh H locs ls hP hS hl)
  | ldc k =>
    simp only [q_exec] at h
    split at h
    · rename_i v hv
      obtain ⟨hn, hh⟩ := q_fin_gd h
      have hn := eq_of_beq hn
      subst hn
      exact lv_ldc hx hb hown (hts _ (q_sok hv)) hd (hh H locs ls hP hS hl)
    · exact False.elim h
  | ldc_w k =>
    simp only [q_exec] at h
    split at h
    · rename_i v hv
      obtain ⟨hn, hh⟩ := q_fin_gd h
      have hn := eq_of_beq hn
      subst hn
      exact lv_ldcw hx hb hown (hts _ (q_sok hv)) hd (hh H locs ls hP hS hl)
    · exact False.elim h
  | ldc2_w k =>
    simp only [q_exec] at h
    split at h
    · rename_i v hv
      obtain ⟨hn, hh⟩ := q_fin_gd h
      have hn := eq_of_beq hn
      subst hn
      exact lv_ldc2 hx hb hown (hts _ (q_sok hv)) hd (hh H locs ls hP hS hl)
    · exact False.elim h
  | iload k =>
    obtain ⟨x, h1, rfl, hh⟩ := q_iload_inv h
    exact lv_iload hx hb hd (hl.get h1) (hh H locs ls hP hS hl)
  | iload_n k =>
    obtain ⟨x, h1, rfl, hh⟩ := q_iload_inv h
    exact lv_iload_n hx hb hd rfl (hl.get h1) (hh H locs ls hP hS hl)
  | lload k =>
    obtain ⟨x, h1, rfl, hh⟩ := q_lload_inv h
    exact lv_lload hx hb hd (hl.get h1) (hh H locs ls hP hS hl)
  | lload_n k =>
    obtain ⟨x, h1, rfl, hh⟩ := q_lload_inv h
    exact lv_lload_n hx hb hd rfl (hl.get h1) (hh H locs ls hP hS hl)
  | aload k =>
    obtain ⟨x, h1, rfl, hh⟩ := q_aload_inv h
    exact lv_aload hx hb hd (hl.get h1) (hh H locs ls hP hS hl)
  | aload_n k =>
    obtain ⟨x, h1, rfl, hh⟩ := q_aload_inv h
    exact lv_aload_n hx hb hd rfl (hl.get h1) (hh H locs ls hP hS hl)
  | istore k =>
    obtain ⟨x, r, rfl, rfl, hk, hh⟩ := q_istore_inv h
    exact lv_istore hx hb hd hl.2 (hl.lt hk) rfl (fun ls' hl' => hh H locs ls' hP hS (hl.set1 hl'))
  | istore_n k =>
    obtain ⟨x, r, rfl, rfl, hk, hh⟩ := q_istore_inv h
    exact lv_istore_n hx hb hd rfl hl.2 (hl.lt hk) rfl (fun ls' hl' => hh H locs ls' hP hS (hl.set1 hl'))
  | lstore k =>
    obtain ⟨x, r, rfl, rfl, hk, hh⟩ := q_lstore_inv h
    exact lv_lstore hx hb hd hl.2 (hl.lt hk) rfl (fun ls' hl' => hh H locs ls' hP hS (hl.set2 hl'))
  | lstore_n k =>
    obtain ⟨x, r, rfl, rfl, hk, hh⟩ := q_lstore_inv h
    exact lv_lstore_n hx hb hd rfl hl.2 (hl.lt hk) rfl (fun ls' hl' => hh H locs ls' hP hS (hl.set2 hl'))
  | astore k =>
    obtain ⟨x, r, rfl, rfl, hk, hh⟩ := q_astore_inv h
    exact lv_astore hx hb hd hl.2 (hl.lt hk) rfl (fun ls' hl' => hh H locs ls' hP hS (hl.set1 hl'))
  | astore_n k =>
    obtain ⟨x, r, rfl, rfl, hk, hh⟩ := q_astore_inv h
    exact lv_astore_n hx hb hd rfl hl.2 (hl.lt hk) rfl (fun ls' hl' => hh H locs ls' hP hS (hl.set1 hl'))
  | iinc k v =>
    obtain ⟨x, h1, rfl, hh⟩ := q_iinc_inv h
    obtain ⟨j, hj⟩ := List.getElem?_of_mem ((q_prs_mem ad L 0 (k, .int x)).mpr ⟨k, .int x, h1, by simp [q_rho]⟩)
    exact lv_iinc hx hb hd hl.2 hj rfl (hl.lt (List.getElem?_eq_some_iff.mp h1).1) rfl (fun ls' hl' => hh H locs ls' hP hS (hl.set1 hl'))
  | iadd =>
    obtain ⟨a, b, r, rfl, rfl, hh⟩ := q_ii_inv h
    exact lv_iadd hx hb hd (hh H locs ls hP hS hl)
  | isub =>
    obtain ⟨a, b, r, rfl, rfl, hh⟩ := q_ii_inv h
    exact lv_isub hx hb hd (hh H locs ls hP hS hl)
  | imul =>
    obtain ⟨a, b, r, rfl, rfl, hh⟩ := q_ii_inv h
    exact lv_imul hx hb hd (hh H locs ls hP hS hl)
  | iand =>
    obtain ⟨a, b, r, rfl, rfl, hh⟩ := q_ii_inv h
    exact lv_iand hx hb hd (hh H locs ls hP hS hl)
  | ior =>
    obtain ⟨a, b, r, rfl, rfl, hh⟩ := q_ii_inv h
    exact lv_ior hx hb hd (hh H locs ls hP hS hl)
  | ixor =>
    obtain ⟨a, b, r, rfl, rfl, hh⟩ := q_ii_inv h
    exact lv_ixor hx hb hd (hh H locs ls hP hS hl)
  | ishl =>
    obtain ⟨a, b, r, rfl, rfl, hh⟩ := q_ii_inv h
    exact lv_ishl hx hb hd (hh H locs ls hP hS hl)
  | ishr =>
    obtain ⟨a, b, r, rfl, rfl, hh⟩ := q_ii_inv h
    exact lv_ishr hx hb hd (hh H locs ls hP hS hl)
  | iushr =>
    obtain ⟨a, b, r, rfl, rfl, hh⟩ := q_ii_inv h
    exact lv_iushr hx hb hd rfl (hh H locs ls hP hS hl)
  | ladd =>
    obtain ⟨a, b, r, rfl, rfl, hh⟩ := q_ll_inv h
    exact lv_ladd hx hb hd (hh H locs ls hP hS hl)
  | lsub =>
    obtain ⟨a, b, r, rfl, rfl, hh⟩ := q_ll_inv h
    exact lv_lsub hx hb hd (hh H locs ls hP hS hl)
  | lmul =>
    obtain ⟨a, b, r, rfl, rfl, hh⟩ := q_ll_inv h
    exact lv_lmul hx hb hd (hh H locs ls hP hS hl)
  | idiv =>
    simp only [q_exec] at h
    split at h
    · obtain ⟨hn, hh⟩ := q_fin_gd h
      simp only [Bool.and_eq_true, Bool.not_eq_true', decide_eq_false_iff_not] at hn
      have hn1 := eq_of_beq hn.1
      subst hn1
      exact lv_idiv hx hb hd hn.2 (hh H locs ls hP hS hl)
    · exact False.elim h
  | irem =>
    simp only [q_exec] at h
    split at h
    · obtain ⟨hn, hh⟩ := q_fin_gd h
      simp only [Bool.and_eq_true, Bool.not_eq_true', decide_eq_false_iff_not] at hn
      have hn1 := eq_of_beq hn.1
      subst hn1
      exact lv_irem hx hb hd hn.2 (hh H locs ls hP hS hl)
    · exact False.elim h
  | ldiv =>
    simp only [q_exec] at h
    split at h
    · obtain ⟨hn, hh⟩ := q_fin_gd h
      simp only [Bool.and_eq_true, Bool.not_eq_true', decide_eq_false_iff_not] at hn
      have hn1 := eq_of_beq hn.1
      subst hn1
      exact lv_ldiv hx hb hd hn.2 (hh H locs ls hP hS hl)
    · exact False.elim h
  | lrem =>
    simp only [q_exec] at h
    split at h
    · obtain ⟨hn, hh⟩ := q_fin_gd h
      simp only [Bool.and_eq_true, Bool.not_eq_true', decide_eq_false_iff_not] at hn
      have hn1 := eq_of_beq hn.1
      subst hn1
      exact lv_lrem hx hb hd hn.2 (hh H locs ls hP hS hl)
    · exact False.elim h
  | ineg =>
    simp only [q_exec] at h
    split at h
    · obtain ⟨hn, hh⟩ := q_fin_gd h
      have hn := eq_of_beq hn
      subst hn
      exact lv_ineg hx hb hd (hh H locs ls hP hS hl)
    · exact False.elim h
  | lcmp =>
    simp only [q_exec] at h
    split at h
    · obtain ⟨hn, hh⟩ := q_fin_gd h
      have hn := eq_of_beq hn
      subst hn
      exact W.lcmp hx hb hd (hh H locs ls hP hS hl)
    · exact False.elim h
  | i2l =>
    simp only [q_exec] at h
    split at h
    · obtain ⟨hn, hh⟩ := q_fin_gd h
      have hn := eq_of_beq hn
      subst hn
      exact lv_i2l hx hb hd rfl (hh H locs ls hP hS hl)
    · exact False.elim h
  | dup =>
    simp only [q_exec] at h
    split at h
    · obtain ⟨hn, hh⟩ := q_fin_gd h
      simp only [Bool.and_eq_true] at hn
      have hn1 := eq_of_beq hn.1
      subst hn1
      exact lv_dup hx hb hd (by rw [q_rho_cat]; exact eq_of_beq hn.2) (hh H locs ls hP hS hl)
    · exact False.elim h
  | pop =>
    simp only [q_exec] at h
    split at h
    · obtain ⟨hn, hh⟩ := q_fin_gd h
      simp only [Bool.and_eq_true] at hn
      have hn1 := eq_of_beq hn.1
      subst hn1
      exact lv_pop hx hb hd (by rw [q_rho_cat]; exact eq_of_beq hn.2) (hh H locs ls hP hS hl)
    · exact False.elim h
  | pop2 =>
    simp only [q_exec] at h
    split at h
    · obtain ⟨hn, hh⟩ := q_fin_gd h
      have hn := eq_of_beq hn
      subst hn
      exact lv_pop2_2 hx hb hd rfl (hh H locs ls hP hS hl)
    · exact False.elim h
  | dup_x1 =>
    simp only [q_exec] at h
    split at h
    · obtain ⟨hn, hh⟩ := q_fin_gd h
      simp only [Bool.and_eq_true] at hn
      have hn1 := eq_of_beq hn.1
      subst hn1
      exact lv_dup_x1 hx hb hd (by rw [q_rho_cat]; exact eq_of_beq hn.2.1) (by rw [q_rho_cat]; exact eq_of_beq hn.2.2) (hh H locs ls hP hS hl)
    · exact False.elim h
  | dup_x2 =>
    simp only [q_exec] at h
    split at h
    · obtain ⟨hn, hh⟩ := q_fin_gd h
      simp only [Bool.and_eq_true] at hn
      have hn1 := eq_of_beq hn.1
      subst hn1
      exact lv_dup_x2 hx hb hd (by rw [q_rho_cat]; exact eq_of_beq hn.2.1) (by rw [q_rho_cat]; exact eq_of_beq hn.2.2.1) (by rw [q_rho_cat]; exact eq_of_beq hn.2.2.2) (hh H locs ls hP hS hl)
    · exact False.elim h
  | dup2 =>
    simp only [q_exec] at h
    split at h
    · obtain ⟨hn, hh⟩ := q_fin_gd h
      simp only [Bool.and_eq_true] at hn
      have hn1 := eq_of_beq hn.1
      subst hn1
      exact lv_dup2_11 hx hb hd (by rw [q_rho_cat]; exact eq_of_beq hn.2.1) (by rw [q_rho_cat]; exact eq_of_beq hn.2.2) (hh H locs ls hP hS hl)
    · exact False.elim h
  | getfield i =>
    simp only [q_exec] at h
    split at h
    · rename_i k r
      split at h
      · rename_i ci j hfld
        obtain ⟨C, T, N, hc, hj, hlink⟩ := q_fok hfld
        obtain ⟨-, hin, -, -⟩ := q_clf ci C T N hc
        split at h
        · rename_i hsh
          obtain ⟨hn, hh⟩ := q_fin_gd h
          simp only [Bool.and_eq_true] at hn
          have hn1 := eq_of_beq hn.1
          subst hn1
          obtain ⟨fs, hlay, hfj⟩ := q_fs_R hn.2 hsh
          exact va_get hx hb hts hin hown hK hP k (q_wd_at hlay) hc j hj (hts _ hlink) (fun _ z => z) (v := .ref (ad (q_rf k j))) (by simp [List.getElem?_mapIdx, hfj]) hd (hh H locs ls hP hS hl)
        · rename_i hsh
          obtain ⟨hn, hh⟩ := q_fin_gd h
          simp only [Bool.and_eq_true] at hn
          have hn1 := eq_of_beq hn.1
          subst hn1
          obtain ⟨fs, hlay, hfj⟩ := q_fs_I hn.2 hsh
          exact va_get hx hb hts hin hown hK hP k (q_wd_at hlay) hc j hj (hts _ hlink) (fun _ z => z) (v := .int (M k j)) (by simp [List.getElem?_mapIdx, hfj]) hd (hh H locs ls hP hS hl)
        · exact False.elim h
      · exact False.elim h
    · exact False.elim h
  | putfield i =>
    simp only [q_exec] at h
    split at h
    · rename_i x k r
      split at h
      · rename_i ci j hfld
        obtain ⟨C, T, N, hc, hj, hlink⟩ := q_fok hfld
        obtain ⟨hci, hin, ⟨ty0, hty⟩, hnm⟩ := q_clf ci C T N hc
        split at h
        · rename_i hsh
          obtain ⟨hn, hh⟩ := q_fin_gd h
          simp only [Bool.and_eq_true, Bool.or_eq_true, Bool.not_eq_true', decide_eq_true_eq] at hn
          have hn1 := eq_of_beq hn.1
          subst hn1
          obtain ⟨fs, hlay, hfj⟩ := q_fs_I hn.2.1 hsh
          have h9 := List.all_eq_true.mp q_ptOK ci (List.mem_range.mpr hci)
          rw [hc] at h9
          have h9 := List.all_eq_true.mp h9 j (List.mem_range.mpr hj)
          simp only [Bool.or_eq_true, Bool.and_eq_true, Bool.not_eq_true', decide_eq_true_eq] at h9
          rcases h9 with h9 | ⟨hfin, hpd⟩
          · rw [hsh] at h9
            cases h9
          have hty2 : narrow (if q_isB ci j then .boolean else .int) (.int x) = .int x ∧ fits (if q_isB ci j then .boolean else .int) (.int x) = true := by
            cases hB : q_isB ci j with
            | false => exact ⟨rfl, rfl⟩
            | true =>
              rcases hn.2.2 with z | z
              · rw [hB] at z
                cases z
              · rcases z with rfl | rfl <;> exact ⟨by decide, by decide⟩
          refine va_put hx hb hts hin ty0 hty hnm hown hK hP hD hS k (q_wd_at hlay) hc j hj (hts _ hlink) (fun _ z => z) hfin hpd hty2.1 hty2.2 (by simp only [List.length_mapIdx]; exact (List.getElem?_eq_some_iff.mp hfj).1) hd (fun H1 locs1 hP1 _ hS1 => hh H1 locs1 ls ?_ hS1 hl)
          rw [← q_wd_obj (v := x) hlay hfj]
          exact hP1
        · exact False.elim h
      · exact False.elim h
    · exact False.elim h
  | iaload =>
    simp only [q_exec] at h
    split at h
    · rename_i a k r
      split at h
      · rename_i mm hm
        obtain ⟨hn, hh⟩ := q_fin_gd h
        simp only [Bool.and_eq_true] at hn
        have hn1 := eq_of_beq hn.1
        subst hn1
        unfold q_alen at hm
        split at hm
        · rename_i n0 hlay
          cases hm
          exact va_iald hx hb hK hP k 0 (q_wd_at hlay) rfl (q_in_vp hn.2) hd (hh H locs ls hP hS hl)
        · cases hm
      · split at h
        · rename_i mm f
          obtain ⟨hn, hh⟩ := q_fin_gd h
          simp only [Bool.and_eq_true] at hn
          have hn1 := eq_of_beq hn.1
          subst hn1
          have hk := eq_of_beq hn.2.1
          subst hk
          obtain ⟨g1, g2, g3⟩ := hX _ _ rfl
          exact va_sld hx hb g1 g2 g3 hS (q_in_vp hn.2.2) hd (hh H locs ls hP hS hl)
        · exact False.elim h
    · exact False.elim h
  | iastore =>
    simp only [q_exec] at h
    split at h
    · rename_i x a k r
      split at h
      · rename_i mm hm
        obtain ⟨hn, hh⟩ := q_fin_gd h
        simp only [Bool.and_eq_true] at hn
        have hn1 := eq_of_beq hn.1
        subst hn1
        unfold q_alen at hm
        split at hm
        · rename_i n0 hlay
          cases hm
          exact va_iast hx hb hK hP hD hS k 0 (q_wd_at hlay) rfl (q_in_vp hn.2) hd (fun H1 locs1 hP1 _ hS1 => hh H1 locs1 ls (by rw [← q_wd_arr (v := x) hlay]; exact hP1) hS1 hl)
        · cases hm
      · exact False.elim h
    · exact False.elim h
  | arraylength =>
    simp only [q_exec] at h
    split at h
    · rename_i k r
      split at h
      · rename_i mm hm
        obtain ⟨hn, hh⟩ := q_fin_gd h
        have hn1 := eq_of_beq hn
        subst hn1
        unfold q_alen at hm
        split at hm
        · rename_i n0 hlay
          cases hm
          exact va_alen hx hb hK hP k 0 (q_wd_at hlay) rfl rfl hd (hh H locs ls hP hS hl)
        · cases hm
      · split at h
        · rename_i mm f
          obtain ⟨hn, hh⟩ := q_fin_gd h
          simp only [Bool.and_eq_true] at hn
          have hn1 := eq_of_beq hn.1
          subst hn1
          have hk := eq_of_beq hn.2
          subst hk
          obtain ⟨g1, g2, g3⟩ := hX _ _ rfl
          exact va_slen hx hb g1 g2 g3 hS hd (hh H locs ls hP hS hl)
        · exact False.elim h
    · exact False.elim h
  | ifnull off =>
    simp only [q_exec] at h
    split at h
    · obtain ⟨hn, hh⟩ := q_fin_gd h
      have hn := eq_of_beq hn
      subst hn
      exact lv_ifnull hx hb hd (hh H locs ls hP hS hl)
    · exact False.elim h
  | ifnonnull off =>
    simp only [q_exec] at h
    split at h
    · obtain ⟨rfl, ht, h1, h2⟩ := q_br_inv h
      exact lv_ifnonnull hx hb hd ht (h1 rfl H locs ls hP hS hl)
    · exact False.elim h
  | goto off =>
    obtain ⟨rfl, ht, h1, h2⟩ := q_br_inv h
    exact lv_goto hx hb hd ht (h1 rfl H locs ls hP hS hl)
  | ifCond cc off =>
    simp only [q_exec] at h
    split at h
    · obtain ⟨rfl, ht, h1, h2⟩ := q_br_inv h
      cases cc with
      | eq => exact lv_if_eq hx hb hd ht (fun z => h1 (decide_eq_true z) H locs ls hP hS hl) (fun z => h2 (decide_eq_false z) H locs ls hP hS hl)
      | ne => exact lv_if_ne hx hb hd ht (fun z => h1 (decide_eq_true z) H locs ls hP hS hl) (fun z => h2 (decide_eq_false (fun w => w z)) H locs ls hP hS hl)
      | lt => exact lv_if_lt hx hb hd ht (fun z => h1 (decide_eq_true z) H locs ls hP hS hl) (fun z => h2 (decide_eq_false z) H locs ls hP hS hl)
      | ge => exact lv_if_ge hx hb hd ht (fun z => h1 (decide_eq_true z) H locs ls hP hS hl) (fun z => h2 (decide_eq_false z) H locs ls hP hS hl)
      | gt => exact lv_if_gt hx hb hd ht (fun z => h1 (decide_eq_true z) H locs ls hP hS hl) (fun z => h2 (decide_eq_false z) H locs ls hP hS hl)
      | le => exact lv_if_le hx hb hd ht (fun z => h1 (decide_eq_true z) H locs ls hP hS hl) (fun z => h2 (decide_eq_false z) H locs ls hP hS hl)
    · exact False.elim h
  | if_icmp cc off =>
    simp only [q_exec] at h
    split at h
    · obtain ⟨rfl, ht, h1, h2⟩ := q_br_inv h
      cases cc with
      | eq => exact lv_icmp_eq hx hb hd ht (fun z => h1 (decide_eq_true z) H locs ls hP hS hl) (fun z => h2 (decide_eq_false z) H locs ls hP hS hl)
      | ne => exact lv_icmp_ne hx hb hd ht (fun z => h1 (decide_eq_true z) H locs ls hP hS hl) (fun z => h2 (decide_eq_false (fun w => w z)) H locs ls hP hS hl)
      | lt => exact lv_icmp_lt hx hb hd ht (fun z => h1 (decide_eq_true z) H locs ls hP hS hl) (fun z => h2 (decide_eq_false z) H locs ls hP hS hl)
      | ge => exact lv_icmp_ge hx hb hd ht (fun z => h1 (decide_eq_true z) H locs ls hP hS hl) (fun z => h2 (decide_eq_false z) H locs ls hP hS hl)
      | gt => exact lv_icmp_gt hx hb hd ht (fun z => h1 (decide_eq_true z) H locs ls hP hS hl) (fun z => h2 (decide_eq_false z) H locs ls hP hS hl)
      | le => exact lv_icmp_le hx hb hd ht (fun z => h1 (decide_eq_true z) H locs ls hP hS hl) (fun z => h2 (decide_eq_false z) H locs ls hP hS hl)
    · exact False.elim h
  | tableswitch df lo hi offs =>
    simp only [q_exec] at h
    split at h
    · rename_i x r
      split at h
      · rename_i off ho
        obtain ⟨hn, hh⟩ := q_fin_gd h
        simp only [q_tok, decide_eq_true_eq] at hn
        have ht : (pc : Int) + off = (q_to pc off : Int) := by unfold q_to; omega
        unfold q_sw at ho
        split at ho
        · rename_i hz
          cases ho
          exact lv_tableOut hx hb hd hz ht (hh H locs ls hP hS hl)
        · rename_i hz
          exact lv_tableIn hx hb hd (fun w => hz (Or.inl w)) (fun w => hz (Or.inr w)) ho ht (hh H locs ls hP hS hl)
      · exact False.elim h
    · exact False.elim h
  | lookupswitch df ps =>
    simp only [q_exec] at h
    split at h
    · rename_i x r
      obtain ⟨hn, hh⟩ := q_fin_gd h
      simp only [Bool.and_eq_true, q_tok, decide_eq_true_eq] at hn
      have ht : (pc : Int) + Op.lookupswitch.offset ps.toList df x.toInt = (q_to pc (Op.lookupswitch.offset ps.toList df x.toInt) : Int) := by
        have := hn.2
        unfold q_to
        omega
      exact lv_lookup hx hb hd hn.1 rfl ht (hh H locs ls hP hS hl)
    · exact False.elim h
  | invokevirtual i =>
    simp only [q_exec, q_call] at h
    split at h
    · rename_i t k o htg
      obtain ⟨hn, hh⟩ := q_fin_gd h
      simp only [Bool.and_eq_true, decide_eq_true_eq] at hn
      obtain ⟨hn1, ho, hk, hdl, hrv, hfit⟩ := hn
      have hn1 := eq_of_beq hn1
      subst hn1
      cases o with
      | none => cases ho
      | some ci =>
      obtain ⟨ht, hpl, hlink, hini, hk0, hcl, hinst, hsel⟩ := q_cok htg
      obtain ⟨R0, hR0, hM⟩ := hh ht
      unfold q_recv at hrv
      dsimp only at hrv
      split at hrv
      · rename_i bk as has
        obtain ⟨fs, hlay, -⟩ := q_isC_lay hrv
        have hlen : as.length = k - 1 := by
          have := congrArg List.length has
          simp only [List.length_reverse, List.length_take, List.length_cons] at this
          omega
        have hst : st.map (q_rho ad) = (as.map (q_rho ad)).reverse ++ .ref (ad bk) :: (st.drop k).map (q_rho ad) := by
          have e1 : st = (st.take k).reverse.reverse ++ st.drop k := by rw [List.reverse_reverse, List.take_append_drop]
          rw [has] at e1
          have e2 : st.map (q_rho ad) = ((Value.ref bk :: as).reverse ++ List.drop k st).map (q_rho ad) := congrArg (List.map (q_rho ad)) e1
          rw [e2, List.map_append, List.map_reverse, List.map_cons, List.reverse_cons, List.append_assoc]
          rfl
        obtain ⟨hfr, hlo⟩ : q_fr t + 1 ≤ q_fr y ∧ 8 + (q_maxL t + 11) + q_lo t ≤ q_lo y := by
          unfold q_fits at hfit
          simpa only [Bool.and_eq_true, decide_eq_true_eq] using hfit
        obtain ⟨rr, hrr, hrr1⟩ := Option.map_eq_some_iff.mp hcl
        rw [hst]
        rw [has] at hM
        have hcw : CallW R s args (q_own y) (q_name t).cls i (q_name t) (q_code t) (q_maxL t) (q_ret t) (q_ws t) (q_rm t) 0 0 (k - 1) := by
          refine ⟨callB_of (Ts := q_T) (k - 1) hts (fun w hw => ?_) rfl rfl rfl (hts _ hini) (hts _ hlink) ⟨(q_plain t ht).2.1, (q_plain t ht).2.2, hpl⟩ ⟨Nat.le_trans hfr hR.1, Nat.le_trans hlo hR.2⟩, hts _ hinst, hts _ hsel⟩
          rcases List.mem_cons.mp hw with rfl | hw
          · exact ⟨q_T_code t ht, q_T_good (q_T_code t ht)⟩
          · exact ⟨hw, q_T_good hw⟩
        refine q_callW (Rc := R0) (rest := (st.drop k).map (q_rho ad)) (va_runV (Ts := q_T) (As := as.map (q_rho ad)) (b := ad bk) ⟨hx, hb, hml, hown, hts⟩ hM hcw ⟨q_blind (t := 0), ?_, fun U hU hW => ⟨rfl, by rw [hU]; exact hP, va_K.moved hW.alike hK⟩⟩ rfl (by rw [List.length_map]; exact hlen) hl.2.1 rfl (lv_room ?_) hd ⟨hcs.1, hcs.2⟩) hS hAq (fun v M' H1 locs1 hRv hP1 hS1 => ?_)
        · have := va_recv hK hP hrr (q_wd_at hlay)
          rw [hrr1] at this
          exact this
        · rw [q_cat_rho]
          have := q_cat_le (st.drop k)
          omega
        · have h9 := hR0 _ _ hRv H1 locs1 ls hP1 hS1 hl
          have e9 : (v.toList ++ st.drop k).map (q_rho ad) = (v.map (q_rho ad)).toList ++ (st.drop k).map (q_rho ad) := by cases v <;> simp
          rw [← e9]
          exact h9
      · cases hrv
    · exact False.elim h
  | invokestatic i =>
    simp only [q_exec] at h
    split at h
    · rename_i bm hmm
      unfold q_mm at hmm
      obtain ⟨ee, h1, h2⟩ := Option.map_eq_some_iff.mp hmm
      have hmc := List.all_eq_true.mp (q_mok_all (q_cn y)) _ (q_lookup_mem h1)
      unfold q_mchk at hmc
      simp only [decide_eq_true_eq] at hmc
      have hlk : Cond.methodLink (q_own y) i (q_mn ee.1) ∈ q_T := q_T_in hmc (by first | rfl | simp [q_gw, goodWord, Cond.onTables, Cond.keeps, Cond.steady])
      rw [h2] at hlk
      split at h
      · rename_i w x r
        obtain ⟨hn, hh⟩ := q_fin_gd h
        simp only [Bool.and_eq_true, q_mfit, decide_eq_true_eq] at hn
        have hn1 := eq_of_beq hn.1
        subst hn1
        have hsum : ((r.map (q_rho ad)).map fun v => v.category).sum + 13 ≤ R.locals := by
          rw [q_cat_rho]
          have := q_cat_le r
          omega
        cases bm with
        | true => exact va_mmin hx hb (hml.trans hl.2.1.symm) hown (hts _ hlk) (hts _ q_min_st) (hts _ q_math_in) (hts _ q_min_cd) (Nat.le_trans hn.2.1.1 hR.1) hsum hcs.1 hcs.2 hd (hh H locs ls hP hS hl)
        | false => exact va_mmax hx hb (hml.trans hl.2.1.symm) hown (hts _ hlk) (hts _ q_max_st) (hts _ q_math_in) (hts _ q_max_cd) (Nat.le_trans hn.2.1.1 hR.1) hsum hcs.1 hcs.2 hd (hh H locs ls hP hS hl)
      · exact False.elim h
    · simp only [q_call] at h
      split at h
      · rename_i t k o htg
        obtain ⟨hn, hh⟩ := q_fin_gd h
        simp only [Bool.and_eq_true, decide_eq_true_eq] at hn
        obtain ⟨hn1, ho, hk, hdl, hrv, hfit⟩ := hn
        have hn1 := eq_of_beq hn1
        subst hn1
        cases o with
        | some ci => cases ho
        | none =>
        obtain ⟨ht, hpl, hlink, hini, hstt⟩ := q_cok htg
        obtain ⟨R0, hR0, hM⟩ := hh ht
        have hst : st.map (q_rho ad) = ((st.take k).reverse.map (q_rho ad)).reverse ++ (st.drop k).map (q_rho ad) := by
          have e1 : st = (st.take k).reverse.reverse ++ st.drop k := by rw [List.reverse_reverse, List.take_append_drop]
          rw [← List.map_reverse, ← List.map_append, ← e1]
        obtain ⟨hfr, hlo⟩ : q_fr t + 1 ≤ q_fr y ∧ 8 + (q_maxL t + 11) + q_lo t ≤ q_lo y := by
          unfold q_fits at hfit
          simpa only [Bool.and_eq_true, decide_eq_true_eq] using hfit
        rw [hst]
        have hcw : CallB R s args (q_own y) i (q_name t) (q_code t) (q_maxL t) (q_ret t) (q_ws t) (q_rm t) 0 0 k ∧ (Cond.static (q_name t)).before args s = true := by
          refine ⟨callB_of (Ts := q_T) k hts (fun w hw => ?_) rfl rfl rfl (hts _ hini) (hts _ hlink) ⟨(q_plain t ht).2.1, (q_plain t ht).2.2, hpl⟩ ⟨Nat.le_trans hfr hR.1, Nat.le_trans hlo hR.2⟩, hts _ hstt⟩
          rcases List.mem_cons.mp hw with rfl | hw
          · exact ⟨q_T_code t ht, q_T_good (q_T_code t ht)⟩
          · exact ⟨hw, q_T_good hw⟩
        refine q_callW (Rc := R0) (rest := (st.drop k).map (q_rho ad)) (va_runS (Ts := q_T) (As := (st.take k).reverse.map (q_rho ad)) ⟨hx, hb, hml, hown, hts⟩ hM hcw ⟨q_blind (t := 0), fun U hU hW => ⟨rfl, by rw [hU]; exact hP, va_K.moved hW.alike hK⟩⟩ rfl (by simp; omega) hl.2.1 rfl (lv_room ?_) hd ⟨hcs.1, hcs.2⟩) hS hAq (fun v M' H1 locs1 hRv hP1 hS1 => ?_)
        · rw [q_cat_rho]
          have := q_cat_le (st.drop k)
          omega
        · have h9 := hR0 _ _ hRv H1 locs1 ls hP1 hS1 hl
          have e9 : (v.toList ++ st.drop k).map (q_rho ad) = (v.map (q_rho ad)).toList ++ (st.drop k).map (q_rho ad) := by cases v <;> simp
          rw [← e9]
          exact h9
      · exact False.elim h
  | ireturn =>
    simp only [q_exec, q_ireturn] at h
    split at h
    · rename_i v
      split at h
      · rename_i hr
        obtain ⟨hn, hh⟩ := q_fin_gd h
        have hn := eq_of_beq hn
        subst hn
        exact hret H locs M (some (.int v)) pc ls hh hP hS ⟨hd, Or.inl hr⟩
      · rename_i hr
        obtain ⟨hn, hh⟩ := q_fin_gd h
        simp only [Bool.and_eq_true, decide_eq_true_eq] at hn
        have hn1 := eq_of_beq hn.1
        subst hn1
        exact hret H locs M (some (.int v)) pc ls hh hP hS ⟨hd, Or.inr ⟨hr, hn.2⟩⟩
      · exact False.elim h
    · exact False.elim h
  | lreturn =>
    simp only [q_exec] at h
    split at h
    · rename_i v
      split at h
      · rename_i hr
        obtain ⟨hn, hh⟩ := q_fin_gd h
        have hn := eq_of_beq hn
        subst hn
        exact hret H locs M (some (.long v)) pc ls hh hP hS ⟨hd, hr⟩
      · exact False.elim h
    · exact False.elim h
  | return_ =>
    simp only [q_exec] at h
    split at h
    · split at h
      · rename_i hr
        obtain ⟨hn, hh⟩ := q_fin_gd h
        have hn := eq_of_beq hn
        subst hn
        exact hret H locs M none pc ls hh hP hS ⟨hd, hr⟩
      · exact False.elim h
    · exact False.elim h
  | _ => exact False.elim h
end QS
end
section
/-! EVERY RUN of the pure machine is a contract -/
set_option maxHeartbeats 4000000 in
theorem q_close {l : Launch} {D : va_G} {cA : ClassId} {ad : Nat → Nat} (hinj : ∀ i j, i < q_lay.length → j < q_lay.length → ad i = ad j → i = j) :
    ∀ y a M R, q_body (q_MetC l D cA ad) y a M R → q_MetC l D cA ad y a M R := by
  intro y a M R hbd hy
  obtain ⟨hlen, hG⟩ := hbd
  refine ⟨R, fun _ _ h => h, ?_⟩
  unfold q_Met
  refine Met.ofW (cc := q_code y) (maxL := q_maxL y) (ret := q_ret y) (q_plain y hy).1 rfl ?_
  intro p e s m args below meth c s₁ B hml hv
  obtain ⟨rfl, hP, hK⟩ := hv
  have hx := B.exec
  have hb := B.bytes
  have hr := B.returns
  have hts := atoms_spec (ws := q_ws y) B.pre
  have hown : s.vm.findClass (q_own y) = some m.cls := by
    have h1 := findClass_of_methodNamed B.named
    rw [(q_plainK y hy).2] at h1
    exact h1
  have hlocks := B.notSynchronized
  rw [lg_entry_eq]
  refine hG (q_Go p l e (headSpec (q_ws y) (q_rm y)).room s m (a.map (q_rho ad)).toArray below meth c 0 0 (MQ below (q_Qc D cA ad R) (a.map (q_rho ad)).toArray s 0 0 (q_A ad)) D cA ad y (q_A ad) s.heap)
    (q_step hx hb hml hown (fun w hw => hts w (List.mem_cons_of_mem _ hw)) hinj (fun k hk => ⟨k, hk, rfl⟩) hK ⟨Nat.le_refl _, Nat.le_refl _⟩ ⟨Nat.zero_le _, Nat.zero_le _⟩ (fun n f h => by cases h) ?_) s.heap [] _ hP va_S.rf (q_lv_entry ad a hlen)
  intro H locs M' v pc ls hRv hP' hS hok
  have hq : ∀ t : State, t.heap = H → s.WarmedH t.vm → q_Qc D cA ad R (a.map (q_rho ad)).toArray s (.returned (v.map (q_rho ad))) t := fun t ht hW =>
    ⟨⟨v, M', rfl, hRv, by rw [ht]; exact hP', va_K.moved hW.alike hK⟩, hS.F ht⟩
  cases v with
  | none => exact W.vret hx hb (hr.trans hok.2) hq hS.2.2 hok.1
  | some v =>
    cases v with
    | int x =>
      rcases hok.2 with h1 | ⟨h1, h2⟩
      · exact W.iret hx hb (hr.trans h1) hq hS.2.2 hok.1
      · exact W.zret hx hb (hr.trans h1) (by rcases h2 with rfl | rfl <;> decide) hq hS.2.2 hok.1
    | long x => exact W.lret hx hb (hr.trans hok.2) hq hS.2.2 hok.1
    | _ => exact False.elim hok
theorem q_contract {l : Launch} {D : va_G} {cA : ClassId} {ad : Nat → Nat} (hinj : ∀ i j, i < q_lay.length → j < q_lay.length → ad i = ad j → i = j) {y : Nat} {a : List Value} {M : q_M} {R : q_R} (h : q_Run y a M R) : q_MetC l D cA ad y a M R :=
  h (q_MetC l D cA ad) q_MetC_mono (q_close hinj)
end
section
theorem e_W_copy {Q : q_R} {M : q_M} {a0 : Nat} {a1 : Nat} : q_Run 0 [.ref a0, .ref a1] M Q = q_g 0 none Q 0 [some (.ref a0), some (.ref a1), none] [] M := q_entry (Nat.le_of_ble_eq_true rfl) rfl
theorem d0_0 : decode (q_code 0) 0 = .ok (.aload_n 0, 1) := by decide +kernel
theorem gW_copy_0 {Q : q_R} {M : q_M} {r : List Value} {a0 : Nat} {a1 : Nat} {a2 : Option Value} : q_g 0 none Q 0 [some (.ref a0), some (.ref a1), a2] (r) M = q_g 0 none Q 1 [some (.ref a0), some (.ref a1), a2] (.ref a0 :: r) M := r_aload_n rfl d0_0
theorem d0_1 : decode (q_code 0) 1 = .ok (.ifnull 7, 3) := by decide +kernel
theorem gW_copy_1 {Q : q_R} {M : q_M} {r : List Value} {a0 : Nat} {a1 : Nat} {a2 : Option Value} {s0 : Nat} : q_g 0 none Q 1 [some (.ref a0), some (.ref a1), a2] (.ref s0 :: r) M = q_g 0 none Q 4 [some (.ref a0), some (.ref a1), a2] (r) M := r_ifnull d0_1
theorem d0_4 : decode (q_code 0) 4 = .ok (.aload_n 1, 1) := by decide +kernel
theorem gW_copy_4 {Q : q_R} {M : q_M} {r : List Value} {a0 : Nat} {a1 : Nat} {a2 : Option Value} : q_g 0 none Q 4 [some (.ref a0), some (.ref a1), a2] (r) M = q_g 0 none Q 5 [some (.ref a0), some (.ref a1), a2] (.ref a1 :: r) M := r_aload_n rfl d0_4
theorem d0_5 : decode (q_code 0) 5 = .ok (.ifnonnull 4, 3) := by decide +kernel
theorem gW_copy_5 {Q : q_R} {M : q_M} {r : List Value} {a0 : Nat} {a1 : Nat} {a2 : Option Value} {s0 : Nat} : q_g 0 none Q 5 [some (.ref a0), some (.ref a1), a2] (.ref s0 :: r) M = q_g 0 none Q 9 [some (.ref a0), some (.ref a1), a2] (r) M := r_ifnonnull (by decide) (by decide) d0_5
theorem d0_9 : decode (q_code 0) 9 = .ok (.iconst 0, 1) := by decide +kernel
theorem gW_copy_9 {Q : q_R} {M : q_M} {r : List Value} {a0 : Nat} {a1 : Nat} {a2 : Option Value} : q_g 0 none Q 9 [some (.ref a0), some (.ref a1), a2] (r) M = q_g 0 none Q 10 [some (.ref a0), some (.ref a1), a2] (.int 0 :: r) M := r_iconst (by decide) d0_9
theorem d0_10 : decode (q_code 0) 10 = .ok (.istore_n 2, 1) := by decide +kernel
theorem gW_copy_10 {Q : q_R} {M : q_M} {r : List Value} {a0 : Nat} {a1 : Nat} {a2 : Option Value} {s0 : Int32} : q_g 0 none Q 10 [some (.ref a0), some (.ref a1), a2] (.int s0 :: r) M = q_g 0 none Q 11 [some (.ref a0), some (.ref a1), some (.int s0)] (r) M := r_istore_n (Nat.le_of_ble_eq_true rfl) d0_10
theorem d0_11 : decode (q_code 0) 11 = .ok (.iload_n 2, 1) := by decide +kernel
theorem gW_copy_11 {Q : q_R} {M : q_M} {r : List Value} {a0 : Nat} {a1 : Nat} {a2 : Int32} : q_g 0 none Q 11 [some (.ref a0), some (.ref a1), some (.int a2)] (r) M = q_g 0 none Q 12 [some (.ref a0), some (.ref a1), some (.int a2)] (.int a2 :: r) M := r_iload_n rfl d0_11
theorem d0_12 : decode (q_code 0) 12 = .ok (.aload_n 0, 1) := by decide +kernel
theorem gW_copy_12 {Q : q_R} {M : q_M} {r : List Value} {a0 : Nat} {a1 : Nat} {a2 : Int32} : q_g 0 none Q 12 [some (.ref a0), some (.ref a1), some (.int a2)] (r) M = q_g 0 none Q 13 [some (.ref a0), some (.ref a1), some (.int a2)] (.ref a0 :: r) M := r_aload_n rfl d0_12
theorem d0_13 : decode (q_code 0) 13 = .ok (.arraylength, 1) := by decide +kernel
theorem gW_copy_13 {Q : q_R} {M : q_M} {r : List Value} {a0 : Nat} {a1 : Nat} {a2 : Int32} {s0 : Nat} : q_g 0 none Q 13 [some (.ref a0), some (.ref a1), some (.int a2)] (.ref s0 :: r) M = ((q_alen s0).isSome = true ∧ q_g 0 none Q 14 [some (.ref a0), some (.ref a1), some (.int a2)] (.int (Int32.ofNat (q_alenD s0)) :: r) M) := r_alen d0_13
theorem d0_14 : decode (q_code 0) 14 = .ok (.if_icmp .ge 21, 3) := by decide +kernel
theorem gW_copy_14 {Q : q_R} {M : q_M} {r : List Value} {a0 : Nat} {a1 : Nat} {a2 : Int32} {s0 : Int32} {s1 : Int32} : q_g 0 none Q 14 [some (.ref a0), some (.ref a1), some (.int a2)] (.int s0 :: .int s1 :: r) M = (if s0 ≤ s1 then q_g 0 none Q 35 [some (.ref a0), some (.ref a1), some (.int a2)] (r) M else q_g 0 none Q 17 [some (.ref a0), some (.ref a1), some (.int a2)] (r) M) := r_icmp_ge (by decide) (by decide) d0_14
theorem d0_17 : decode (q_code 0) 17 = .ok (.iload_n 2, 1) := by decide +kernel
theorem gW_copy_17 {Q : q_R} {M : q_M} {r : List Value} {a0 : Nat} {a1 : Nat} {a2 : Int32} : q_g 0 none Q 17 [some (.ref a0), some (.ref a1), some (.int a2)] (r) M = q_g 0 none Q 18 [some (.ref a0), some (.ref a1), some (.int a2)] (.int a2 :: r) M := r_iload_n rfl d0_17
theorem d0_18 : decode (q_code 0) 18 = .ok (.aload_n 1, 1) := by decide +kernel
theorem gW_copy_18 {Q : q_R} {M : q_M} {r : List Value} {a0 : Nat} {a1 : Nat} {a2 : Int32} : q_g 0 none Q 18 [some (.ref a0), some (.ref a1), some (.int a2)] (r) M = q_g 0 none Q 19 [some (.ref a0), some (.ref a1), some (.int a2)] (.ref a1 :: r) M := r_aload_n rfl d0_18
theorem d0_19 : decode (q_code 0) 19 = .ok (.arraylength, 1) := by decide +kernel
theorem gW_copy_19 {Q : q_R} {M : q_M} {r : List Value} {a0 : Nat} {a1 : Nat} {a2 : Int32} {s0 : Nat} : q_g 0 none Q 19 [some (.ref a0), some (.ref a1), some (.int a2)] (.ref s0 :: r) M = ((q_alen s0).isSome = true ∧ q_g 0 none Q 20 [some (.ref a0), some (.ref a1), some (.int a2)] (.int (Int32.ofNat (q_alenD s0)) :: r) M) := r_alen d0_19
theorem d0_20 : decode (q_code 0) 20 = .ok (.if_icmp .ge 15, 3) := by decide +kernel
theorem gW_copy_20 {Q : q_R} {M : q_M} {r : List Value} {a0 : Nat} {a1 : Nat} {a2 : Int32} {s0 : Int32} {s1 : Int32} : q_g 0 none Q 20 [some (.ref a0), some (.ref a1), some (.int a2)] (.int s0 :: .int s1 :: r) M = (if s0 ≤ s1 then q_g 0 none Q 35 [some (.ref a0), some (.ref a1), some (.int a2)] (r) M else q_g 0 none Q 23 [some (.ref a0), some (.ref a1), some (.int a2)] (r) M) := r_icmp_ge (by decide) (by decide) d0_20
theorem d0_23 : decode (q_code 0) 23 = .ok (.aload_n 1, 1) := by decide +kernel
theorem gW_copy_23 {Q : q_R} {M : q_M} {r : List Value} {a0 : Nat} {a1 : Nat} {a2 : Int32} : q_g 0 none Q 23 [some (.ref a0), some (.ref a1), some (.int a2)] (r) M = q_g 0 none Q 24 [some (.ref a0), some (.ref a1), some (.int a2)] (.ref a1 :: r) M := r_aload_n rfl d0_23
theorem d0_24 : decode (q_code 0) 24 = .ok (.iload_n 2, 1) := by decide +kernel
theorem gW_copy_24 {Q : q_R} {M : q_M} {r : List Value} {a0 : Nat} {a1 : Nat} {a2 : Int32} : q_g 0 none Q 24 [some (.ref a0), some (.ref a1), some (.int a2)] (r) M = q_g 0 none Q 25 [some (.ref a0), some (.ref a1), some (.int a2)] (.int a2 :: r) M := r_iload_n rfl d0_24
theorem d0_25 : decode (q_code 0) 25 = .ok (.aload_n 0, 1) := by decide +kernel
theorem gW_copy_25 {Q : q_R} {M : q_M} {r : List Value} {a0 : Nat} {a1 : Nat} {a2 : Int32} : q_g 0 none Q 25 [some (.ref a0), some (.ref a1), some (.int a2)] (r) M = q_g 0 none Q 26 [some (.ref a0), some (.ref a1), some (.int a2)] (.ref a0 :: r) M := r_aload_n rfl d0_25
theorem d0_26 : decode (q_code 0) 26 = .ok (.iload_n 2, 1) := by decide +kernel
theorem gW_copy_26 {Q : q_R} {M : q_M} {r : List Value} {a0 : Nat} {a1 : Nat} {a2 : Int32} : q_g 0 none Q 26 [some (.ref a0), some (.ref a1), some (.int a2)] (r) M = q_g 0 none Q 27 [some (.ref a0), some (.ref a1), some (.int a2)] (.int a2 :: r) M := r_iload_n rfl d0_26
theorem d0_27 : decode (q_code 0) 27 = .ok (.iaload, 1) := by decide +kernel
theorem gW_copy_27 {Q : q_R} {M : q_M} {r : List Value} {a0 : Nat} {a1 : Nat} {a2 : Int32} {s0 : Int32} {s1 : Nat} : q_g 0 none Q 27 [some (.ref a0), some (.ref a1), some (.int a2)] (.int s0 :: .ref s1 :: r) M = (q_in s0 (q_alenD s1) = true ∧ q_g 0 none Q 28 [some (.ref a0), some (.ref a1), some (.int a2)] (.int (M s1 s0.toNatClampNeg) :: r) M) := r_iaload d0_27
theorem d0_28 : decode (q_code 0) 28 = .ok (.iastore, 1) := by decide +kernel
theorem gW_copy_28 {Q : q_R} {M : q_M} {r : List Value} {a0 : Nat} {a1 : Nat} {a2 : Int32} {s0 : Int32} {s1 : Int32} {s2 : Nat} : q_g 0 none Q 28 [some (.ref a0), some (.ref a1), some (.int a2)] (.int s0 :: .int s1 :: .ref s2 :: r) M = (q_in s1 (q_alenD s2) = true ∧ q_g 0 none Q 29 [some (.ref a0), some (.ref a1), some (.int a2)] (r) (q_put M s2 s1.toNatClampNeg s0)) := r_iastore d0_28
theorem d0_29 : decode (q_code 0) 29 = .ok (.iinc 2 1, 3) := by decide +kernel
theorem gW_copy_29 {Q : q_R} {M : q_M} {r : List Value} {a0 : Nat} {a1 : Nat} {a2 : Int32} : q_g 0 none Q 29 [some (.ref a0), some (.ref a1), some (.int a2)] (r) M = q_g 0 none Q 32 [some (.ref a0), some (.ref a1), some (.int (a2 + 1))] (r) M := r_iinc rfl (by decide) d0_29
theorem d0_32 : decode (q_code 0) 32 = .ok (.goto (-21), 3) := by decide +kernel
theorem gW_copy_32 {Q : q_R} {M : q_M} {r : List Value} {a0 : Nat} {a1 : Nat} {a2 : Int32} : q_g 0 none Q 32 [some (.ref a0), some (.ref a1), some (.int a2)] (r) M = q_g 0 none Q 11 [some (.ref a0), some (.ref a1), some (.int a2)] (r) M := r_goto (by decide) (by decide) d0_32
theorem d0_35 : decode (q_code 0) 35 = .ok (.return_, 1) := by decide +kernel
theorem gW_copy_35 {Q : q_R} {M : q_M} {a0 : Nat} {a1 : Nat} {a2 : Int32} : q_g 0 none Q 35 [some (.ref a0), some (.ref a1), some (.int a2)] ([]) M = Q none M := r_vret (r := []) (by decide +kernel) d0_35
theorem e_W_get {Q : q_R} {M : q_M} {a0 : Nat} {a1 : Int32} : q_Run 1 [.ref a0, .int a1] M Q = q_g 1 none Q 0 [some (.ref a0), some (.int a1)] [] M := q_entry (Nat.le_of_ble_eq_true rfl) rfl
theorem d1_0 : decode (q_code 1) 0 = .ok (.aload_n 0, 1) := by decide +kernel
theorem gW_get_0 {Q : q_R} {M : q_M} {r : List Value} {a0 : Nat} {a1 : Int32} : q_g 1 none Q 0 [some (.ref a0), some (.int a1)] (r) M = q_g 1 none Q 1 [some (.ref a0), some (.int a1)] (.ref a0 :: r) M := r_aload_n rfl d1_0
theorem d1_1 : decode (q_code 1) 1 = .ok (.ifnull 19, 3) := by decide +kernel
theorem gW_get_1 {Q : q_R} {M : q_M} {r : List Value} {a0 : Nat} {a1 : Int32} {s0 : Nat} : q_g 1 none Q 1 [some (.ref a0), some (.int a1)] (.ref s0 :: r) M = q_g 1 none Q 4 [some (.ref a0), some (.int a1)] (r) M := r_ifnull d1_1
theorem d1_4 : decode (q_code 1) 4 = .ok (.iload_n 1, 1) := by decide +kernel
theorem gW_get_4 {Q : q_R} {M : q_M} {r : List Value} {a0 : Nat} {a1 : Int32} : q_g 1 none Q 4 [some (.ref a0), some (.int a1)] (r) M = q_g 1 none Q 5 [some (.ref a0), some (.int a1)] (.int a1 :: r) M := r_iload_n rfl d1_4
theorem d1_5 : decode (q_code 1) 5 = .ok (.ifCond .lt 15, 3) := by decide +kernel
theorem gW_get_5 {Q : q_R} {M : q_M} {r : List Value} {a0 : Nat} {a1 : Int32} {s0 : Int32} : q_g 1 none Q 5 [some (.ref a0), some (.int a1)] (.int s0 :: r) M = (if s0 < 0 then q_g 1 none Q 20 [some (.ref a0), some (.int a1)] (r) M else q_g 1 none Q 8 [some (.ref a0), some (.int a1)] (r) M) := r_if_lt (by decide) (by decide) d1_5
theorem d1_8 : decode (q_code 1) 8 = .ok (.iload_n 1, 1) := by decide +kernel
theorem gW_get_8 {Q : q_R} {M : q_M} {r : List Value} {a0 : Nat} {a1 : Int32} : q_g 1 none Q 8 [some (.ref a0), some (.int a1)] (r) M = q_g 1 none Q 9 [some (.ref a0), some (.int a1)] (.int a1 :: r) M := r_iload_n rfl d1_8
theorem d1_9 : decode (q_code 1) 9 = .ok (.aload_n 0, 1) := by decide +kernel
theorem gW_get_9 {Q : q_R} {M : q_M} {r : List Value} {a0 : Nat} {a1 : Int32} : q_g 1 none Q 9 [some (.ref a0), some (.int a1)] (r) M = q_g 1 none Q 10 [some (.ref a0), some (.int a1)] (.ref a0 :: r) M := r_aload_n rfl d1_9
theorem d1_10 : decode (q_code 1) 10 = .ok (.arraylength, 1) := by decide +kernel
theorem gW_get_10 {Q : q_R} {M : q_M} {r : List Value} {a0 : Nat} {a1 : Int32} {s0 : Nat} : q_g 1 none Q 10 [some (.ref a0), some (.int a1)] (.ref s0 :: r) M = ((q_alen s0).isSome = true ∧ q_g 1 none Q 11 [some (.ref a0), some (.int a1)] (.int (Int32.ofNat (q_alenD s0)) :: r) M) := r_alen d1_10
theorem d1_11 : decode (q_code 1) 11 = .ok (.if_icmp .ge 9, 3) := by decide +kernel
theorem gW_get_11 {Q : q_R} {M : q_M} {r : List Value} {a0 : Nat} {a1 : Int32} {s0 : Int32} {s1 : Int32} : q_g 1 none Q 11 [some (.ref a0), some (.int a1)] (.int s0 :: .int s1 :: r) M = (if s0 ≤ s1 then q_g 1 none Q 20 [some (.ref a0), some (.int a1)] (r) M else q_g 1 none Q 14 [some (.ref a0), some (.int a1)] (r) M) := r_icmp_ge (by decide) (by decide) d1_11
theorem d1_14 : decode (q_code 1) 14 = .ok (.aload_n 0, 1) := by decide +kernel
theorem gW_get_14 {Q : q_R} {M : q_M} {r : List Value} {a0 : Nat} {a1 : Int32} : q_g 1 none Q 14 [some (.ref a0), some (.int a1)] (r) M = q_g 1 none Q 15 [some (.ref a0), some (.int a1)] (.ref a0 :: r) M := r_aload_n rfl d1_14
theorem d1_15 : decode (q_code 1) 15 = .ok (.iload_n 1, 1) := by decide +kernel
theorem gW_get_15 {Q : q_R} {M : q_M} {r : List Value} {a0 : Nat} {a1 : Int32} : q_g 1 none Q 15 [some (.ref a0), some (.int a1)] (r) M = q_g 1 none Q 16 [some (.ref a0), some (.int a1)] (.int a1 :: r) M := r_iload_n rfl d1_15
theorem d1_16 : decode (q_code 1) 16 = .ok (.iaload, 1) := by decide +kernel
theorem gW_get_16 {Q : q_R} {M : q_M} {r : List Value} {a0 : Nat} {a1 : Int32} {s0 : Int32} {s1 : Nat} : q_g 1 none Q 16 [some (.ref a0), some (.int a1)] (.int s0 :: .ref s1 :: r) M = (q_in s0 (q_alenD s1) = true ∧ q_g 1 none Q 17 [some (.ref a0), some (.int a1)] (.int (M s1 s0.toNatClampNeg) :: r) M) := r_iaload d1_16
theorem d1_17 : decode (q_code 1) 17 = .ok (.goto 4, 3) := by decide +kernel
theorem gW_get_17 {Q : q_R} {M : q_M} {r : List Value} {a0 : Nat} {a1 : Int32} : q_g 1 none Q 17 [some (.ref a0), some (.int a1)] (r) M = q_g 1 none Q 21 [some (.ref a0), some (.int a1)] (r) M := r_goto (by decide) (by decide) d1_17
theorem d1_20 : decode (q_code 1) 20 = .ok (.iconst 0, 1) := by decide +kernel
theorem gW_get_20 {Q : q_R} {M : q_M} {r : List Value} {a0 : Nat} {a1 : Int32} : q_g 1 none Q 20 [some (.ref a0), some (.int a1)] (r) M = q_g 1 none Q 21 [some (.ref a0), some (.int a1)] (.int 0 :: r) M := r_iconst (by decide) d1_20
theorem d1_21 : decode (q_code 1) 21 = .ok (.ireturn, 1) := by decide +kernel
theorem gW_get_21 {Q : q_R} {M : q_M} {a0 : Nat} {a1 : Int32} {s0 : Int32} : q_g 1 none Q 21 [some (.ref a0), some (.int a1)] ([.int s0]) M = Q (some (.int s0)) M := r_iret (r := []) (by decide +kernel) d1_21
theorem e_W_put {Q : q_R} {M : q_M} {a0 : Nat} {a1 : Int32} {a2 : Int32} : q_Run 2 [.ref a0, .int a1, .int a2] M Q = q_g 2 none Q 0 [some (.ref a0), some (.int a1), some (.int a2)] [] M := q_entry (Nat.le_of_ble_eq_true rfl) rfl
theorem d2_0 : decode (q_code 2) 0 = .ok (.aload_n 0, 1) := by decide +kernel
theorem gW_put_0 {Q : q_R} {M : q_M} {r : List Value} {a0 : Nat} {a1 : Int32} {a2 : Int32} : q_g 2 none Q 0 [some (.ref a0), some (.int a1), some (.int a2)] (r) M = q_g 2 none Q 1 [some (.ref a0), some (.int a1), some (.int a2)] (.ref a0 :: r) M := r_aload_n rfl d2_0
theorem d2_1 : decode (q_code 2) 1 = .ok (.ifnull 17, 3) := by decide +kernel
theorem gW_put_1 {Q : q_R} {M : q_M} {r : List Value} {a0 : Nat} {a1 : Int32} {a2 : Int32} {s0 : Nat} : q_g 2 none Q 1 [some (.ref a0), some (.int a1), some (.int a2)] (.ref s0 :: r) M = q_g 2 none Q 4 [some (.ref a0), some (.int a1), some (.int a2)] (r) M := r_ifnull d2_1
theorem d2_4 : decode (q_code 2) 4 = .ok (.iload_n 1, 1) := by decide +kernel
theorem gW_put_4 {Q : q_R} {M : q_M} {r : List Value} {a0 : Nat} {a1 : Int32} {a2 : Int32} : q_g 2 none Q 4 [some (.ref a0), some (.int a1), some (.int a2)] (r) M = q_g 2 none Q 5 [some (.ref a0), some (.int a1), some (.int a2)] (.int a1 :: r) M := r_iload_n rfl d2_4
theorem d2_5 : decode (q_code 2) 5 = .ok (.ifCond .lt 13, 3) := by decide +kernel
theorem gW_put_5 {Q : q_R} {M : q_M} {r : List Value} {a0 : Nat} {a1 : Int32} {a2 : Int32} {s0 : Int32} : q_g 2 none Q 5 [some (.ref a0), some (.int a1), some (.int a2)] (.int s0 :: r) M = (if s0 < 0 then q_g 2 none Q 18 [some (.ref a0), some (.int a1), some (.int a2)] (r) M else q_g 2 none Q 8 [some (.ref a0), some (.int a1), some (.int a2)] (r) M) := r_if_lt (by decide) (by decide) d2_5
theorem d2_8 : decode (q_code 2) 8 = .ok (.iload_n 1, 1) := by decide +kernel
theorem gW_put_8 {Q : q_R} {M : q_M} {r : List Value} {a0 : Nat} {a1 : Int32} {a2 : Int32} : q_g 2 none Q 8 [some (.ref a0), some (.int a1), some (.int a2)] (r) M = q_g 2 none Q 9 [some (.ref a0), some (.int a1), some (.int a2)] (.int a1 :: r) M := r_iload_n rfl d2_8
theorem d2_9 : decode (q_code 2) 9 = .ok (.aload_n 0, 1) := by decide +kernel
theorem gW_put_9 {Q : q_R} {M : q_M} {r : List Value} {a0 : Nat} {a1 : Int32} {a2 : Int32} : q_g 2 none Q 9 [some (.ref a0), some (.int a1), some (.int a2)] (r) M = q_g 2 none Q 10 [some (.ref a0), some (.int a1), some (.int a2)] (.ref a0 :: r) M := r_aload_n rfl d2_9
theorem d2_10 : decode (q_code 2) 10 = .ok (.arraylength, 1) := by decide +kernel
theorem gW_put_10 {Q : q_R} {M : q_M} {r : List Value} {a0 : Nat} {a1 : Int32} {a2 : Int32} {s0 : Nat} : q_g 2 none Q 10 [some (.ref a0), some (.int a1), some (.int a2)] (.ref s0 :: r) M = ((q_alen s0).isSome = true ∧ q_g 2 none Q 11 [some (.ref a0), some (.int a1), some (.int a2)] (.int (Int32.ofNat (q_alenD s0)) :: r) M) := r_alen d2_10
theorem d2_11 : decode (q_code 2) 11 = .ok (.if_icmp .ge 7, 3) := by decide +kernel
theorem gW_put_11 {Q : q_R} {M : q_M} {r : List Value} {a0 : Nat} {a1 : Int32} {a2 : Int32} {s0 : Int32} {s1 : Int32} : q_g 2 none Q 11 [some (.ref a0), some (.int a1), some (.int a2)] (.int s0 :: .int s1 :: r) M = (if s0 ≤ s1 then q_g 2 none Q 18 [some (.ref a0), some (.int a1), some (.int a2)] (r) M else q_g 2 none Q 14 [some (.ref a0), some (.int a1), some (.int a2)] (r) M) := r_icmp_ge (by decide) (by decide) d2_11
theorem d2_14 : decode (q_code 2) 14 = .ok (.aload_n 0, 1) := by decide +kernel
theorem gW_put_14 {Q : q_R} {M : q_M} {r : List Value} {a0 : Nat} {a1 : Int32} {a2 : Int32} : q_g 2 none Q 14 [some (.ref a0), some (.int a1), some (.int a2)] (r) M = q_g 2 none Q 15 [some (.ref a0), some (.int a1), some (.int a2)] (.ref a0 :: r) M := r_aload_n rfl d2_14
theorem d2_15 : decode (q_code 2) 15 = .ok (.iload_n 1, 1) := by decide +kernel
theorem gW_put_15 {Q : q_R} {M : q_M} {r : List Value} {a0 : Nat} {a1 : Int32} {a2 : Int32} : q_g 2 none Q 15 [some (.ref a0), some (.int a1), some (.int a2)] (r) M = q_g 2 none Q 16 [some (.ref a0), some (.int a1), some (.int a2)] (.int a1 :: r) M := r_iload_n rfl d2_15
theorem d2_16 : decode (q_code 2) 16 = .ok (.iload_n 2, 1) := by decide +kernel
theorem gW_put_16 {Q : q_R} {M : q_M} {r : List Value} {a0 : Nat} {a1 : Int32} {a2 : Int32} : q_g 2 none Q 16 [some (.ref a0), some (.int a1), some (.int a2)] (r) M = q_g 2 none Q 17 [some (.ref a0), some (.int a1), some (.int a2)] (.int a2 :: r) M := r_iload_n rfl d2_16
theorem d2_17 : decode (q_code 2) 17 = .ok (.iastore, 1) := by decide +kernel
theorem gW_put_17 {Q : q_R} {M : q_M} {r : List Value} {a0 : Nat} {a1 : Int32} {a2 : Int32} {s0 : Int32} {s1 : Int32} {s2 : Nat} : q_g 2 none Q 17 [some (.ref a0), some (.int a1), some (.int a2)] (.int s0 :: .int s1 :: .ref s2 :: r) M = (q_in s1 (q_alenD s2) = true ∧ q_g 2 none Q 18 [some (.ref a0), some (.int a1), some (.int a2)] (r) (q_put M s2 s1.toNatClampNeg s0)) := r_iastore d2_17
theorem d2_18 : decode (q_code 2) 18 = .ok (.return_, 1) := by decide +kernel
theorem gW_put_18 {Q : q_R} {M : q_M} {a0 : Nat} {a1 : Int32} {a2 : Int32} : q_g 2 none Q 18 [some (.ref a0), some (.int a1), some (.int a2)] ([]) M = Q none M := r_vret (r := []) (by decide +kernel) d2_18
theorem e_F_greatestShared {Q : q_R} {M : q_M} {a0 : Int64} {a2 : Int64} : q_Run 56 [.long a0, .long a2] M Q = q_g 56 none Q 0 [some (.long a0), none, some (.long a2), none, none, none, none, none, none, none, none] [] M := q_entry (Nat.le_of_ble_eq_true rfl) rfl
theorem d56_0 : decode (q_code 56) 0 = .ok (.lload_n 0, 1) := by decide +kernel
theorem gF_greatestShared_0 {Q : q_R} {M : q_M} {r : List Value} {a0 : Int64} {a1 : Option Value} {a2 : Int64} {a3 : Option Value} {a4 : Option Value} {a5 : Option Value} {a6 : Option Value} {a7 : Option Value} {a8 : Option Value} {a9 : Option Value} {a10 : Option Value} : q_g 56 none Q 0 [some (.long a0), a1, some (.long a2), a3, a4, a5, a6, a7, a8, a9, a10] (r) M = q_g 56 none Q 1 [some (.long a0), a1, some (.long a2), a3, a4, a5, a6, a7, a8, a9, a10] (.long a0 :: r) M := r_lload_n rfl d56_0
theorem d56_1 : decode (q_code 56) 1 = .ok (.lstore 4, 2) := by decide +kernel
theorem gF_greatestShared_1 {Q : q_R} {M : q_M} {r : List Value} {a0 : Int64} {a1 : Option Value} {a2 : Int64} {a3 : Option Value} {a4 : Option Value} {a5 : Option Value} {a6 : Option Value} {a7 : Option Value} {a8 : Option Value} {a9 : Option Value} {a10 : Option Value} {s0 : Int64} : q_g 56 none Q 1 [some (.long a0), a1, some (.long a2), a3, a4, a5, a6, a7, a8, a9, a10] (.long s0 :: r) M = q_g 56 none Q 3 [some (.long a0), a1, some (.long a2), q_kill a3, some (.long s0), none, a6, a7, a8, a9, a10] (r) M := r_lstore (Nat.le_of_ble_eq_true rfl) d56_1
theorem d56_3 : decode (q_code 56) 3 = .ok (.lload_n 2, 1) := by decide +kernel
theorem gF_greatestShared_3 {Q : q_R} {M : q_M} {r : List Value} {a0 : Int64} {a1 : Option Value} {a2 : Int64} {a3 : Option Value} {a4 : Int64} {a5 : Option Value} {a6 : Option Value} {a7 : Option Value} {a8 : Option Value} {a9 : Option Value} {a10 : Option Value} : q_g 56 none Q 3 [some (.long a0), a1, some (.long a2), a3, some (.long a4), a5, a6, a7, a8, a9, a10] (r) M = q_g 56 none Q 4 [some (.long a0), a1, some (.long a2), a3, some (.long a4), a5, a6, a7, a8, a9, a10] (.long a2 :: r) M := r_lload_n rfl d56_3
theorem d56_4 : decode (q_code 56) 4 = .ok (.lstore 6, 2) := by decide +kernel
theorem gF_greatestShared_4 {Q : q_R} {M : q_M} {r : List Value} {a0 : Int64} {a1 : Option Value} {a2 : Int64} {a3 : Option Value} {a4 : Int64} {a5 : Option Value} {a6 : Option Value} {a7 : Option Value} {a8 : Option Value} {a9 : Option Value} {a10 : Option Value} {s0 : Int64} : q_g 56 none Q 4 [some (.long a0), a1, some (.long a2), a3, some (.long a4), a5, a6, a7, a8, a9, a10] (.long s0 :: r) M = q_g 56 none Q 6 [some (.long a0), a1, some (.long a2), a3, some (.long a4), q_kill a5, some (.long s0), none, a8, a9, a10] (r) M := r_lstore (Nat.le_of_ble_eq_true rfl) d56_4
theorem d56_6 : decode (q_code 56) 6 = .ok (.iconst 0, 1) := by decide +kernel
theorem gF_greatestShared_6 {Q : q_R} {M : q_M} {r : List Value} {a0 : Int64} {a1 : Option Value} {a2 : Int64} {a3 : Option Value} {a4 : Int64} {a5 : Option Value} {a6 : Int64} {a7 : Option Value} {a8 : Option Value} {a9 : Option Value} {a10 : Option Value} : q_g 56 none Q 6 [some (.long a0), a1, some (.long a2), a3, some (.long a4), a5, some (.long a6), a7, a8, a9, a10] (r) M = q_g 56 none Q 7 [some (.long a0), a1, some (.long a2), a3, some (.long a4), a5, some (.long a6), a7, a8, a9, a10] (.int 0 :: r) M := r_iconst (by decide) d56_6
theorem d56_7 : decode (q_code 56) 7 = .ok (.istore 8, 2) := by decide +kernel
theorem gF_greatestShared_7 {Q : q_R} {M : q_M} {r : List Value} {a0 : Int64} {a1 : Option Value} {a2 : Int64} {a3 : Option Value} {a4 : Int64} {a5 : Option Value} {a6 : Int64} {a7 : Option Value} {a8 : Option Value} {a9 : Option Value} {a10 : Option Value} {s0 : Int32} : q_g 56 none Q 7 [some (.long a0), a1, some (.long a2), a3, some (.long a4), a5, some (.long a6), a7, a8, a9, a10] (.int s0 :: r) M = q_g 56 none Q 9 [some (.long a0), a1, some (.long a2), a3, some (.long a4), a5, some (.long a6), q_kill a7, some (.int s0), a9, a10] (r) M := r_istore (Nat.le_of_ble_eq_true rfl) d56_7
theorem d56_9 : decode (q_code 56) 9 = .ok (.iload 8, 2) := by decide +kernel
theorem gF_greatestShared_9 {Q : q_R} {M : q_M} {r : List Value} {a0 : Int64} {a1 : Option Value} {a2 : Int64} {a3 : Option Value} {a4 : Int64} {a5 : Option Value} {a6 : Int64} {a7 : Option Value} {a8 : Int32} {a9 : Option Value} {a10 : Option Value} : q_g 56 none Q 9 [some (.long a0), a1, some (.long a2), a3, some (.long a4), a5, some (.long a6), a7, some (.int a8), a9, a10] (r) M = q_g 56 none Q 11 [some (.long a0), a1, some (.long a2), a3, some (.long a4), a5, some (.long a6), a7, some (.int a8), a9, a10] (.int a8 :: r) M := r_iload rfl d56_9
theorem d56_11 : decode (q_code 56) 11 = .ok (.sipush 128, 3) := by decide +kernel
theorem gF_greatestShared_11 {Q : q_R} {M : q_M} {r : List Value} {a0 : Int64} {a1 : Option Value} {a2 : Int64} {a3 : Option Value} {a4 : Int64} {a5 : Option Value} {a6 : Int64} {a7 : Option Value} {a8 : Int32} {a9 : Option Value} {a10 : Option Value} : q_g 56 none Q 11 [some (.long a0), a1, some (.long a2), a3, some (.long a4), a5, some (.long a6), a7, some (.int a8), a9, a10] (r) M = q_g 56 none Q 14 [some (.long a0), a1, some (.long a2), a3, some (.long a4), a5, some (.long a6), a7, some (.int a8), a9, a10] (.int 128 :: r) M := r_sipush (by decide) d56_11
theorem d56_14 : decode (q_code 56) 14 = .ok (.if_icmp .ge 31, 3) := by decide +kernel
theorem gF_greatestShared_14 {Q : q_R} {M : q_M} {r : List Value} {a0 : Int64} {a1 : Option Value} {a2 : Int64} {a3 : Option Value} {a4 : Int64} {a5 : Option Value} {a6 : Int64} {a7 : Option Value} {a8 : Int32} {a9 : Option Value} {a10 : Option Value} {s0 : Int32} {s1 : Int32} : q_g 56 none Q 14 [some (.long a0), a1, some (.long a2), a3, some (.long a4), a5, some (.long a6), a7, some (.int a8), a9, a10] (.int s0 :: .int s1 :: r) M = (if s0 ≤ s1 then q_g 56 none Q 45 [some (.long a0), a1, some (.long a2), a3, some (.long a4), a5, some (.long a6), a7, some (.int a8), a9, a10] (r) M else q_g 56 none Q 17 [some (.long a0), a1, some (.long a2), a3, some (.long a4), a5, some (.long a6), a7, some (.int a8), a9, a10] (r) M) := r_icmp_ge (by decide) (by decide) d56_14
theorem d56_17 : decode (q_code 56) 17 = .ok (.lload 6, 2) := by decide +kernel
theorem gF_greatestShared_17 {Q : q_R} {M : q_M} {r : List Value} {a0 : Int64} {a1 : Option Value} {a2 : Int64} {a3 : Option Value} {a4 : Int64} {a5 : Option Value} {a6 : Int64} {a7 : Option Value} {a8 : Int32} {a9 : Option Value} {a10 : Option Value} : q_g 56 none Q 17 [some (.long a0), a1, some (.long a2), a3, some (.long a4), a5, some (.long a6), a7, some (.int a8), a9, a10] (r) M = q_g 56 none Q 19 [some (.long a0), a1, some (.long a2), a3, some (.long a4), a5, some (.long a6), a7, some (.int a8), a9, a10] (.long a6 :: r) M := r_lload rfl d56_17
theorem d56_19 : decode (q_code 56) 19 = .ok (.lconst 0, 1) := by decide +kernel
theorem gF_greatestShared_19 {Q : q_R} {M : q_M} {r : List Value} {a0 : Int64} {a1 : Option Value} {a2 : Int64} {a3 : Option Value} {a4 : Int64} {a5 : Option Value} {a6 : Int64} {a7 : Option Value} {a8 : Int32} {a9 : Option Value} {a10 : Option Value} : q_g 56 none Q 19 [some (.long a0), a1, some (.long a2), a3, some (.long a4), a5, some (.long a6), a7, some (.int a8), a9, a10] (r) M = q_g 56 none Q 20 [some (.long a0), a1, some (.long a2), a3, some (.long a4), a5, some (.long a6), a7, some (.int a8), a9, a10] (.long 0 :: r) M := r_lconst (by decide) d56_19
theorem d56_20 : decode (q_code 56) 20 = .ok (.lcmp, 1) := by decide +kernel
theorem gF_greatestShared_20 {Q : q_R} {M : q_M} {r : List Value} {a0 : Int64} {a1 : Option Value} {a2 : Int64} {a3 : Option Value} {a4 : Int64} {a5 : Option Value} {a6 : Int64} {a7 : Option Value} {a8 : Int32} {a9 : Option Value} {a10 : Option Value} {s0 : Int64} {s1 : Int64} : q_g 56 none Q 20 [some (.long a0), a1, some (.long a2), a3, some (.long a4), a5, some (.long a6), a7, some (.int a8), a9, a10] (.long s0 :: .long s1 :: r) M = q_g 56 none Q 21 [some (.long a0), a1, some (.long a2), a3, some (.long a4), a5, some (.long a6), a7, some (.int a8), a9, a10] (.int (lg_cmp s1 s0) :: r) M := r_lcmp d56_20
theorem d56_21 : decode (q_code 56) 21 = .ok (.ifCond .eq 24, 3) := by decide +kernel
theorem gF_greatestShared_21 {Q : q_R} {M : q_M} {r : List Value} {a0 : Int64} {a1 : Option Value} {a2 : Int64} {a3 : Option Value} {a4 : Int64} {a5 : Option Value} {a6 : Int64} {a7 : Option Value} {a8 : Int32} {a9 : Option Value} {a10 : Option Value} {s0 : Int32} : q_g 56 none Q 21 [some (.long a0), a1, some (.long a2), a3, some (.long a4), a5, some (.long a6), a7, some (.int a8), a9, a10] (.int s0 :: r) M = (if s0 = 0 then q_g 56 none Q 45 [some (.long a0), a1, some (.long a2), a3, some (.long a4), a5, some (.long a6), a7, some (.int a8), a9, a10] (r) M else q_g 56 none Q 24 [some (.long a0), a1, some (.long a2), a3, some (.long a4), a5, some (.long a6), a7, some (.int a8), a9, a10] (r) M) := r_if_eq (by decide) (by decide) d56_21
theorem d56_24 : decode (q_code 56) 24 = .ok (.lload 4, 2) := by decide +kernel
theorem gF_greatestShared_24 {Q : q_R} {M : q_M} {r : List Value} {a0 : Int64} {a1 : Option Value} {a2 : Int64} {a3 : Option Value} {a4 : Int64} {a5 : Option Value} {a6 : Int64} {a7 : Option Value} {a8 : Int32} {a9 : Option Value} {a10 : Option Value} : q_g 56 none Q 24 [some (.long a0), a1, some (.long a2), a3, some (.long a4), a5, some (.long a6), a7, some (.int a8), a9, a10] (r) M = q_g 56 none Q 26 [some (.long a0), a1, some (.long a2), a3, some (.long a4), a5, some (.long a6), a7, some (.int a8), a9, a10] (.long a4 :: r) M := r_lload rfl d56_24
theorem d56_26 : decode (q_code 56) 26 = .ok (.lload 6, 2) := by decide +kernel
theorem gF_greatestShared_26 {Q : q_R} {M : q_M} {r : List Value} {a0 : Int64} {a1 : Option Value} {a2 : Int64} {a3 : Option Value} {a4 : Int64} {a5 : Option Value} {a6 : Int64} {a7 : Option Value} {a8 : Int32} {a9 : Option Value} {a10 : Option Value} : q_g 56 none Q 26 [some (.long a0), a1, some (.long a2), a3, some (.long a4), a5, some (.long a6), a7, some (.int a8), a9, a10] (r) M = q_g 56 none Q 28 [some (.long a0), a1, some (.long a2), a3, some (.long a4), a5, some (.long a6), a7, some (.int a8), a9, a10] (.long a6 :: r) M := r_lload rfl d56_26
theorem d56_28 : decode (q_code 56) 28 = .ok (.lrem, 1) := by decide +kernel
theorem gF_greatestShared_28 {Q : q_R} {M : q_M} {r : List Value} {a0 : Int64} {a1 : Option Value} {a2 : Int64} {a3 : Option Value} {a4 : Int64} {a5 : Option Value} {a6 : Int64} {a7 : Option Value} {a8 : Int32} {a9 : Option Value} {a10 : Option Value} {s0 : Int64} {s1 : Int64} : q_g 56 none Q 28 [some (.long a0), a1, some (.long a2), a3, some (.long a4), a5, some (.long a6), a7, some (.int a8), a9, a10] (.long s0 :: .long s1 :: r) M = (¬ s0 = 0 ∧ q_g 56 none Q 29 [some (.long a0), a1, some (.long a2), a3, some (.long a4), a5, some (.long a6), a7, some (.int a8), a9, a10] (.long (s1 - s1 / s0 * s0) :: r) M) := r_lrem d56_28
theorem d56_29 : decode (q_code 56) 29 = .ok (.lstore 9, 2) := by decide +kernel
theorem gF_greatestShared_29 {Q : q_R} {M : q_M} {r : List Value} {a0 : Int64} {a1 : Option Value} {a2 : Int64} {a3 : Option Value} {a4 : Int64} {a5 : Option Value} {a6 : Int64} {a7 : Option Value} {a8 : Int32} {a9 : Option Value} {a10 : Option Value} {s0 : Int64} : q_g 56 none Q 29 [some (.long a0), a1, some (.long a2), a3, some (.long a4), a5, some (.long a6), a7, some (.int a8), a9, a10] (.long s0 :: r) M = q_g 56 none Q 31 [some (.long a0), a1, some (.long a2), a3, some (.long a4), a5, some (.long a6), a7, some (.int a8), some (.long s0), none] (r) M := r_lstore (Nat.le_of_ble_eq_true rfl) d56_29
theorem d56_31 : decode (q_code 56) 31 = .ok (.lload 6, 2) := by decide +kernel
theorem gF_greatestShared_31 {Q : q_R} {M : q_M} {r : List Value} {a0 : Int64} {a1 : Option Value} {a2 : Int64} {a3 : Option Value} {a4 : Int64} {a5 : Option Value} {a6 : Int64} {a7 : Option Value} {a8 : Int32} {a9 : Int64} {a10 : Option Value} : q_g 56 none Q 31 [some (.long a0), a1, some (.long a2), a3, some (.long a4), a5, some (.long a6), a7, some (.int a8), some (.long a9), a10] (r) M = q_g 56 none Q 33 [some (.long a0), a1, some (.long a2), a3, some (.long a4), a5, some (.long a6), a7, some (.int a8), some (.long a9), a10] (.long a6 :: r) M := r_lload rfl d56_31
theorem d56_33 : decode (q_code 56) 33 = .ok (.lstore 4, 2) := by decide +kernel
theorem gF_greatestShared_33 {Q : q_R} {M : q_M} {r : List Value} {a0 : Int64} {a1 : Option Value} {a2 : Int64} {a3 : Option Value} {a4 : Int64} {a5 : Option Value} {a6 : Int64} {a7 : Option Value} {a8 : Int32} {a9 : Int64} {a10 : Option Value} {s0 : Int64} : q_g 56 none Q 33 [some (.long a0), a1, some (.long a2), a3, some (.long a4), a5, some (.long a6), a7, some (.int a8), some (.long a9), a10] (.long s0 :: r) M = q_g 56 none Q 35 [some (.long a0), a1, some (.long a2), q_kill a3, some (.long s0), none, some (.long a6), a7, some (.int a8), some (.long a9), a10] (r) M := r_lstore (Nat.le_of_ble_eq_true rfl) d56_33
theorem d56_35 : decode (q_code 56) 35 = .ok (.lload 9, 2) := by decide +kernel
theorem gF_greatestShared_35 {Q : q_R} {M : q_M} {r : List Value} {a0 : Int64} {a1 : Option Value} {a2 : Int64} {a3 : Option Value} {a4 : Int64} {a5 : Option Value} {a6 : Int64} {a7 : Option Value} {a8 : Int32} {a9 : Int64} {a10 : Option Value} : q_g 56 none Q 35 [some (.long a0), a1, some (.long a2), a3, some (.long a4), a5, some (.long a6), a7, some (.int a8), some (.long a9), a10] (r) M = q_g 56 none Q 37 [some (.long a0), a1, some (.long a2), a3, some (.long a4), a5, some (.long a6), a7, some (.int a8), some (.long a9), a10] (.long a9 :: r) M := r_lload rfl d56_35
theorem d56_37 : decode (q_code 56) 37 = .ok (.lstore 6, 2) := by decide +kernel
theorem gF_greatestShared_37 {Q : q_R} {M : q_M} {r : List Value} {a0 : Int64} {a1 : Option Value} {a2 : Int64} {a3 : Option Value} {a4 : Int64} {a5 : Option Value} {a6 : Int64} {a7 : Option Value} {a8 : Int32} {a9 : Int64} {a10 : Option Value} {s0 : Int64} : q_g 56 none Q 37 [some (.long a0), a1, some (.long a2), a3, some (.long a4), a5, some (.long a6), a7, some (.int a8), some (.long a9), a10] (.long s0 :: r) M = q_g 56 none Q 39 [some (.long a0), a1, some (.long a2), a3, some (.long a4), q_kill a5, some (.long s0), none, some (.int a8), some (.long a9), a10] (r) M := r_lstore (Nat.le_of_ble_eq_true rfl) d56_37
theorem d56_39 : decode (q_code 56) 39 = .ok (.iinc 8 1, 3) := by decide +kernel
theorem gF_greatestShared_39 {Q : q_R} {M : q_M} {r : List Value} {a0 : Int64} {a1 : Option Value} {a2 : Int64} {a3 : Option Value} {a4 : Int64} {a5 : Option Value} {a6 : Int64} {a7 : Option Value} {a8 : Int32} {a9 : Int64} {a10 : Option Value} : q_g 56 none Q 39 [some (.long a0), a1, some (.long a2), a3, some (.long a4), a5, some (.long a6), a7, some (.int a8), some (.long a9), a10] (r) M = q_g 56 none Q 42 [some (.long a0), a1, some (.long a2), a3, some (.long a4), a5, some (.long a6), q_kill a7, some (.int (a8 + 1)), some (.long a9), a10] (r) M := r_iinc rfl (by decide) d56_39
theorem d56_42 : decode (q_code 56) 42 = .ok (.goto (-33), 3) := by decide +kernel
theorem gF_greatestShared_42 {Q : q_R} {M : q_M} {r : List Value} {a0 : Int64} {a1 : Option Value} {a2 : Int64} {a3 : Option Value} {a4 : Int64} {a5 : Option Value} {a6 : Int64} {a7 : Option Value} {a8 : Int32} {a9 : Int64} {a10 : Option Value} : q_g 56 none Q 42 [some (.long a0), a1, some (.long a2), a3, some (.long a4), a5, some (.long a6), a7, some (.int a8), some (.long a9), a10] (r) M = q_g 56 none Q 9 [some (.long a0), a1, some (.long a2), a3, some (.long a4), a5, some (.long a6), a7, some (.int a8), some (.long a9), a10] (r) M := r_goto (by decide) (by decide) d56_42
theorem d56_45 : decode (q_code 56) 45 = .ok (.lload 4, 2) := by decide +kernel
theorem gF_greatestShared_45 {Q : q_R} {M : q_M} {r : List Value} {a0 : Int64} {a1 : Option Value} {a2 : Int64} {a3 : Option Value} {a4 : Int64} {a5 : Option Value} {a6 : Int64} {a7 : Option Value} {a8 : Int32} {a9 : Option Value} {a10 : Option Value} : q_g 56 none Q 45 [some (.long a0), a1, some (.long a2), a3, some (.long a4), a5, some (.long a6), a7, some (.int a8), a9, a10] (r) M = q_g 56 none Q 47 [some (.long a0), a1, some (.long a2), a3, some (.long a4), a5, some (.long a6), a7, some (.int a8), a9, a10] (.long a4 :: r) M := r_lload rfl d56_45
theorem d56_47 : decode (q_code 56) 47 = .ok (.lreturn, 1) := by decide +kernel
theorem gF_greatestShared_47 {Q : q_R} {M : q_M} {a0 : Int64} {a1 : Option Value} {a2 : Int64} {a3 : Option Value} {a4 : Int64} {a5 : Option Value} {a6 : Int64} {a7 : Option Value} {a8 : Int32} {a9 : Option Value} {a10 : Option Value} {s0 : Int64} : q_g 56 none Q 47 [some (.long a0), a1, some (.long a2), a3, some (.long a4), a5, some (.long a6), a7, some (.int a8), a9, a10] ([.long s0]) M = Q (some (.long s0)) M := r_lret (r := []) (by decide +kernel) d56_47
theorem e_F_partOf {Q : q_R} {M : q_M} {a0 : Int64} {a2 : Int64} {a4 : Int32} : q_Run 57 [.long a0, .long a2, .int a4] M Q = q_g 57 none Q 0 [some (.long a0), none, some (.long a2), none, some (.int a4), none, none, none, none] [] M := q_entry (Nat.le_of_ble_eq_true rfl) rfl
theorem d57_0 : decode (q_code 57) 0 = .ok (.lload_n 0, 1) := by decide +kernel
theorem gF_partOf_0 {Q : q_R} {M : q_M} {r : List Value} {a0 : Int64} {a1 : Option Value} {a2 : Int64} {a3 : Option Value} {a4 : Int32} {a5 : Option Value} {a6 : Option Value} {a7 : Option Value} {a8 : Option Value} : q_g 57 none Q 0 [some (.long a0), a1, some (.long a2), a3, some (.int a4), a5, a6, a7, a8] (r) M = q_g 57 none Q 1 [some (.long a0), a1, some (.long a2), a3, some (.int a4), a5, a6, a7, a8] (.long a0 :: r) M := r_lload_n rfl d57_0
theorem d57_1 : decode (q_code 57) 1 = .ok (.lload_n 2, 1) := by decide +kernel
theorem gF_partOf_1 {Q : q_R} {M : q_M} {r : List Value} {a0 : Int64} {a1 : Option Value} {a2 : Int64} {a3 : Option Value} {a4 : Int32} {a5 : Option Value} {a6 : Option Value} {a7 : Option Value} {a8 : Option Value} : q_g 57 none Q 1 [some (.long a0), a1, some (.long a2), a3, some (.int a4), a5, a6, a7, a8] (r) M = q_g 57 none Q 2 [some (.long a0), a1, some (.long a2), a3, some (.int a4), a5, a6, a7, a8] (.long a2 :: r) M := r_lload_n rfl d57_1
theorem d57_2 : decode (q_code 57) 2 = .ok (.invokestatic 7, 3) := by decide +kernel
theorem gF_partOf_2 {Q : q_R} {M : q_M} {a0 : Int64} {a1 : Option Value} {a2 : Int64} {a3 : Option Value} {a4 : Int32} {a5 : Option Value} {a6 : Option Value} {a7 : Option Value} {a8 : Option Value} {s0 : Int64} {s1 : Int64} : q_g 57 none Q 2 [some (.long a0), a1, some (.long a2), a3, some (.int a4), a5, a6, a7, a8] ([.long s0, .long s1]) M = q_Run 56 [.long s1, .long s0] M (fun v M' => q_g 57 none Q 5 [some (.long a0), a1, some (.long a2), a3, some (.int a4), a5, a6, a7, a8] (v.toList ++ []) M') := r_call_static (k := 2) (by decide +kernel) (by decide +kernel) (by decide +kernel) (Nat.le_of_ble_eq_true rfl) (Nat.le_of_ble_eq_true rfl) rfl rfl d57_2
theorem d57_5 : decode (q_code 57) 5 = .ok (.lstore 5, 2) := by decide +kernel
theorem gF_partOf_5 {Q : q_R} {M : q_M} {r : List Value} {a0 : Int64} {a1 : Option Value} {a2 : Int64} {a3 : Option Value} {a4 : Int32} {a5 : Option Value} {a6 : Option Value} {a7 : Option Value} {a8 : Option Value} {s0 : Int64} : q_g 57 none Q 5 [some (.long a0), a1, some (.long a2), a3, some (.int a4), a5, a6, a7, a8] (.long s0 :: r) M = q_g 57 none Q 7 [some (.long a0), a1, some (.long a2), a3, some (.int a4), some (.long s0), none, a7, a8] (r) M := r_lstore (Nat.le_of_ble_eq_true rfl) d57_5
theorem d57_7 : decode (q_code 57) 7 = .ok (.iload 4, 2) := by decide +kernel
theorem gF_partOf_7 {Q : q_R} {M : q_M} {r : List Value} {a0 : Int64} {a1 : Option Value} {a2 : Int64} {a3 : Option Value} {a4 : Int32} {a5 : Int64} {a6 : Option Value} {a7 : Option Value} {a8 : Option Value} : q_g 57 none Q 7 [some (.long a0), a1, some (.long a2), a3, some (.int a4), some (.long a5), a6, a7, a8] (r) M = q_g 57 none Q 9 [some (.long a0), a1, some (.long a2), a3, some (.int a4), some (.long a5), a6, a7, a8] (.int a4 :: r) M := r_iload rfl d57_7
theorem d57_9 : decode (q_code 57) 9 = .ok (.ifCond .ne 7, 3) := by decide +kernel
theorem gF_partOf_9 {Q : q_R} {M : q_M} {r : List Value} {a0 : Int64} {a1 : Option Value} {a2 : Int64} {a3 : Option Value} {a4 : Int32} {a5 : Int64} {a6 : Option Value} {a7 : Option Value} {a8 : Option Value} {s0 : Int32} : q_g 57 none Q 9 [some (.long a0), a1, some (.long a2), a3, some (.int a4), some (.long a5), a6, a7, a8] (.int s0 :: r) M = (if ¬ s0 = 0 then q_g 57 none Q 16 [some (.long a0), a1, some (.long a2), a3, some (.int a4), some (.long a5), a6, a7, a8] (r) M else q_g 57 none Q 12 [some (.long a0), a1, some (.long a2), a3, some (.int a4), some (.long a5), a6, a7, a8] (r) M) := r_if_ne (by decide) (by decide) d57_9
theorem d57_12 : decode (q_code 57) 12 = .ok (.lload_n 0, 1) := by decide +kernel
theorem gF_partOf_12 {Q : q_R} {M : q_M} {r : List Value} {a0 : Int64} {a1 : Option Value} {a2 : Int64} {a3 : Option Value} {a4 : Int32} {a5 : Int64} {a6 : Option Value} {a7 : Option Value} {a8 : Option Value} : q_g 57 none Q 12 [some (.long a0), a1, some (.long a2), a3, some (.int a4), some (.long a5), a6, a7, a8] (r) M = q_g 57 none Q 13 [some (.long a0), a1, some (.long a2), a3, some (.int a4), some (.long a5), a6, a7, a8] (.long a0 :: r) M := r_lload_n rfl d57_12
theorem d57_13 : decode (q_code 57) 13 = .ok (.goto 4, 3) := by decide +kernel
theorem gF_partOf_13 {Q : q_R} {M : q_M} {r : List Value} {a0 : Int64} {a1 : Option Value} {a2 : Int64} {a3 : Option Value} {a4 : Int32} {a5 : Int64} {a6 : Option Value} {a7 : Option Value} {a8 : Option Value} : q_g 57 none Q 13 [some (.long a0), a1, some (.long a2), a3, some (.int a4), some (.long a5), a6, a7, a8] (r) M = q_g 57 none Q 17 [some (.long a0), a1, some (.long a2), a3, some (.int a4), some (.long a5), a6, a7, a8] (r) M := r_goto (by decide) (by decide) d57_13
theorem d57_16 : decode (q_code 57) 16 = .ok (.lload_n 2, 1) := by decide +kernel
theorem gF_partOf_16 {Q : q_R} {M : q_M} {r : List Value} {a0 : Int64} {a1 : Option Value} {a2 : Int64} {a3 : Option Value} {a4 : Int32} {a5 : Int64} {a6 : Option Value} {a7 : Option Value} {a8 : Option Value} : q_g 57 none Q 16 [some (.long a0), a1, some (.long a2), a3, some (.int a4), some (.long a5), a6, a7, a8] (r) M = q_g 57 none Q 17 [some (.long a0), a1, some (.long a2), a3, some (.int a4), some (.long a5), a6, a7, a8] (.long a2 :: r) M := r_lload_n rfl d57_16
theorem d57_17 : decode (q_code 57) 17 = .ok (.lstore 7, 2) := by decide +kernel
theorem gF_partOf_17 {Q : q_R} {M : q_M} {r : List Value} {a0 : Int64} {a1 : Option Value} {a2 : Int64} {a3 : Option Value} {a4 : Int32} {a5 : Int64} {a6 : Option Value} {a7 : Option Value} {a8 : Option Value} {s0 : Int64} : q_g 57 none Q 17 [some (.long a0), a1, some (.long a2), a3, some (.int a4), some (.long a5), a6, a7, a8] (.long s0 :: r) M = q_g 57 none Q 19 [some (.long a0), a1, some (.long a2), a3, some (.int a4), some (.long a5), q_kill a6, some (.long s0), none] (r) M := r_lstore (Nat.le_of_ble_eq_true rfl) d57_17
theorem d57_19 : decode (q_code 57) 19 = .ok (.lload 5, 2) := by decide +kernel
theorem gF_partOf_19 {Q : q_R} {M : q_M} {r : List Value} {a0 : Int64} {a1 : Option Value} {a2 : Int64} {a3 : Option Value} {a4 : Int32} {a5 : Int64} {a6 : Option Value} {a7 : Int64} {a8 : Option Value} : q_g 57 none Q 19 [some (.long a0), a1, some (.long a2), a3, some (.int a4), some (.long a5), a6, some (.long a7), a8] (r) M = q_g 57 none Q 21 [some (.long a0), a1, some (.long a2), a3, some (.int a4), some (.long a5), a6, some (.long a7), a8] (.long a5 :: r) M := r_lload rfl d57_19
theorem d57_21 : decode (q_code 57) 21 = .ok (.lconst 0, 1) := by decide +kernel
theorem gF_partOf_21 {Q : q_R} {M : q_M} {r : List Value} {a0 : Int64} {a1 : Option Value} {a2 : Int64} {a3 : Option Value} {a4 : Int32} {a5 : Int64} {a6 : Option Value} {a7 : Int64} {a8 : Option Value} : q_g 57 none Q 21 [some (.long a0), a1, some (.long a2), a3, some (.int a4), some (.long a5), a6, some (.long a7), a8] (r) M = q_g 57 none Q 22 [some (.long a0), a1, some (.long a2), a3, some (.int a4), some (.long a5), a6, some (.long a7), a8] (.long 0 :: r) M := r_lconst (by decide) d57_21
theorem d57_22 : decode (q_code 57) 22 = .ok (.lcmp, 1) := by decide +kernel
theorem gF_partOf_22 {Q : q_R} {M : q_M} {r : List Value} {a0 : Int64} {a1 : Option Value} {a2 : Int64} {a3 : Option Value} {a4 : Int32} {a5 : Int64} {a6 : Option Value} {a7 : Int64} {a8 : Option Value} {s0 : Int64} {s1 : Int64} : q_g 57 none Q 22 [some (.long a0), a1, some (.long a2), a3, some (.int a4), some (.long a5), a6, some (.long a7), a8] (.long s0 :: .long s1 :: r) M = q_g 57 none Q 23 [some (.long a0), a1, some (.long a2), a3, some (.int a4), some (.long a5), a6, some (.long a7), a8] (.int (lg_cmp s1 s0) :: r) M := r_lcmp d57_22
theorem d57_23 : decode (q_code 57) 23 = .ok (.ifCond .le 11, 3) := by decide +kernel
theorem gF_partOf_23 {Q : q_R} {M : q_M} {r : List Value} {a0 : Int64} {a1 : Option Value} {a2 : Int64} {a3 : Option Value} {a4 : Int32} {a5 : Int64} {a6 : Option Value} {a7 : Int64} {a8 : Option Value} {s0 : Int32} : q_g 57 none Q 23 [some (.long a0), a1, some (.long a2), a3, some (.int a4), some (.long a5), a6, some (.long a7), a8] (.int s0 :: r) M = (if s0 ≤ 0 then q_g 57 none Q 34 [some (.long a0), a1, some (.long a2), a3, some (.int a4), some (.long a5), a6, some (.long a7), a8] (r) M else q_g 57 none Q 26 [some (.long a0), a1, some (.long a2), a3, some (.int a4), some (.long a5), a6, some (.long a7), a8] (r) M) := r_if_le (by decide) (by decide) d57_23
theorem d57_26 : decode (q_code 57) 26 = .ok (.lload 7, 2) := by decide +kernel
theorem gF_partOf_26 {Q : q_R} {M : q_M} {r : List Value} {a0 : Int64} {a1 : Option Value} {a2 : Int64} {a3 : Option Value} {a4 : Int32} {a5 : Int64} {a6 : Option Value} {a7 : Int64} {a8 : Option Value} : q_g 57 none Q 26 [some (.long a0), a1, some (.long a2), a3, some (.int a4), some (.long a5), a6, some (.long a7), a8] (r) M = q_g 57 none Q 28 [some (.long a0), a1, some (.long a2), a3, some (.int a4), some (.long a5), a6, some (.long a7), a8] (.long a7 :: r) M := r_lload rfl d57_26
theorem d57_28 : decode (q_code 57) 28 = .ok (.lload 5, 2) := by decide +kernel
theorem gF_partOf_28 {Q : q_R} {M : q_M} {r : List Value} {a0 : Int64} {a1 : Option Value} {a2 : Int64} {a3 : Option Value} {a4 : Int32} {a5 : Int64} {a6 : Option Value} {a7 : Int64} {a8 : Option Value} : q_g 57 none Q 28 [some (.long a0), a1, some (.long a2), a3, some (.int a4), some (.long a5), a6, some (.long a7), a8] (r) M = q_g 57 none Q 30 [some (.long a0), a1, some (.long a2), a3, some (.int a4), some (.long a5), a6, some (.long a7), a8] (.long a5 :: r) M := r_lload rfl d57_28
theorem d57_30 : decode (q_code 57) 30 = .ok (.ldiv, 1) := by decide +kernel
theorem gF_partOf_30 {Q : q_R} {M : q_M} {r : List Value} {a0 : Int64} {a1 : Option Value} {a2 : Int64} {a3 : Option Value} {a4 : Int32} {a5 : Int64} {a6 : Option Value} {a7 : Int64} {a8 : Option Value} {s0 : Int64} {s1 : Int64} : q_g 57 none Q 30 [some (.long a0), a1, some (.long a2), a3, some (.int a4), some (.long a5), a6, some (.long a7), a8] (.long s0 :: .long s1 :: r) M = (¬ s0 = 0 ∧ q_g 57 none Q 31 [some (.long a0), a1, some (.long a2), a3, some (.int a4), some (.long a5), a6, some (.long a7), a8] (.long (s1 / s0) :: r) M) := r_ldiv d57_30
theorem d57_31 : decode (q_code 57) 31 = .ok (.goto 5, 3) := by decide +kernel
theorem gF_partOf_31 {Q : q_R} {M : q_M} {r : List Value} {a0 : Int64} {a1 : Option Value} {a2 : Int64} {a3 : Option Value} {a4 : Int32} {a5 : Int64} {a6 : Option Value} {a7 : Int64} {a8 : Option Value} : q_g 57 none Q 31 [some (.long a0), a1, some (.long a2), a3, some (.int a4), some (.long a5), a6, some (.long a7), a8] (r) M = q_g 57 none Q 36 [some (.long a0), a1, some (.long a2), a3, some (.int a4), some (.long a5), a6, some (.long a7), a8] (r) M := r_goto (by decide) (by decide) d57_31
theorem d57_34 : decode (q_code 57) 34 = .ok (.lload 7, 2) := by decide +kernel
theorem gF_partOf_34 {Q : q_R} {M : q_M} {r : List Value} {a0 : Int64} {a1 : Option Value} {a2 : Int64} {a3 : Option Value} {a4 : Int32} {a5 : Int64} {a6 : Option Value} {a7 : Int64} {a8 : Option Value} : q_g 57 none Q 34 [some (.long a0), a1, some (.long a2), a3, some (.int a4), some (.long a5), a6, some (.long a7), a8] (r) M = q_g 57 none Q 36 [some (.long a0), a1, some (.long a2), a3, some (.int a4), some (.long a5), a6, some (.long a7), a8] (.long a7 :: r) M := r_lload rfl d57_34
theorem d57_36 : decode (q_code 57) 36 = .ok (.lreturn, 1) := by decide +kernel
theorem gF_partOf_36 {Q : q_R} {M : q_M} {a0 : Int64} {a1 : Option Value} {a2 : Int64} {a3 : Option Value} {a4 : Int32} {a5 : Int64} {a6 : Option Value} {a7 : Int64} {a8 : Option Value} {s0 : Int64} : q_g 57 none Q 36 [some (.long a0), a1, some (.long a2), a3, some (.int a4), some (.long a5), a6, some (.long a7), a8] ([.long s0]) M = Q (some (.long s0)) M := r_lret (r := []) (by decide +kernel) d57_36
theorem e_I_bitCount {Q : q_R} {M : q_M} {a0 : Int32} : q_Run 156 [.int a0] M Q = q_g 156 none Q 0 [some (.int a0)] [] M := q_entry (Nat.le_of_ble_eq_true rfl) rfl
theorem d156_0 : decode (q_code 156) 0 = .ok (.iload_n 0, 1) := by decide +kernel
theorem gI_bitCount_0 {Q : q_R} {M : q_M} {r : List Value} {a0 : Int32} : q_g 156 none Q 0 [some (.int a0)] (r) M = q_g 156 none Q 1 [some (.int a0)] (.int a0 :: r) M := r_iload_n rfl d156_0
theorem d156_1 : decode (q_code 156) 1 = .ok (.iload_n 0, 1) := by decide +kernel
theorem gI_bitCount_1 {Q : q_R} {M : q_M} {r : List Value} {a0 : Int32} : q_g 156 none Q 1 [some (.int a0)] (r) M = q_g 156 none Q 2 [some (.int a0)] (.int a0 :: r) M := r_iload_n rfl d156_1
theorem d156_2 : decode (q_code 156) 2 = .ok (.iconst 1, 1) := by decide +kernel
theorem gI_bitCount_2 {Q : q_R} {M : q_M} {r : List Value} {a0 : Int32} : q_g 156 none Q 2 [some (.int a0)] (r) M = q_g 156 none Q 3 [some (.int a0)] (.int 1 :: r) M := r_iconst (by decide) d156_2
theorem d156_3 : decode (q_code 156) 3 = .ok (.iushr, 1) := by decide +kernel
theorem gI_bitCount_3 {Q : q_R} {M : q_M} {r : List Value} {a0 : Int32} {s0 : Int32} {s1 : Int32} : q_g 156 none Q 3 [some (.int a0)] (.int s0 :: .int s1 :: r) M = q_g 156 none Q 4 [some (.int a0)] (.int ((s1.toUInt32 >>> (s0.toUInt32 &&& Int32.toUInt32 31)).toInt32) :: r) M := r_iushr d156_3
theorem d156_4 : decode (q_code 156) 4 = .ok (.ldc_w 265, 3) := by decide +kernel
theorem gI_bitCount_4 {Q : q_R} {M : q_M} {r : List Value} {a0 : Int32} : q_g 156 none Q 4 [some (.int a0)] (r) M = q_g 156 none Q 7 [some (.int a0)] (.int 1431655765 :: r) M := r_ldcw (by decide +kernel) d156_4
theorem d156_7 : decode (q_code 156) 7 = .ok (.iand, 1) := by decide +kernel
theorem gI_bitCount_7 {Q : q_R} {M : q_M} {r : List Value} {a0 : Int32} {s0 : Int32} {s1 : Int32} : q_g 156 none Q 7 [some (.int a0)] (.int s0 :: .int s1 :: r) M = q_g 156 none Q 8 [some (.int a0)] (.int (s1 &&& s0) :: r) M := r_iand d156_7
theorem d156_8 : decode (q_code 156) 8 = .ok (.isub, 1) := by decide +kernel
theorem gI_bitCount_8 {Q : q_R} {M : q_M} {r : List Value} {a0 : Int32} {s0 : Int32} {s1 : Int32} : q_g 156 none Q 8 [some (.int a0)] (.int s0 :: .int s1 :: r) M = q_g 156 none Q 9 [some (.int a0)] (.int (s1 - s0) :: r) M := r_isub d156_8
theorem d156_9 : decode (q_code 156) 9 = .ok (.istore_n 0, 1) := by decide +kernel
theorem gI_bitCount_9 {Q : q_R} {M : q_M} {r : List Value} {a0 : Int32} {s0 : Int32} : q_g 156 none Q 9 [some (.int a0)] (.int s0 :: r) M = q_g 156 none Q 10 [some (.int s0)] (r) M := r_istore_n (Nat.le_of_ble_eq_true rfl) d156_9
theorem d156_10 : decode (q_code 156) 10 = .ok (.iload_n 0, 1) := by decide +kernel
theorem gI_bitCount_10 {Q : q_R} {M : q_M} {r : List Value} {a0 : Int32} : q_g 156 none Q 10 [some (.int a0)] (r) M = q_g 156 none Q 11 [some (.int a0)] (.int a0 :: r) M := r_iload_n rfl d156_10
theorem d156_11 : decode (q_code 156) 11 = .ok (.ldc_w 266, 3) := by decide +kernel
theorem gI_bitCount_11 {Q : q_R} {M : q_M} {r : List Value} {a0 : Int32} : q_g 156 none Q 11 [some (.int a0)] (r) M = q_g 156 none Q 14 [some (.int a0)] (.int 858993459 :: r) M := r_ldcw (by decide +kernel) d156_11
theorem d156_14 : decode (q_code 156) 14 = .ok (.iand, 1) := by decide +kernel
theorem gI_bitCount_14 {Q : q_R} {M : q_M} {r : List Value} {a0 : Int32} {s0 : Int32} {s1 : Int32} : q_g 156 none Q 14 [some (.int a0)] (.int s0 :: .int s1 :: r) M = q_g 156 none Q 15 [some (.int a0)] (.int (s1 &&& s0) :: r) M := r_iand d156_14
theorem d156_15 : decode (q_code 156) 15 = .ok (.iload_n 0, 1) := by decide +kernel
theorem gI_bitCount_15 {Q : q_R} {M : q_M} {r : List Value} {a0 : Int32} : q_g 156 none Q 15 [some (.int a0)] (r) M = q_g 156 none Q 16 [some (.int a0)] (.int a0 :: r) M := r_iload_n rfl d156_15
theorem d156_16 : decode (q_code 156) 16 = .ok (.iconst 2, 1) := by decide +kernel
theorem gI_bitCount_16 {Q : q_R} {M : q_M} {r : List Value} {a0 : Int32} : q_g 156 none Q 16 [some (.int a0)] (r) M = q_g 156 none Q 17 [some (.int a0)] (.int 2 :: r) M := r_iconst (by decide) d156_16
theorem d156_17 : decode (q_code 156) 17 = .ok (.iushr, 1) := by decide +kernel
theorem gI_bitCount_17 {Q : q_R} {M : q_M} {r : List Value} {a0 : Int32} {s0 : Int32} {s1 : Int32} : q_g 156 none Q 17 [some (.int a0)] (.int s0 :: .int s1 :: r) M = q_g 156 none Q 18 [some (.int a0)] (.int ((s1.toUInt32 >>> (s0.toUInt32 &&& Int32.toUInt32 31)).toInt32) :: r) M := r_iushr d156_17
theorem d156_18 : decode (q_code 156) 18 = .ok (.ldc_w 266, 3) := by decide +kernel
theorem gI_bitCount_18 {Q : q_R} {M : q_M} {r : List Value} {a0 : Int32} : q_g 156 none Q 18 [some (.int a0)] (r) M = q_g 156 none Q 21 [some (.int a0)] (.int 858993459 :: r) M := r_ldcw (by decide +kernel) d156_18
theorem d156_21 : decode (q_code 156) 21 = .ok (.iand, 1) := by decide +kernel
theorem gI_bitCount_21 {Q : q_R} {M : q_M} {r : List Value} {a0 : Int32} {s0 : Int32} {s1 : Int32} : q_g 156 none Q 21 [some (.int a0)] (.int s0 :: .int s1 :: r) M = q_g 156 none Q 22 [some (.int a0)] (.int (s1 &&& s0) :: r) M := r_iand d156_21
theorem d156_22 : decode (q_code 156) 22 = .ok (.iadd, 1) := by decide +kernel
theorem gI_bitCount_22 {Q : q_R} {M : q_M} {r : List Value} {a0 : Int32} {s0 : Int32} {s1 : Int32} : q_g 156 none Q 22 [some (.int a0)] (.int s0 :: .int s1 :: r) M = q_g 156 none Q 23 [some (.int a0)] (.int (s1 + s0) :: r) M := r_iadd d156_22
theorem d156_23 : decode (q_code 156) 23 = .ok (.istore_n 0, 1) := by decide +kernel
theorem gI_bitCount_23 {Q : q_R} {M : q_M} {r : List Value} {a0 : Int32} {s0 : Int32} : q_g 156 none Q 23 [some (.int a0)] (.int s0 :: r) M = q_g 156 none Q 24 [some (.int s0)] (r) M := r_istore_n (Nat.le_of_ble_eq_true rfl) d156_23
theorem d156_24 : decode (q_code 156) 24 = .ok (.iload_n 0, 1) := by decide +kernel
theorem gI_bitCount_24 {Q : q_R} {M : q_M} {r : List Value} {a0 : Int32} : q_g 156 none Q 24 [some (.int a0)] (r) M = q_g 156 none Q 25 [some (.int a0)] (.int a0 :: r) M := r_iload_n rfl d156_24
theorem d156_25 : decode (q_code 156) 25 = .ok (.iload_n 0, 1) := by decide +kernel
theorem gI_bitCount_25 {Q : q_R} {M : q_M} {r : List Value} {a0 : Int32} : q_g 156 none Q 25 [some (.int a0)] (r) M = q_g 156 none Q 26 [some (.int a0)] (.int a0 :: r) M := r_iload_n rfl d156_25
theorem d156_26 : decode (q_code 156) 26 = .ok (.iconst 4, 1) := by decide +kernel
theorem gI_bitCount_26 {Q : q_R} {M : q_M} {r : List Value} {a0 : Int32} : q_g 156 none Q 26 [some (.int a0)] (r) M = q_g 156 none Q 27 [some (.int a0)] (.int 4 :: r) M := r_iconst (by decide) d156_26
theorem d156_27 : decode (q_code 156) 27 = .ok (.iushr, 1) := by decide +kernel
theorem gI_bitCount_27 {Q : q_R} {M : q_M} {r : List Value} {a0 : Int32} {s0 : Int32} {s1 : Int32} : q_g 156 none Q 27 [some (.int a0)] (.int s0 :: .int s1 :: r) M = q_g 156 none Q 28 [some (.int a0)] (.int ((s1.toUInt32 >>> (s0.toUInt32 &&& Int32.toUInt32 31)).toInt32) :: r) M := r_iushr d156_27
theorem d156_28 : decode (q_code 156) 28 = .ok (.iadd, 1) := by decide +kernel
theorem gI_bitCount_28 {Q : q_R} {M : q_M} {r : List Value} {a0 : Int32} {s0 : Int32} {s1 : Int32} : q_g 156 none Q 28 [some (.int a0)] (.int s0 :: .int s1 :: r) M = q_g 156 none Q 29 [some (.int a0)] (.int (s1 + s0) :: r) M := r_iadd d156_28
theorem d156_29 : decode (q_code 156) 29 = .ok (.ldc_w 267, 3) := by decide +kernel
theorem gI_bitCount_29 {Q : q_R} {M : q_M} {r : List Value} {a0 : Int32} : q_g 156 none Q 29 [some (.int a0)] (r) M = q_g 156 none Q 32 [some (.int a0)] (.int 252645135 :: r) M := r_ldcw (by decide +kernel) d156_29
theorem d156_32 : decode (q_code 156) 32 = .ok (.iand, 1) := by decide +kernel
theorem gI_bitCount_32 {Q : q_R} {M : q_M} {r : List Value} {a0 : Int32} {s0 : Int32} {s1 : Int32} : q_g 156 none Q 32 [some (.int a0)] (.int s0 :: .int s1 :: r) M = q_g 156 none Q 33 [some (.int a0)] (.int (s1 &&& s0) :: r) M := r_iand d156_32
theorem d156_33 : decode (q_code 156) 33 = .ok (.istore_n 0, 1) := by decide +kernel
theorem gI_bitCount_33 {Q : q_R} {M : q_M} {r : List Value} {a0 : Int32} {s0 : Int32} : q_g 156 none Q 33 [some (.int a0)] (.int s0 :: r) M = q_g 156 none Q 34 [some (.int s0)] (r) M := r_istore_n (Nat.le_of_ble_eq_true rfl) d156_33
theorem d156_34 : decode (q_code 156) 34 = .ok (.iload_n 0, 1) := by decide +kernel
theorem gI_bitCount_34 {Q : q_R} {M : q_M} {r : List Value} {a0 : Int32} : q_g 156 none Q 34 [some (.int a0)] (r) M = q_g 156 none Q 35 [some (.int a0)] (.int a0 :: r) M := r_iload_n rfl d156_34
theorem d156_35 : decode (q_code 156) 35 = .ok (.iload_n 0, 1) := by decide +kernel
theorem gI_bitCount_35 {Q : q_R} {M : q_M} {r : List Value} {a0 : Int32} : q_g 156 none Q 35 [some (.int a0)] (r) M = q_g 156 none Q 36 [some (.int a0)] (.int a0 :: r) M := r_iload_n rfl d156_35
theorem d156_36 : decode (q_code 156) 36 = .ok (.bipush 8, 2) := by decide +kernel
theorem gI_bitCount_36 {Q : q_R} {M : q_M} {r : List Value} {a0 : Int32} : q_g 156 none Q 36 [some (.int a0)] (r) M = q_g 156 none Q 38 [some (.int a0)] (.int 8 :: r) M := r_bipush (by decide) d156_36
theorem d156_38 : decode (q_code 156) 38 = .ok (.iushr, 1) := by decide +kernel
theorem gI_bitCount_38 {Q : q_R} {M : q_M} {r : List Value} {a0 : Int32} {s0 : Int32} {s1 : Int32} : q_g 156 none Q 38 [some (.int a0)] (.int s0 :: .int s1 :: r) M = q_g 156 none Q 39 [some (.int a0)] (.int ((s1.toUInt32 >>> (s0.toUInt32 &&& Int32.toUInt32 31)).toInt32) :: r) M := r_iushr d156_38
theorem d156_39 : decode (q_code 156) 39 = .ok (.iadd, 1) := by decide +kernel
theorem gI_bitCount_39 {Q : q_R} {M : q_M} {r : List Value} {a0 : Int32} {s0 : Int32} {s1 : Int32} : q_g 156 none Q 39 [some (.int a0)] (.int s0 :: .int s1 :: r) M = q_g 156 none Q 40 [some (.int a0)] (.int (s1 + s0) :: r) M := r_iadd d156_39
theorem d156_40 : decode (q_code 156) 40 = .ok (.istore_n 0, 1) := by decide +kernel
theorem gI_bitCount_40 {Q : q_R} {M : q_M} {r : List Value} {a0 : Int32} {s0 : Int32} : q_g 156 none Q 40 [some (.int a0)] (.int s0 :: r) M = q_g 156 none Q 41 [some (.int s0)] (r) M := r_istore_n (Nat.le_of_ble_eq_true rfl) d156_40
theorem d156_41 : decode (q_code 156) 41 = .ok (.iload_n 0, 1) := by decide +kernel
theorem gI_bitCount_41 {Q : q_R} {M : q_M} {r : List Value} {a0 : Int32} : q_g 156 none Q 41 [some (.int a0)] (r) M = q_g 156 none Q 42 [some (.int a0)] (.int a0 :: r) M := r_iload_n rfl d156_41
theorem d156_42 : decode (q_code 156) 42 = .ok (.iload_n 0, 1) := by decide +kernel
theorem gI_bitCount_42 {Q : q_R} {M : q_M} {r : List Value} {a0 : Int32} : q_g 156 none Q 42 [some (.int a0)] (r) M = q_g 156 none Q 43 [some (.int a0)] (.int a0 :: r) M := r_iload_n rfl d156_42
theorem d156_43 : decode (q_code 156) 43 = .ok (.bipush 16, 2) := by decide +kernel
theorem gI_bitCount_43 {Q : q_R} {M : q_M} {r : List Value} {a0 : Int32} : q_g 156 none Q 43 [some (.int a0)] (r) M = q_g 156 none Q 45 [some (.int a0)] (.int 16 :: r) M := r_bipush (by decide) d156_43
theorem d156_45 : decode (q_code 156) 45 = .ok (.iushr, 1) := by decide +kernel
theorem gI_bitCount_45 {Q : q_R} {M : q_M} {r : List Value} {a0 : Int32} {s0 : Int32} {s1 : Int32} : q_g 156 none Q 45 [some (.int a0)] (.int s0 :: .int s1 :: r) M = q_g 156 none Q 46 [some (.int a0)] (.int ((s1.toUInt32 >>> (s0.toUInt32 &&& Int32.toUInt32 31)).toInt32) :: r) M := r_iushr d156_45
theorem d156_46 : decode (q_code 156) 46 = .ok (.iadd, 1) := by decide +kernel
theorem gI_bitCount_46 {Q : q_R} {M : q_M} {r : List Value} {a0 : Int32} {s0 : Int32} {s1 : Int32} : q_g 156 none Q 46 [some (.int a0)] (.int s0 :: .int s1 :: r) M = q_g 156 none Q 47 [some (.int a0)] (.int (s1 + s0) :: r) M := r_iadd d156_46
theorem d156_47 : decode (q_code 156) 47 = .ok (.istore_n 0, 1) := by decide +kernel
theorem gI_bitCount_47 {Q : q_R} {M : q_M} {r : List Value} {a0 : Int32} {s0 : Int32} : q_g 156 none Q 47 [some (.int a0)] (.int s0 :: r) M = q_g 156 none Q 48 [some (.int s0)] (r) M := r_istore_n (Nat.le_of_ble_eq_true rfl) d156_47
theorem d156_48 : decode (q_code 156) 48 = .ok (.iload_n 0, 1) := by decide +kernel
theorem gI_bitCount_48 {Q : q_R} {M : q_M} {r : List Value} {a0 : Int32} : q_g 156 none Q 48 [some (.int a0)] (r) M = q_g 156 none Q 49 [some (.int a0)] (.int a0 :: r) M := r_iload_n rfl d156_48
theorem d156_49 : decode (q_code 156) 49 = .ok (.bipush 63, 2) := by decide +kernel
theorem gI_bitCount_49 {Q : q_R} {M : q_M} {r : List Value} {a0 : Int32} : q_g 156 none Q 49 [some (.int a0)] (r) M = q_g 156 none Q 51 [some (.int a0)] (.int 63 :: r) M := r_bipush (by decide) d156_49
theorem d156_51 : decode (q_code 156) 51 = .ok (.iand, 1) := by decide +kernel
theorem gI_bitCount_51 {Q : q_R} {M : q_M} {r : List Value} {a0 : Int32} {s0 : Int32} {s1 : Int32} : q_g 156 none Q 51 [some (.int a0)] (.int s0 :: .int s1 :: r) M = q_g 156 none Q 52 [some (.int a0)] (.int (s1 &&& s0) :: r) M := r_iand d156_51
theorem d156_52 : decode (q_code 156) 52 = .ok (.ireturn, 1) := by decide +kernel
theorem gI_bitCount_52 {Q : q_R} {M : q_M} {a0 : Int32} {s0 : Int32} : q_g 156 none Q 52 [some (.int a0)] ([.int s0]) M = Q (some (.int s0)) M := r_iret (r := []) (by decide +kernel) d156_52
end
