section
-- ===== PART A: goes FIRST, ahead of the names: the tables' words, and 'selects' of the private methods out of them =====
/-- a private method of a class that the tables say can be made, by its rows of tables_1 -/
def lw_okq (q : MethodName × Nat) : Prop := (q.1.cls ≠ "java/lang/invoke/MethodHandle" ∧ q.1.cls ≠ "java/lang/invoke/VarHandle") ∧ Cond.instantiable q.1.cls q.2 ∈ tables_1 ∧ Cond.privateMethod q.1 ∈ tables_1 ∧ Cond.instanceMethod q.1 ∈ tables_1
theorem lw_p0 : lw_okq (⟨"FontShelf", "fontWith", "(I)LFontShelf$Font;"⟩, 6) := ⟨⟨by decide +kernel, by decide +kernel⟩, List.mem_of_getElem? (i := 25) (by decide +kernel), List.mem_of_getElem? (i := 152) (by decide +kernel), List.mem_of_getElem? (i := 153) (by decide +kernel)⟩
theorem lw_p1 : lw_okq (⟨"FontShelf", "placeOf", "(I)I"⟩, 6) := ⟨⟨by decide +kernel, by decide +kernel⟩, List.mem_of_getElem? (i := 25) (by decide +kernel), List.mem_of_getElem? (i := 156) (by decide +kernel), List.mem_of_getElem? (i := 157) (by decide +kernel)⟩
theorem lw_p2 : lw_okq (⟨"FontShelf", "chosenFont", "(I)LFontShelf$Font;"⟩, 6) := ⟨⟨by decide +kernel, by decide +kernel⟩, List.mem_of_getElem? (i := 25) (by decide +kernel), List.mem_of_getElem? (i := 190) (by decide +kernel), List.mem_of_getElem? (i := 191) (by decide +kernel)⟩
theorem lw_p3 : lw_okq (⟨"FontShelf", "bestFor", "([I)LFontShelf$Font;"⟩, 6) := ⟨⟨by decide +kernel, by decide +kernel⟩, List.mem_of_getElem? (i := 25) (by decide +kernel), List.mem_of_getElem? (i := 194) (by decide +kernel), List.mem_of_getElem? (i := 195) (by decide +kernel)⟩
theorem lw_p4 : lw_okq (⟨"FontShelf", "allFonts", "()I"⟩, 6) := ⟨⟨by decide +kernel, by decide +kernel⟩, List.mem_of_getElem? (i := 25) (by decide +kernel), List.mem_of_getElem? (i := 198) (by decide +kernel), List.mem_of_getElem? (i := 199) (by decide +kernel)⟩
theorem lw_p5 : lw_okq (⟨"FontShelf", "having", "(III)I"⟩, 6) := ⟨⟨by decide +kernel, by decide +kernel⟩, List.mem_of_getElem? (i := 25) (by decide +kernel), List.mem_of_getElem? (i := 202) (by decide +kernel), List.mem_of_getElem? (i := 203) (by decide +kernel)⟩
theorem lw_p6 : lw_okq (⟨"FontShelf", "preferring", "(III)I"⟩, 6) := ⟨⟨by decide +kernel, by decide +kernel⟩, List.mem_of_getElem? (i := 25) (by decide +kernel), List.mem_of_getElem? (i := 209) (by decide +kernel), List.mem_of_getElem? (i := 210) (by decide +kernel)⟩
theorem lw_p7 : lw_okq (⟨"FontShelf", "nextUp", "(III)I"⟩, 6) := ⟨⟨by decide +kernel, by decide +kernel⟩, List.mem_of_getElem? (i := 25) (by decide +kernel), List.mem_of_getElem? (i := 213) (by decide +kernel), List.mem_of_getElem? (i := 214) (by decide +kernel)⟩
theorem lw_p8 : lw_okq (⟨"FontShelf", "leastFrom", "(III)I"⟩, 6) := ⟨⟨by decide +kernel, by decide +kernel⟩, List.mem_of_getElem? (i := 25) (by decide +kernel), List.mem_of_getElem? (i := 217) (by decide +kernel), List.mem_of_getElem? (i := 218) (by decide +kernel)⟩
theorem lw_p9 : lw_okq (⟨"FontShelf", "greatestUpTo", "(III)I"⟩, 6) := ⟨⟨by decide +kernel, by decide +kernel⟩, List.mem_of_getElem? (i := 25) (by decide +kernel), List.mem_of_getElem? (i := 222) (by decide +kernel), List.mem_of_getElem? (i := 223) (by decide +kernel)⟩
theorem lw_p10 : lw_okq (⟨"FontShelf", "nearestHeight", "(II)I"⟩, 6) := ⟨⟨by decide +kernel, by decide +kernel⟩, List.mem_of_getElem? (i := 25) (by decide +kernel), List.mem_of_getElem? (i := 227) (by decide +kernel), List.mem_of_getElem? (i := 228) (by decide +kernel)⟩
theorem lw_p11 : lw_okq (⟨"FontShelf", "nextDown", "(III)I"⟩, 6) := ⟨⟨by decide +kernel, by decide +kernel⟩, List.mem_of_getElem? (i := 25) (by decide +kernel), List.mem_of_getElem? (i := 231) (by decide +kernel), List.mem_of_getElem? (i := 232) (by decide +kernel)⟩
theorem lw_p12 : lw_okq (⟨"FontShelf", "preferringPassing", "(I)I"⟩, 6) := ⟨⟨by decide +kernel, by decide +kernel⟩, List.mem_of_getElem? (i := 25) (by decide +kernel), List.mem_of_getElem? (i := 235) (by decide +kernel), List.mem_of_getElem? (i := 236) (by decide +kernel)⟩
theorem lw_p13 : lw_okq (⟨"FontShelf", "chosenGlyph", "(II)LFontShelf$Glyph;"⟩, 6) := ⟨⟨by decide +kernel, by decide +kernel⟩, List.mem_of_getElem? (i := 25) (by decide +kernel), List.mem_of_getElem? (i := 247) (by decide +kernel), List.mem_of_getElem? (i := 248) (by decide +kernel)⟩
theorem lw_p14 : lw_okq (⟨"FontShelf", "glyphsInAll", "()I"⟩, 6) := ⟨⟨by decide +kernel, by decide +kernel⟩, List.mem_of_getElem? (i := 25) (by decide +kernel), List.mem_of_getElem? (i := 264) (by decide +kernel), List.mem_of_getElem? (i := 265) (by decide +kernel)⟩
theorem lw_p15 : lw_okq (⟨"FontShelf", "bytesInAll", "()I"⟩, 6) := ⟨⟨by decide +kernel, by decide +kernel⟩, List.mem_of_getElem? (i := 25) (by decide +kernel), List.mem_of_getElem? (i := 268) (by decide +kernel), List.mem_of_getElem? (i := 269) (by decide +kernel)⟩
def lw_privs_1 : List (MethodName × Nat) := [(⟨"FontShelf", "fontWith", "(I)LFontShelf$Font;"⟩, 6), (⟨"FontShelf", "placeOf", "(I)I"⟩, 6), (⟨"FontShelf", "chosenFont", "(I)LFontShelf$Font;"⟩, 6), (⟨"FontShelf", "bestFor", "([I)LFontShelf$Font;"⟩, 6), (⟨"FontShelf", "allFonts", "()I"⟩, 6), (⟨"FontShelf", "having", "(III)I"⟩, 6), (⟨"FontShelf", "preferring", "(III)I"⟩, 6), (⟨"FontShelf", "nextUp", "(III)I"⟩, 6), (⟨"FontShelf", "leastFrom", "(III)I"⟩, 6), (⟨"FontShelf", "greatestUpTo", "(III)I"⟩, 6), (⟨"FontShelf", "nearestHeight", "(II)I"⟩, 6), (⟨"FontShelf", "nextDown", "(III)I"⟩, 6), (⟨"FontShelf", "preferringPassing", "(I)I"⟩, 6), (⟨"FontShelf", "chosenGlyph", "(II)LFontShelf$Glyph;"⟩, 6), (⟨"FontShelf", "glyphsInAll", "()I"⟩, 6), (⟨"FontShelf", "bytesInAll", "()I"⟩, 6)]
theorem lw_r1 : ∀ q ∈ lw_privs_1, lw_okq q := List.forall_mem_cons.mpr ⟨lw_p0, List.forall_mem_cons.mpr ⟨lw_p1, List.forall_mem_cons.mpr ⟨lw_p2, List.forall_mem_cons.mpr ⟨lw_p3, List.forall_mem_cons.mpr ⟨lw_p4, List.forall_mem_cons.mpr ⟨lw_p5, List.forall_mem_cons.mpr ⟨lw_p6, List.forall_mem_cons.mpr ⟨lw_p7, List.forall_mem_cons.mpr ⟨lw_p8, List.forall_mem_cons.mpr ⟨lw_p9, List.forall_mem_cons.mpr ⟨lw_p10, List.forall_mem_cons.mpr ⟨lw_p11, List.forall_mem_cons.mpr ⟨lw_p12, List.forall_mem_cons.mpr ⟨lw_p13, List.forall_mem_cons.mpr ⟨lw_p14, List.forall_mem_cons.mpr ⟨lw_p15, fun _ h => absurd h List.not_mem_nil⟩⟩⟩⟩⟩⟩⟩⟩⟩⟩⟩⟩⟩⟩⟩⟩
theorem lw_p16 : lw_okq (⟨"java/lang/Throwable", "fillInStackTrace", "(I)Ljava/lang/Throwable;"⟩, 6) := ⟨⟨by decide +kernel, by decide +kernel⟩, List.mem_of_getElem? (i := 320) (by decide +kernel), List.mem_of_getElem? (i := 318) (by decide +kernel), List.mem_of_getElem? (i := 319) (by decide +kernel)⟩
theorem lw_p17 : lw_okq (⟨"FontShelf", "takeOut", "(I)I"⟩, 6) := ⟨⟨by decide +kernel, by decide +kernel⟩, List.mem_of_getElem? (i := 25) (by decide +kernel), List.mem_of_getElem? (i := 350) (by decide +kernel), List.mem_of_getElem? (i := 351) (by decide +kernel)⟩
theorem lw_p18 : lw_okq (⟨"java/util/ArrayList", "fastRemove", "([Ljava/lang/Object;I)V"⟩, 3) := ⟨⟨by decide +kernel, by decide +kernel⟩, List.mem_of_getElem? (i := 33) (by decide +kernel), List.mem_of_getElem? (i := 358) (by decide +kernel), List.mem_of_getElem? (i := 359) (by decide +kernel)⟩
theorem lw_p19 : lw_okq (⟨"java/util/ArrayList", "add", "(Ljava/lang/Object;[Ljava/lang/Object;I)V"⟩, 3) := ⟨⟨by decide +kernel, by decide +kernel⟩, List.mem_of_getElem? (i := 33) (by decide +kernel), List.mem_of_getElem? (i := 398) (by decide +kernel), List.mem_of_getElem? (i := 399) (by decide +kernel)⟩
theorem lw_p20 : lw_okq (⟨"java/util/ArrayList", "grow", "()[Ljava/lang/Object;"⟩, 3) := ⟨⟨by decide +kernel, by decide +kernel⟩, List.mem_of_getElem? (i := 33) (by decide +kernel), List.mem_of_getElem? (i := 402) (by decide +kernel), List.mem_of_getElem? (i := 403) (by decide +kernel)⟩
theorem lw_p21 : lw_okq (⟨"java/util/ArrayList", "grow", "(I)[Ljava/lang/Object;"⟩, 3) := ⟨⟨by decide +kernel, by decide +kernel⟩, List.mem_of_getElem? (i := 33) (by decide +kernel), List.mem_of_getElem? (i := 406) (by decide +kernel), List.mem_of_getElem? (i := 407) (by decide +kernel)⟩
theorem lw_p22 : lw_okq (⟨"FontShelf", "hasRoomFor", "(LFontShelf$Glyph;LFontShelf$Glyph;)Z"⟩, 6) := ⟨⟨by decide +kernel, by decide +kernel⟩, List.mem_of_getElem? (i := 25) (by decide +kernel), List.mem_of_getElem? (i := 522) (by decide +kernel), List.mem_of_getElem? (i := 523) (by decide +kernel)⟩
theorem lw_p23 : lw_okq (⟨"FontShelf", "dropAll", "()I"⟩, 6) := ⟨⟨by decide +kernel, by decide +kernel⟩, List.mem_of_getElem? (i := 25) (by decide +kernel), List.mem_of_getElem? (i := 560) (by decide +kernel), List.mem_of_getElem? (i := 561) (by decide +kernel)⟩
theorem lw_p24 : lw_okq (⟨"FontShelf", "dropPassing", "()I"⟩, 6) := ⟨⟨by decide +kernel, by decide +kernel⟩, List.mem_of_getElem? (i := 25) (by decide +kernel), List.mem_of_getElem? (i := 568) (by decide +kernel), List.mem_of_getElem? (i := 569) (by decide +kernel)⟩
theorem lw_p25 : lw_okq (⟨"FontShelf", "dropGlyph", "()I"⟩, 6) := ⟨⟨by decide +kernel, by decide +kernel⟩, List.mem_of_getElem? (i := 25) (by decide +kernel), List.mem_of_getElem? (i := 572) (by decide +kernel), List.mem_of_getElem? (i := 573) (by decide +kernel)⟩
theorem lw_p26 : lw_okq (⟨"FontShelfModel", "fontOf", "(I)I"⟩, 20) := ⟨⟨by decide +kernel, by decide +kernel⟩, List.mem_of_getElem? (i := 627) (by decide +kernel), List.mem_of_getElem? (i := 717) (by decide +kernel), List.mem_of_getElem? (i := 718) (by decide +kernel)⟩
theorem lw_p27 : lw_okq (⟨"FontShelfModel", "goFont", "(I)V"⟩, 20) := ⟨⟨by decide +kernel, by decide +kernel⟩, List.mem_of_getElem? (i := 627) (by decide +kernel), List.mem_of_getElem? (i := 721) (by decide +kernel), List.mem_of_getElem? (i := 722) (by decide +kernel)⟩
theorem lw_p28 : lw_okq (⟨"FontShelfModel", "goGlyph", "(I)V"⟩, 20) := ⟨⟨by decide +kernel, by decide +kernel⟩, List.mem_of_getElem? (i := 627) (by decide +kernel), List.mem_of_getElem? (i := 725) (by decide +kernel), List.mem_of_getElem? (i := 726) (by decide +kernel)⟩
theorem lw_p29 : lw_okq (⟨"FontShelfModel", "startOf", "(I)I"⟩, 20) := ⟨⟨by decide +kernel, by decide +kernel⟩, List.mem_of_getElem? (i := 627) (by decide +kernel), List.mem_of_getElem? (i := 729) (by decide +kernel), List.mem_of_getElem? (i := 730) (by decide +kernel)⟩
theorem lw_p30 : lw_okq (⟨"FontShelfModel", "bytesOf", "(I)I"⟩, 20) := ⟨⟨by decide +kernel, by decide +kernel⟩, List.mem_of_getElem? (i := 627) (by decide +kernel), List.mem_of_getElem? (i := 733) (by decide +kernel), List.mem_of_getElem? (i := 734) (by decide +kernel)⟩
theorem lw_p31 : lw_okq (⟨"FontShelfModel", "glyphOf", "(II)I"⟩, 20) := ⟨⟨by decide +kernel, by decide +kernel⟩, List.mem_of_getElem? (i := 627) (by decide +kernel), List.mem_of_getElem? (i := 750) (by decide +kernel), List.mem_of_getElem? (i := 751) (by decide +kernel)⟩
def lw_privs_2 : List (MethodName × Nat) := [(⟨"java/lang/Throwable", "fillInStackTrace", "(I)Ljava/lang/Throwable;"⟩, 6), (⟨"FontShelf", "takeOut", "(I)I"⟩, 6), (⟨"java/util/ArrayList", "fastRemove", "([Ljava/lang/Object;I)V"⟩, 3), (⟨"java/util/ArrayList", "add", "(Ljava/lang/Object;[Ljava/lang/Object;I)V"⟩, 3), (⟨"java/util/ArrayList", "grow", "()[Ljava/lang/Object;"⟩, 3), (⟨"java/util/ArrayList", "grow", "(I)[Ljava/lang/Object;"⟩, 3), (⟨"FontShelf", "hasRoomFor", "(LFontShelf$Glyph;LFontShelf$Glyph;)Z"⟩, 6), (⟨"FontShelf", "dropAll", "()I"⟩, 6), (⟨"FontShelf", "dropPassing", "()I"⟩, 6), (⟨"FontShelf", "dropGlyph", "()I"⟩, 6), (⟨"FontShelfModel", "fontOf", "(I)I"⟩, 20), (⟨"FontShelfModel", "goFont", "(I)V"⟩, 20), (⟨"FontShelfModel", "goGlyph", "(I)V"⟩, 20), (⟨"FontShelfModel", "startOf", "(I)I"⟩, 20), (⟨"FontShelfModel", "bytesOf", "(I)I"⟩, 20), (⟨"FontShelfModel", "glyphOf", "(II)I"⟩, 20)]
theorem lw_r2 : ∀ q ∈ lw_privs_2, lw_okq q := List.forall_mem_cons.mpr ⟨lw_p16, List.forall_mem_cons.mpr ⟨lw_p17, List.forall_mem_cons.mpr ⟨lw_p18, List.forall_mem_cons.mpr ⟨lw_p19, List.forall_mem_cons.mpr ⟨lw_p20, List.forall_mem_cons.mpr ⟨lw_p21, List.forall_mem_cons.mpr ⟨lw_p22, List.forall_mem_cons.mpr ⟨lw_p23, List.forall_mem_cons.mpr ⟨lw_p24, List.forall_mem_cons.mpr ⟨lw_p25, List.forall_mem_cons.mpr ⟨lw_p26, List.forall_mem_cons.mpr ⟨lw_p27, List.forall_mem_cons.mpr ⟨lw_p28, List.forall_mem_cons.mpr ⟨lw_p29, List.forall_mem_cons.mpr ⟨lw_p30, List.forall_mem_cons.mpr ⟨lw_p31, fun _ h => absurd h List.not_mem_nil⟩⟩⟩⟩⟩⟩⟩⟩⟩⟩⟩⟩⟩⟩⟩⟩
theorem lw_p32 : lw_okq (⟨"FontShelfModel", "byteOf", "(I)I"⟩, 20) := ⟨⟨by decide +kernel, by decide +kernel⟩, List.mem_of_getElem? (i := 627) (by decide +kernel), List.mem_of_getElem? (i := 754) (by decide +kernel), List.mem_of_getElem? (i := 755) (by decide +kernel)⟩
theorem lw_p33 : lw_okq (⟨"FontShelfModel", "glyphsOf", "(I)I"⟩, 20) := ⟨⟨by decide +kernel, by decide +kernel⟩, List.mem_of_getElem? (i := 627) (by decide +kernel), List.mem_of_getElem? (i := 758) (by decide +kernel), List.mem_of_getElem? (i := 759) (by decide +kernel)⟩
theorem lw_p34 : lw_okq (⟨"FontShelfModel", "choose", "(I)I"⟩, 20) := ⟨⟨by decide +kernel, by decide +kernel⟩, List.mem_of_getElem? (i := 627) (by decide +kernel), List.mem_of_getElem? (i := 778) (by decide +kernel), List.mem_of_getElem? (i := 779) (by decide +kernel)⟩
theorem lw_p35 : lw_okq (⟨"FontShelfModel", "strike", "(II)Z"⟩, 20) := ⟨⟨by decide +kernel, by decide +kernel⟩, List.mem_of_getElem? (i := 627) (by decide +kernel), List.mem_of_getElem? (i := 782) (by decide +kernel), List.mem_of_getElem? (i := 783) (by decide +kernel)⟩
theorem lw_p36 : lw_okq (⟨"FontShelfModel", "byPitch", "(I)V"⟩, 20) := ⟨⟨by decide +kernel, by decide +kernel⟩, List.mem_of_getElem? (i := 627) (by decide +kernel), List.mem_of_getElem? (i := 786) (by decide +kernel), List.mem_of_getElem? (i := 787) (by decide +kernel)⟩
theorem lw_p37 : lw_okq (⟨"FontShelfModel", "end", "(IIIZ)I"⟩, 20) := ⟨⟨by decide +kernel, by decide +kernel⟩, List.mem_of_getElem? (i := 627) (by decide +kernel), List.mem_of_getElem? (i := 790) (by decide +kernel), List.mem_of_getElem? (i := 791) (by decide +kernel)⟩
theorem lw_p38 : lw_okq (⟨"FontShelfModel", "byHeight", "(I)V"⟩, 20) := ⟨⟨by decide +kernel, by decide +kernel⟩, List.mem_of_getElem? (i := 627) (by decide +kernel), List.mem_of_getElem? (i := 794) (by decide +kernel), List.mem_of_getElem? (i := 795) (by decide +kernel)⟩
theorem lw_p39 : lw_okq (⟨"FontShelfModel", "byWeight", "(I)V"⟩, 20) := ⟨⟨by decide +kernel, by decide +kernel⟩, List.mem_of_getElem? (i := 627) (by decide +kernel), List.mem_of_getElem? (i := 798) (by decide +kernel), List.mem_of_getElem? (i := 799) (by decide +kernel)⟩
theorem lw_p40 : lw_okq (⟨"FontShelfModel", "chosenGlyph", "(II)I"⟩, 20) := ⟨⟨by decide +kernel, by decide +kernel⟩, List.mem_of_getElem? (i := 627) (by decide +kernel), List.mem_of_getElem? (i := 810) (by decide +kernel), List.mem_of_getElem? (i := 811) (by decide +kernel)⟩
theorem lw_p41 : lw_okq (⟨"FontShelfModel", "isBlack", "(III)Z"⟩, 20) := ⟨⟨by decide +kernel, by decide +kernel⟩, List.mem_of_getElem? (i := 627) (by decide +kernel), List.mem_of_getElem? (i := 814) (by decide +kernel), List.mem_of_getElem? (i := 815) (by decide +kernel)⟩
def lw_privs_3 : List (MethodName × Nat) := [(⟨"FontShelfModel", "byteOf", "(I)I"⟩, 20), (⟨"FontShelfModel", "glyphsOf", "(I)I"⟩, 20), (⟨"FontShelfModel", "choose", "(I)I"⟩, 20), (⟨"FontShelfModel", "strike", "(II)Z"⟩, 20), (⟨"FontShelfModel", "byPitch", "(I)V"⟩, 20), (⟨"FontShelfModel", "end", "(IIIZ)I"⟩, 20), (⟨"FontShelfModel", "byHeight", "(I)V"⟩, 20), (⟨"FontShelfModel", "byWeight", "(I)V"⟩, 20), (⟨"FontShelfModel", "chosenGlyph", "(II)I"⟩, 20), (⟨"FontShelfModel", "isBlack", "(III)Z"⟩, 20)]
theorem lw_r3 : ∀ q ∈ lw_privs_3, lw_okq q := List.forall_mem_cons.mpr ⟨lw_p32, List.forall_mem_cons.mpr ⟨lw_p33, List.forall_mem_cons.mpr ⟨lw_p34, List.forall_mem_cons.mpr ⟨lw_p35, List.forall_mem_cons.mpr ⟨lw_p36, List.forall_mem_cons.mpr ⟨lw_p37, List.forall_mem_cons.mpr ⟨lw_p38, List.forall_mem_cons.mpr ⟨lw_p39, List.forall_mem_cons.mpr ⟨lw_p40, List.forall_mem_cons.mpr ⟨lw_p41, fun _ h => absurd h List.not_mem_nil⟩⟩⟩⟩⟩⟩⟩⟩⟩⟩
def lw_privs : List (MethodName × Nat) := lw_privs_1 ++ (lw_privs_2 ++ (lw_privs_3))
def lw_tbl : List Cond := k2_sels lw_privs ++ tables_1
theorem lw_privs_ok : ∀ q ∈ lw_privs, lw_okq q := by
  show ∀ q ∈ lw_privs_1 ++ (lw_privs_2 ++ (lw_privs_3)), lw_okq q
  exact List.forall_mem_append.mpr ⟨lw_r1, List.forall_mem_append.mpr ⟨lw_r2, lw_r3⟩⟩
end
section
/-! ===== BEGIN words of one list among another's, by their places ===== -/
theorem goodIn_r {big : List Cond} (ws : List Cond) (ps : List Nat) (hp : ws = ps.filterMap (fun i => big[i]?)) (h : ws.all goodWord = true) : GoodIn big ws := by
  intro w hw
  have h1 := List.all_eq_true.mp h w hw
  rw [hp] at hw
  obtain ⟨i, -, hi⟩ := List.mem_filterMap.mp hw
  have hm : w ∈ big := by first | exact List.mem_of_getElem? hi | exact List.getElem?_mem hi
  exact ⟨hm, good_of_word h1⟩
theorem goodIn_app {big a b : List Cond} (ha : GoodIn big a) (hb : GoodIn big b) : GoodIn big (a ++ b) := fun w h => (List.mem_append.mp h).elim (ha w) (hb w)
theorem goodIn_ca {big a b : List Cond} {c : Cond} (ha : GoodIn big (c :: a)) (hb : GoodIn big b) : GoodIn big (c :: (a ++ b)) := fun w h => (List.mem_cons.mp h).elim (fun e => ha w (List.mem_cons.mpr (Or.inl e))) (fun h => (List.mem_append.mp h).elim (fun h => ha w (List.mem_cons.mpr (Or.inr h))) (hb w))
theorem goodIn_sub {big ws : List Cond} (hm : ∀ w ∈ ws, w ∈ big) (h : ws.all goodWord = true) : GoodIn big ws := fun w hw => ⟨hm w hw, good_of_word (List.all_eq_true.mp h w hw)⟩
/-! ===== END ===== -/

/-! ===== BEGIN exceptions that leave a method, and their catching by the caller (launches without stack traces) ===== -/
section VXA
/-! The laws vx_back, vx_callV, vx_callS, vx_callSW, vx_throw0, vx_throwS follow proofs of the library, with one case more: JvmDerived/Free/Laws.lean (Back.of_free), Shelf42/LK1.lean (callV, callS), Shelf/KitTraced.lean (throwNew0V, throwNewS). -/
/-- where a method has thrown q: the class by its name, the cell, what was written, the world -/
def vx_T (XC : String → State → State → Prop) (st : State) (q : Addr) (t : State) (mc ms : Nat) (free : Addr → Prop) : Prop :=
  ∃ (E : String) (ce : Cell) (L : List Loc), XC E st t ∧ t.heap[q]? = some ce ∧ ce.vm = .none ∧ st.vm.findClass E = some ce.cls ∧ st.WarmedH t.vm ∧ st.sameButNew ({ t with vm := st.vm } : State) L mc ms ∧ ∀ z ∈ L, free z.base
def vx_Q (Qc : Array Value → State → Outcome → State → Prop) (XC : String → State → State → Prop) (mc ms : Nat) (free : Addr → Prop) : Array Value → State → Outcome → State → Prop := fun a st o t =>
  (Qc a st o t ∧ ∃ L, FrameEnd st o t L mc ms ∧ ∀ q ∈ L, free q.base) ∨ ∃ q, o = .threw q ∧ vx_T XC st q t mc ms free
/-- a callee that returns or throws -/
def vx_Met (l : Launch) (y : MethodName) (ws : List Cond) (rm : Room) (Pc : Array Value → State → Prop) (Qc : Array Value → State → Outcome → State → Prop) (XC : String → State → State → Prop) (mc ms : Nat) (free : Addr → Prop) : Prop :=
  MetFree l y (headSpec ws rm) Pc (fun _ _ _ _ _ => True) (vx_Q Qc XC mc ms free)
def vx_Post (XC : String → State → State → Prop) (mc ms : Nat) (free : Addr → Prop) : Pt → Array Value → Addr → Pt → Prop := fun A a q B =>
  ∃ (g : JFrame) (mk : MethodId) (t : State) (L : List Loc) (E : String) (ce : Cell), B.U.heap = t.heap ∧ B.U.vm = t.vm ∧ XC E (A.U.calling g mk a) t ∧ t.heap[q]? = some ce ∧ ce.vm = .none ∧ A.U.vm.findClass E = some ce.cls ∧ B.locs = A.locs ++ L ∧ (∀ z ∈ L, free z.base) ∧ B.cells = A.cells + mc ∧ B.slots = A.slots + ms
def vx_Back (l : Launch) (R : Room) (p : Program) (e : Env) (below : List Frame) (s : State) (sargs : Array Value) (y : MethodName) (len W9 : Nat)
    (Pre : Pt → Array Value → Prop) (Post : Pt → Array Value → Option Value → Pt → Prop) (PostX : Pt → Array Value → Addr → Pt → Prop) : Prop :=
  ∀ (m : MethodId) (meth : Method) (c : Code) (A : Pt) (g : JFrame) (ig : Instr) (mk : MethodId) (a : Array Value),
    Stand p l e R s m sargs below meth c A.U A.locs A.cells A.slots → g.method = m → g.locals.size = c.maxLocals → decode c.code g.pc = .ok (ig, len) →
    2 * g.monitorRoom + (g.stack.map fun v => v.category).sum ≤ W9 → A.U.methodNamed? y = some mk → Pre A a →
    (∃ (v : Option Value) (B : Pt), Stand p l e R s m sargs below meth c B.U B.locs B.cells B.slots ∧ Post A a v B ∧
      Steps p.tables e below (doInvoke e (A.U.setTop g) [] mk a).1 (B.U.setTop { g with pc := g.pc + len, stack := v.toList ++ g.stack })) ∨
    (∃ (q : Addr) (B : Pt), Stand p l e R s m sargs below meth c B.U B.locs B.cells B.slots ∧ PostX A a q B ∧
      Steps p.tables e below (doInvoke e (A.U.setTop g) [] mk a).1 ((B.U.setTop g).pushFrame (.throwing q)))
section Payer
variable {l : Launch} {R : Room} {p : Program} {e : Env} {below : List Frame} {s : State} {sargs : Array Value} {y : MethodName} {len W9 : Nat}
theorem vx_back {ws : List Cond} {rm : Room} {Pc : Array Value → State → Prop} {Qc : Array Value → State → Outcome → State → Prop} {XC : String → State → State → Prop} {mc ms : Nat} {free : Addr → Prop} {bytes : ByteArray} {maxL : Nat} {ret : Option FieldType}
    (hM : vx_Met l y ws rm Pc Qc XC mc ms free) (hblind : FrameBlind Pc) (hrc : rm.cells = mc) (hrs : rm.slots = ms)
    (hframes : rm.frames + 1 ≤ R.frames) (hlocals : W9 + (maxL + 11) + rm.locals ≤ R.locals)
    (hws : ∀ w ∈ ws, ∀ a' U, s.WarmedH U.vm → w.before a' U = true) (hcode : Cond.code y bytes maxL ret ∈ ws) (hinit : ∀ a' U, s.WarmedH U.vm → (Cond.initialized y.cls).before a' U = true) :
    vx_Back l R p e below s sargs y len W9 (PreOf R mc ms Pc) (PostOf Qc mc ms free) (vx_Post XC mc ms free) := by
  intro m meth c A g ig mk a X hg hsize hdg hW hn hp
  have h1 : (headSpec ws rm).pre.before a A.U = true := atoms_intro fun w hw => hws w hw _ _ X.warmed
  have h2 : (Cond.code y bytes maxL ret).before a A.U = true := hws _ hcode _ _ X.warmed
  have h3 : (Cond.initialized y.cls).before a A.U = true := hinit _ _ X.warmed
  have h4 : A.cells + (headSpec ws rm).room.cells ≤ R.cells := by rw [show (headSpec ws rm).room.cells = mc from hrc]; exact hp.1
  have h5 : A.slots + (headSpec ws rm).room.slots ≤ R.slots := by rw [show (headSpec ws rm).room.slots = ms from hrs]; exact hp.2.1
  have hPc : Pc a (A.U.calling g mk a) := hblind _ _ _ _ hp.2.2
  obtain ⟨U, Ls, c0, s0⟩ := A
  dsimp only [Pt.U, Pt.locs, Pt.cells, Pt.slots] at h1 h2 h3 h4 h5 X hn hPc ⊢
  obtain ⟨methY, cY, hmY, hcY, -, hlY, -, -, -, -⟩ := Cond.code_spec hn h2
  obtain ⟨kY, hkY, -⟩ := className_of_methodNamed hn
  have hinitY : kY.init = .initialized := Cond.initialized_spec (findClass_of_methodNamed hn) hkY h3
  have h : At U g.method c below := by rw [hg]; exact X.here
  have hlocals9 : W9 + (maxL + 11) + (headSpec ws rm).room.locals ≤ R.locals := hlocals
  have happ : (headSpec ws rm).appliesLoose y e.platform (U.calling g mk a) = true :=
    Spec.appliesLoose_calling (g := g) h hdg hn hkY hinitY
      (X.room_calling (g := g) (R' := (headSpec ws rm).room) hsize hmY hcY hframes (by rw [hlY]; omega) h4 h5) h1
  obtain ⟨mid, hmid⟩ := h.above
  have hfr : (U.setTop g).frames = (.java g :: mid) ++ below := by rw [State.frames_setTop' g h.top, hmid]; rfl
  obtain ⟨o, s₂, hsteps, -, hend, hq⟩ := Steps.callFree hM p X.admits X.cas X.clock (acts := []) hfr happ hPc trivial
  have hq' : vx_Q Qc XC mc ms free a (U.calling g mk a) o s₂ := hq
  rw [State.frames_setTop' g h.top] at hend
  obtain ⟨g₀, hg0⟩ := Option.isSome_iff_exists.mp h.top
  obtain ⟨r, hr⟩ := State.topJava?_eq_some.mp hg0
  have hr' : (({ U with heap := s₂.heap, slotsUsed := s₂.slotsUsed } : State).setVm s₂.vm).frames = .java g₀ :: r := hr
  rcases hq' with ⟨hqc, L, hfe, hL⟩ | ⟨q, rfl, E, ce, L, hx, hce, hcv, hcl, hW₂, hsm, hL⟩
  · obtain ⟨⟨v, rfl⟩, hW₂, e2, q2, q3, q4, q5, q6⟩ := id hfe
    have e3 : s₂ = ({ (U.calling g mk a).setFrames s₂.frames with heap := s₂.heap, slotsUsed := s₂.slotsUsed } : State).setVm s₂.vm := by
      have : s₂ = ({ s₂ with vm := (U.calling g mk a).vm } : State).setVm s₂.vm := rfl
      rw [e2] at this
      exact this
    obtain ⟨c₂, i₂, len₂, hc₂, hd₂, hf₂⟩ := hend
    have hW' : U.WarmedH s₂.vm := hW₂
    have hcc : c₂ = c := by
      have h1 : s₂.code? g.method = U.code? g.method := by
        rw [State.code?_eq, State.code?_eq, hW'.alike.method?]
      exact Option.some.inj (hc₂.symm.trans (h1.trans h.code))
    subst hcc
    have hlen : len₂ = len := by rw [hdg] at hd₂; cases hd₂; rfl
    subst hlen
    have hs₂ : s₂ = (({ U with heap := s₂.heap, slotsUsed := s₂.slotsUsed } : State).setVm s₂.vm).setTop { g with pc := g.pc + len₂, stack := v.toList ++ g.stack } := by
      refine e3.trans ?_
      rw [hf₂, State.calling_eq h.top, State.setFrames_setFrames, State.setTop_of_frames _ hr', hr]
      rfl
    have hsame : U.sameButNew ({ U with heap := s₂.heap, slotsUsed := s₂.slotsUsed } : State) L mc ms := by
      refine ⟨?_, q2, q3, q4, q5, q6⟩
      obtain ⟨t, ht, -⟩ := State.frames_cons hr
      show ({ U with heap := s₂.heap, slotsUsed := s₂.slotsUsed } : State) = { U.setFrames U.frames with heap := s₂.heap, slotsUsed := s₂.slotsUsed }
      rw [State.setFrames_self ht]
    subst hg
    refine Or.inl ⟨v, ⟨(({ U with heap := s₂.heap, slotsUsed := s₂.slotsUsed } : State).setVm s₂.vm), Ls ++ L, c0 + mc, s0 + ms⟩,
      ⟨X.admits, X.cas, X.clock, X.frames, X.room, X.hears, X.method, X.code, (X.here.setHeapUsed s₂.heap s₂.slotsUsed).setVm hW'.alike, X.tail, State.WarmedH.trans X.warmed hW', X.limits, X.bytes, X.same.trans (hsame.setVm s.vm)⟩,
      ⟨g, mk, s₂, L, rfl, rfl, hqc, rfl, hL, rfl, rfl⟩, ?_⟩
    show Steps p.tables e below _ ((({ U with heap := s₂.heap, slotsUsed := s₂.slotsUsed } : State).setVm s₂.vm).setTop { g with pc := g.pc + len₂, stack := v.toList ++ g.stack })
    rw [← hs₂]
    exact hsteps
  · obtain ⟨e2, q2, q3, q4, q5, q6⟩ := id hsm
    have e3 : s₂ = ({ (U.calling g mk a).setFrames s₂.frames with heap := s₂.heap, slotsUsed := s₂.slotsUsed } : State).setVm s₂.vm := by
      have : s₂ = ({ s₂ with vm := (U.calling g mk a).vm } : State).setVm s₂.vm := rfl
      rw [e2] at this
      exact this
    have hf₂ : s₂.frames = .throwing q :: .java g :: U.frames.tail := hend
    have hW' : U.WarmedH s₂.vm := hW₂
    have hs₂ : s₂ = ((({ U with heap := s₂.heap, slotsUsed := s₂.slotsUsed } : State).setVm s₂.vm).setTop g).pushFrame (.throwing q) := by
      refine e3.trans ?_
      rw [hf₂, State.calling_eq h.top, State.setFrames_setFrames, State.pushFrame, State.frames_setTop _ hr', State.setTop_of_frames _ hr', State.setFrames_setFrames, hr]
      rfl
    have hsame : U.sameButNew ({ U with heap := s₂.heap, slotsUsed := s₂.slotsUsed } : State) L mc ms := by
      refine ⟨?_, q2, q3, q4, q5, q6⟩
      obtain ⟨t, ht, -⟩ := State.frames_cons hr
      show ({ U with heap := s₂.heap, slotsUsed := s₂.slotsUsed } : State) = { U.setFrames U.frames with heap := s₂.heap, slotsUsed := s₂.slotsUsed }
      rw [State.setFrames_self ht]
    subst hg
    refine Or.inr ⟨q, ⟨(({ U with heap := s₂.heap, slotsUsed := s₂.slotsUsed } : State).setVm s₂.vm), Ls ++ L, c0 + mc, s0 + ms⟩,
      ⟨X.admits, X.cas, X.clock, X.frames, X.room, X.hears, X.method, X.code, (X.here.setHeapUsed s₂.heap s₂.slotsUsed).setVm hW'.alike, X.tail, State.WarmedH.trans X.warmed hW', X.limits, X.bytes, X.same.trans (hsame.setVm s.vm)⟩,
      ⟨g, mk, s₂, L, E, ce, rfl, rfl, hx, hce, hcv, hcl, rfl, hL, rfl, rfl⟩, ?_⟩
    show Steps p.tables e below _ (((({ U with heap := s₂.heap, slotsUsed := s₂.slotsUsed } : State).setVm s₂.vm).setTop g).pushFrame (.throwing q))
    rw [← hs₂]
    exact hsteps
end Payer
section Calls
variable {p : Program} {l : Launch} {e : Env} {R : Room} {s : State} {m : MethodId} {args : Array Value} {below : List Frame} {meth : Method} {c : Code} {T : State} {locs : List Loc} {cells slots : Nat}
theorem vx_callV (X : Stand p l e R s m args below meth c T locs cells slots) (hexec : p.tables.exec = Jvm.exec) {own C : String} {index : Nat} {y : MethodName} {bytes : ByteArray} {maxL : Nat} {ret : Option FieldType}
    (hown : s.vm.findClass own = some m.cls) (hlink : (Cond.methodLink own index y).before args s = true) (hinst : (Cond.instanceMethod y).before args s = true) (hsel : (Cond.selects C y y).before args s = true)
    (hcode : (Cond.code y bytes maxL ret).before args s = true) (hy : y.cls ≠ "java/lang/invoke/MethodHandle" ∧ y.cls ≠ "java/lang/invoke/VarHandle")
    {W9 : Nat} {Pre : Pt → Array Value → Prop} {Post : Pt → Array Value → Option Value → Pt → Prop} {PostX : Pt → Array Value → Addr → Pt → Prop} (hK : vx_Back l R p e below s args y 3 W9 Pre Post PostX)
    {b : Addr} {cellB : Cell} (hcell : T.heap[b]? = some cellB) (hobj : cellB.vm.isStatics = false) (hcls : s.vm.findClass C = some cellB.cls)
    {g : JFrame} (hg : g.method = m) (hsize : g.locals.size = c.maxLocals) {argsL rest : List Value} (hlen : ∀ sig, parseMethodDescriptor y.desc = some sig → argsL.length = sig.parameters.length)
    (hstack : g.stack = argsL.reverse ++ .ref b :: rest) (hW : 2 * g.monitorRoom + (rest.map fun v => v.category).sum ≤ W9) (hdg : decode c.code g.pc = .ok (.invokevirtual index, 3))
    (hpre : ∀ vm₁, s.WarmedH vm₁ → Pre ⟨T.setVm vm₁, locs, cells, slots⟩ (Value.ref b :: argsL).toArray) :
    (∃ (v : Option Value) (vm₁ : Vm) (B : Pt), s.WarmedH vm₁ ∧ Stand p l e R s m args below meth c B.U B.locs B.cells B.slots ∧ Post ⟨T.setVm vm₁, locs, cells, slots⟩ (Value.ref b :: argsL).toArray v B ∧
      ∀ target, Steps p.tables e below (B.U.setTop { g with pc := g.pc + 3, stack := v.toList ++ rest }) target → Steps p.tables e below (T.setTop g) target) ∨
    (∃ (q : Addr) (vm₁ : Vm) (B : Pt), s.WarmedH vm₁ ∧ Stand p l e R s m args below meth c B.U B.locs B.cells B.slots ∧ PostX ⟨T.setVm vm₁, locs, cells, slots⟩ (Value.ref b :: argsL).toArray q B ∧
      Steps p.tables e below (T.setTop g) ((B.U.setTop { g with stack := rest }).pushFrame (.throwing q))) := by
  obtain ⟨mk, methM, hnamed, hmethM, hstM, habM⟩ := Cond.instanceMethod_spec hinst
  obtain ⟨methM', cM, hmethM', -, -, -, -, -, -, hsigM⟩ := Cond.code_spec hnamed hcode
  cases hmethM.symm.trans hmethM'
  obtain ⟨c2, r2, m2, q1, q2, q3, q4, kP, hkP, hkPi⟩ := Cond.selects_spec hsel
  cases hcls.symm.trans q1
  cases (State.methodFound?_of_named hnamed hy).symm.trans q2
  cases hnamed.symm.trans q3
  have hselP : selectMethod e.platform s.vm cellB.cls mk = .method mk := by rw [Launch.admits_selectMethod X.admits]; exact q4
  obtain ⟨vm₁, X₁, hstep₁⟩ := X.invokevirtual hexec hown hlink hnamed hmethM hstM hkP hkPi hy (a := b) (cell := cellB) hcell
    (fun z h => by rw [h] at hobj; cases hobj) hselP hmethM habM hkP hkPi (g := g) hg (argsL := argsL) (rest := rest) (hlen _ hsigM) hstack hdg
  rcases hK m meth c ⟨T.setVm vm₁, locs, cells, slots⟩ { g with stack := rest } (.invokevirtual index) mk (Value.ref b :: argsL).toArray X₁ hg hsize hdg hW (X₁.named hnamed) (hpre vm₁ X₁.warmed) with ⟨v, B, X', hpost, hsteps⟩ | ⟨q, B, X', hpost, hsteps⟩
  · exact Or.inl ⟨v, vm₁, B, X₁.warmed, X', hpost, fun target h => hstep₁ _ fun acts => by rw [doInvoke_state]; exact hsteps.trans h⟩
  · exact Or.inr ⟨q, vm₁, B, X₁.warmed, X', hpost, hstep₁ _ fun acts => by rw [doInvoke_state]; exact hsteps⟩
theorem vx_callS (X : Stand p l e R s m args below meth c T locs cells slots) (hexec : p.tables.exec = Jvm.exec) {own : String} {index : Nat} {y : MethodName} {bytes : ByteArray} {maxL : Nat} {ret : Option FieldType}
    (hown : s.vm.findClass own = some m.cls) (hlink : (Cond.methodLink own index y).before args s = true) (hstat : (Cond.static y).before args s = true) (hinit : (Cond.initialized y.cls).before args s = true)
    (hcode : (Cond.code y bytes maxL ret).before args s = true) (hy : y.cls ≠ "java/lang/invoke/MethodHandle" ∧ y.cls ≠ "java/lang/invoke/VarHandle")
    {W9 : Nat} {Pre : Pt → Array Value → Prop} {Post : Pt → Array Value → Option Value → Pt → Prop} {PostX : Pt → Array Value → Addr → Pt → Prop} (hK : vx_Back l R p e below s args y 3 W9 Pre Post PostX)
    {g : JFrame} (hg : g.method = m) (hsize : g.locals.size = c.maxLocals) {argsL rest : List Value} (hlen : ∀ sig, parseMethodDescriptor y.desc = some sig → argsL.length = sig.parameters.length)
    (hstack : g.stack = argsL.reverse ++ rest) (hW : 2 * g.monitorRoom + (rest.map fun v => v.category).sum ≤ W9) (hdg : decode c.code g.pc = .ok (.invokestatic index, 3))
    (hpre : ∀ vm₁, s.WarmedH vm₁ → Pre ⟨T.setVm vm₁, locs, cells, slots⟩ argsL.toArray) :
    (∃ (v : Option Value) (vm₁ : Vm) (B : Pt), s.WarmedH vm₁ ∧ Stand p l e R s m args below meth c B.U B.locs B.cells B.slots ∧ Post ⟨T.setVm vm₁, locs, cells, slots⟩ argsL.toArray v B ∧
      ∀ target, Steps p.tables e below (B.U.setTop { g with pc := g.pc + 3, stack := v.toList ++ rest }) target → Steps p.tables e below (T.setTop g) target) ∨
    (∃ (q : Addr) (vm₁ : Vm) (B : Pt), s.WarmedH vm₁ ∧ Stand p l e R s m args below meth c B.U B.locs B.cells B.slots ∧ PostX ⟨T.setVm vm₁, locs, cells, slots⟩ argsL.toArray q B ∧
      Steps p.tables e below (T.setTop g) ((B.U.setTop { g with stack := rest }).pushFrame (.throwing q))) := by
  obtain ⟨mk, hnamed⟩ := Cond.code_named hcode
  obtain ⟨methM, cM, hmethM, -, -, -, -, -, -, hsigM⟩ := Cond.code_spec hnamed hcode
  have hstatic : methM.isStatic = true := Cond.static_spec hnamed hmethM hstat
  obtain ⟨kP, hkP, -⟩ := className_of_methodNamed hnamed
  have hinitP : kP.init = .initialized := Cond.initialized_spec (findClass_of_methodNamed hnamed) hkP hinit
  obtain ⟨vm₁, X₁, hstep₁⟩ := X.invokestatic hexec hown hlink hnamed hmethM hstatic hkP hinitP hy (g := g) hg (argsL := argsL) (rest := rest) (hlen _ hsigM) hstack hdg
  rcases hK m meth c ⟨T.setVm vm₁, locs, cells, slots⟩ { g with stack := rest } (.invokestatic index) mk argsL.toArray X₁ hg hsize hdg hW (X₁.named hnamed) (hpre vm₁ X₁.warmed) with ⟨v, B, X', hpost, hsteps⟩ | ⟨q, B, X', hpost, hsteps⟩
  · exact Or.inl ⟨v, vm₁, B, X₁.warmed, X', hpost, fun target h => hstep₁ _ fun acts => by rw [doInvoke_state]; exact hsteps.trans h⟩
  · exact Or.inr ⟨q, vm₁, B, X₁.warmed, X', hpost, hstep₁ _ fun acts => by rw [doInvoke_state]; exact hsteps⟩
end Calls
theorem vx_cls {s : State} {T : State} {vm₁ : Vm} {E : String} {k : ClassId} (hW : s.WarmedH vm₁) (h : (T.setVm vm₁).vm.findClass E = some k) : s.vm.findClass E = some k := by
  have h1 : vm₁.findClass E = some k := h
  rw [hW.alike.findClass] at h1
  exact h1
/-- the method's frame g, with q thrown over it -/
def vx_W (p : Program) (l : Launch) (e : Env) (R : Room) (s : State) (m : MethodId) (args : Array Value) (below : List Frame) (meth : Method) (c : Code) (H : Heap) (locs : List Loc) (cells slots : Nat) (Q : State → Prop) (g : JFrame) (q : Addr) : Prop :=
  ∀ T : State, T.heap = H → Stand p l e R s m args below meth c T locs cells slots → ∃ t, Steps p.tables e below ((T.setTop g).pushFrame (.throwing q)) t ∧ Q t
def vx_Run (p : Program) (l : Launch) (e : Env) (R : Room) (s : State) (m : MethodId) (args : Array Value) (below : List Frame) (meth : Method) (c : Code) (H : Heap) (locs : List Loc) (cells slots mc ms : Nat) (g : JFrame) (rest : List Value) (Qa : State → Outcome → State → Prop) (XC : String → State → State → Prop) (free : Addr → Prop) : Prop :=
  ∀ T : State, T.heap = H → Stand p l e R s m args below meth c T locs cells slots →
    (∃ (v : Option Value) (st₀ t T' : State) (L : List Loc), st₀.heap = H ∧ Stand p l e R s m args below meth c T' (locs ++ L) (cells + mc) (slots + ms) ∧ (∀ q ∈ L, free q.base) ∧ T'.heap = t.heap ∧ T'.vm = t.vm ∧ Qa st₀ (.returned v) t ∧
      Goes p e below T g T' { g with pc := g.pc + 3, stack := v.toList ++ rest }) ∨
    (∃ (q : Addr) (st₀ t T' : State) (L : List Loc) (E : String) (ce : Cell), st₀.heap = H ∧ Stand p l e R s m args below meth c T' (locs ++ L) (cells + mc) (slots + ms) ∧ (∀ z ∈ L, free z.base) ∧ T'.heap = t.heap ∧ T'.vm = t.vm ∧ XC E st₀ t ∧ t.heap[q]? = some ce ∧ ce.vm = .none ∧ s.vm.findClass E = some ce.cls ∧
      Steps p.tables e below (T.setTop g) ((T'.setTop { g with stack := rest }).pushFrame (.throwing q)))
def vx_X {S : Type} (px : S → Prop) (B : String → S → State → Prop) (A : Nat → Prop) : String → State → State → Prop := fun E st t => ∃ u : S, px u ∧ B E u t ∧ va_F A st t
section Runs
variable {p : Program} {l : Launch} {e : Env} {R : Room} {s : State} {m : MethodId} {args : Array Value} {below : List Frame} {meth : Method} {c : Code} {H : Heap} {locs : List Loc} {cells slots : Nat}
variable {y : MethodName} {bytes cc : ByteArray} {maxL nL mc ms n index : Nat} {ret : Option FieldType} {ws : List Cond} {rm : Room} {Pc : Array Value → State → Prop} {Qc : Array Value → State → Outcome → State → Prop} {XC : String → State → State → Prop} {free : Addr → Prop} {Ts : List Cond} {own C : String} {b : Addr} {As rest : List Value} {g : JFrame}
theorem vx_callBack (cb : CallB R s args own index y bytes maxL ret ws rm mc ms n) (hM : vx_Met l y ws rm Pc Qc XC mc ms free) (hbl : FrameBlind Pc) : vx_Back l R p e below s args y 3 8 (PreOf R mc ms Pc) (PostOf Qc mc ms free) (vx_Post XC mc ms free) := by
  obtain ⟨hrc, hrs, hfr, hlo, hws, hcw, -, hini, -⟩ := cb
  exact vx_back (bytes := bytes) (maxL := maxL) (ret := ret) hM hbl hrc hrs hfr hlo hws hcw (fun a' U hW => word_at hW (Or.inl (by first | rfl | simp [Cond.onTables, Cond.keeps, Cond.steady])) hini)
theorem vx_runV (S : CallFix p m c cc nL s args Ts own) (hM : vx_Met l y ws rm Pc Qc XC mc ms free) (cw : CallW R s args own C index y bytes maxL ret ws rm mc ms n) (hp : PreV s H C b Pc As)
    (hg : g.method = m) (hn : As.length = n) (hsize : g.locals.size = nL) (hstack : g.stack = As.reverse ++ .ref b :: rest) (hW : 2 * g.monitorRoom + (rest.map fun v => v.category).sum ≤ 8) (hdg : decode cc g.pc = .ok (.invokevirtual index, 3)) (hf : cells + mc ≤ R.cells ∧ slots + ms ≤ R.slots) :
    vx_Run p l e R s m args below meth c H locs cells slots mc ms g rest (Qc (Value.ref b :: As).toArray) XC free := by
  have hK : vx_Back l R p e below s args y 3 8 (PreOf R mc ms Pc) (PostOf Qc mc ms free) (vx_Post XC mc ms free) := vx_callBack cw.1 hM hp.1
  obtain ⟨⟨-, -, -, -, -, -, hcode, -, hy, hlen, hl⟩, hin, hse⟩ := cw
  obtain ⟨hx, hb, hml, ho, -⟩ := S
  obtain ⟨-, ⟨cellB, hcB, hoB, hclB⟩, hPc⟩ := hp
  intro T hT X
  rcases vx_callV X hx (C := C) (bytes := bytes) (maxL := maxL) (ret := ret) ho hl hin hse hcode hy hK (by rw [hT]; exact hcB) hoB hclB hg (hsize.trans hml.symm) (argsL := As) (rest := rest) (fun sig h => hn.trans (hlen sig h)) hstack hW (by rw [hb]; exact hdg)
    (fun vm₁ hW₁ => ⟨hf.1, hf.2, hPc (T.setVm vm₁) hT hW₁⟩) with ⟨v, vm₁, ⟨U', l2, c2, s2⟩, hW₁, X', ⟨g', mk, t, L, e1, e2, hq, h1, hL, h2, h3⟩, st⟩ | ⟨q, vm₁, ⟨U', l2, c2, s2⟩, hW₁, X', ⟨g', mk, t, L, E, ce, e1, e2, hq, hce, hcv, hcl, h1, hL, h2, h3⟩, st⟩
  · dsimp only [Pt.U, Pt.locs, Pt.cells, Pt.slots] at X' e1 e2 h1 h2 h3 st
    subst h1; subst h2; subst h3
    exact Or.inl ⟨v, (T.setVm vm₁).calling g' mk (Value.ref b :: As).toArray, t, U', L, hT, X', hL, e1, e2, hq, st⟩
  · dsimp only [Pt.U, Pt.locs, Pt.cells, Pt.slots] at X' e1 e2 h1 h2 h3 st hcl
    subst h1; subst h2; subst h3
    exact Or.inr ⟨q, (T.setVm vm₁).calling g' mk (Value.ref b :: As).toArray, t, U', L, E, ce, hT, X', hL, e1, e2, hq, hce, hcv, vx_cls hW₁ hcl, st⟩
theorem vx_runS (S : CallFix p m c cc nL s args Ts own) (hM : vx_Met l y ws rm Pc Qc XC mc ms free) (cw : CallB R s args own index y bytes maxL ret ws rm mc ms n ∧ (Cond.static y).before args s = true) (hp : PreS s H Pc As)
    (hg : g.method = m) (hn : As.length = n) (hsize : g.locals.size = nL) (hstack : g.stack = As.reverse ++ rest) (hW : 2 * g.monitorRoom + (rest.map fun v => v.category).sum ≤ 8) (hdg : decode cc g.pc = .ok (.invokestatic index, 3)) (hf : cells + mc ≤ R.cells ∧ slots + ms ≤ R.slots) :
    vx_Run p l e R s m args below meth c H locs cells slots mc ms g rest (Qc As.toArray) XC free := by
  have hK : vx_Back l R p e below s args y 3 8 (PreOf R mc ms Pc) (PostOf Qc mc ms free) (vx_Post XC mc ms free) := vx_callBack cw.1 hM hp.1
  obtain ⟨⟨-, -, -, -, -, -, hcode, hini, hy, hlen, hl⟩, hstt⟩ := cw
  obtain ⟨hx, hb, hml, ho, -⟩ := S
  intro T hT X
  rcases vx_callS X hx (bytes := bytes) (maxL := maxL) (ret := ret) ho hl hstt hini hcode hy hK hg (hsize.trans hml.symm) (argsL := As) (rest := rest) (fun sig h => hn.trans (hlen sig h)) hstack hW (by rw [hb]; exact hdg)
    (fun vm₁ hW₁ => ⟨hf.1, hf.2, hp.2 (T.setVm vm₁) hT hW₁⟩) with ⟨v, vm₁, ⟨U', l2, c2, s2⟩, hW₁, X', ⟨g', mk, t, L, e1, e2, hq, h1, hL, h2, h3⟩, st⟩ | ⟨q, vm₁, ⟨U', l2, c2, s2⟩, hW₁, X', ⟨g', mk, t, L, E, ce, e1, e2, hq, hce, hcv, hcl, h1, hL, h2, h3⟩, st⟩
  · dsimp only [Pt.U, Pt.locs, Pt.cells, Pt.slots] at X' e1 e2 h1 h2 h3 st
    subst h1; subst h2; subst h3
    exact Or.inl ⟨v, (T.setVm vm₁).calling g' mk As.toArray, t, U', L, hT, X', hL, e1, e2, hq, st⟩
  · dsimp only [Pt.U, Pt.locs, Pt.cells, Pt.slots] at X' e1 e2 h1 h2 h3 st hcl
    subst h1; subst h2; subst h3
    exact Or.inr ⟨q, (T.setVm vm₁).calling g' mk As.toArray, t, U', L, E, ce, hT, X', hL, e1, e2, hq, hce, hcv, vx_cls hW₁ hcl, st⟩
end Runs
section Rows
variable {p : Program} {l : Launch} {e : Env} {R : Room} {s : State} {m : MethodId} {args : Array Value} {below : List Frame} {meth : Method} {c : Code} {H : Heap} {locs : List Loc} {cells slots : Nat} {Q : State → Prop}
variable {mc ms : Nat} {free : Addr → Prop} {A0 A1 : Nat → Prop} {H0 : Heap} {a : Array Value} {pc : Nat} {ls : Array Slot} {st0 rest : List Value}
theorem vx_keep {st₀ t T' : State} {L : List Loc} (h0 : st₀.heap = H) (e1 : T'.heap = t.heap) (hS : va_S A0 H0 H locs) (hA : ∀ q, q < H.size → A1 q → A0 q) (hf : ∀ q, free q → A0 q) (hL : ∀ q ∈ L, free q.base) (hF : va_F A1 st₀ t) :
    H.size ≤ T'.heap.size ∧ (∀ q : Nat, q < H.size → ¬ A1 q → T'.heap[q]? = H[q]?) ∧ va_S A0 H0 T'.heap (locs ++ L) := by
  obtain ⟨hz, hk⟩ := hF
  rw [h0] at hz hk
  exact ⟨by rw [e1]; exact hz, fun q h1 h2 => by rw [e1]; exact hk q h1 h2,
    ⟨Nat.le_trans hS.1 (by rw [e1]; exact hz), fun q h1 h2 => by rw [e1, hk q (Nat.lt_of_lt_of_le h1 hS.1) (fun z => h2 (hA q (Nat.lt_of_lt_of_le h1 hS.1) z))]; exact hS.2.1 q h1 h2, fun q hq => by
      rcases List.mem_append.mp hq with h | h
      · exact hS.2.2 q h
      · exact hf _ (hL q h)⟩⟩
theorem vx_calli {S SX : Type} {post : Int32 → S → Prop} {px : SX → Prop} {B : S → State → Prop} {BX : String → SX → State → Prop} {AX : Nat → Prop} (hr : vx_Run p l e R s m args below meth c H locs cells slots mc ms (F0 m pc ls st0) rest (va_Qi post B A1 a) (vx_X px BX AX) free) (hS : va_S A0 H0 H locs) (hA : ∀ q, q < H.size → A1 q → A0 q) (hf : ∀ q, free q → A0 q) (hAX : ∀ q, q < H.size → AX q → A0 q)
    (kx : ∀ (E : String) (ce : Cell) (q9 : Addr) (u : SX) (t : State) (H1 : Heap) (locs1 : List Loc), t.heap = H1 → s.vm.Alike t.vm → px u → BX E u t → H.size ≤ H1.size → (∀ q : Nat, q < H.size → ¬ AX q → H1[q]? = H[q]?) → va_S A0 H0 H1 locs1 → H1[q9]? = some ce → ce.vm = .none → s.vm.findClass E = some ce.cls → vx_W p l e R s m args below meth c H1 locs1 (cells + mc) (slots + ms) Q (F0 m pc ls rest) q9)
    (kk : ∀ (r : Int32) (u : S) (t : State) (H1 : Heap) (locs1 : List Loc), t.heap = H1 → s.vm.Alike t.vm → post r u → B u t → H.size ≤ H1.size → (∀ q : Nat, q < H.size → ¬ A1 q → H1[q]? = H[q]?) → va_S A0 H0 H1 locs1 → W p l e R s m args below meth c H1 locs1 (cells + mc) (slots + ms) Q (F0 m (pc + 3) ls (.int r :: rest))) : W p l e R s m args below meth c H locs cells slots Q (F0 m pc ls st0) := by
  intro T hT X
  rcases hr T hT X with ⟨v, st₀, t, T', L, h0, X', hL, e1, e2, ⟨⟨r, u, hv, hp, hb⟩, hF⟩, st⟩ | ⟨q, st₀, t, T', L, E, ce, h0, X', hL, e1, e2, ⟨u, hp, hb, hF⟩, hce, hcv, hcl, st⟩
  · cases hv
    obtain ⟨k1, k2, k3⟩ := vx_keep h0 e1 hS hA hf hL hF
    obtain ⟨t2, a1, b1⟩ := kk r u t T'.heap (locs ++ L) e1.symm (by rw [← e2]; exact X'.warmed.alike) hp hb k1 k2 k3 T' rfl X'
    exact ⟨t2, st t2 a1, b1⟩
  · obtain ⟨k1, k2, k3⟩ := vx_keep h0 e1 hS hAX hf hL hF
    obtain ⟨t2, a1, b1⟩ := kx E ce q u t T'.heap (locs ++ L) e1.symm (by rw [← e2]; exact X'.warmed.alike) hp hb k1 k2 k3 (by rw [e1]; exact hce) hcv hcl T' rfl X'
    exact ⟨t2, st.trans a1, b1⟩
theorem vx_calll {S SX : Type} {post : Int64 → S → Prop} {px : SX → Prop} {B : S → State → Prop} {BX : String → SX → State → Prop} {AX : Nat → Prop} (hr : vx_Run p l e R s m args below meth c H locs cells slots mc ms (F0 m pc ls st0) rest (va_Ql post B A1 a) (vx_X px BX AX) free) (hS : va_S A0 H0 H locs) (hA : ∀ q, q < H.size → A1 q → A0 q) (hf : ∀ q, free q → A0 q) (hAX : ∀ q, q < H.size → AX q → A0 q)
    (kx : ∀ (E : String) (ce : Cell) (q9 : Addr) (u : SX) (t : State) (H1 : Heap) (locs1 : List Loc), t.heap = H1 → s.vm.Alike t.vm → px u → BX E u t → H.size ≤ H1.size → (∀ q : Nat, q < H.size → ¬ AX q → H1[q]? = H[q]?) → va_S A0 H0 H1 locs1 → H1[q9]? = some ce → ce.vm = .none → s.vm.findClass E = some ce.cls → vx_W p l e R s m args below meth c H1 locs1 (cells + mc) (slots + ms) Q (F0 m pc ls rest) q9)
    (kk : ∀ (r : Int64) (u : S) (t : State) (H1 : Heap) (locs1 : List Loc), t.heap = H1 → s.vm.Alike t.vm → post r u → B u t → H.size ≤ H1.size → (∀ q : Nat, q < H.size → ¬ A1 q → H1[q]? = H[q]?) → va_S A0 H0 H1 locs1 → W p l e R s m args below meth c H1 locs1 (cells + mc) (slots + ms) Q (F0 m (pc + 3) ls (.long r :: rest))) : W p l e R s m args below meth c H locs cells slots Q (F0 m pc ls st0) := by
  intro T hT X
  rcases hr T hT X with ⟨v, st₀, t, T', L, h0, X', hL, e1, e2, ⟨⟨r, u, hv, hp, hb⟩, hF⟩, st⟩ | ⟨q, st₀, t, T', L, E, ce, h0, X', hL, e1, e2, ⟨u, hp, hb, hF⟩, hce, hcv, hcl, st⟩
  · cases hv
    obtain ⟨k1, k2, k3⟩ := vx_keep h0 e1 hS hA hf hL hF
    obtain ⟨t2, a1, b1⟩ := kk r u t T'.heap (locs ++ L) e1.symm (by rw [← e2]; exact X'.warmed.alike) hp hb k1 k2 k3 T' rfl X'
    exact ⟨t2, st t2 a1, b1⟩
  · obtain ⟨k1, k2, k3⟩ := vx_keep h0 e1 hS hAX hf hL hF
    obtain ⟨t2, a1, b1⟩ := kx E ce q u t T'.heap (locs ++ L) e1.symm (by rw [← e2]; exact X'.warmed.alike) hp hb k1 k2 k3 (by rw [e1]; exact hce) hcv hcl T' rfl X'
    exact ⟨t2, st.trans a1, b1⟩
theorem vx_callf {S SX : Type} {post : UInt32 → S → Prop} {px : SX → Prop} {B : S → State → Prop} {BX : String → SX → State → Prop} {AX : Nat → Prop} (hr : vx_Run p l e R s m args below meth c H locs cells slots mc ms (F0 m pc ls st0) rest (va_Qf post B A1 a) (vx_X px BX AX) free) (hS : va_S A0 H0 H locs) (hA : ∀ q, q < H.size → A1 q → A0 q) (hf : ∀ q, free q → A0 q) (hAX : ∀ q, q < H.size → AX q → A0 q)
    (kx : ∀ (E : String) (ce : Cell) (q9 : Addr) (u : SX) (t : State) (H1 : Heap) (locs1 : List Loc), t.heap = H1 → s.vm.Alike t.vm → px u → BX E u t → H.size ≤ H1.size → (∀ q : Nat, q < H.size → ¬ AX q → H1[q]? = H[q]?) → va_S A0 H0 H1 locs1 → H1[q9]? = some ce → ce.vm = .none → s.vm.findClass E = some ce.cls → vx_W p l e R s m args below meth c H1 locs1 (cells + mc) (slots + ms) Q (F0 m pc ls rest) q9)
    (kk : ∀ (r : UInt32) (u : S) (t : State) (H1 : Heap) (locs1 : List Loc), t.heap = H1 → s.vm.Alike t.vm → post r u → B u t → H.size ≤ H1.size → (∀ q : Nat, q < H.size → ¬ A1 q → H1[q]? = H[q]?) → va_S A0 H0 H1 locs1 → W p l e R s m args below meth c H1 locs1 (cells + mc) (slots + ms) Q (F0 m (pc + 3) ls (.float r :: rest))) : W p l e R s m args below meth c H locs cells slots Q (F0 m pc ls st0) := by
  intro T hT X
  rcases hr T hT X with ⟨v, st₀, t, T', L, h0, X', hL, e1, e2, ⟨⟨r, u, hv, hp, hb⟩, hF⟩, st⟩ | ⟨q, st₀, t, T', L, E, ce, h0, X', hL, e1, e2, ⟨u, hp, hb, hF⟩, hce, hcv, hcl, st⟩
  · cases hv
    obtain ⟨k1, k2, k3⟩ := vx_keep h0 e1 hS hA hf hL hF
    obtain ⟨t2, a1, b1⟩ := kk r u t T'.heap (locs ++ L) e1.symm (by rw [← e2]; exact X'.warmed.alike) hp hb k1 k2 k3 T' rfl X'
    exact ⟨t2, st t2 a1, b1⟩
  · obtain ⟨k1, k2, k3⟩ := vx_keep h0 e1 hS hAX hf hL hF
    obtain ⟨t2, a1, b1⟩ := kx E ce q u t T'.heap (locs ++ L) e1.symm (by rw [← e2]; exact X'.warmed.alike) hp hb k1 k2 k3 (by rw [e1]; exact hce) hcv hcl T' rfl X'
    exact ⟨t2, st.trans a1, b1⟩
theorem vx_calld {S SX : Type} {post : UInt64 → S → Prop} {px : SX → Prop} {B : S → State → Prop} {BX : String → SX → State → Prop} {AX : Nat → Prop} (hr : vx_Run p l e R s m args below meth c H locs cells slots mc ms (F0 m pc ls st0) rest (va_Qd post B A1 a) (vx_X px BX AX) free) (hS : va_S A0 H0 H locs) (hA : ∀ q, q < H.size → A1 q → A0 q) (hf : ∀ q, free q → A0 q) (hAX : ∀ q, q < H.size → AX q → A0 q)
    (kx : ∀ (E : String) (ce : Cell) (q9 : Addr) (u : SX) (t : State) (H1 : Heap) (locs1 : List Loc), t.heap = H1 → s.vm.Alike t.vm → px u → BX E u t → H.size ≤ H1.size → (∀ q : Nat, q < H.size → ¬ AX q → H1[q]? = H[q]?) → va_S A0 H0 H1 locs1 → H1[q9]? = some ce → ce.vm = .none → s.vm.findClass E = some ce.cls → vx_W p l e R s m args below meth c H1 locs1 (cells + mc) (slots + ms) Q (F0 m pc ls rest) q9)
    (kk : ∀ (r : UInt64) (u : S) (t : State) (H1 : Heap) (locs1 : List Loc), t.heap = H1 → s.vm.Alike t.vm → post r u → B u t → H.size ≤ H1.size → (∀ q : Nat, q < H.size → ¬ A1 q → H1[q]? = H[q]?) → va_S A0 H0 H1 locs1 → W p l e R s m args below meth c H1 locs1 (cells + mc) (slots + ms) Q (F0 m (pc + 3) ls (.double r :: rest))) : W p l e R s m args below meth c H locs cells slots Q (F0 m pc ls st0) := by
  intro T hT X
  rcases hr T hT X with ⟨v, st₀, t, T', L, h0, X', hL, e1, e2, ⟨⟨r, u, hv, hp, hb⟩, hF⟩, st⟩ | ⟨q, st₀, t, T', L, E, ce, h0, X', hL, e1, e2, ⟨u, hp, hb, hF⟩, hce, hcv, hcl, st⟩
  · cases hv
    obtain ⟨k1, k2, k3⟩ := vx_keep h0 e1 hS hA hf hL hF
    obtain ⟨t2, a1, b1⟩ := kk r u t T'.heap (locs ++ L) e1.symm (by rw [← e2]; exact X'.warmed.alike) hp hb k1 k2 k3 T' rfl X'
    exact ⟨t2, st t2 a1, b1⟩
  · obtain ⟨k1, k2, k3⟩ := vx_keep h0 e1 hS hAX hf hL hF
    obtain ⟨t2, a1, b1⟩ := kx E ce q u t T'.heap (locs ++ L) e1.symm (by rw [← e2]; exact X'.warmed.alike) hp hb k1 k2 k3 (by rw [e1]; exact hce) hcv hcl T' rfl X'
    exact ⟨t2, st.trans a1, b1⟩
theorem vx_callv {S SX : Type} {post : S → Prop} {px : SX → Prop} {B : S → State → Prop} {BX : String → SX → State → Prop} {AX : Nat → Prop} (hr : vx_Run p l e R s m args below meth c H locs cells slots mc ms (F0 m pc ls st0) rest (va_Qv post B A1 a) (vx_X px BX AX) free) (hS : va_S A0 H0 H locs) (hA : ∀ q, q < H.size → A1 q → A0 q) (hf : ∀ q, free q → A0 q) (hAX : ∀ q, q < H.size → AX q → A0 q)
    (kx : ∀ (E : String) (ce : Cell) (q9 : Addr) (u : SX) (t : State) (H1 : Heap) (locs1 : List Loc), t.heap = H1 → s.vm.Alike t.vm → px u → BX E u t → H.size ≤ H1.size → (∀ q : Nat, q < H.size → ¬ AX q → H1[q]? = H[q]?) → va_S A0 H0 H1 locs1 → H1[q9]? = some ce → ce.vm = .none → s.vm.findClass E = some ce.cls → vx_W p l e R s m args below meth c H1 locs1 (cells + mc) (slots + ms) Q (F0 m pc ls rest) q9)
    (kk : ∀ (u : S) (t : State) (H1 : Heap) (locs1 : List Loc), t.heap = H1 → s.vm.Alike t.vm → post u → B u t → H.size ≤ H1.size → (∀ q : Nat, q < H.size → ¬ A1 q → H1[q]? = H[q]?) → va_S A0 H0 H1 locs1 → W p l e R s m args below meth c H1 locs1 (cells + mc) (slots + ms) Q (F0 m (pc + 3) ls (rest))) : W p l e R s m args below meth c H locs cells slots Q (F0 m pc ls st0) := by
  intro T hT X
  rcases hr T hT X with ⟨v, st₀, t, T', L, h0, X', hL, e1, e2, ⟨⟨u, hv, hp, hb⟩, hF⟩, st⟩ | ⟨q, st₀, t, T', L, E, ce, h0, X', hL, e1, e2, ⟨u, hp, hb, hF⟩, hce, hcv, hcl, st⟩
  · cases hv
    obtain ⟨k1, k2, k3⟩ := vx_keep h0 e1 hS hA hf hL hF
    obtain ⟨t2, a1, b1⟩ := kk u t T'.heap (locs ++ L) e1.symm (by rw [← e2]; exact X'.warmed.alike) hp hb k1 k2 k3 T' rfl X'
    exact ⟨t2, st t2 a1, b1⟩
  · obtain ⟨k1, k2, k3⟩ := vx_keep h0 e1 hS hAX hf hL hF
    obtain ⟨t2, a1, b1⟩ := kx E ce q u t T'.heap (locs ++ L) e1.symm (by rw [← e2]; exact X'.warmed.alike) hp hb k1 k2 k3 (by rw [e1]; exact hce) hcv hcl T' rfl X'
    exact ⟨t2, st.trans a1, b1⟩
end Rows
section Ends
variable {p : Program} {l : Launch} {e : Env} {R : Room} {s : State} {m : MethodId} {args : Array Value} {below : List Frame} {meth : Method} {c : Code} {H : Heap} {locs : List Loc} {cells slots : Nat} {Q : State → Prop}
variable {mc ms : Nat} {free : Addr → Prop} {A0 A1 : Nat → Prop} {H0 : Heap} {a : Array Value} {ls : Array Slot} {st0 rest : List Value}
variable {Qc : Array Value → State → Outcome → State → Prop} {XC : String → State → State → Prop}
/-- what a body that may throw owes at its end -/
def vx_MQ (below : List Frame) (Qc : Array Value → State → Outcome → State → Prop) (XC : String → State → State → Prop) (a : Array Value) (s : State) (mc ms : Nat) (free : Addr → Prop) : State → Prop := fun t =>
  ∃ o, t.status = .running ∧ Ended t below o ∧ vx_Q Qc XC mc ms free a s o t
theorem vx_ret {g : JFrame} {mc ms : Nat} (k : W p l e R s m args below meth c H locs cells slots (MQ below Qc args s mc ms free) g) : W p l e R s m args below meth c H locs cells slots (vx_MQ below Qc XC args s mc ms free) g := by
  intro T hT X
  obtain ⟨t, a1, o, b1, b2, b3, b4⟩ := k T hT X
  exact ⟨t, a1, o, b1, b2, Or.inl ⟨b3, b4⟩⟩
/-- not caught here: it goes on to the caller -/
theorem vx_widen {g : JFrame} {q : Addr} {k n : Nat} (h1 : cells ≤ k) (h2 : slots ≤ n) (kk : vx_W p l e R s m args below meth c H locs k n Q g q) : vx_W p l e R s m args below meth c H locs cells slots Q g q := fun T hT X => kk T hT (stand_widen X h1 h2)
theorem vx_out {pc : Nat} {E : String} {ce : Cell} {q : Addr} {mc ms : Nat} (hout : ∀ x ∈ c.exceptionTable.toList, covers x pc = false) (hlocks : meth.locks = false) (hcell : H[q]? = some ce) (hv : ce.vm = .none) (hcl : s.vm.findClass E = some ce.cls)
    (hx : ∀ t : State, t.heap = H → s.vm.Alike t.vm → XC E s t) (hf : ∀ z ∈ locs, free z.base) (hc : cells ≤ mc) (hs : slots ≤ ms) :
    vx_W p l e R s m args below meth c H locs cells slots (vx_MQ below Qc XC args s mc ms free) (F0 m pc ls rest) q := by
  intro T hT X
  obtain ⟨st1, hrun, hend, hW, hsm⟩ := X.leaveThrown q (g := F0 m pc ls rest) rfl rfl rfl hout hlocks
  have hcell9 : (T.setFrames (.throwing q :: below)).heap[q]? = some ce := by
    show T.heap[q]? = some ce
    rw [hT]; exact hcell
  exact ⟨_, st1, .threw q, hrun, hend, Or.inr ⟨q, rfl, E, ce, locs, hx _ hT hW.alike, hcell9, hv, hcl, hW, hsm.mono hc hs, hf⟩⟩
theorem vx_frame {U : State} {k n : Nat} (h : s.sameButNew ({ U with vm := s.vm } : State) locs k n) : s.heap.size ≤ U.heap.size ∧ ∀ q : Nat, q < s.heap.size → (∀ z ∈ locs, z.base ≠ q) → U.heap[q]? = s.heap[q]? := by
  obtain ⟨-, h2, -, -, -, h6⟩ := h
  refine ⟨h2, fun q hq hz => ?_⟩
  obtain ⟨c9, e1, e2, e3, e4⟩ := h6 q _ (Array.getElem?_eq_getElem hq)
  have hs : c9.slots = (s.heap[q]).slots := Array.ext_getElem? fun i => e4 i fun hm => hz _ hm rfl
  have h9 : c9 = s.heap[q] := by
    rw [hs] at e2
    exact e2
  have e5 : U.heap[q]? = some c9 := e1
  rw [e5, h9, Array.getElem?_eq_getElem hq]
/-- the words of a throw but the four that speak of the heap -/
def vx_no (w : Cond) : Bool := decide (w ≠ .isRef (.static Bundle.tN "UNASSIGNED_STACK" Bundle.steD)) && decide (w ≠ .isRef (.static Bundle.tN "SUPPRESSED_SENTINEL" Bundle.listD)) && decide (w ≠ .laysStatic Bundle.tN "UNASSIGNED_STACK" Bundle.steD) && decide (w ≠ .laysStatic Bundle.tN "SUPPRESSED_SENTINEL" Bundle.listD)
def vx_at0 (own : String) (ic : Nat) (X : String) (names : List String) : List Cond := (Bundle.ownAtoms0 own ic X names).filter vx_no
def vx_atS (own : String) (ic : Nat) (X : String) (names : List String) : List Cond := (Bundle.ownAtoms own ic X names).filter vx_no
/-- a word that the tables alone decide, or a good one -/
def vx_ot (w : Cond) : Bool := w.onTables || goodWord w
theorem vx_ot_at {args a' : Array Value} {s U : State} {w : Cond} (hW : s.WarmedH U.vm) (hvm : s.vm = U.vm) (hg : vx_ot w = true) (h : w.before args s = true) : w.before a' U = true := by
  simp only [vx_ot, Bool.or_eq_true] at hg
  rcases hg with hg | hg
  · exact va_tabs hg hvm h
  · exact word_at hW (good_of_word hg) h
/-- a list's words: the good ones out of the method's own list, the others by premises of their own -/
theorem vx_hat {args : Array Value} {s : State} {L B : List Cond} (h1 : ∀ w ∈ L.filter goodWord, w.before args s = true) (h2 : ∀ w ∈ L.filter (fun w => !goodWord w), w ∈ B) (h3 : ∀ w ∈ B, w.before args s = true) : ∀ w ∈ L, w.before args s = true := by
  intro w hw
  by_cases g : goodWord w = true
  · exact h1 w (List.mem_filter.mpr ⟨hw, g⟩)
  · refine h3 w (h2 w (List.mem_filter.mpr ⟨hw, ?_⟩))
    show (!goodWord w) = true
    cases hgw : goodWord w
    · rfl
    · exact absurd hgw g
theorem vx_c {args : Array Value} {s : State} {w : Cond} {B : List Cond} (h : w.before args s = true) (t : ∀ w ∈ B, w.before args s = true) : ∀ w' ∈ w :: B, w'.before args s = true := fun w' h' => (List.mem_cons.mp h').elim (fun e => by rw [e]; exact h) (t w')
theorem vx_n {args : Array Value} {s : State} : ∀ w ∈ ([] : List Cond), w.before args s = true := fun _ h => nomatch h
theorem vx_own {args : Array Value} {s : State} {L : List Cond} (h1 : ∀ w ∈ L.filter vx_no, w.before args s = true)
    (hU : (Cond.isRef (.static Bundle.tN "UNASSIGNED_STACK" Bundle.steD)).before args s = true) (hN : (Cond.isRef (.static Bundle.tN "SUPPRESSED_SENTINEL" Bundle.listD)).before args s = true)
    (lU : (Cond.laysStatic Bundle.tN "UNASSIGNED_STACK" Bundle.steD).before args s = true) (lN : (Cond.laysStatic Bundle.tN "SUPPRESSED_SENTINEL" Bundle.listD).before args s = true) : ∀ w ∈ L, w.before args s = true := by
  intro w hw
  by_cases e1 : w = .isRef (.static Bundle.tN "UNASSIGNED_STACK" Bundle.steD)
  · rw [e1]; exact hU
  · by_cases e2 : w = .isRef (.static Bundle.tN "SUPPRESSED_SENTINEL" Bundle.listD)
    · rw [e2]; exact hN
    · by_cases e3 : w = .laysStatic Bundle.tN "UNASSIGNED_STACK" Bundle.steD
      · rw [e3]; exact lU
      · by_cases e4 : w = .laysStatic Bundle.tN "SUPPRESSED_SENTINEL" Bundle.listD
        · rw [e4]; exact lN
        · exact h1 w (List.mem_filter.mpr ⟨hw, by unfold vx_no; rw [decide_eq_true e1, decide_eq_true e2, decide_eq_true e3, decide_eq_true e4]; rfl⟩)
/-- where a static field lies, its class's statics cell in H -/
def vx_L (C n d : String) (A : Nat → Prop) (U : State) (H : Heap) : Prop := ∃ (c : ClassId) (k : Class) (i : Nat) (f : Field) (a : Nat) (cell : Cell), U.vm.findClass C = some c ∧ U.fieldFound? C n d = some (c, k, i, f) ∧ f.isStatic = true ∧ k.statics = some a ∧ H[a]? = some cell ∧ cell.vm.isStatics = true ∧ cell.cls = c ∧ f.slot < cell.slots.size ∧ k.staticTypes[f.slot]? = some f.type ∧ ¬ A a
theorem vx_L.moved {C n d : String} {A : Nat → Prop} {u U : State} {H : Heap} (hvm : u.vm.Alike U.vm) (h : vx_L C n d A u H) : vx_L C n d A U H := by
  obtain ⟨c, k, i, f, a, cell, h1, h2, h3, h4, h5, h6, h7, h8, h9, h10⟩ := h
  obtain ⟨k', hi', he⟩ := State.fieldFound?_setVm hvm h2
  exact ⟨c, k', i, f, a, cell, by rw [hvm.findClass]; exact h1, hi', h3, by rw [he]; exact h4, h5, h6, h7, h8, by rw [he]; exact h9, h10⟩
theorem vx_L.kept {C n d : String} {A : Nat → Prop} {U : State} {H H1 : Heap} (h : vx_L C n d A U H) (hq : ∀ a : Nat, a < H.size → ¬ A a → H1[a]? = H[a]?) : vx_L C n d A U H1 := by
  obtain ⟨c, k, i, f, a, cell, h1, h2, h3, h4, h5, h6, h7, h8, h9, h10⟩ := h
  exact ⟨c, k, i, f, a, cell, h1, h2, h3, h4, by rw [hq a (Array.getElem?_eq_some_iff.mp h5).1 h10]; exact h5, h6, h7, h8, h9, h10⟩
theorem vx_L.narrow {C n d : String} {A B : Nat → Prop} {U : State} {H : Heap} (h : vx_L C n d A U H) (hAB : ∀ q, B q → A q) : vx_L C n d B U H := by
  obtain ⟨c, k, i, f, a, cell, h1, h2, h3, h4, h5, h6, h7, h8, h9, h10⟩ := h
  exact ⟨c, k, i, f, a, cell, h1, h2, h3, h4, h5, h6, h7, h8, h9, fun z => h10 (hAB _ z)⟩
theorem vx_L.word {C n d : String} {A : Nat → Prop} {s : State} {args : Array Value} (h : vx_L C n d A s s.heap) : (Cond.laysStatic C n d).before args s = true := by
  obtain ⟨c, k, i, f, a, cell, h1, h2, h3, h4, h5, h6, h7, h8, h9, -⟩ := h
  show (Cond.laysStatic C n d).holds args s none s [] = true
  exact Cond.laysStatic_of h1 h2 h3 h4 h5 h6 h7 h8 h9
/-- .. and what it holds: null or some reference -/
def vx_Zq (C n d : String) (A : Nat → Prop) (U : State) (H : Heap) : Prop := va_Zq C n d A U H ∧ vx_L C n d A U H
theorem vx_Zq.moved {C n d : String} {A : Nat → Prop} {u U : State} {H : Heap} (hvm : u.vm.Alike U.vm) (h : vx_Zq C n d A u H) : vx_Zq C n d A U H := ⟨va_Zq.moved hvm h.1, vx_L.moved hvm h.2⟩
theorem vx_Zq.kept {C n d : String} {A : Nat → Prop} {U : State} {H H1 : Heap} (h : vx_Zq C n d A U H) (hq : ∀ a : Nat, a < H.size → ¬ A a → H1[a]? = H[a]?) : vx_Zq C n d A U H1 := ⟨va_Zq.kept h.1 hq, vx_L.kept h.2 hq⟩
theorem vx_Zq.narrow {C n d : String} {A B : Nat → Prop} {U : State} {H : Heap} (h : vx_Zq C n d A U H) (hAB : ∀ q, B q → A q) : vx_Zq C n d B U H := ⟨va_Zq.narrow h.1 hAB, vx_L.narrow h.2 hAB⟩
theorem vx_Zqof {args : Array Value} {s : State} {C n d : String} {A : Nat → Prop} (hl : (Cond.laysStatic C n d).before args s = true) (hini : (Cond.initialized C).before args s = true) (h : (Cond.isRef (.static C n d)).before args s = true) (hA : ∀ a : Nat, a < s.heap.size → ¬ A a) : vx_Zq C n d A s s.heap := by
  refine ⟨va_Zqof hl hini h hA, ?_⟩
  obtain ⟨c, k, i, f, a, cell, h1, h2, h3, h4, h5, h6, h7, h8, h9⟩ := Cond.laysStatic_spec hl
  exact ⟨c, k, i, f, a, cell, h1, h2, h3, h4, h5, h6, h7, h8, h9, hA a (Array.getElem?_eq_some_iff.mp h5).1⟩
theorem vx_isRef {C n d : String} {v : Value} {A : Nat → Prop} {s : State} {args : Array Value} (h : va_Z C n d v A s s.heap) (hv : v.isRef = true) : (Cond.isRef (.static C n d)).before args s = true := by
  obtain ⟨cf, kf, fi, f, a, cell, h1, h2, h3, h4, h5, h6, h7, -⟩ := h
  have he : (Term.static C n d).eval args s none [] s = some v := by
    simp [Term.eval, State.fieldNamed?, h1, h2, h4, h5, h6, h7]
  simp only [Cond.before, Cond.holds, Cond.value, he]
  cases v <;> simp_all [Value.isRef]
theorem vx_isRefq {C n d : String} {A : Nat → Prop} {s : State} {args : Array Value} (h : va_Zq C n d A s s.heap) : (Cond.isRef (.static C n d)).before args s = true := by
  rcases h with h | ⟨t, h⟩
  · exact vx_isRef h rfl
  · exact vx_isRef h rfl
/-- the same frame, seen from here: as if the method were called anew in this heap -/
theorem vx_rebase {T : State} (X : Stand p l e R s m args below meth c T locs cells slots) {R' : Room} (hf : R'.frames ≤ R.frames) (hl : R'.locals ≤ R.locals) (hc : cells + R'.cells ≤ R.cells) (hs : slots + R'.slots ≤ R.slots) :
    Stand p l e R' ((T.setVm s.vm).setFrames (.invoking m args :: below)) m args below meth c T [] 0 0 := by
  have htop : (T.setVm s.vm).topJava?.isSome := X.here.top
  have hF : ((T.setVm s.vm).setFrames (.invoking m args :: below)).frames = .invoking m args :: below := State.frames_setFrames _ (State.cur_lt_of_top htop)
  obtain ⟨g₀, hg0⟩ := Option.isSome_iff_exists.mp htop
  obtain ⟨r, hr⟩ := State.topJava?_eq_some.mp hg0
  have hl9 : e.platform.stackLimits (T.setVm s.vm).me = e.platform.stackLimits s.me := X.limits
  have hb9 : (T.setVm s.vm).me.stackBytes = s.me.stackBytes := X.bytes
  refine ⟨X.admits, X.cas, X.clock, hF, ?_, X.hears, X.method, X.code, X.here, X.tail, X.warmed, ?_, ?_, ?_⟩
  · have h := X.room
    have hU : ((T.setVm s.vm).setFrames (.invoking m args :: below)).localsInUse = s.localsInUse := by
      rw [State.localsInUse_invoking hF (meth := meth) (c := c) X.method X.code, State.localsInUse_invoking X.frames X.method X.code]
    simp only [State.hasRoom, Bool.and_eq_true, decide_eq_true_eq] at h ⊢
    obtain ⟨⟨⟨⟨h1, h2, h3, h4, h5, h6⟩, h7⟩, h8⟩, h9⟩ := h
    rw [X.frames, List.length_cons] at h2 h3
    have q1 := X.heapSize
    have q2 := X.used
    simp only [hF, hU, List.length_cons, State.stackLimits_setFrames, State.stackBytes_setFrames, hl9, hb9]
    refine ⟨⟨⟨⟨by omega, by omega, by omega, by omega, by omega, h6⟩, ?_⟩, ?_⟩, X.book⟩
    · show T.heap.size + R'.cells ≤ e.platform.maxCells
      omega
    · show T.slotsUsed + R'.slots ≤ e.platform.maxSlots
      omega
  · rw [State.stackLimits_setFrames]; rfl
  · rw [State.stackBytes_setFrames]; rfl
  · refine ⟨?_, Nat.le_refl _, Nat.le_refl _, ?_, ?_, fun a c9 h9 => ⟨c9, h9, rfl, rfl, fun _ _ => rfl⟩⟩
    · obtain ⟨t, ht, -⟩ := State.frames_cons hr
      show T.setVm s.vm = { ((T.setVm s.vm).setFrames (.invoking m args :: below)).setFrames (T.setVm s.vm).frames with heap := T.heap, slotsUsed := T.slotsUsed }
      rw [State.setFrames_setFrames, State.setFrames_self ht]
      rfl
    · show T.slotsUsed = T.slotsUsed + ((T.heap.toList.drop T.heap.size).map (·.slots.size)).sum
      rw [List.drop_eq_nil_of_le (Nat.le_of_eq Array.length_toList)]
      rfl
    · show ((T.heap.toList.drop T.heap.size).map (·.slots.size)).sum ≤ 0
      rw [List.drop_eq_nil_of_le (Nat.le_of_eq Array.length_toList)]
      exact Nat.le_refl _
/-- 'throw new E()': new; dup; invokespecial; athrow -/
theorem vx_throw0 {cc : ByteArray} {pc : Nat} (hexec : p.tables.exec = Jvm.exec) (hb : c.code = cc) (hl : l.stackTraces = false) {own cls : String} {names : List String} {ik ic mc ms : Nat} {A : Nat → Prop}
    (hown : s.vm.findClass own = some m.cls) (hcls : Bundle.fit cls = true) (hnames : ∀ n ∈ names, Bundle.fit n = true)
    (hk : (Cond.classLink own ik cls).before args s = true) (hini : (Cond.initialized cls).before args s = true) (hat : ∀ w ∈ vx_at0 own ic cls names, w.before args s = true)
    (hgood : ∀ w ∈ Cond.classLink own ik cls :: Cond.initialized cls :: vx_at0 own ic cls names, vx_ot w = true)
    (hU : vx_Zq Bundle.tN "UNASSIGNED_STACK" Bundle.steD A s s.heap) (hN : vx_Zq Bundle.tN "SUPPRESSED_SENTINEL" Bundle.listD A s s.heap) (hS : va_S A s.heap H locs) (hsize : ls.size = c.maxLocals)
    (d0 : decode cc pc = .ok (.new ik, 3)) (d3 : decode cc (pc + 3) = .ok (.dup, 1)) (d4 : decode cc (pc + 4) = .ok (.invokespecial ic, 3)) (d7 : decode cc (pc + 7) = .ok (.athrow, 1))
    (hout : ∀ x ∈ c.exceptionTable.toList, covers x (pc + 7) = false)
    (hRframes : names.length + 3 < R.frames) (hRlocals : (rest.map fun v => v.category).sum + (13 * (names.length + 1) + 42) ≤ R.locals) (hRcells : cells + 1 ≤ R.cells) (hRslots : slots + 6 ≤ R.slots) (hlocks : meth.locks = false)
    (hx : ∀ t : State, s.vm.Alike t.vm → H.size ≤ t.heap.size → (∀ q : Nat, q < H.size → t.heap[q]? = H[q]?) → XC cls s t)
    (hf : ∀ z ∈ locs, free z.base) (hc : cells + 1 ≤ mc) (hs : slots + 6 ≤ ms) :
    W p l e R s m args below meth c H locs cells slots (vx_MQ below Qc XC args s mc ms free) (F0 m pc ls rest) := by
  intro T hT X
  have htr : e.platform.stackTraces = false := (show e.platform.stackTraces = l.stackTraces by rw [X.admits.platform]).trans hl
  have Y := vx_rebase X (R' := { frames := R.frames, locals := R.locals, cells := 1, slots := 6 }) (Nat.le_refl _) (Nat.le_refl _) hRcells hRslots
  obtain ⟨s', hA⟩ : ∃ z, z = (T.setVm s.vm).setFrames (.invoking m args :: below) := ⟨_, rfl⟩
  rw [← hA] at Y
  have hvm : s'.vm = s.vm := by rw [hA]; rfl
  have hhp : s'.heap = H := by rw [hA]; exact hT
  have hW0 : s.WarmedH s'.vm := by rw [hvm]; exact State.WarmedH.refl s
  have hat' : ∀ w ∈ vx_at0 own ic cls names, w.before args s' = true := fun w hw => vx_ot_at hW0 hvm.symm (hgood w (List.mem_cons_of_mem _ (List.mem_cons_of_mem _ hw))) (hat w hw)
  have hk' : (Cond.classLink own ik cls).before args s' = true := vx_ot_at hW0 hvm.symm (hgood _ List.mem_cons_self) hk
  have hini' : (Cond.initialized cls).before args s' = true := vx_ot_at hW0 hvm.symm (hgood _ (List.mem_cons_of_mem _ List.mem_cons_self)) hini
  have hU' : vx_Zq Bundle.tN "UNASSIGNED_STACK" Bundle.steD A s' s'.heap := by rw [hhp]; exact vx_Zq.moved hW0.alike (hU.kept hS.2.1)
  have hN' : vx_Zq Bundle.tN "SUPPRESSED_SENTINEL" Bundle.listD A s' s'.heap := by rw [hhp]; exact vx_Zq.moved hW0.alike (hN.kept hS.2.1)
  have h : ∀ w ∈ Bundle.ownAtoms0 own ic cls names, w.before args s' = true := vx_own hat' (vx_isRefq hU'.1) (vx_isRefq hN'.1) hU'.2.word hN'.2.word
  have hown' : s'.vm.findClass own = some m.cls := by rw [hvm]; exact hown
  have hins : (Cond.instantiable cls 6).before args s' = true := h _ (by simp [Bundle.ownAtoms0])
  obtain ⟨vm₁, cX, kX, hfX, hkX, -, -, X₁, st1⟩ := Y.newCold hexec (own := own) (C := cls) (index := ik) (n := 6) hown' hk' hins hini'
    (g := F0 m pc ls rest) rfl (by rw [hb]; exact d0) (Nat.le_refl _) (Nat.le_refl _)
  generalize hT1 : (T.setVm vm₁).pushCell { cls := cX, slots := kX.instanceTypes.map defaultValue, vm := .none } = T1 at X₁ st1
  have hcat : (Value.ref T.heap.size).category = 1 := rfl
  have hcellA : T1.heap[T.heap.size]? = some (freshCell cX kX) := by rw [← hT1]; exact State.heap_pushCell_size _ _
  have d3' : decode c.code (pc + 3) = .ok (.dup, 1) := by rw [hb]; exact d3
  obtain ⟨U, hsteps, hrun, hend, hW, hsame, ce, hce, hO⟩ := X₁.ctorThrow0 hexec htr (own := own) (cls := cls) (names := names) (ic := ic) hown' hcls hnames h (fun x hx => nomatch hx) hfX hkX hcellA (by rw [hhp, hT]; exact Nat.le_refl _)
    (g := { method := m, pc := pc + 4, locals := ls, stack := .ref T.heap.size :: .ref T.heap.size :: rest, locked := none }) rfl hsize rfl rfl (rest := rest) rfl
    (by rw [hb]; exact d4) (by rw [hb]; exact d7) hout hRframes (by simp only [List.map_cons, List.sum_cons, hcat]; omega) hlocks
  obtain ⟨f1, f2⟩ := vx_frame hsame
  rw [hhp] at f1 f2
  have hWs : s.WarmedH U.vm := State.WarmedH.trans hW0 hW
  have hcl : s.vm.findClass cls = some ce.cls := by
    have h9 := hO.cls
    rw [hvm] at h9
    exact h9
  have hall : s.sameButNew ({ U with vm := s.vm } : State) locs mc ms := by
    subst hA
    obtain ⟨e1, e2⟩ := hsame
    rw [State.setFrames_setFrames] at e1
    have h2 : (T.setVm s.vm).sameButNew ({ U with vm := s.vm } : State) [] (0 + 1) (0 + 6) := ⟨e1, e2⟩
    have h3 := X.same.trans h2
    rw [List.append_nil] at h3
    exact h3.mono hc hs
  refine ⟨U, ?_, .threw T.heap.size, hrun, hend, Or.inr ⟨T.heap.size, rfl, cls, ce, locs, hx U hWs.alike f1 (fun q hq => f2 q hq (fun z hz => nomatch hz)), hce, hO.vm, hcl, hWs, hall, hf⟩⟩
  refine st1 _ ?_
  show Steps p.tables e below (T1.setTop { method := m, pc := pc + 3, locals := ls, stack := .ref T.heap.size :: rest, locked := none }) _
  jvm_step X₁.here [X₁.here.top, hexec, d3', Value.category]
  exact hsteps
/-- 'throw new E("text")': new; dup; ldc; invokespecial; athrow -/
theorem vx_throwS {cc : ByteArray} {pc : Nat} (hexec : p.tables.exec = Jvm.exec) (hb : c.code = cc) (hl : l.stackTraces = false) {own cls text : String} {names : List String} {ik is ic mc ms sa : Nat} {A : Nat → Prop}
    (hown : s.vm.findClass own = some m.cls) (hcls : Bundle.fit cls = true) (hnames : ∀ n ∈ names, Bundle.fit n = true)
    (hk : (Cond.classLink own ik cls).before args s = true) (hini : (Cond.initialized cls).before args s = true) (hstr : vk_R own is text sa s) (hat : ∀ w ∈ vx_atS own ic cls names, w.before args s = true)
    (hgood : ∀ w ∈ Cond.classLink own ik cls :: Cond.initialized cls :: vx_atS own ic cls names, vx_ot w = true)
    (hU : vx_Zq Bundle.tN "UNASSIGNED_STACK" Bundle.steD A s s.heap) (hN : vx_Zq Bundle.tN "SUPPRESSED_SENTINEL" Bundle.listD A s s.heap) (hS : va_S A s.heap H locs) (hsize : ls.size = c.maxLocals)
    (d0 : decode cc pc = .ok (.new ik, 3)) (d3 : decode cc (pc + 3) = .ok (.dup, 1)) (d4 : decode cc (pc + 4) = .ok (.ldc is, 2)) (d6 : decode cc (pc + 6) = .ok (.invokespecial ic, 3)) (d9 : decode cc (pc + 9) = .ok (.athrow, 1))
    (hout : ∀ x ∈ c.exceptionTable.toList, covers x (pc + 9) = false)
    (hRframes : names.length + 3 < R.frames) (hRlocals : (rest.map fun v => v.category).sum + (13 * (names.length + 1) + 43) ≤ R.locals) (hRcells : cells + 1 ≤ R.cells) (hRslots : slots + 6 ≤ R.slots) (hlocks : meth.locks = false)
    (hx : ∀ t : State, s.vm.Alike t.vm → H.size ≤ t.heap.size → (∀ q : Nat, q < H.size → t.heap[q]? = H[q]?) → XC cls s t)
    (hf : ∀ z ∈ locs, free z.base) (hc : cells + 1 ≤ mc) (hs : slots + 6 ≤ ms) :
    W p l e R s m args below meth c H locs cells slots (vx_MQ below Qc XC args s mc ms free) (F0 m pc ls rest) := by
  intro T hT X
  have htr : e.platform.stackTraces = false := (show e.platform.stackTraces = l.stackTraces by rw [X.admits.platform]).trans hl
  have Y := vx_rebase X (R' := { frames := R.frames, locals := R.locals, cells := 1, slots := 6 }) (Nat.le_refl _) (Nat.le_refl _) hRcells hRslots
  obtain ⟨s', hA⟩ : ∃ z, z = (T.setVm s.vm).setFrames (.invoking m args :: below) := ⟨_, rfl⟩
  rw [← hA] at Y
  have hvm : s'.vm = s.vm := by rw [hA]; rfl
  have hhp : s'.heap = H := by rw [hA]; exact hT
  have hW0 : s.WarmedH s'.vm := by rw [hvm]; exact State.WarmedH.refl s
  have hat' : ∀ w ∈ vx_atS own ic cls names, w.before args s' = true := fun w hw => vx_ot_at hW0 hvm.symm (hgood w (List.mem_cons_of_mem _ (List.mem_cons_of_mem _ hw))) (hat w hw)
  have hk' : (Cond.classLink own ik cls).before args s' = true := vx_ot_at hW0 hvm.symm (hgood _ List.mem_cons_self) hk
  have hini' : (Cond.initialized cls).before args s' = true := vx_ot_at hW0 hvm.symm (hgood _ (List.mem_cons_of_mem _ List.mem_cons_self)) hini
  have hU' : vx_Zq Bundle.tN "UNASSIGNED_STACK" Bundle.steD A s' s'.heap := by rw [hhp]; exact vx_Zq.moved hW0.alike (hU.kept hS.2.1)
  have hN' : vx_Zq Bundle.tN "SUPPRESSED_SENTINEL" Bundle.listD A s' s'.heap := by rw [hhp]; exact vx_Zq.moved hW0.alike (hN.kept hS.2.1)
  have h : ∀ w ∈ Bundle.ownAtoms own ic cls names, w.before args s' = true := vx_own hat' (vx_isRefq hU'.1) (vx_isRefq hN'.1) hU'.2.word hN'.2.word
  have hown' : s'.vm.findClass own = some m.cls := by rw [hvm]; exact hown
  have hins : (Cond.instantiable cls 6).before args s' = true := h _ (by simp [Bundle.ownAtoms])
  obtain ⟨vm₁, cX, kX, hfX, hkX, -, -, X₁, st1⟩ := Y.newCold hexec (own := own) (C := cls) (index := ik) (n := 6) hown' hk' hins hini'
    (g := F0 m pc ls rest) rfl (by rw [hb]; exact d0) (Nat.le_refl _) (Nat.le_refl _)
  generalize hT1 : (T.setVm vm₁).pushCell { cls := cX, slots := kX.instanceTypes.map defaultValue, vm := .none } = T1 at X₁ st1
  have hcat : (Value.ref T.heap.size).category = 1 := rfl
  have hcellA : T1.heap[T.heap.size]? = some (freshCell cX kX) := by rw [← hT1]; exact State.heap_pushCell_size _ _
  have d3' : decode c.code (pc + 3) = .ok (.dup, 1) := by rw [hb]; exact d3
  have d4' : decode c.code (pc + 4) = .ok (.ldc is, 2) := by rw [hb]; exact d4
  have hstr' : vk_R own is text sa s' := vk_R.warm hW0 hstr
  obtain ⟨U, hsteps, hrun, hend, hW, hsame, ce, hce, hO⟩ := X₁.ctorThrowS hexec htr (own := own) (cls := cls) (names := names) (ic := ic) hown' hcls hnames h (fun x hx => nomatch hx) hfX hkX hcellA (by rw [hhp, hT]; exact Nat.le_refl _) (msg := .ref sa) rfl
    (g := { method := m, pc := pc + 6, locals := ls, stack := .ref sa :: .ref T.heap.size :: .ref T.heap.size :: rest, locked := none }) rfl hsize rfl rfl (rest := rest) rfl
    (by rw [hb]; exact d6) (by rw [hb]; exact d9) hout hRframes (by simp only [List.map_cons, List.sum_cons, hcat]; omega) hlocks
  obtain ⟨f1, f2⟩ := vx_frame hsame
  rw [hhp] at f1 f2
  have hWs : s.WarmedH U.vm := State.WarmedH.trans hW0 hW
  have hcl : s.vm.findClass cls = some ce.cls := by
    have h9 := hO.cls
    rw [hvm] at h9
    exact h9
  have hall : s.sameButNew ({ U with vm := s.vm } : State) locs mc ms := by
    subst hA
    obtain ⟨e1, e2⟩ := hsame
    rw [State.setFrames_setFrames] at e1
    have h2 : (T.setVm s.vm).sameButNew ({ U with vm := s.vm } : State) [] (0 + 1) (0 + 6) := ⟨e1, e2⟩
    have h3 := X.same.trans h2
    rw [List.append_nil] at h3
    exact h3.mono hc hs
  refine ⟨U, ?_, .threw T.heap.size, hrun, hend, Or.inr ⟨T.heap.size, rfl, cls, ce, locs, hx U hWs.alike f1 (fun q hq => f2 q hq (fun z hz => nomatch hz)), hce, hO.vm, hcl, hWs, hall, hf⟩⟩
  refine st1 _ ?_
  show Steps p.tables e below (T1.setTop { method := m, pc := pc + 3, locals := ls, stack := .ref T.heap.size :: rest, locked := none }) _
  jvm_step X₁.here [X₁.here.top, hexec, d3', Value.category]
  exact X₁.ldcString hexec (own := own) (text := text) (index := is) (a := sa) hown' hstr'.1 hstr'.2
    (g := { method := m, pc := pc + 4, locals := ls, stack := .ref T.heap.size :: .ref T.heap.size :: rest, locked := none }) rfl d4' _ hsteps
/-- 'throw new E("text")', the text by a wide index -/
theorem vx_throwSW {cc : ByteArray} {pc : Nat} (hexec : p.tables.exec = Jvm.exec) (hb : c.code = cc) (hl : l.stackTraces = false) {own cls text : String} {names : List String} {ik is ic mc ms sa : Nat} {A : Nat → Prop}
    (hown : s.vm.findClass own = some m.cls) (hcls : Bundle.fit cls = true) (hnames : ∀ n ∈ names, Bundle.fit n = true)
    (hk : (Cond.classLink own ik cls).before args s = true) (hini : (Cond.initialized cls).before args s = true) (hstr : vk_R own is text sa s) (hat : ∀ w ∈ vx_atS own ic cls names, w.before args s = true)
    (hgood : ∀ w ∈ Cond.classLink own ik cls :: Cond.initialized cls :: vx_atS own ic cls names, vx_ot w = true)
    (hU : vx_Zq Bundle.tN "UNASSIGNED_STACK" Bundle.steD A s s.heap) (hN : vx_Zq Bundle.tN "SUPPRESSED_SENTINEL" Bundle.listD A s s.heap) (hS : va_S A s.heap H locs) (hsize : ls.size = c.maxLocals)
    (d0 : decode cc pc = .ok (.new ik, 3)) (d3 : decode cc (pc + 3) = .ok (.dup, 1)) (d4 : decode cc (pc + 4) = .ok (.ldc_w is, 3)) (d7 : decode cc (pc + 7) = .ok (.invokespecial ic, 3)) (d10 : decode cc (pc + 10) = .ok (.athrow, 1))
    (hout : ∀ x ∈ c.exceptionTable.toList, covers x (pc + 10) = false)
    (hRframes : names.length + 3 < R.frames) (hRlocals : (rest.map fun v => v.category).sum + (13 * (names.length + 1) + 43) ≤ R.locals) (hRcells : cells + 1 ≤ R.cells) (hRslots : slots + 6 ≤ R.slots) (hlocks : meth.locks = false)
    (hx : ∀ t : State, s.vm.Alike t.vm → H.size ≤ t.heap.size → (∀ q : Nat, q < H.size → t.heap[q]? = H[q]?) → XC cls s t)
    (hf : ∀ z ∈ locs, free z.base) (hc : cells + 1 ≤ mc) (hs : slots + 6 ≤ ms) :
    W p l e R s m args below meth c H locs cells slots (vx_MQ below Qc XC args s mc ms free) (F0 m pc ls rest) := by
  intro T hT X
  have htr : e.platform.stackTraces = false := (show e.platform.stackTraces = l.stackTraces by rw [X.admits.platform]).trans hl
  have Y := vx_rebase X (R' := { frames := R.frames, locals := R.locals, cells := 1, slots := 6 }) (Nat.le_refl _) (Nat.le_refl _) hRcells hRslots
  obtain ⟨s', hA⟩ : ∃ z, z = (T.setVm s.vm).setFrames (.invoking m args :: below) := ⟨_, rfl⟩
  rw [← hA] at Y
  have hvm : s'.vm = s.vm := by rw [hA]; rfl
  have hhp : s'.heap = H := by rw [hA]; exact hT
  have hW0 : s.WarmedH s'.vm := by rw [hvm]; exact State.WarmedH.refl s
  have hat' : ∀ w ∈ vx_atS own ic cls names, w.before args s' = true := fun w hw => vx_ot_at hW0 hvm.symm (hgood w (List.mem_cons_of_mem _ (List.mem_cons_of_mem _ hw))) (hat w hw)
  have hk' : (Cond.classLink own ik cls).before args s' = true := vx_ot_at hW0 hvm.symm (hgood _ List.mem_cons_self) hk
  have hini' : (Cond.initialized cls).before args s' = true := vx_ot_at hW0 hvm.symm (hgood _ (List.mem_cons_of_mem _ List.mem_cons_self)) hini
  have hU' : vx_Zq Bundle.tN "UNASSIGNED_STACK" Bundle.steD A s' s'.heap := by rw [hhp]; exact vx_Zq.moved hW0.alike (hU.kept hS.2.1)
  have hN' : vx_Zq Bundle.tN "SUPPRESSED_SENTINEL" Bundle.listD A s' s'.heap := by rw [hhp]; exact vx_Zq.moved hW0.alike (hN.kept hS.2.1)
  have h : ∀ w ∈ Bundle.ownAtoms own ic cls names, w.before args s' = true := vx_own hat' (vx_isRefq hU'.1) (vx_isRefq hN'.1) hU'.2.word hN'.2.word
  have hown' : s'.vm.findClass own = some m.cls := by rw [hvm]; exact hown
  have hins : (Cond.instantiable cls 6).before args s' = true := h _ (by simp [Bundle.ownAtoms])
  obtain ⟨vm₁, cX, kX, hfX, hkX, -, -, X₁, st1⟩ := Y.newCold hexec (own := own) (C := cls) (index := ik) (n := 6) hown' hk' hins hini'
    (g := F0 m pc ls rest) rfl (by rw [hb]; exact d0) (Nat.le_refl _) (Nat.le_refl _)
  generalize hT1 : (T.setVm vm₁).pushCell { cls := cX, slots := kX.instanceTypes.map defaultValue, vm := .none } = T1 at X₁ st1
  have hcat : (Value.ref T.heap.size).category = 1 := rfl
  have hcellA : T1.heap[T.heap.size]? = some (freshCell cX kX) := by rw [← hT1]; exact State.heap_pushCell_size _ _
  have d3' : decode c.code (pc + 3) = .ok (.dup, 1) := by rw [hb]; exact d3
  have d4' : decode c.code (pc + 4) = .ok (.ldc_w is, 3) := by rw [hb]; exact d4
  have hstr' : vk_R own is text sa s' := vk_R.warm hW0 hstr
  obtain ⟨U, hsteps, hrun, hend, hW, hsame, ce, hce, hO⟩ := X₁.ctorThrowS hexec htr (own := own) (cls := cls) (names := names) (ic := ic) hown' hcls hnames h (fun x hx => nomatch hx) hfX hkX hcellA (by rw [hhp, hT]; exact Nat.le_refl _) (msg := .ref sa) rfl
    (g := { method := m, pc := pc + 7, locals := ls, stack := .ref sa :: .ref T.heap.size :: .ref T.heap.size :: rest, locked := none }) rfl hsize rfl rfl (rest := rest) rfl
    (by rw [hb]; exact d7) (by rw [hb]; exact d10) hout hRframes (by simp only [List.map_cons, List.sum_cons, hcat]; omega) hlocks
  obtain ⟨f1, f2⟩ := vx_frame hsame
  rw [hhp] at f1 f2
  have hWs : s.WarmedH U.vm := State.WarmedH.trans hW0 hW
  have hcl : s.vm.findClass cls = some ce.cls := by
    have h9 := hO.cls
    rw [hvm] at h9
    exact h9
  have hall : s.sameButNew ({ U with vm := s.vm } : State) locs mc ms := by
    subst hA
    obtain ⟨e1, e2⟩ := hsame
    rw [State.setFrames_setFrames] at e1
    have h2 : (T.setVm s.vm).sameButNew ({ U with vm := s.vm } : State) [] (0 + 1) (0 + 6) := ⟨e1, e2⟩
    have h3 := X.same.trans h2
    rw [List.append_nil] at h3
    exact h3.mono hc hs
  refine ⟨U, ?_, .threw T.heap.size, hrun, hend, Or.inr ⟨T.heap.size, rfl, cls, ce, locs, hx U hWs.alike f1 (fun q hq => f2 q hq (fun z hz => nomatch hz)), hce, hO.vm, hcl, hWs, hall, hf⟩⟩
  refine st1 _ ?_
  show Steps p.tables e below (T1.setTop { method := m, pc := pc + 3, locals := ls, stack := .ref T.heap.size :: rest, locked := none }) _
  jvm_step X₁.here [X₁.here.top, hexec, d3', Value.category]
  exact X₁.ldcStringW hexec (own := own) (text := text) (index := is) (a := sa) hown' hstr'.1 hstr'.2
    (g := { method := m, pc := pc + 4, locals := ls, stack := .ref T.heap.size :: .ref T.heap.size :: rest, locked := none }) rfl d4' _ hsteps
end Ends
section Bodies
variable {l : Launch}
theorem vx_ofW {y : MethodName} {ws ws' : List Cond} {rm : Room} {Pc : Array Value → State → Prop} {Qc : Array Value → State → Outcome → State → Prop} {XC : String → State → State → Prop} {mc ms : Nat} {free : Addr → Prop} {cc : ByteArray} {maxL : Nat} {ret : Option FieldType}
    (hy : plainName y.cls = true) (hw : ws = Cond.code y cc maxL ret :: ws')
    (body : ∀ p e s m args below meth c s₁, BodyLoose p l y (headSpec ws rm) cc maxL ret e s m args below meth c s₁ → c.maxLocals = maxL → (∀ x ∈ c.exceptionTable.toList, False) → Pc args s →
      W p l e (headSpec ws rm).room s m args below meth c s.heap [] 0 0 (vx_MQ below Qc XC args s mc ms free) (entryFrame m args maxL)) : vx_Met l y ws rm Pc Qc XC mc ms free := by
  refine MetFree.of_bodyS (code := cc) (maxLocals := maxL) (ret := ret) hy ?_ ?_
  · intro args s m h hn
    obtain ⟨meth, c, h1, h2, h3, h4, h5, h6, -, -⟩ := Cond.code_spec hn (atoms_spec (ws := ws) h _ (by rw [hw]; exact List.mem_cons_self))
    exact ⟨meth, c, h1, h2, h3, h4, h5, h6⟩
  · intro p e s m args below meth c s₁ B hml hP _
    have hh0 : s₁.heap = s.heap := by rw [B.state]; rfl
    have ht : ∀ x ∈ c.exceptionTable.toList, False := by
      obtain ⟨meth9, c9, h1, h2, -, -, -, -, h7, -⟩ := Cond.code_spec B.named (atoms_spec (ws := ws) B.pre _ (by rw [hw]; exact List.mem_cons_self))
      cases Option.some.inj (h1.symm.trans B.method)
      cases Option.some.inj (h2.symm.trans (Stand.of_body B).code)
      intro x hx
      rw [Array.isEmpty_iff.mp h7] at hx
      cases hx
    obtain ⟨t, a1, o, b1, b2, b3⟩ := body p e s m args below meth c s₁ B hml ht hP s₁ hh0 (Stand.of_body B)
    exact ⟨t, o, a1, b1, b2, b3⟩
/-- the table of a body with handlers -/
theorem vx_table {p : Program} {x y : MethodName} {S : Spec} {cc bytes : ByteArray} {maxL maxL' : Nat} {ret ret' : Option FieldType} {e : Env} {s s₁ : State} {m : MethodId} {args : Array Value} {below : List Frame} {meth : Method} {c : Code} {hh : List (Nat × Nat × Nat × Nat)}
    (B : BodyLoose p l y S cc maxL ret e s m args below meth c s₁) (h : (Cond.codeWith y bytes maxL' ret' hh).before args s = true) : c.exceptionTable.toList = tableOf hh := by
  obtain ⟨m9, meth9, c9, hn9, h1, h2, -, -, h6, -⟩ := Cond.codeWith_spec h
  cases Option.some.inj (hn9.symm.trans B.named)
  cases Option.some.inj (h1.symm.trans B.method)
  cases Option.some.inj (h2.symm.trans (Stand.of_body B).code)
  rw [← h6, table_eq]
end Bodies
end VXA
/-! ===== END ===== -/
/-! ===== BEGIN a static call of a method with an exception table ===== -/
section VXS
variable {p : Program} {l : Launch} {e : Env} {R : Room} {s : State} {m : MethodId} {args : Array Value} {below : List Frame} {meth : Method} {c : Code} {T : State} {H : Heap} {locs : List Loc} {cells slots : Nat}
abbrev vx_CSW (R : Room) (s : State) (args : Array Value) (own : String) (index : Nat) (y : MethodName) (bytes : ByteArray) (maxL : Nat) (ret : Option FieldType) (hh : List (Nat × Nat × Nat × Nat)) (ws : List Cond) (rm : Room) (mc ms n : Nat) : Prop :=
  (rm.cells = mc ∧ rm.slots = ms ∧ rm.frames + 1 ≤ R.frames ∧ 8 + (maxL + 11) + rm.locals ≤ R.locals ∧ (∀ w ∈ ws, ∀ (a' : Array Value) (U : State), s.WarmedH U.vm → w.before a' U = true) ∧ Cond.codeWith y bytes maxL ret hh ∈ ws) ∧
  (Cond.codeWith y bytes maxL ret hh).before args s = true ∧ (Cond.initialized y.cls).before args s = true ∧ (y.cls ≠ "java/lang/invoke/MethodHandle" ∧ y.cls ≠ "java/lang/invoke/VarHandle") ∧
  (∀ sig, parseMethodDescriptor y.desc = some sig → n = sig.parameters.length) ∧ (Cond.methodLink own index y).before args s = true ∧ (Cond.static y).before args s = true
theorem vx_cwSW {own : String} {index maxL mc ms : Nat} {y : MethodName} {bytes : ByteArray} {ret : Option FieldType} {hh : List (Nat × Nat × Nat × Nat)} {Ts ws ws' : List Cond} {rm : Room} (n : Nat) (ht : ∀ w ∈ Ts, w.before args s = true) (hT : GoodIn Ts (va_wsS own index y ws)) (hw : ws = Cond.codeWith y bytes maxL ret hh :: ws') (hrc : rm.cells = mc) (hrs : rm.slots = ms)
    (hd : y.cls ≠ "java/lang/invoke/MethodHandle" ∧ y.cls ≠ "java/lang/invoke/VarHandle" ∧ (parseMethodDescriptor y.desc).map (fun d => d.parameters.length) = some n) (hR : rm.frames + 1 ≤ R.frames ∧ 8 + (maxL + 11) + rm.locals ≤ R.locals) :
    vx_CSW R s args own index y bytes maxL ret hh ws rm mc ms n := by
  have ok : ∀ w ∈ va_wsS own index y ws, w.before args s = true := fun w h => ht w (hT w h).1
  have hG : GoodIn Ts ws := fun w h => hT w (by unfold va_wsS; exact List.mem_append_right _ h)
  have hc : Cond.codeWith y bytes maxL ret hh ∈ ws := by rw [hw]; exact List.mem_cons_self
  refine ⟨⟨hrc, hrs, hR.1, hR.2, pay_in ht hG, hc⟩, ht _ (hG _ hc).1, ok _ (by simp [va_wsS]), ⟨hd.1, hd.2.1⟩, fun sig h => ?_, ok _ (by simp [va_wsS]), ok _ (by simp [va_wsS])⟩
  have h2 := hd.2.2
  rw [h] at h2
  exact (Option.some.inj h2).symm
theorem vx_callSW (X : Stand p l e R s m args below meth c T locs cells slots) (hexec : p.tables.exec = Jvm.exec) {own : String} {index : Nat} {y : MethodName} {bytes : ByteArray} {maxL : Nat} {ret : Option FieldType} {hh : List (Nat × Nat × Nat × Nat)}
    (hown : s.vm.findClass own = some m.cls) (hlink : (Cond.methodLink own index y).before args s = true) (hstat : (Cond.static y).before args s = true) (hinit : (Cond.initialized y.cls).before args s = true)
    (hcode : (Cond.codeWith y bytes maxL ret hh).before args s = true) (hy : y.cls ≠ "java/lang/invoke/MethodHandle" ∧ y.cls ≠ "java/lang/invoke/VarHandle")
    {W9 : Nat} {Pre : Pt → Array Value → Prop} {Post : Pt → Array Value → Option Value → Pt → Prop} (hK : Back l R p e below s args y 3 W9 Pre Post)
    {g : JFrame} (hg : g.method = m) (hsize : g.locals.size = c.maxLocals) {argsL rest : List Value} (hlen : ∀ sig, parseMethodDescriptor y.desc = some sig → argsL.length = sig.parameters.length)
    (hstack : g.stack = argsL.reverse ++ rest) (hW : 2 * g.monitorRoom + (rest.map fun v => v.category).sum ≤ W9) (hdg : decode c.code g.pc = .ok (.invokestatic index, 3))
    (hpre : ∀ vm₁, s.WarmedH vm₁ → Pre ⟨T.setVm vm₁, locs, cells, slots⟩ argsL.toArray) :
    ∃ (v : Option Value) (vm₁ : Vm) (B : Pt), s.WarmedH vm₁ ∧ Stand p l e R s m args below meth c B.U B.locs B.cells B.slots ∧ Post ⟨T.setVm vm₁, locs, cells, slots⟩ argsL.toArray v B ∧
      ∀ target, Steps p.tables e below (B.U.setTop { g with pc := g.pc + 3, stack := v.toList ++ rest }) target → Steps p.tables e below (T.setTop g) target := by
  obtain ⟨mk, methM, cM, hnamed, hmethM, -, -, -, -, -, -, hsigM⟩ := Cond.codeWith_spec hcode
  have hstatic : methM.isStatic = true := Cond.static_spec hnamed hmethM hstat
  obtain ⟨kP, hkP, -⟩ := className_of_methodNamed hnamed
  have hinitP : kP.init = .initialized := Cond.initialized_spec (findClass_of_methodNamed hnamed) hkP hinit
  obtain ⟨vm₁, X₁, hstep₁⟩ := X.invokestatic hexec hown hlink hnamed hmethM hstatic hkP hinitP hy (g := g) hg (argsL := argsL) (rest := rest) (hlen _ hsigM) hstack hdg
  obtain ⟨v, B, X', hpost, hsteps⟩ := hK m meth c ⟨T.setVm vm₁, locs, cells, slots⟩ { g with stack := rest } (.invokestatic index) mk argsL.toArray X₁ hg hsize hdg hW (X₁.named hnamed) (hpre vm₁ X₁.warmed)
  exact ⟨v, vm₁, B, X₁.warmed, X', hpost, fun target h => hstep₁ _ fun acts => by rw [doInvoke_state]; exact hsteps.trans h⟩
theorem vx_runSW {y : MethodName} {bytes cc : ByteArray} {maxL nL mc ms n index : Nat} {ret : Option FieldType} {hh : List (Nat × Nat × Nat × Nat)} {ws : List Cond} {rm : Room} {Pc : Array Value → State → Prop} {Qc : Array Value → State → Outcome → State → Prop} {free : Addr → Prop} {Ts : List Cond} {own : String} {As rest : List Value} {g : JFrame}
    (S : CallFix p m c cc nL s args Ts own) (hM : Met l y ws rm Pc Qc mc ms free) (cw : vx_CSW R s args own index y bytes maxL ret hh ws rm mc ms n) (hp : PreS s H Pc As)
    (hg : g.method = m) (hn : As.length = n) (hsize : g.locals.size = nL) (hstack : g.stack = As.reverse ++ rest) (hW : 2 * g.monitorRoom + (rest.map fun v => v.category).sum ≤ 8) (hdg : decode cc g.pc = .ok (.invokestatic index, 3)) (hf : cells + mc ≤ R.cells ∧ slots + ms ≤ R.slots) :
    va_Run p l e R s m args below meth c H locs cells slots mc ms g rest (Qc As.toArray) (free) := by
  obtain ⟨⟨hrc, hrs, hfr, hlo, hws, hcw⟩, hcode, hini, hy, hlen, hl, hstt⟩ := cw
  have hK : Back l R p e below s args y 3 8 (PreOf R mc ms Pc) (PostOf Qc mc ms free) := va_backW (hh := hh) (bytes := bytes) (maxL := maxL) (ret := ret) hM hp.1 hrc hrs hfr hlo hws hcw (fun a' U hW => word_at hW (Or.inl (by first | rfl | simp [Cond.onTables, Cond.keeps, Cond.steady])) hini)
  obtain ⟨hx, hb, hml, ho, -⟩ := S
  intro T hT X
  obtain ⟨v, vm₁, ⟨U', l2, c2, s2⟩, hW₁, X', ⟨g', mk, t, L, e1, e2, hq, h1, hL, h2, h3⟩, st⟩ := vx_callSW X hx (hh := hh) (bytes := bytes) (maxL := maxL) (ret := ret) ho hl hstt hini hcode hy hK hg (hsize.trans hml.symm) (argsL := As) (rest := rest) (fun sig h => hn.trans (hlen sig h)) hstack hW (by rw [hb]; exact hdg)
    (fun vm₁ hW₁ => ⟨hf.1, hf.2, hp.2 (T.setVm vm₁) hT hW₁⟩)
  dsimp only [Pt.U, Pt.locs, Pt.cells, Pt.slots] at X' e1 e2 h1 h2 h3 st
  subst h1; subst h2; subst h3
  exact ⟨v, (T.setVm vm₁).calling g' mk As.toArray, t, U', L, hT, X', hL, e1, e2, hq, st⟩
/-- a thing of a world lies in the heap -/
theorem vx_lt {D : va_G} {cl : List vw_C} {ws : va_W} {H1 : Heap} (h : va_P D cl ws H1) {k : Nat} {q : Nat × va_E} (hk : ws[k]? = some q) : q.1 < H1.size := (h k q hk).lt
end VXS
/-! ===== END ===== -/
/-! ===== BEGIN methods with a table of their own: called by a name, returning or throwing ===== -/
section VXH
/-! vx_backW, vx_callVX, vx_callSX, vx_callVW, vx_runVW, vx_runVX, vx_runSX, vx_ofWH follow the same proofs as their sisters above (Free/Laws.lean, Shelf42/LK1.lean); vx_outP calls Shelf42/NT130.lean (outThrough). -/
section
variable {l : Launch} {R : Room} {p : Program} {e : Env} {below : List Frame} {s : State} {sargs : Array Value} {y : MethodName} {len W9 : Nat}
theorem vx_backW {ws : List Cond} {rm : Room} {Pc : Array Value → State → Prop} {Qc : Array Value → State → Outcome → State → Prop} {XC : String → State → State → Prop} {mc ms : Nat} {free : Addr → Prop} {bytes : ByteArray} {maxL : Nat} {ret : Option FieldType} {hh : List (Nat × Nat × Nat × Nat)}
    (hM : vx_Met l y ws rm Pc Qc XC mc ms free) (hblind : FrameBlind Pc) (hrc : rm.cells = mc) (hrs : rm.slots = ms)
    (hframes : rm.frames + 1 ≤ R.frames) (hlocals : W9 + (maxL + 11) + rm.locals ≤ R.locals)
    (hws : ∀ w ∈ ws, ∀ a' U, s.WarmedH U.vm → w.before a' U = true) (hcode : Cond.codeWith y bytes maxL ret hh ∈ ws) (hinit : ∀ a' U, s.WarmedH U.vm → (Cond.initialized y.cls).before a' U = true) :
    vx_Back l R p e below s sargs y len W9 (PreOf R mc ms Pc) (PostOf Qc mc ms free) (vx_Post XC mc ms free) := by
  intro m meth c A g ig mk a X hg hsize hdg hW hn hp
  have h1 : (headSpec ws rm).pre.before a A.U = true := atoms_intro fun w hw => hws w hw _ _ X.warmed
  have h2 : (Cond.codeWith y bytes maxL ret hh).before a A.U = true := hws _ hcode _ _ X.warmed
  have h3 : (Cond.initialized y.cls).before a A.U = true := hinit _ _ X.warmed
  have h4 : A.cells + (headSpec ws rm).room.cells ≤ R.cells := by rw [show (headSpec ws rm).room.cells = mc from hrc]; exact hp.1
  have h5 : A.slots + (headSpec ws rm).room.slots ≤ R.slots := by rw [show (headSpec ws rm).room.slots = ms from hrs]; exact hp.2.1
  have hPc : Pc a (A.U.calling g mk a) := hblind _ _ _ _ hp.2.2
  obtain ⟨U, Ls, c0, s0⟩ := A
  dsimp only [Pt.U, Pt.locs, Pt.cells, Pt.slots] at h1 h2 h3 h4 h5 X hn hPc ⊢
  obtain ⟨m9, methY, cY, hn9, hmY, hcY, -, hlY, -⟩ := Cond.codeWith_spec h2
  cases Option.some.inj (hn9.symm.trans hn)
  obtain ⟨kY, hkY, -⟩ := className_of_methodNamed hn
  have hinitY : kY.init = .initialized := Cond.initialized_spec (findClass_of_methodNamed hn) hkY h3
  have h : At U g.method c below := by rw [hg]; exact X.here
  have hlocals9 : W9 + (maxL + 11) + (headSpec ws rm).room.locals ≤ R.locals := hlocals
  have happ : (headSpec ws rm).appliesLoose y e.platform (U.calling g mk a) = true :=
    Spec.appliesLoose_calling (g := g) h hdg hn hkY hinitY
      (X.room_calling (g := g) (R' := (headSpec ws rm).room) hsize hmY hcY hframes (by rw [hlY]; omega) h4 h5) h1
  obtain ⟨mid, hmid⟩ := h.above
  have hfr : (U.setTop g).frames = (.java g :: mid) ++ below := by rw [State.frames_setTop' g h.top, hmid]; rfl
  obtain ⟨o, s₂, hsteps, -, hend, hq⟩ := Steps.callFree hM p X.admits X.cas X.clock (acts := []) hfr happ hPc trivial
  have hq' : vx_Q Qc XC mc ms free a (U.calling g mk a) o s₂ := hq
  rw [State.frames_setTop' g h.top] at hend
  obtain ⟨g₀, hg0⟩ := Option.isSome_iff_exists.mp h.top
  obtain ⟨r, hr⟩ := State.topJava?_eq_some.mp hg0
  have hr' : (({ U with heap := s₂.heap, slotsUsed := s₂.slotsUsed } : State).setVm s₂.vm).frames = .java g₀ :: r := hr
  rcases hq' with ⟨hqc, L, hfe, hL⟩ | ⟨q, rfl, E, ce, L, hx, hce, hcv, hcl, hW₂, hsm, hL⟩
  · obtain ⟨⟨v, rfl⟩, hW₂, e2, q2, q3, q4, q5, q6⟩ := id hfe
    have e3 : s₂ = ({ (U.calling g mk a).setFrames s₂.frames with heap := s₂.heap, slotsUsed := s₂.slotsUsed } : State).setVm s₂.vm := by
      have : s₂ = ({ s₂ with vm := (U.calling g mk a).vm } : State).setVm s₂.vm := rfl
      rw [e2] at this
      exact this
    obtain ⟨c₂, i₂, len₂, hc₂, hd₂, hf₂⟩ := hend
    have hW' : U.WarmedH s₂.vm := hW₂
    have hcc : c₂ = c := by
      have h1 : s₂.code? g.method = U.code? g.method := by
        rw [State.code?_eq, State.code?_eq, hW'.alike.method?]
      exact Option.some.inj (hc₂.symm.trans (h1.trans h.code))
    subst hcc
    have hlen : len₂ = len := by rw [hdg] at hd₂; cases hd₂; rfl
    subst hlen
    have hs₂ : s₂ = (({ U with heap := s₂.heap, slotsUsed := s₂.slotsUsed } : State).setVm s₂.vm).setTop { g with pc := g.pc + len₂, stack := v.toList ++ g.stack } := by
      refine e3.trans ?_
      rw [hf₂, State.calling_eq h.top, State.setFrames_setFrames, State.setTop_of_frames _ hr', hr]
      rfl
    have hsame : U.sameButNew ({ U with heap := s₂.heap, slotsUsed := s₂.slotsUsed } : State) L mc ms := by
      refine ⟨?_, q2, q3, q4, q5, q6⟩
      obtain ⟨t, ht, -⟩ := State.frames_cons hr
      show ({ U with heap := s₂.heap, slotsUsed := s₂.slotsUsed } : State) = { U.setFrames U.frames with heap := s₂.heap, slotsUsed := s₂.slotsUsed }
      rw [State.setFrames_self ht]
    subst hg
    refine Or.inl ⟨v, ⟨(({ U with heap := s₂.heap, slotsUsed := s₂.slotsUsed } : State).setVm s₂.vm), Ls ++ L, c0 + mc, s0 + ms⟩,
      ⟨X.admits, X.cas, X.clock, X.frames, X.room, X.hears, X.method, X.code, (X.here.setHeapUsed s₂.heap s₂.slotsUsed).setVm hW'.alike, X.tail, State.WarmedH.trans X.warmed hW', X.limits, X.bytes, X.same.trans (hsame.setVm s.vm)⟩,
      ⟨g, mk, s₂, L, rfl, rfl, hqc, rfl, hL, rfl, rfl⟩, ?_⟩
    show Steps p.tables e below _ ((({ U with heap := s₂.heap, slotsUsed := s₂.slotsUsed } : State).setVm s₂.vm).setTop { g with pc := g.pc + len₂, stack := v.toList ++ g.stack })
    rw [← hs₂]
    exact hsteps
  · obtain ⟨e2, q2, q3, q4, q5, q6⟩ := id hsm
    have e3 : s₂ = ({ (U.calling g mk a).setFrames s₂.frames with heap := s₂.heap, slotsUsed := s₂.slotsUsed } : State).setVm s₂.vm := by
      have : s₂ = ({ s₂ with vm := (U.calling g mk a).vm } : State).setVm s₂.vm := rfl
      rw [e2] at this
      exact this
    have hf₂ : s₂.frames = .throwing q :: .java g :: U.frames.tail := hend
    have hW' : U.WarmedH s₂.vm := hW₂
    have hs₂ : s₂ = ((({ U with heap := s₂.heap, slotsUsed := s₂.slotsUsed } : State).setVm s₂.vm).setTop g).pushFrame (.throwing q) := by
      refine e3.trans ?_
      rw [hf₂, State.calling_eq h.top, State.setFrames_setFrames, State.pushFrame, State.frames_setTop _ hr', State.setTop_of_frames _ hr', State.setFrames_setFrames, hr]
      rfl
    have hsame : U.sameButNew ({ U with heap := s₂.heap, slotsUsed := s₂.slotsUsed } : State) L mc ms := by
      refine ⟨?_, q2, q3, q4, q5, q6⟩
      obtain ⟨t, ht, -⟩ := State.frames_cons hr
      show ({ U with heap := s₂.heap, slotsUsed := s₂.slotsUsed } : State) = { U.setFrames U.frames with heap := s₂.heap, slotsUsed := s₂.slotsUsed }
      rw [State.setFrames_self ht]
    subst hg
    refine Or.inr ⟨q, ⟨(({ U with heap := s₂.heap, slotsUsed := s₂.slotsUsed } : State).setVm s₂.vm), Ls ++ L, c0 + mc, s0 + ms⟩,
      ⟨X.admits, X.cas, X.clock, X.frames, X.room, X.hears, X.method, X.code, (X.here.setHeapUsed s₂.heap s₂.slotsUsed).setVm hW'.alike, X.tail, State.WarmedH.trans X.warmed hW', X.limits, X.bytes, X.same.trans (hsame.setVm s.vm)⟩,
      ⟨g, mk, s₂, L, E, ce, rfl, rfl, hx, hce, hcv, hcl, rfl, hL, rfl, rfl⟩, ?_⟩
    show Steps p.tables e below _ (((({ U with heap := s₂.heap, slotsUsed := s₂.slotsUsed } : State).setVm s₂.vm).setTop g).pushFrame (.throwing q))
    rw [← hs₂]
    exact hsteps
end
variable {p : Program} {l : Launch} {e : Env} {R : Room} {s : State} {m : MethodId} {args : Array Value} {below : List Frame} {meth : Method} {c : Code} {T : State} {H : Heap} {locs : List Loc} {cells slots : Nat}
theorem vx_callVX (X : Stand p l e R s m args below meth c T locs cells slots) (hexec : p.tables.exec = Jvm.exec) {own C : String} {index : Nat} {y : MethodName} {bytes : ByteArray} {maxL : Nat} {ret : Option FieldType} {hh : List (Nat × Nat × Nat × Nat)}
    (hown : s.vm.findClass own = some m.cls) (hlink : (Cond.methodLink own index y).before args s = true) (hinst : (Cond.instanceMethod y).before args s = true) (hsel : (Cond.selects C y y).before args s = true)
    (hcode : (Cond.codeWith y bytes maxL ret hh).before args s = true) (hy : y.cls ≠ "java/lang/invoke/MethodHandle" ∧ y.cls ≠ "java/lang/invoke/VarHandle")
    {W9 : Nat} {Pre : Pt → Array Value → Prop} {Post : Pt → Array Value → Option Value → Pt → Prop} {PostX : Pt → Array Value → Addr → Pt → Prop} (hK : vx_Back l R p e below s args y 3 W9 Pre Post PostX)
    {b : Addr} {cellB : Cell} (hcell : T.heap[b]? = some cellB) (hobj : cellB.vm.isStatics = false) (hcls : s.vm.findClass C = some cellB.cls)
    {g : JFrame} (hg : g.method = m) (hsize : g.locals.size = c.maxLocals) {argsL rest : List Value} (hlen : ∀ sig, parseMethodDescriptor y.desc = some sig → argsL.length = sig.parameters.length)
    (hstack : g.stack = argsL.reverse ++ .ref b :: rest) (hW : 2 * g.monitorRoom + (rest.map fun v => v.category).sum ≤ W9) (hdg : decode c.code g.pc = .ok (.invokevirtual index, 3))
    (hpre : ∀ vm₁, s.WarmedH vm₁ → Pre ⟨T.setVm vm₁, locs, cells, slots⟩ (Value.ref b :: argsL).toArray) :
    (∃ (v : Option Value) (vm₁ : Vm) (B : Pt), s.WarmedH vm₁ ∧ Stand p l e R s m args below meth c B.U B.locs B.cells B.slots ∧ Post ⟨T.setVm vm₁, locs, cells, slots⟩ (Value.ref b :: argsL).toArray v B ∧
      ∀ target, Steps p.tables e below (B.U.setTop { g with pc := g.pc + 3, stack := v.toList ++ rest }) target → Steps p.tables e below (T.setTop g) target) ∨
    (∃ (q : Addr) (vm₁ : Vm) (B : Pt), s.WarmedH vm₁ ∧ Stand p l e R s m args below meth c B.U B.locs B.cells B.slots ∧ PostX ⟨T.setVm vm₁, locs, cells, slots⟩ (Value.ref b :: argsL).toArray q B ∧
      Steps p.tables e below (T.setTop g) ((B.U.setTop { g with stack := rest }).pushFrame (.throwing q))) := by
  obtain ⟨mk, methM, hnamed, hmethM, hstM, habM⟩ := Cond.instanceMethod_spec hinst
  obtain ⟨m8, methM', cM, hn8, hmethM', -, -, -, -, -, -, hsigM⟩ := Cond.codeWith_spec hcode
  cases Option.some.inj (hn8.symm.trans hnamed)
  cases hmethM.symm.trans hmethM'
  obtain ⟨c2, r2, m2, q1, q2, q3, q4, kP, hkP, hkPi⟩ := Cond.selects_spec hsel
  cases hcls.symm.trans q1
  cases (State.methodFound?_of_named hnamed hy).symm.trans q2
  cases hnamed.symm.trans q3
  have hselP : selectMethod e.platform s.vm cellB.cls mk = .method mk := by rw [Launch.admits_selectMethod X.admits]; exact q4
  obtain ⟨vm₁, X₁, hstep₁⟩ := X.invokevirtual hexec hown hlink hnamed hmethM hstM hkP hkPi hy (a := b) (cell := cellB) hcell
    (fun z h => by rw [h] at hobj; cases hobj) hselP hmethM habM hkP hkPi (g := g) hg (argsL := argsL) (rest := rest) (hlen _ hsigM) hstack hdg
  rcases hK m meth c ⟨T.setVm vm₁, locs, cells, slots⟩ { g with stack := rest } (.invokevirtual index) mk (Value.ref b :: argsL).toArray X₁ hg hsize hdg hW (X₁.named hnamed) (hpre vm₁ X₁.warmed) with ⟨v, B, X', hpost, hsteps⟩ | ⟨q, B, X', hpost, hsteps⟩
  · exact Or.inl ⟨v, vm₁, B, X₁.warmed, X', hpost, fun target h => hstep₁ _ fun acts => by rw [doInvoke_state]; exact hsteps.trans h⟩
  · exact Or.inr ⟨q, vm₁, B, X₁.warmed, X', hpost, hstep₁ _ fun acts => by rw [doInvoke_state]; exact hsteps⟩
theorem vx_callSX (X : Stand p l e R s m args below meth c T locs cells slots) (hexec : p.tables.exec = Jvm.exec) {own : String} {index : Nat} {y : MethodName} {bytes : ByteArray} {maxL : Nat} {ret : Option FieldType} {hh : List (Nat × Nat × Nat × Nat)}
    (hown : s.vm.findClass own = some m.cls) (hlink : (Cond.methodLink own index y).before args s = true) (hstat : (Cond.static y).before args s = true) (hinit : (Cond.initialized y.cls).before args s = true)
    (hcode : (Cond.codeWith y bytes maxL ret hh).before args s = true) (hy : y.cls ≠ "java/lang/invoke/MethodHandle" ∧ y.cls ≠ "java/lang/invoke/VarHandle")
    {W9 : Nat} {Pre : Pt → Array Value → Prop} {Post : Pt → Array Value → Option Value → Pt → Prop} {PostX : Pt → Array Value → Addr → Pt → Prop} (hK : vx_Back l R p e below s args y 3 W9 Pre Post PostX)
    {g : JFrame} (hg : g.method = m) (hsize : g.locals.size = c.maxLocals) {argsL rest : List Value} (hlen : ∀ sig, parseMethodDescriptor y.desc = some sig → argsL.length = sig.parameters.length)
    (hstack : g.stack = argsL.reverse ++ rest) (hW : 2 * g.monitorRoom + (rest.map fun v => v.category).sum ≤ W9) (hdg : decode c.code g.pc = .ok (.invokestatic index, 3))
    (hpre : ∀ vm₁, s.WarmedH vm₁ → Pre ⟨T.setVm vm₁, locs, cells, slots⟩ argsL.toArray) :
    (∃ (v : Option Value) (vm₁ : Vm) (B : Pt), s.WarmedH vm₁ ∧ Stand p l e R s m args below meth c B.U B.locs B.cells B.slots ∧ Post ⟨T.setVm vm₁, locs, cells, slots⟩ argsL.toArray v B ∧
      ∀ target, Steps p.tables e below (B.U.setTop { g with pc := g.pc + 3, stack := v.toList ++ rest }) target → Steps p.tables e below (T.setTop g) target) ∨
    (∃ (q : Addr) (vm₁ : Vm) (B : Pt), s.WarmedH vm₁ ∧ Stand p l e R s m args below meth c B.U B.locs B.cells B.slots ∧ PostX ⟨T.setVm vm₁, locs, cells, slots⟩ argsL.toArray q B ∧
      Steps p.tables e below (T.setTop g) ((B.U.setTop { g with stack := rest }).pushFrame (.throwing q))) := by
  obtain ⟨mk, methM, cM, hnamed, hmethM, -, -, -, -, -, -, hsigM⟩ := Cond.codeWith_spec hcode
  have hstatic : methM.isStatic = true := Cond.static_spec hnamed hmethM hstat
  obtain ⟨kP, hkP, -⟩ := className_of_methodNamed hnamed
  have hinitP : kP.init = .initialized := Cond.initialized_spec (findClass_of_methodNamed hnamed) hkP hinit
  obtain ⟨vm₁, X₁, hstep₁⟩ := X.invokestatic hexec hown hlink hnamed hmethM hstatic hkP hinitP hy (g := g) hg (argsL := argsL) (rest := rest) (hlen _ hsigM) hstack hdg
  rcases hK m meth c ⟨T.setVm vm₁, locs, cells, slots⟩ { g with stack := rest } (.invokestatic index) mk argsL.toArray X₁ hg hsize hdg hW (X₁.named hnamed) (hpre vm₁ X₁.warmed) with ⟨v, B, X', hpost, hsteps⟩ | ⟨q, B, X', hpost, hsteps⟩
  · exact Or.inl ⟨v, vm₁, B, X₁.warmed, X', hpost, fun target h => hstep₁ _ fun acts => by rw [doInvoke_state]; exact hsteps.trans h⟩
  · exact Or.inr ⟨q, vm₁, B, X₁.warmed, X', hpost, hstep₁ _ fun acts => by rw [doInvoke_state]; exact hsteps⟩
theorem vx_callVW (X : Stand p l e R s m args below meth c T locs cells slots) (hexec : p.tables.exec = Jvm.exec) {own C : String} {index : Nat} {y : MethodName} {bytes : ByteArray} {maxL : Nat} {ret : Option FieldType} {hh : List (Nat × Nat × Nat × Nat)}
    (hown : s.vm.findClass own = some m.cls) (hlink : (Cond.methodLink own index y).before args s = true) (hinst : (Cond.instanceMethod y).before args s = true) (hsel : (Cond.selects C y y).before args s = true)
    (hcode : (Cond.codeWith y bytes maxL ret hh).before args s = true) (hy : y.cls ≠ "java/lang/invoke/MethodHandle" ∧ y.cls ≠ "java/lang/invoke/VarHandle")
    {W9 : Nat} {Pre : Pt → Array Value → Prop} {Post : Pt → Array Value → Option Value → Pt → Prop} (hK : Back l R p e below s args y 3 W9 Pre Post)
    {b : Addr} {cellB : Cell} (hcell : T.heap[b]? = some cellB) (hobj : cellB.vm.isStatics = false) (hcls : s.vm.findClass C = some cellB.cls)
    {g : JFrame} (hg : g.method = m) (hsize : g.locals.size = c.maxLocals) {argsL rest : List Value} (hlen : ∀ sig, parseMethodDescriptor y.desc = some sig → argsL.length = sig.parameters.length)
    (hstack : g.stack = argsL.reverse ++ .ref b :: rest) (hW : 2 * g.monitorRoom + (rest.map fun v => v.category).sum ≤ W9) (hdg : decode c.code g.pc = .ok (.invokevirtual index, 3))
    (hpre : ∀ vm₁, s.WarmedH vm₁ → Pre ⟨T.setVm vm₁, locs, cells, slots⟩ (Value.ref b :: argsL).toArray) :
    ∃ (v : Option Value) (vm₁ : Vm) (B : Pt), s.WarmedH vm₁ ∧ Stand p l e R s m args below meth c B.U B.locs B.cells B.slots ∧ Post ⟨T.setVm vm₁, locs, cells, slots⟩ (Value.ref b :: argsL).toArray v B ∧
      ∀ target, Steps p.tables e below (B.U.setTop { g with pc := g.pc + 3, stack := v.toList ++ rest }) target → Steps p.tables e below (T.setTop g) target := by
  obtain ⟨mk, methM, hnamed, hmethM, hstM, habM⟩ := Cond.instanceMethod_spec hinst
  obtain ⟨m8, methM', cM, hn8, hmethM', -, -, -, -, -, -, hsigM⟩ := Cond.codeWith_spec hcode
  cases Option.some.inj (hn8.symm.trans hnamed)
  cases hmethM.symm.trans hmethM'
  obtain ⟨c2, r2, m2, q1, q2, q3, q4, kP, hkP, hkPi⟩ := Cond.selects_spec hsel
  cases hcls.symm.trans q1
  cases (State.methodFound?_of_named hnamed hy).symm.trans q2
  cases hnamed.symm.trans q3
  have hselP : selectMethod e.platform s.vm cellB.cls mk = .method mk := by rw [Launch.admits_selectMethod X.admits]; exact q4
  obtain ⟨vm₁, X₁, hstep₁⟩ := X.invokevirtual hexec hown hlink hnamed hmethM hstM hkP hkPi hy (a := b) (cell := cellB) hcell
    (fun z h => by rw [h] at hobj; cases hobj) hselP hmethM habM hkP hkPi (g := g) hg (argsL := argsL) (rest := rest) (hlen _ hsigM) hstack hdg
  obtain ⟨v, B, X', hpost, hsteps⟩ := hK m meth c ⟨T.setVm vm₁, locs, cells, slots⟩ { g with stack := rest } (.invokevirtual index) mk (Value.ref b :: argsL).toArray X₁ hg hsize hdg hW (X₁.named hnamed) (hpre vm₁ X₁.warmed)
  exact ⟨v, vm₁, B, X₁.warmed, X', hpost, fun target h => hstep₁ _ fun acts => by rw [doInvoke_state]; exact hsteps.trans h⟩
abbrev vx_CVW (R : Room) (s : State) (args : Array Value) (own C : String) (index : Nat) (y : MethodName) (bytes : ByteArray) (maxL : Nat) (ret : Option FieldType) (hh : List (Nat × Nat × Nat × Nat)) (ws : List Cond) (rm : Room) (mc ms n : Nat) : Prop :=
  (rm.cells = mc ∧ rm.slots = ms ∧ rm.frames + 1 ≤ R.frames ∧ 8 + (maxL + 11) + rm.locals ≤ R.locals ∧ (∀ w ∈ ws, ∀ (a' : Array Value) (U : State), s.WarmedH U.vm → w.before a' U = true) ∧ Cond.codeWith y bytes maxL ret hh ∈ ws) ∧
  (Cond.codeWith y bytes maxL ret hh).before args s = true ∧ (Cond.initialized y.cls).before args s = true ∧ (y.cls ≠ "java/lang/invoke/MethodHandle" ∧ y.cls ≠ "java/lang/invoke/VarHandle") ∧
  (∀ sig, parseMethodDescriptor y.desc = some sig → n = sig.parameters.length) ∧ (Cond.methodLink own index y).before args s = true ∧ (Cond.instanceMethod y).before args s = true ∧ (Cond.selects C y y).before args s = true
theorem vx_cwVW {own C : String} {index maxL mc ms : Nat} {y : MethodName} {bytes : ByteArray} {ret : Option FieldType} {hh : List (Nat × Nat × Nat × Nat)} {Ts ws ws' : List Cond} {rm : Room} (n : Nat) (ht : ∀ w ∈ Ts, w.before args s = true) (hT : GoodIn Ts (wsV own index C y ws)) (hw : ws = Cond.codeWith y bytes maxL ret hh :: ws') (hrc : rm.cells = mc) (hrs : rm.slots = ms)
    (hd : y.cls = C ∧ y.cls ≠ "java/lang/invoke/MethodHandle" ∧ y.cls ≠ "java/lang/invoke/VarHandle" ∧ (parseMethodDescriptor y.desc).map (fun d => d.parameters.length) = some n) (hR : rm.frames + 1 ≤ R.frames ∧ 8 + (maxL + 11) + rm.locals ≤ R.locals) :
    vx_CVW R s args own C index y bytes maxL ret hh ws rm mc ms n := by
  obtain ⟨hC, hd⟩ := hd
  subst hC
  have ok : ∀ w ∈ wsV own index y.cls y ws, w.before args s = true := fun w h => ht w (hT w h).1
  have hG : GoodIn Ts ws := fun w h => hT w (by unfold wsV; exact List.mem_append_right _ h)
  have hc : Cond.codeWith y bytes maxL ret hh ∈ ws := by rw [hw]; exact List.mem_cons_self
  refine ⟨⟨hrc, hrs, hR.1, hR.2, pay_in ht hG, hc⟩, ht _ (hG _ hc).1, ok _ (by simp [wsV]), ⟨hd.1, hd.2.1⟩, fun sig h => ?_, ok _ (by simp [wsV]), ok _ (by simp [wsV]), ok _ (by simp [wsV])⟩
  have h2 := hd.2.2
  rw [h] at h2
  exact (Option.some.inj h2).symm
theorem vx_runVW {y : MethodName} {bytes cc : ByteArray} {maxL nL mc ms n index : Nat} {ret : Option FieldType} {hh : List (Nat × Nat × Nat × Nat)} {ws : List Cond} {rm : Room} {Pc : Array Value → State → Prop} {Qc : Array Value → State → Outcome → State → Prop} {free : Addr → Prop} {Ts : List Cond} {own C : String} {b : Addr} {As rest : List Value} {g : JFrame}
    (S : CallFix p m c cc nL s args Ts own) (hM : Met l y ws rm Pc Qc mc ms free) (cw : vx_CVW R s args own C index y bytes maxL ret hh ws rm mc ms n) (hp : PreV s H C b Pc As)
    (hg : g.method = m) (hn : As.length = n) (hsize : g.locals.size = nL) (hstack : g.stack = As.reverse ++ .ref b :: rest) (hW : 2 * g.monitorRoom + (rest.map fun v => v.category).sum ≤ 8) (hdg : decode cc g.pc = .ok (.invokevirtual index, 3)) (hf : cells + mc ≤ R.cells ∧ slots + ms ≤ R.slots) :
    va_Run p l e R s m args below meth c H locs cells slots mc ms g rest (Qc (Value.ref b :: As).toArray) free := by
  obtain ⟨⟨hrc, hrs, hfr, hlo, hws, hcw⟩, hcode, hini, hy, hlen, hl, hin, hse⟩ := cw
  have hK : Back l R p e below s args y 3 8 (PreOf R mc ms Pc) (PostOf Qc mc ms free) := va_backW (hh := hh) (bytes := bytes) (maxL := maxL) (ret := ret) hM hp.1 hrc hrs hfr hlo hws hcw (fun a' U hW => word_at hW (Or.inl (by first | rfl | simp [Cond.onTables, Cond.keeps, Cond.steady])) hini)
  obtain ⟨hx, hb, hml, ho, -⟩ := S
  obtain ⟨-, ⟨cellB, hcB, hoB, hclB⟩, hPc⟩ := hp
  intro T hT X
  obtain ⟨v, vm₁, ⟨U', l2, c2, s2⟩, hW₁, X', ⟨g', mk, t, L, e1, e2, hq, h1, hL, h2, h3⟩, st⟩ := vx_callVW X hx (C := C) (hh := hh) (bytes := bytes) (maxL := maxL) (ret := ret) ho hl hin hse hcode hy hK (by rw [hT]; exact hcB) hoB hclB hg (hsize.trans hml.symm) (argsL := As) (rest := rest) (fun sig h => hn.trans (hlen sig h)) hstack hW (by rw [hb]; exact hdg)
    (fun vm₁ hW₁ => ⟨hf.1, hf.2, hPc (T.setVm vm₁) hT hW₁⟩)
  dsimp only [Pt.U, Pt.locs, Pt.cells, Pt.slots] at X' e1 e2 h1 h2 h3 st
  subst h1; subst h2; subst h3
  exact ⟨v, (T.setVm vm₁).calling g' mk (Value.ref b :: As).toArray, t, U', L, hT, X', hL, e1, e2, hq, st⟩
section
variable {y : MethodName} {bytes cc : ByteArray} {maxL nL mc ms n index : Nat} {ret : Option FieldType} {ws : List Cond} {rm : Room} {Pc : Array Value → State → Prop} {Qc : Array Value → State → Outcome → State → Prop} {XC : String → State → State → Prop} {free : Addr → Prop} {Ts : List Cond} {own C : String} {b : Addr} {As rest : List Value} {g : JFrame}
theorem vx_runVX {hh : List (Nat × Nat × Nat × Nat)} (S : CallFix p m c cc nL s args Ts own) (hM : vx_Met l y ws rm Pc Qc XC mc ms free) (cw : vx_CVW R s args own C index y bytes maxL ret hh ws rm mc ms n) (hp : PreV s H C b Pc As)
    (hg : g.method = m) (hn : As.length = n) (hsize : g.locals.size = nL) (hstack : g.stack = As.reverse ++ .ref b :: rest) (hW : 2 * g.monitorRoom + (rest.map fun v => v.category).sum ≤ 8) (hdg : decode cc g.pc = .ok (.invokevirtual index, 3)) (hf : cells + mc ≤ R.cells ∧ slots + ms ≤ R.slots) :
    vx_Run p l e R s m args below meth c H locs cells slots mc ms g rest (Qc (Value.ref b :: As).toArray) XC free := by
  obtain ⟨⟨hrc, hrs, hfr, hlo, hws, hcw⟩, hcode, hini, hy, hlen, hl, hin, hse⟩ := cw
  have hK : vx_Back l R p e below s args y 3 8 (PreOf R mc ms Pc) (PostOf Qc mc ms free) (vx_Post XC mc ms free) := vx_backW (hh := hh) (bytes := bytes) (maxL := maxL) (ret := ret) hM hp.1 hrc hrs hfr hlo hws hcw (fun a' U hW => word_at hW (Or.inl (by first | rfl | simp [Cond.onTables, Cond.keeps, Cond.steady])) hini)
  obtain ⟨hx, hb, hml, ho, -⟩ := S
  obtain ⟨-, ⟨cellB, hcB, hoB, hclB⟩, hPc⟩ := hp
  intro T hT X
  rcases vx_callVX X hx (C := C) (hh := hh) (bytes := bytes) (maxL := maxL) (ret := ret) ho hl hin hse hcode hy hK (by rw [hT]; exact hcB) hoB hclB hg (hsize.trans hml.symm) (argsL := As) (rest := rest) (fun sig h => hn.trans (hlen sig h)) hstack hW (by rw [hb]; exact hdg)
    (fun vm₁ hW₁ => ⟨hf.1, hf.2, hPc (T.setVm vm₁) hT hW₁⟩) with ⟨v, vm₁, ⟨U', l2, c2, s2⟩, hW₁, X', ⟨g', mk, t, L, e1, e2, hq, h1, hL, h2, h3⟩, st⟩ | ⟨q, vm₁, ⟨U', l2, c2, s2⟩, hW₁, X', ⟨g', mk, t, L, E, ce, e1, e2, hq, hce, hcv, hcl, h1, hL, h2, h3⟩, st⟩
  · dsimp only [Pt.U, Pt.locs, Pt.cells, Pt.slots] at X' e1 e2 h1 h2 h3 st
    subst h1; subst h2; subst h3
    exact Or.inl ⟨v, (T.setVm vm₁).calling g' mk (Value.ref b :: As).toArray, t, U', L, hT, X', hL, e1, e2, hq, st⟩
  · dsimp only [Pt.U, Pt.locs, Pt.cells, Pt.slots] at X' e1 e2 h1 h2 h3 st hcl
    subst h1; subst h2; subst h3
    exact Or.inr ⟨q, (T.setVm vm₁).calling g' mk (Value.ref b :: As).toArray, t, U', L, E, ce, hT, X', hL, e1, e2, hq, hce, hcv, vx_cls hW₁ hcl, st⟩
theorem vx_runSX {hh : List (Nat × Nat × Nat × Nat)} (S : CallFix p m c cc nL s args Ts own) (hM : vx_Met l y ws rm Pc Qc XC mc ms free) (cw : vx_CSW R s args own index y bytes maxL ret hh ws rm mc ms n) (hp : PreS s H Pc As)
    (hg : g.method = m) (hn : As.length = n) (hsize : g.locals.size = nL) (hstack : g.stack = As.reverse ++ rest) (hW : 2 * g.monitorRoom + (rest.map fun v => v.category).sum ≤ 8) (hdg : decode cc g.pc = .ok (.invokestatic index, 3)) (hf : cells + mc ≤ R.cells ∧ slots + ms ≤ R.slots) :
    vx_Run p l e R s m args below meth c H locs cells slots mc ms g rest (Qc As.toArray) XC free := by
  obtain ⟨⟨hrc, hrs, hfr, hlo, hws, hcw⟩, hcode, hini, hy, hlen, hl, hstt⟩ := cw
  have hK : vx_Back l R p e below s args y 3 8 (PreOf R mc ms Pc) (PostOf Qc mc ms free) (vx_Post XC mc ms free) := vx_backW (hh := hh) (bytes := bytes) (maxL := maxL) (ret := ret) hM hp.1 hrc hrs hfr hlo hws hcw (fun a' U hW => word_at hW (Or.inl (by first | rfl | simp [Cond.onTables, Cond.keeps, Cond.steady])) hini)
  obtain ⟨hx, hb, hml, ho, -⟩ := S
  intro T hT X
  rcases vx_callSX X hx (hh := hh) (bytes := bytes) (maxL := maxL) (ret := ret) ho hl hstt hini hcode hy hK hg (hsize.trans hml.symm) (argsL := As) (rest := rest) (fun sig h => hn.trans (hlen sig h)) hstack hW (by rw [hb]; exact hdg)
    (fun vm₁ hW₁ => ⟨hf.1, hf.2, hp.2 (T.setVm vm₁) hT hW₁⟩) with ⟨v, vm₁, ⟨U', l2, c2, s2⟩, hW₁, X', ⟨g', mk, t, L, e1, e2, hq, h1, hL, h2, h3⟩, st⟩ | ⟨q, vm₁, ⟨U', l2, c2, s2⟩, hW₁, X', ⟨g', mk, t, L, E, ce, e1, e2, hq, hce, hcv, hcl, h1, hL, h2, h3⟩, st⟩
  · dsimp only [Pt.U, Pt.locs, Pt.cells, Pt.slots] at X' e1 e2 h1 h2 h3 st
    subst h1; subst h2; subst h3
    exact Or.inl ⟨v, (T.setVm vm₁).calling g' mk As.toArray, t, U', L, hT, X', hL, e1, e2, hq, st⟩
  · dsimp only [Pt.U, Pt.locs, Pt.cells, Pt.slots] at X' e1 e2 h1 h2 h3 st hcl
    subst h1; subst h2; subst h3
    exact Or.inr ⟨q, (T.setVm vm₁).calling g' mk As.toArray, t, U', L, E, ce, hT, X', hL, e1, e2, hq, hce, hcv, vx_cls hW₁ hcl, st⟩
end
end VXH
theorem vx_ofWH {l : Launch} {y : MethodName} {ws ws' : List Cond} {rm : Room} {Pc : Array Value → State → Prop} {Qc : Array Value → State → Outcome → State → Prop} {XC : String → State → State → Prop} {mc ms : Nat} {free : Addr → Prop} {cc : ByteArray} {maxL : Nat} {ret : Option FieldType} {hh : List (Nat × Nat × Nat × Nat)}
    (hy : plainName y.cls = true) (hw : ws = Cond.codeWith y cc maxL ret hh :: ws')
    (body : ∀ p e s m args below meth c s₁, BodyLoose p l y (headSpec ws rm) cc maxL ret e s m args below meth c s₁ → c.maxLocals = maxL → Pc args s →
      W p l e (headSpec ws rm).room s m args below meth c s.heap [] 0 0 (vx_MQ below Qc XC args s mc ms free) (entryFrame m args maxL)) : vx_Met l y ws rm Pc Qc XC mc ms free := by
  refine MetFree.of_bodyS (code := cc) (maxLocals := maxL) (ret := ret) hy ?_ ?_
  · intro args s m h hn
    obtain ⟨m9, meth, c, hn9, h1, h2, h3, h4, -, h5, h6, -⟩ := Cond.codeWith_spec (atoms_spec (ws := ws) h _ (by rw [hw]; exact List.mem_cons_self))
    cases hn.symm.trans hn9
    exact ⟨meth, c, h1, h2, h3, h4, h5, h6⟩
  · intro p e s m args below meth c s₁ B hml hP _
    have hh0 : s₁.heap = s.heap := by rw [B.state]; rfl
    obtain ⟨t, a1, o, b1, b2, b3⟩ := body p e s m args below meth c s₁ B hml hP s₁ hh0 (Stand.of_body B)
    exact ⟨t, o, a1, b1, b2, b3⟩
/-! ===== END ===== -/
end
section
def RX0 : String := "FontShelf$Choice"
def TX0 : u_T := fun k => match k with
  | 0 => ("FontShelf$Choice", "wish", "[I", true)
  | _ => ("FontShelf$Choice", "pin", "I", false)
def tyX0 : Nat → FieldType := fun k => match k with
  | 0 => .array .int
  | _ => .int
abbrev wsX00 : List Cond := u_ws RX0 TX0 2
theorem nmX0 : ∀ a, a < 2 → ∀ b, b < 2 → a ≠ b → (TX0 a).2.1 ≠ (TX0 b).2.1 := by decide +kernel
theorem tyX0_ok : ∀ k, k < 2 → parseFieldDescriptor (TX0 k).2.2.1 = some (tyX0 k) := by decide +kernel
abbrev cX0_init : ByteArray := prog_2_method_1_code
def yX0_init : MethodName := ⟨RX0, "<init>", "()V"⟩
def RX1 : String := "FontShelf$Font"
def TX1 : u_T := fun k => match k with
  | 0 => ("FontShelf$Font", "id", "I", true)
  | 1 => ("FontShelf$Font", "attributes", "[I", true)
  | 2 => ("FontShelf$Font", "glyphs", "[LFontShelf$Glyph;", true)
  | 3 => ("FontShelf$Font", "isPermanent", "Z", false)
  | 4 => ("FontShelf$Font", "glyphCount", "I", false)
  | _ => ("FontShelf$Font", "byteCount", "I", false)
def tyX1 : Nat → FieldType := fun k => match k with
  | 0 => .int
  | 1 => .array .int
  | 2 => .array (.object "FontShelf$Glyph")
  | 3 => .boolean
  | 4 => .int
  | _ => .int
abbrev wsX10 : List Cond := u_ws RX1 TX1 6
theorem nmX1 : ∀ a, a < 6 → ∀ b, b < 6 → a ≠ b → (TX1 a).2.1 ≠ (TX1 b).2.1 := by decide +kernel
theorem tyX1_ok : ∀ k, k < 6 → parseFieldDescriptor (TX1 k).2.2.1 = some (tyX1 k) := by decide +kernel
abbrev cX1_init : ByteArray := prog_3_method_1_code
def yX1_init : MethodName := ⟨RX1, "<init>", "(I[I)V"⟩
abbrev cX1_glyphFor : ByteArray := prog_3_method_2_code
def yX1_glyphFor : MethodName := ⟨RX1, "glyphFor", "(I)LFontShelf$Glyph;"⟩
abbrev cX1_put : ByteArray := prog_3_method_3_code
def yX1_put : MethodName := ⟨RX1, "put", "(ILFontShelf$Glyph;)V"⟩
abbrev cX1_remove : ByteArray := prog_3_method_4_code
def yX1_remove : MethodName := ⟨RX1, "remove", "(I)Z"⟩
def RX2 : String := "FontShelf$Glyph"
def TX2 : u_T := fun k => match k with
  | 0 => ("FontShelf$Glyph", "left", "I", true)
  | 1 => ("FontShelf$Glyph", "top", "I", true)
  | 2 => ("FontShelf$Glyph", "width", "I", true)
  | 3 => ("FontShelf$Glyph", "depth", "I", true)
  | 4 => ("FontShelf$Glyph", "step", "I", true)
  | 5 => ("FontShelf$Glyph", "bytesInRow", "I", true)
  | 6 => ("FontShelf$Glyph", "longsInRow", "I", true)
  | 7 => ("FontShelf$Glyph", "dots", "[J", true)
  | _ => ("FontShelf$Glyph", "came", "I", false)
def tyX2 : Nat → FieldType := fun k => match k with
  | 0 => .int
  | 1 => .int
  | 2 => .int
  | 3 => .int
  | 4 => .int
  | 5 => .int
  | 6 => .int
  | 7 => .array .long
  | _ => .int
abbrev wsX20 : List Cond := u_ws RX2 TX2 9
theorem nmX2 : ∀ a, a < 9 → ∀ b, b < 9 → a ≠ b → (TX2 a).2.1 ≠ (TX2 b).2.1 := by decide +kernel
theorem tyX2_ok : ∀ k, k < 9 → parseFieldDescriptor (TX2 k).2.2.1 = some (tyX2 k) := by decide +kernel
abbrev cX2_init : ByteArray := prog_4_method_1_code
def yX2_init : MethodName := ⟨RX2, "<init>", "(IIIII)V"⟩
abbrev cX2_size : ByteArray := prog_4_method_2_code
def yX2_size : MethodName := ⟨RX2, "size", "()I"⟩
abbrev cX2_missing : ByteArray := prog_4_method_3_code
def yX2_missing : MethodName := ⟨RX2, "missing", "()I"⟩
abbrev cX2_addByte : ByteArray := prog_4_method_4_code
def yX2_addByte : MethodName := ⟨RX2, "addByte", "(I)V"⟩
abbrev cX2_blackDots : ByteArray := prog_4_method_5_code
def yX2_blackDots : MethodName := ⟨RX2, "blackDots", "()I"⟩
abbrev cX2_dotsAt : ByteArray := prog_4_method_6_code
def yX2_dotsAt : MethodName := ⟨RX2, "dotsAt", "(II)J"⟩
def RX3 : String := "FontShelf"
def TX3 : u_T := fun k => match k with
  | 0 => ("FontShelf", "shelf", "Ljava/util/ArrayList;", true)
  | 1 => ("FontShelf", "draft", "[I", true)
  | 2 => ("FontShelf", "choices", "[LFontShelf$Choice;", true)
  | 3 => ("FontShelf", "idAtHand", "I", false)
  | 4 => ("FontShelf", "codeAtHand", "I", false)
  | _ => ("FontShelf", "loading", "LFontShelf$Glyph;", false)
def tyX3 : Nat → FieldType := fun k => match k with
  | 0 => .object "java/util/ArrayList"
  | 1 => .array .int
  | 2 => .array (.object "FontShelf$Choice")
  | 3 => .int
  | 4 => .int
  | _ => .object "FontShelf$Glyph"
abbrev wsX30 : List Cond := u_ws RX3 TX3 6
theorem nmX3 : ∀ a, a < 6 → ∀ b, b < 6 → a ≠ b → (TX3 a).2.1 ≠ (TX3 b).2.1 := by decide +kernel
theorem tyX3_ok : ∀ k, k < 6 → parseFieldDescriptor (TX3 k).2.2.1 = some (tyX3 k) := by decide +kernel
abbrev cX3_init : ByteArray := prog_1_method_1_code
def yX3_init : MethodName := ⟨RX3, "<init>", "()V"⟩
abbrev cX3_hand : ByteArray := prog_1_method_2_code
def yX3_hand : MethodName := ⟨RX3, "hand", "(ZI)Z"⟩
abbrev cX3_attribute : ByteArray := prog_1_method_3_code
def yX3_attribute : MethodName := ⟨RX3, "attribute", "(ZIII)Z"⟩
abbrev cX3_header : ByteArray := prog_1_method_4_code
def yX3_header : MethodName := ⟨RX3, "header", "()I"⟩
abbrev cX3_glyph : ByteArray := prog_1_method_5_code
def yX3_glyph : MethodName := ⟨RX3, "glyph", "(IIIII)I"⟩
abbrev cX3_bytes : ByteArray := prog_1_method_6_code
def yX3_bytes : MethodName := ⟨RX3, "bytes", "(JI)Z"⟩
abbrev cX3_load : ByteArray := prog_1_method_7_code
def yX3_load : MethodName := ⟨RX3, "load", "()I"⟩
abbrev cX3_permanent : ByteArray := prog_1_method_8_code
def yX3_permanent : MethodName := ⟨RX3, "permanent", "(Z)Z"⟩
abbrev cX3_drop : ByteArray := prog_1_method_9_code
def yX3_drop : MethodName := ⟨RX3, "drop", "(I)I"⟩
abbrev cX3_pin : ByteArray := prog_1_method_10_code
def yX3_pin : MethodName := ⟨RX3, "pin", "(II)Z"⟩
abbrev cX3_chosen : ByteArray := prog_1_method_11_code
def yX3_chosen : MethodName := ⟨RX3, "chosen", "(I)I"⟩
abbrev cX3_font : ByteArray := prog_1_method_12_code
def yX3_font : MethodName := ⟨RX3, "font", "(II)I"⟩
abbrev cX3_of : ByteArray := prog_1_method_13_code
def yX3_of : MethodName := ⟨RX3, "of", "(III)I"⟩
abbrev cX3_row : ByteArray := prog_1_method_14_code
def yX3_row : MethodName := ⟨RX3, "row", "(IIII)J"⟩
abbrev cX3_wish : ByteArray := prog_1_method_15_code
def yX3_wish : MethodName := ⟨RX3, "wish", "(II)I"⟩
abbrev cX3_look : ByteArray := prog_1_method_16_code
def yX3_look : MethodName := ⟨RX3, "look", "(I)I"⟩
abbrev cX3_within : ByteArray := prog_1_method_17_code
def yX3_within : MethodName := ⟨RX3, "within", "(III)Z"⟩
abbrev cX3_isAttribute : ByteArray := prog_1_method_18_code
def yX3_isAttribute : MethodName := ⟨RX3, "isAttribute", "(I)Z"⟩
abbrev cX3_isAtHand : ByteArray := prog_1_method_19_code
def yX3_isAtHand : MethodName := ⟨RX3, "isAtHand", "(I)Z"⟩
abbrev cX3_placeOf : ByteArray := prog_1_method_20_code
def yX3_placeOf : MethodName := ⟨RX3, "placeOf", "(I)I"⟩
abbrev cX3_fontWith : ByteArray := prog_1_method_21_code
def yX3_fontWith : MethodName := ⟨RX3, "fontWith", "(I)LFontShelf$Font;"⟩
abbrev cX3_takeOut : ByteArray := prog_1_method_22_code
def yX3_takeOut : MethodName := ⟨RX3, "takeOut", "(I)I"⟩
abbrev cX3_dropAll : ByteArray := prog_1_method_23_code
def yX3_dropAll : MethodName := ⟨RX3, "dropAll", "()I"⟩
abbrev cX3_dropPassing : ByteArray := prog_1_method_24_code
def yX3_dropPassing : MethodName := ⟨RX3, "dropPassing", "()I"⟩
abbrev cX3_dropGlyph : ByteArray := prog_1_method_25_code
def yX3_dropGlyph : MethodName := ⟨RX3, "dropGlyph", "()I"⟩
abbrev cX3_glyphsInAll : ByteArray := prog_1_method_26_code
def yX3_glyphsInAll : MethodName := ⟨RX3, "glyphsInAll", "()I"⟩
abbrev cX3_bytesInAll : ByteArray := prog_1_method_27_code
def yX3_bytesInAll : MethodName := ⟨RX3, "bytesInAll", "()I"⟩
abbrev cX3_hasRoomFor : ByteArray := prog_1_method_28_code
def yX3_hasRoomFor : MethodName := ⟨RX3, "hasRoomFor", "(LFontShelf$Glyph;LFontShelf$Glyph;)Z"⟩
abbrev cX3_chosenGlyph : ByteArray := prog_1_method_29_code
def yX3_chosenGlyph : MethodName := ⟨RX3, "chosenGlyph", "(II)LFontShelf$Glyph;"⟩
abbrev cX3_chosenFont : ByteArray := prog_1_method_30_code
def yX3_chosenFont : MethodName := ⟨RX3, "chosenFont", "(I)LFontShelf$Font;"⟩
abbrev cX3_bestFor : ByteArray := prog_1_method_31_code
def yX3_bestFor : MethodName := ⟨RX3, "bestFor", "([I)LFontShelf$Font;"⟩
abbrev cX3_allFonts : ByteArray := prog_1_method_32_code
def yX3_allFonts : MethodName := ⟨RX3, "allFonts", "()I"⟩
abbrev cX3_isIn : ByteArray := prog_1_method_33_code
def yX3_isIn : MethodName := ⟨RX3, "isIn", "(II)Z"⟩
abbrev cX3_having : ByteArray := prog_1_method_34_code
def yX3_having : MethodName := ⟨RX3, "having", "(III)I"⟩
abbrev cX3_preferring : ByteArray := prog_1_method_35_code
def yX3_preferring : MethodName := ⟨RX3, "preferring", "(III)I"⟩
abbrev cX3_preferringPassing : ByteArray := prog_1_method_36_code
def yX3_preferringPassing : MethodName := ⟨RX3, "preferringPassing", "(I)I"⟩
abbrev cX3_leastFrom : ByteArray := prog_1_method_37_code
def yX3_leastFrom : MethodName := ⟨RX3, "leastFrom", "(III)I"⟩
abbrev cX3_greatestUpTo : ByteArray := prog_1_method_38_code
def yX3_greatestUpTo : MethodName := ⟨RX3, "greatestUpTo", "(III)I"⟩
abbrev cX3_nextUp : ByteArray := prog_1_method_39_code
def yX3_nextUp : MethodName := ⟨RX3, "nextUp", "(III)I"⟩
abbrev cX3_nextDown : ByteArray := prog_1_method_40_code
def yX3_nextDown : MethodName := ⟨RX3, "nextDown", "(III)I"⟩
abbrev cX3_nearestHeight : ByteArray := prog_1_method_41_code
def yX3_nearestHeight : MethodName := ⟨RX3, "nearestHeight", "(II)I"⟩
def RX4 : String := "FontShelfModel"
def TX4 : u_T := fun k => match k with
  | 0 => ("FontShelfModel", "thrown", "I", false)
  | 1 => ("FontShelfModel", "fonts", "I", false)
  | 2 => ("FontShelfModel", "ids", "[I", true)
  | 3 => ("FontShelfModel", "attributes", "[I", true)
  | 4 => ("FontShelfModel", "permanent", "[Z", true)
  | 5 => ("FontShelfModel", "glyphs", "I", false)
  | 6 => ("FontShelfModel", "glyph", "[I", true)
  | 7 => ("FontShelfModel", "used", "I", false)
  | 8 => ("FontShelfModel", "store", "[B", true)
  | 9 => ("FontShelfModel", "draft", "[I", true)
  | 10 => ("FontShelfModel", "wishes", "[I", true)
  | 11 => ("FontShelfModel", "pins", "[I", true)
  | 12 => ("FontShelfModel", "id", "I", false)
  | 13 => ("FontShelfModel", "code", "I", false)
  | 14 => ("FontShelfModel", "loading", "Z", false)
  | 15 => ("FontShelfModel", "coming", "[I", true)
  | 16 => ("FontShelfModel", "need", "I", false)
  | 17 => ("FontShelfModel", "came", "I", false)
  | 18 => ("FontShelfModel", "bytes", "[B", true)
  | _ => ("FontShelfModel", "left", "[Z", true)
def tyX4 : Nat → FieldType := fun k => match k with
  | 0 => .int
  | 1 => .int
  | 2 => .array .int
  | 3 => .array .int
  | 4 => .array .boolean
  | 5 => .int
  | 6 => .array .int
  | 7 => .int
  | 8 => .array .byte
  | 9 => .array .int
  | 10 => .array .int
  | 11 => .array .int
  | 12 => .int
  | 13 => .int
  | 14 => .boolean
  | 15 => .array .int
  | 16 => .int
  | 17 => .int
  | 18 => .array .byte
  | _ => .array .boolean
abbrev wsX40 : List Cond := u_ws RX4 TX4 20
theorem nmX4 : ∀ a, a < 20 → ∀ b, b < 20 → a ≠ b → (TX4 a).2.1 ≠ (TX4 b).2.1 := by decide +kernel
theorem tyX4_ok : ∀ k, k < 20 → parseFieldDescriptor (TX4 k).2.2.1 = some (tyX4 k) := by decide +kernel
abbrev cX4_init : ByteArray := prog_6_method_1_code
def yX4_init : MethodName := ⟨RX4, "<init>", "()V"⟩
abbrev cX4_thrown : ByteArray := prog_6_method_2_code
def yX4_thrown : MethodName := ⟨RX4, "thrown", "()I"⟩
abbrev cX4_fits : ByteArray := prog_6_method_3_code
def yX4_fits : MethodName := ⟨RX4, "fits", "(II)Z"⟩
abbrev cX4_hand : ByteArray := prog_6_method_4_code
def yX4_hand : MethodName := ⟨RX4, "hand", "(ZI)Z"⟩
abbrev cX4_attribute : ByteArray := prog_6_method_5_code
def yX4_attribute : MethodName := ⟨RX4, "attribute", "(ZIII)Z"⟩
abbrev cX4_fontOf : ByteArray := prog_6_method_6_code
def yX4_fontOf : MethodName := ⟨RX4, "fontOf", "(I)I"⟩
abbrev cX4_bytesOf : ByteArray := prog_6_method_7_code
def yX4_bytesOf : MethodName := ⟨RX4, "bytesOf", "(I)I"⟩
abbrev cX4_startOf : ByteArray := prog_6_method_8_code
def yX4_startOf : MethodName := ⟨RX4, "startOf", "(I)I"⟩
abbrev cX4_glyphOf : ByteArray := prog_6_method_9_code
def yX4_glyphOf : MethodName := ⟨RX4, "glyphOf", "(II)I"⟩
abbrev cX4_goGlyph : ByteArray := prog_6_method_10_code
def yX4_goGlyph : MethodName := ⟨RX4, "goGlyph", "(I)V"⟩
abbrev cX4_goFont : ByteArray := prog_6_method_11_code
def yX4_goFont : MethodName := ⟨RX4, "goFont", "(I)V"⟩
abbrev cX4_header : ByteArray := prog_6_method_12_code
def yX4_header : MethodName := ⟨RX4, "header", "()I"⟩
abbrev cX4_glyph : ByteArray := prog_6_method_13_code
def yX4_glyph : MethodName := ⟨RX4, "glyph", "(IIIII)I"⟩
abbrev cX4_bytes : ByteArray := prog_6_method_14_code
def yX4_bytes : MethodName := ⟨RX4, "bytes", "(JI)Z"⟩
abbrev cX4_byteOf : ByteArray := prog_6_method_15_code
def yX4_byteOf : MethodName := ⟨RX4, "byteOf", "(I)I"⟩
abbrev cX4_load : ByteArray := prog_6_method_16_code
def yX4_load : MethodName := ⟨RX4, "load", "()I"⟩
abbrev cX4_glyphsOf : ByteArray := prog_6_method_17_code
def yX4_glyphsOf : MethodName := ⟨RX4, "glyphsOf", "(I)I"⟩
abbrev cX4_permanent : ByteArray := prog_6_method_18_code
def yX4_permanent : MethodName := ⟨RX4, "permanent", "(Z)Z"⟩
abbrev cX4_drop : ByteArray := prog_6_method_19_code
def yX4_drop : MethodName := ⟨RX4, "drop", "(I)I"⟩
abbrev cX4_pin : ByteArray := prog_6_method_20_code
def yX4_pin : MethodName := ⟨RX4, "pin", "(II)Z"⟩
abbrev cX4_strike : ByteArray := prog_6_method_21_code
def yX4_strike : MethodName := ⟨RX4, "strike", "(II)Z"⟩
abbrev cX4_end : ByteArray := prog_6_method_22_code
def yX4_end : MethodName := ⟨RX4, "end", "(IIIZ)I"⟩
abbrev cX4_byPitch : ByteArray := prog_6_method_23_code
def yX4_byPitch : MethodName := ⟨RX4, "byPitch", "(I)V"⟩
abbrev cX4_byHeight : ByteArray := prog_6_method_24_code
def yX4_byHeight : MethodName := ⟨RX4, "byHeight", "(I)V"⟩
abbrev cX4_byWeight : ByteArray := prog_6_method_25_code
def yX4_byWeight : MethodName := ⟨RX4, "byWeight", "(I)V"⟩
abbrev cX4_choose : ByteArray := prog_6_method_26_code
def yX4_choose : MethodName := ⟨RX4, "choose", "(I)I"⟩
abbrev cX4_chosen : ByteArray := prog_6_method_27_code
def yX4_chosen : MethodName := ⟨RX4, "chosen", "(I)I"⟩
abbrev cX4_font : ByteArray := prog_6_method_28_code
def yX4_font : MethodName := ⟨RX4, "font", "(II)I"⟩
abbrev cX4_chosenGlyph : ByteArray := prog_6_method_29_code
def yX4_chosenGlyph : MethodName := ⟨RX4, "chosenGlyph", "(II)I"⟩
abbrev cX4_isBlack : ByteArray := prog_6_method_30_code
def yX4_isBlack : MethodName := ⟨RX4, "isBlack", "(III)Z"⟩
abbrev cX4_of : ByteArray := prog_6_method_31_code
def yX4_of : MethodName := ⟨RX4, "of", "(III)I"⟩
abbrev cX4_row : ByteArray := prog_6_method_32_code
def yX4_row : MethodName := ⟨RX4, "row", "(IIII)J"⟩
abbrev cX4_wish : ByteArray := prog_6_method_33_code
def yX4_wish : MethodName := ⟨RX4, "wish", "(II)I"⟩
abbrev cX4_look : ByteArray := prog_6_method_34_code
def yX4_look : MethodName := ⟨RX4, "look", "(I)I"⟩
def RJx145de : String := "java/io/Serializable"
def TJx145de : u_T := fun k => match k with
  | _ => ("", "", "", false)
def tyJx145de : Nat → FieldType := fun k => match k with
  | _ => .int
abbrev wsJx145de0 : List Cond := u_ws RJx145de TJx145de 0
theorem nmJx145de : ∀ a, a < 0 → ∀ b, b < 0 → a ≠ b → (TJx145de a).2.1 ≠ (TJx145de b).2.1 := by decide +kernel
theorem tyJx145de_ok : ∀ k, k < 0 → parseFieldDescriptor (TJx145de k).2.2.1 = some (tyJx145de k) := by decide +kernel
def RJx8e188 : String := "java/lang/Cloneable"
def TJx8e188 : u_T := fun k => match k with
  | _ => ("", "", "", false)
def tyJx8e188 : Nat → FieldType := fun k => match k with
  | _ => .int
abbrev wsJx8e1880 : List Cond := u_ws RJx8e188 TJx8e188 0
theorem nmJx8e188 : ∀ a, a < 0 → ∀ b, b < 0 → a ≠ b → (TJx8e188 a).2.1 ≠ (TJx8e188 b).2.1 := by decide +kernel
theorem tyJx8e188_ok : ∀ k, k < 0 → parseFieldDescriptor (TJx8e188 k).2.2.1 = some (tyJx8e188 k) := by decide +kernel
def RJ6 : String := "java/lang/Integer"
def TJ6 : u_T := fun k => match k with
  | _ => ("", "", "", false)
def tyJ6 : Nat → FieldType := fun k => match k with
  | _ => .int
abbrev wsJ60 : List Cond := u_ws RJ6 TJ6 0
theorem nmJ6 : ∀ a, a < 0 → ∀ b, b < 0 → a ≠ b → (TJ6 a).2.1 ≠ (TJ6 b).2.1 := by decide +kernel
theorem tyJ6_ok : ∀ k, k < 0 → parseFieldDescriptor (TJ6 k).2.2.1 = some (tyJ6 k) := by decide +kernel
abbrev cJ6_numberOfLeadingZeros_0f7a4 : ByteArray := prog_13_method_47_code
def yJ6_numberOfLeadingZeros_0f7a4 : MethodName := ⟨RJ6, "numberOfLeadingZeros", "(I)I"⟩
def RJxab1ab : String := "java/lang/Iterable"
def TJxab1ab : u_T := fun k => match k with
  | _ => ("", "", "", false)
def tyJxab1ab : Nat → FieldType := fun k => match k with
  | _ => .int
abbrev wsJxab1ab0 : List Cond := u_ws RJxab1ab TJxab1ab 0
theorem nmJxab1ab : ∀ a, a < 0 → ∀ b, b < 0 → a ≠ b → (TJxab1ab a).2.1 ≠ (TJxab1ab b).2.1 := by decide +kernel
theorem tyJxab1ab_ok : ∀ k, k < 0 → parseFieldDescriptor (TJxab1ab k).2.2.1 = some (tyJxab1ab k) := by decide +kernel
def RJ13 : String := "java/lang/Long"
def TJ13 : u_T := fun k => match k with
  | _ => ("", "", "", false)
def tyJ13 : Nat → FieldType := fun k => match k with
  | _ => .int
abbrev wsJ130 : List Cond := u_ws RJ13 TJ13 0
theorem nmJ13 : ∀ a, a < 0 → ∀ b, b < 0 → a ≠ b → (TJ13 a).2.1 ≠ (TJ13 b).2.1 := by decide +kernel
theorem tyJ13_ok : ∀ k, k < 0 → parseFieldDescriptor (TJ13 k).2.2.1 = some (tyJ13 k) := by decide +kernel
abbrev cJ13_bitCount_95d88 : ByteArray := prog_15_method_50_code
def yJ13_bitCount_95d88 : MethodName := ⟨RJ13, "bitCount", "(J)I"⟩
def RJ9 : String := "java/lang/Math"
def TJ9 : u_T := fun k => match k with
  | _ => ("", "", "", false)
def tyJ9 : Nat → FieldType := fun k => match k with
  | _ => .int
abbrev wsJ90 : List Cond := u_ws RJ9 TJ9 0
theorem nmJ9 : ∀ a, a < 0 → ∀ b, b < 0 → a ≠ b → (TJ9 a).2.1 ≠ (TJ9 b).2.1 := by decide +kernel
theorem tyJ9_ok : ∀ k, k < 0 → parseFieldDescriptor (TJ9 k).2.2.1 = some (tyJ9 k) := by decide +kernel
abbrev cJ9_max_7cf53 : ByteArray := prog_16_method_65_code
def yJ9_max_7cf53 : MethodName := ⟨RJ9, "max", "(II)I"⟩
abbrev cJ9_min_7cf53 : ByteArray := prog_16_method_69_code
def yJ9_min_7cf53 : MethodName := ⟨RJ9, "min", "(II)I"⟩
def RJ0 : String := "java/lang/String"
def TJ0 : u_T := fun k => match k with
  | _ => ("", "", "", false)
def tyJ0 : Nat → FieldType := fun k => match k with
  | _ => .int
abbrev wsJ00 : List Cond := u_ws RJ0 TJ0 0
theorem nmJ0 : ∀ a, a < 0 → ∀ b, b < 0 → a ≠ b → (TJ0 a).2.1 ≠ (TJ0 b).2.1 := by decide +kernel
theorem tyJ0_ok : ∀ k, k < 0 → parseFieldDescriptor (TJ0 k).2.2.1 = some (tyJ0 k) := by decide +kernel
def RJ10 : String := "java/lang/System"
def TJ10 : u_T := fun k => match k with
  | _ => ("", "", "", false)
def tyJ10 : Nat → FieldType := fun k => match k with
  | _ => .int
abbrev wsJ100 : List Cond := u_ws RJ10 TJ10 0
theorem nmJ10 : ∀ a, a < 0 → ∀ b, b < 0 → a ≠ b → (TJ10 a).2.1 ≠ (TJ10 b).2.1 := by decide +kernel
theorem tyJ10_ok : ∀ k, k < 0 → parseFieldDescriptor (TJ10 k).2.2.1 = some (tyJ10 k) := by decide +kernel
def RJxa1e45 : String := "java/util/AbstractCollection"
def TJxa1e45 : u_T := fun k => match k with
  | _ => ("", "", "", false)
def tyJxa1e45 : Nat → FieldType := fun k => match k with
  | _ => .int
abbrev wsJxa1e450 : List Cond := u_ws RJxa1e45 TJxa1e45 0
theorem nmJxa1e45 : ∀ a, a < 0 → ∀ b, b < 0 → a ≠ b → (TJxa1e45 a).2.1 ≠ (TJxa1e45 b).2.1 := by decide +kernel
theorem tyJxa1e45_ok : ∀ k, k < 0 → parseFieldDescriptor (TJxa1e45 k).2.2.1 = some (tyJxa1e45 k) := by decide +kernel
abbrev cJxa1e45_init_da8c8 : ByteArray := prog_22_method_1_code
def yJxa1e45_init_da8c8 : MethodName := ⟨RJxa1e45, "<init>", "()V"⟩
def RJxc12de : String := "java/util/AbstractList"
def TJxc12de : u_T := fun k => match k with
  | _ => ("", "", "", false)
def tyJxc12de : Nat → FieldType := fun k => match k with
  | _ => .int
abbrev wsJxc12de0 : List Cond := u_ws RJxc12de TJxc12de 0
theorem nmJxc12de : ∀ a, a < 0 → ∀ b, b < 0 → a ≠ b → (TJxc12de a).2.1 ≠ (TJxc12de b).2.1 := by decide +kernel
theorem tyJxc12de_ok : ∀ k, k < 0 → parseFieldDescriptor (TJxc12de k).2.2.1 = some (tyJxc12de k) := by decide +kernel
abbrev cJxc12de_init_da8c8 : ByteArray := prog_23_method_1_code
def yJxc12de_init_da8c8 : MethodName := ⟨RJxc12de, "<init>", "()V"⟩
def RJx4a65c : String := "java/util/ArrayList"
def TJx4a65c : u_T := fun k => match k with
  | 0 => ("java/util/AbstractList", "modCount", "I", false)
  | 1 => ("java/util/ArrayList", "elementData", "[Ljava/lang/Object;", false)
  | _ => ("java/util/ArrayList", "size", "I", false)
def tyJx4a65c : Nat → FieldType := fun k => match k with
  | 0 => .int
  | 1 => .array (.object "java/lang/Object")
  | _ => .int
abbrev wsJx4a65c0 : List Cond := u_ws RJx4a65c TJx4a65c 3
theorem nmJx4a65c : ∀ a, a < 3 → ∀ b, b < 3 → a ≠ b → (TJx4a65c a).2.1 ≠ (TJx4a65c b).2.1 := by decide +kernel
theorem tyJx4a65c_ok : ∀ k, k < 3 → parseFieldDescriptor (TJx4a65c k).2.2.1 = some (tyJx4a65c k) := by decide +kernel
abbrev cJx4a65c_init_da8c8 : ByteArray := prog_24_method_2_code
def yJx4a65c_init_da8c8 : MethodName := ⟨RJx4a65c, "<init>", "()V"⟩
abbrev cJx4a65c_grow_92f84 : ByteArray := prog_24_method_6_code
def yJx4a65c_grow_92f84 : MethodName := ⟨RJx4a65c, "grow", "(I)[Ljava/lang/Object;"⟩
abbrev cJx4a65c_grow_d5877 : ByteArray := prog_24_method_7_code
def yJx4a65c_grow_d5877 : MethodName := ⟨RJx4a65c, "grow", "()[Ljava/lang/Object;"⟩
abbrev cJx4a65c_size_8abf5 : ByteArray := prog_24_method_8_code
def yJx4a65c_size_8abf5 : MethodName := ⟨RJx4a65c, "size", "()I"⟩
abbrev cJx4a65c_elementData_915e3 : ByteArray := prog_24_method_18_code
def yJx4a65c_elementData_915e3 : MethodName := ⟨RJx4a65c, "elementData", "(I)Ljava/lang/Object;"⟩
abbrev cJx4a65c_get_915e3 : ByteArray := prog_24_method_20_code
def yJx4a65c_get_915e3 : MethodName := ⟨RJx4a65c, "get", "(I)Ljava/lang/Object;"⟩
abbrev cJx4a65c_add_72be8 : ByteArray := prog_24_method_24_code
def yJx4a65c_add_72be8 : MethodName := ⟨RJx4a65c, "add", "(Ljava/lang/Object;[Ljava/lang/Object;I)V"⟩
abbrev cJx4a65c_add_9ea2d : ByteArray := prog_24_method_25_code
def yJx4a65c_add_9ea2d : MethodName := ⟨RJx4a65c, "add", "(Ljava/lang/Object;)Z"⟩
abbrev cJx4a65c_remove_915e3 : ByteArray := prog_24_method_29_code
def yJx4a65c_remove_915e3 : MethodName := ⟨RJx4a65c, "remove", "(I)Ljava/lang/Object;"⟩
abbrev cJx4a65c_fastRemove_b59b0 : ByteArray := prog_24_method_39_code
def yJx4a65c_fastRemove_b59b0 : MethodName := ⟨RJx4a65c, "fastRemove", "([Ljava/lang/Object;I)V"⟩
abbrev cJx4a65c_clear_da8c8 : ByteArray := prog_24_method_40_code
def yJx4a65c_clear_da8c8 : MethodName := ⟨RJx4a65c, "clear", "()V"⟩
def RJ7 : String := "java/util/Arrays"
def TJ7 : u_T := fun k => match k with
  | _ => ("", "", "", false)
def tyJ7 : Nat → FieldType := fun k => match k with
  | _ => .int
abbrev wsJ70 : List Cond := u_ws RJ7 TJ7 0
theorem nmJ7 : ∀ a, a < 0 → ∀ b, b < 0 → a ≠ b → (TJ7 a).2.1 ≠ (TJ7 b).2.1 := by decide +kernel
theorem tyJ7_ok : ∀ k, k < 0 → parseFieldDescriptor (TJ7 k).2.2.1 = some (tyJ7 k) := by decide +kernel
abbrev cJ7_copyOf_1904c : ByteArray := prog_25_method_119_code
def yJ7_copyOf_1904c : MethodName := ⟨RJ7, "copyOf", "([Ljava/lang/Object;I)[Ljava/lang/Object;"⟩
abbrev cJ7_copyOf_6403c : ByteArray := prog_25_method_120_code
def yJ7_copyOf_6403c : MethodName := ⟨RJ7, "copyOf", "([Ljava/lang/Object;ILjava/lang/Class;)[Ljava/lang/Object;"⟩
def RJx5ef63 : String := "java/util/Collection"
def TJx5ef63 : u_T := fun k => match k with
  | _ => ("", "", "", false)
def tyJx5ef63 : Nat → FieldType := fun k => match k with
  | _ => .int
abbrev wsJx5ef630 : List Cond := u_ws RJx5ef63 TJx5ef63 0
theorem nmJx5ef63 : ∀ a, a < 0 → ∀ b, b < 0 → a ≠ b → (TJx5ef63 a).2.1 ≠ (TJx5ef63 b).2.1 := by decide +kernel
theorem tyJx5ef63_ok : ∀ k, k < 0 → parseFieldDescriptor (TJx5ef63 k).2.2.1 = some (tyJx5ef63 k) := by decide +kernel
def RJxbd725 : String := "java/util/List"
def TJxbd725 : u_T := fun k => match k with
  | _ => ("", "", "", false)
def tyJxbd725 : Nat → FieldType := fun k => match k with
  | _ => .int
abbrev wsJxbd7250 : List Cond := u_ws RJxbd725 TJxbd725 0
theorem nmJxbd725 : ∀ a, a < 0 → ∀ b, b < 0 → a ≠ b → (TJxbd725 a).2.1 ≠ (TJxbd725 b).2.1 := by decide +kernel
theorem tyJxbd725_ok : ∀ k, k < 0 → parseFieldDescriptor (TJxbd725 k).2.2.1 = some (tyJxbd725 k) := by decide +kernel
def RJ15 : String := "java/util/Objects"
def TJ15 : u_T := fun k => match k with
  | _ => ("", "", "", false)
def tyJ15 : Nat → FieldType := fun k => match k with
  | _ => .int
abbrev wsJ150 : List Cond := u_ws RJ15 TJ15 0
theorem nmJ15 : ∀ a, a < 0 → ∀ b, b < 0 → a ≠ b → (TJ15 a).2.1 ≠ (TJ15 b).2.1 := by decide +kernel
theorem tyJ15_ok : ∀ k, k < 0 → parseFieldDescriptor (TJ15 k).2.2.1 = some (tyJ15 k) := by decide +kernel
abbrev cJ15_checkIndex_7cf53 : ByteArray := prog_28_method_17_code
def yJ15_checkIndex_7cf53 : MethodName := ⟨RJ15, "checkIndex", "(II)I"⟩
def RJxf0a74 : String := "java/util/RandomAccess"
def TJxf0a74 : u_T := fun k => match k with
  | _ => ("", "", "", false)
def tyJxf0a74 : Nat → FieldType := fun k => match k with
  | _ => .int
abbrev wsJxf0a740 : List Cond := u_ws RJxf0a74 TJxf0a74 0
theorem nmJxf0a74 : ∀ a, a < 0 → ∀ b, b < 0 → a ≠ b → (TJxf0a74 a).2.1 ≠ (TJxf0a74 b).2.1 := by decide +kernel
theorem tyJxf0a74_ok : ∀ k, k < 0 → parseFieldDescriptor (TJxf0a74 k).2.2.1 = some (tyJxf0a74 k) := by decide +kernel
def RJxa66e6 : String := "java/util/SequencedCollection"
def TJxa66e6 : u_T := fun k => match k with
  | _ => ("", "", "", false)
def tyJxa66e6 : Nat → FieldType := fun k => match k with
  | _ => .int
abbrev wsJxa66e60 : List Cond := u_ws RJxa66e6 TJxa66e6 0
theorem nmJxa66e6 : ∀ a, a < 0 → ∀ b, b < 0 → a ≠ b → (TJxa66e6 a).2.1 ≠ (TJxa66e6 b).2.1 := by decide +kernel
theorem tyJxa66e6_ok : ∀ k, k < 0 → parseFieldDescriptor (TJxa66e6 k).2.2.1 = some (tyJxa66e6 k) := by decide +kernel
def RJ8 : String := "jdk/internal/util/ArraysSupport"
def TJ8 : u_T := fun k => match k with
  | _ => ("", "", "", false)
def tyJ8 : Nat → FieldType := fun k => match k with
  | _ => .int
abbrev wsJ80 : List Cond := u_ws RJ8 TJ8 0
theorem nmJ8 : ∀ a, a < 0 → ∀ b, b < 0 → a ≠ b → (TJ8 a).2.1 ≠ (TJ8 b).2.1 := by decide +kernel
theorem tyJ8_ok : ∀ k, k < 0 → parseFieldDescriptor (TJ8 k).2.2.1 = some (tyJ8 k) := by decide +kernel
abbrev cJ8_newLength_cabcc : ByteArray := prog_31_method_27_code
def yJ8_newLength_cabcc : MethodName := ⟨RJ8, "newLength", "(III)I"⟩
abbrev cJ8_hugeLength_7cf53 : ByteArray := prog_31_method_28_code
def yJ8_hugeLength_7cf53 : MethodName := ⟨RJ8, "hugeLength", "(II)I"⟩
def RJ3 : String := "jdk/internal/util/Preconditions"
def TJ3 : u_T := fun k => match k with
  | _ => ("", "", "", false)
def tyJ3 : Nat → FieldType := fun k => match k with
  | _ => .int
abbrev wsJ30 : List Cond := u_ws RJ3 TJ3 0
theorem nmJ3 : ∀ a, a < 0 → ∀ b, b < 0 → a ≠ b → (TJ3 a).2.1 ≠ (TJ3 b).2.1 := by decide +kernel
theorem tyJ3_ok : ∀ k, k < 0 → parseFieldDescriptor (TJ3 k).2.2.1 = some (tyJ3 k) := by decide +kernel
abbrev cJ3_checkIndex_8e157 : ByteArray := prog_32_method_11_code
def yJ3_checkIndex_8e157 : MethodName := ⟨RJ3, "checkIndex", "(IILjava/util/function/BiFunction;)I"⟩
def RL : String := "FontShelfLaw"
abbrev cL_header : ByteArray := method_3_code
def yL_header : MethodName := ⟨RL, "header", "(LFontShelf;[J)I"⟩
abbrev cL_glyph : ByteArray := method_4_code
def yL_glyph : MethodName := ⟨RL, "glyph", "(LFontShelf;IIIII[J)I"⟩
abbrev cL_load : ByteArray := method_5_code
def yL_load : MethodName := ⟨RL, "load", "(LFontShelf;[J)I"⟩
abbrev cL_drop : ByteArray := method_6_code
def yL_drop : MethodName := ⟨RL, "drop", "(LFontShelf;I[J)I"⟩
abbrev cL_font : ByteArray := method_7_code
def yL_font : MethodName := ⟨RL, "font", "(LFontShelf;II[J)I"⟩
abbrev cL_of : ByteArray := method_8_code
def yL_of : MethodName := ⟨RL, "of", "(LFontShelf;III[J)I"⟩
abbrev cL_wish : ByteArray := method_9_code
def yL_wish : MethodName := ⟨RL, "wish", "(LFontShelf;II[J)I"⟩
abbrev cL_law : ByteArray := code
def yL_law : MethodName := ⟨RL, "law", "([I)Z"⟩
abbrev vwCl : List vw_C := [(RJx4a65c, TJx4a65c, 3), (RX0, TX0, 2), (RX1, TX1, 6), (RX2, TX2, 9), (RX3, TX3, 6), (RX4, TX4, 20)]
end
section
theorem dX0_init_0 : decode cX0_init 0 = .ok (.aload_n 0, 1) := by decide +kernel
theorem dX0_init_1 : decode cX0_init 1 = .ok (.invokespecial 3, 3) := by decide +kernel
theorem dX0_init_4 : decode cX0_init 4 = .ok (.aload_n 0, 1) := by decide +kernel
theorem dX0_init_5 : decode cX0_init 5 = .ok (.getstatic 9, 3) := by decide +kernel
theorem dX0_init_8 : decode cX0_init 8 = .ok (.invokevirtual 13, 3) := by decide +kernel
theorem dX0_init_11 : decode cX0_init 11 = .ok (.checkcast 14, 3) := by decide +kernel
theorem dX0_init_14 : decode cX0_init 14 = .ok (.putfield 18, 3) := by decide +kernel
theorem dX0_init_17 : decode cX0_init 17 = .ok (.aload_n 0, 1) := by decide +kernel
theorem dX0_init_18 : decode cX0_init 18 = .ok (.iconst (-1), 1) := by decide +kernel
theorem dX0_init_19 : decode cX0_init 19 = .ok (.putfield 23, 3) := by decide +kernel
theorem dX0_init_22 : decode cX0_init 22 = .ok (.return_, 1) := by decide +kernel
theorem dX1_init_0 : decode cX1_init 0 = .ok (.aload_n 0, 1) := by decide +kernel
theorem dX1_init_1 : decode cX1_init 1 = .ok (.invokespecial 3, 3) := by decide +kernel
theorem dX1_init_4 : decode cX1_init 4 = .ok (.aload_n 0, 1) := by decide +kernel
theorem dX1_init_5 : decode cX1_init 5 = .ok (.sipush 256, 3) := by decide +kernel
theorem dX1_init_8 : decode cX1_init 8 = .ok (.anewarray 9, 3) := by decide +kernel
theorem dX1_init_11 : decode cX1_init 11 = .ok (.putfield 11, 3) := by decide +kernel
theorem dX1_init_14 : decode cX1_init 14 = .ok (.aload_n 0, 1) := by decide +kernel
theorem dX1_init_15 : decode cX1_init 15 = .ok (.iconst 0, 1) := by decide +kernel
theorem dX1_init_16 : decode cX1_init 16 = .ok (.putfield 17, 3) := by decide +kernel
theorem dX1_init_19 : decode cX1_init 19 = .ok (.aload_n 0, 1) := by decide +kernel
theorem dX1_init_20 : decode cX1_init 20 = .ok (.iconst 0, 1) := by decide +kernel
theorem dX1_init_21 : decode cX1_init 21 = .ok (.putfield 21, 3) := by decide +kernel
theorem dX1_init_24 : decode cX1_init 24 = .ok (.aload_n 0, 1) := by decide +kernel
theorem dX1_init_25 : decode cX1_init 25 = .ok (.iconst 0, 1) := by decide +kernel
theorem dX1_init_26 : decode cX1_init 26 = .ok (.putfield 25, 3) := by decide +kernel
theorem dX1_init_29 : decode cX1_init 29 = .ok (.aload_n 0, 1) := by decide +kernel
theorem dX1_init_30 : decode cX1_init 30 = .ok (.iload_n 1, 1) := by decide +kernel
theorem dX1_init_31 : decode cX1_init 31 = .ok (.putfield 28, 3) := by decide +kernel
theorem dX1_init_34 : decode cX1_init 34 = .ok (.aload_n 0, 1) := by decide +kernel
theorem dX1_init_35 : decode cX1_init 35 = .ok (.aload_n 2, 1) := by decide +kernel
theorem dX1_init_36 : decode cX1_init 36 = .ok (.putfield 31, 3) := by decide +kernel
theorem dX1_init_39 : decode cX1_init 39 = .ok (.return_, 1) := by decide +kernel
theorem dX1_glyphFor_0 : decode cX1_glyphFor 0 = .ok (.iload_n 1, 1) := by decide +kernel
theorem dX1_glyphFor_1 : decode cX1_glyphFor 1 = .ok (.iconst 0, 1) := by decide +kernel
theorem dX1_glyphFor_2 : decode cX1_glyphFor 2 = .ok (.sipush 255, 3) := by decide +kernel
theorem dX1_glyphFor_5 : decode cX1_glyphFor 5 = .ok (.invokestatic 35, 3) := by decide +kernel
theorem dX1_glyphFor_8 : decode cX1_glyphFor 8 = .ok (.ifCond .eq 12, 3) := by decide +kernel
theorem dX1_glyphFor_11 : decode cX1_glyphFor 11 = .ok (.aload_n 0, 1) := by decide +kernel
theorem dX1_glyphFor_12 : decode cX1_glyphFor 12 = .ok (.getfield 11, 3) := by decide +kernel
theorem dX1_glyphFor_15 : decode cX1_glyphFor 15 = .ok (.iload_n 1, 1) := by decide +kernel
theorem dX1_glyphFor_16 : decode cX1_glyphFor 16 = .ok (.aaload, 1) := by decide +kernel
theorem dX1_glyphFor_17 : decode cX1_glyphFor 17 = .ok (.goto 4, 3) := by decide +kernel
theorem dX1_glyphFor_20 : decode cX1_glyphFor 20 = .ok (.aconst_null, 1) := by decide +kernel
theorem dX1_glyphFor_21 : decode cX1_glyphFor 21 = .ok (.areturn, 1) := by decide +kernel
theorem dX1_put_0 : decode cX1_put 0 = .ok (.iload_n 1, 1) := by decide +kernel
theorem dX1_put_1 : decode cX1_put 1 = .ok (.iconst 0, 1) := by decide +kernel
theorem dX1_put_2 : decode cX1_put 2 = .ok (.sipush 255, 3) := by decide +kernel
theorem dX1_put_5 : decode cX1_put 5 = .ok (.invokestatic 35, 3) := by decide +kernel
theorem dX1_put_8 : decode cX1_put 8 = .ok (.ifCond .eq 33, 3) := by decide +kernel
theorem dX1_put_11 : decode cX1_put 11 = .ok (.aload_n 0, 1) := by decide +kernel
theorem dX1_put_12 : decode cX1_put 12 = .ok (.getfield 11, 3) := by decide +kernel
theorem dX1_put_15 : decode cX1_put 15 = .ok (.iload_n 1, 1) := by decide +kernel
theorem dX1_put_16 : decode cX1_put 16 = .ok (.aload_n 2, 1) := by decide +kernel
theorem dX1_put_17 : decode cX1_put 17 = .ok (.aastore, 1) := by decide +kernel
theorem dX1_put_18 : decode cX1_put 18 = .ok (.aload_n 0, 1) := by decide +kernel
theorem dX1_put_19 : decode cX1_put 19 = .ok (.dup, 1) := by decide +kernel
theorem dX1_put_20 : decode cX1_put 20 = .ok (.getfield 21, 3) := by decide +kernel
theorem dX1_put_23 : decode cX1_put 23 = .ok (.iconst 1, 1) := by decide +kernel
theorem dX1_put_24 : decode cX1_put 24 = .ok (.iadd, 1) := by decide +kernel
theorem dX1_put_25 : decode cX1_put 25 = .ok (.putfield 21, 3) := by decide +kernel
theorem dX1_put_28 : decode cX1_put 28 = .ok (.aload_n 0, 1) := by decide +kernel
theorem dX1_put_29 : decode cX1_put 29 = .ok (.dup, 1) := by decide +kernel
theorem dX1_put_30 : decode cX1_put 30 = .ok (.getfield 25, 3) := by decide +kernel
theorem dX1_put_33 : decode cX1_put 33 = .ok (.aload_n 2, 1) := by decide +kernel
theorem dX1_put_34 : decode cX1_put 34 = .ok (.invokevirtual 39, 3) := by decide +kernel
theorem dX1_put_37 : decode cX1_put 37 = .ok (.iadd, 1) := by decide +kernel
theorem dX1_put_38 : decode cX1_put 38 = .ok (.putfield 25, 3) := by decide +kernel
theorem dX1_put_41 : decode cX1_put 41 = .ok (.return_, 1) := by decide +kernel
theorem dX1_remove_0 : decode cX1_remove 0 = .ok (.aload_n 0, 1) := by decide +kernel
theorem dX1_remove_1 : decode cX1_remove 1 = .ok (.iload_n 1, 1) := by decide +kernel
theorem dX1_remove_2 : decode cX1_remove 2 = .ok (.invokevirtual 43, 3) := by decide +kernel
theorem dX1_remove_5 : decode cX1_remove 5 = .ok (.astore_n 2, 1) := by decide +kernel
theorem dX1_remove_6 : decode cX1_remove 6 = .ok (.aload_n 2, 1) := by decide +kernel
theorem dX1_remove_7 : decode cX1_remove 7 = .ok (.ifnonnull 5, 3) := by decide +kernel
theorem dX1_remove_10 : decode cX1_remove 10 = .ok (.iconst 0, 1) := by decide +kernel
theorem dX1_remove_11 : decode cX1_remove 11 = .ok (.ireturn, 1) := by decide +kernel
theorem dX1_remove_12 : decode cX1_remove 12 = .ok (.aload_n 0, 1) := by decide +kernel
theorem dX1_remove_13 : decode cX1_remove 13 = .ok (.getfield 11, 3) := by decide +kernel
theorem dX1_remove_16 : decode cX1_remove 16 = .ok (.iload_n 1, 1) := by decide +kernel
theorem dX1_remove_17 : decode cX1_remove 17 = .ok (.aconst_null, 1) := by decide +kernel
theorem dX1_remove_18 : decode cX1_remove 18 = .ok (.aastore, 1) := by decide +kernel
theorem dX1_remove_19 : decode cX1_remove 19 = .ok (.aload_n 0, 1) := by decide +kernel
theorem dX1_remove_20 : decode cX1_remove 20 = .ok (.dup, 1) := by decide +kernel
theorem dX1_remove_21 : decode cX1_remove 21 = .ok (.getfield 21, 3) := by decide +kernel
theorem dX1_remove_24 : decode cX1_remove 24 = .ok (.iconst 1, 1) := by decide +kernel
theorem dX1_remove_25 : decode cX1_remove 25 = .ok (.isub, 1) := by decide +kernel
theorem dX1_remove_26 : decode cX1_remove 26 = .ok (.putfield 21, 3) := by decide +kernel
theorem dX1_remove_29 : decode cX1_remove 29 = .ok (.aload_n 0, 1) := by decide +kernel
theorem dX1_remove_30 : decode cX1_remove 30 = .ok (.dup, 1) := by decide +kernel
theorem dX1_remove_31 : decode cX1_remove 31 = .ok (.getfield 25, 3) := by decide +kernel
theorem dX1_remove_34 : decode cX1_remove 34 = .ok (.aload_n 2, 1) := by decide +kernel
theorem dX1_remove_35 : decode cX1_remove 35 = .ok (.invokevirtual 39, 3) := by decide +kernel
theorem dX1_remove_38 : decode cX1_remove 38 = .ok (.isub, 1) := by decide +kernel
theorem dX1_remove_39 : decode cX1_remove 39 = .ok (.putfield 25, 3) := by decide +kernel
theorem dX1_remove_42 : decode cX1_remove 42 = .ok (.iconst 1, 1) := by decide +kernel
theorem dX1_remove_43 : decode cX1_remove 43 = .ok (.ireturn, 1) := by decide +kernel
theorem dX2_init_0 : decode cX2_init 0 = .ok (.aload_n 0, 1) := by decide +kernel
theorem dX2_init_1 : decode cX2_init 1 = .ok (.invokespecial 1, 3) := by decide +kernel
theorem dX2_init_4 : decode cX2_init 4 = .ok (.aload_n 0, 1) := by decide +kernel
theorem dX2_init_5 : decode cX2_init 5 = .ok (.iconst 0, 1) := by decide +kernel
theorem dX2_init_6 : decode cX2_init 6 = .ok (.putfield 7, 3) := by decide +kernel
theorem dX2_init_9 : decode cX2_init 9 = .ok (.aload_n 0, 1) := by decide +kernel
theorem dX2_init_10 : decode cX2_init 10 = .ok (.iload_n 1, 1) := by decide +kernel
theorem dX2_init_11 : decode cX2_init 11 = .ok (.putfield 13, 3) := by decide +kernel
theorem dX2_init_14 : decode cX2_init 14 = .ok (.aload_n 0, 1) := by decide +kernel
theorem dX2_init_15 : decode cX2_init 15 = .ok (.iload_n 2, 1) := by decide +kernel
theorem dX2_init_16 : decode cX2_init 16 = .ok (.putfield 16, 3) := by decide +kernel
theorem dX2_init_19 : decode cX2_init 19 = .ok (.aload_n 0, 1) := by decide +kernel
theorem dX2_init_20 : decode cX2_init 20 = .ok (.iload_n 3, 1) := by decide +kernel
theorem dX2_init_21 : decode cX2_init 21 = .ok (.putfield 19, 3) := by decide +kernel
theorem dX2_init_24 : decode cX2_init 24 = .ok (.aload_n 0, 1) := by decide +kernel
theorem dX2_init_25 : decode cX2_init 25 = .ok (.iload 4, 2) := by decide +kernel
theorem dX2_init_27 : decode cX2_init 27 = .ok (.putfield 22, 3) := by decide +kernel
theorem dX2_init_30 : decode cX2_init 30 = .ok (.aload_n 0, 1) := by decide +kernel
theorem dX2_init_31 : decode cX2_init 31 = .ok (.iload 5, 2) := by decide +kernel
theorem dX2_init_33 : decode cX2_init 33 = .ok (.putfield 25, 3) := by decide +kernel
theorem dX2_init_36 : decode cX2_init 36 = .ok (.aload_n 0, 1) := by decide +kernel
theorem dX2_init_37 : decode cX2_init 37 = .ok (.iload_n 3, 1) := by decide +kernel
theorem dX2_init_38 : decode cX2_init 38 = .ok (.bipush 7, 2) := by decide +kernel
theorem dX2_init_40 : decode cX2_init 40 = .ok (.iadd, 1) := by decide +kernel
theorem dX2_init_41 : decode cX2_init 41 = .ok (.bipush 8, 2) := by decide +kernel
theorem dX2_init_43 : decode cX2_init 43 = .ok (.idiv, 1) := by decide +kernel
theorem dX2_init_44 : decode cX2_init 44 = .ok (.putfield 28, 3) := by decide +kernel
theorem dX2_init_47 : decode cX2_init 47 = .ok (.aload_n 0, 1) := by decide +kernel
theorem dX2_init_48 : decode cX2_init 48 = .ok (.iload_n 3, 1) := by decide +kernel
theorem dX2_init_49 : decode cX2_init 49 = .ok (.bipush 63, 2) := by decide +kernel
theorem dX2_init_51 : decode cX2_init 51 = .ok (.iadd, 1) := by decide +kernel
theorem dX2_init_52 : decode cX2_init 52 = .ok (.bipush 64, 2) := by decide +kernel
theorem dX2_init_54 : decode cX2_init 54 = .ok (.idiv, 1) := by decide +kernel
theorem dX2_init_55 : decode cX2_init 55 = .ok (.putfield 31, 3) := by decide +kernel
theorem dX2_init_58 : decode cX2_init 58 = .ok (.aload_n 0, 1) := by decide +kernel
theorem dX2_init_59 : decode cX2_init 59 = .ok (.iconst 0, 1) := by decide +kernel
theorem dX2_init_60 : decode cX2_init 60 = .ok (.iload 4, 2) := by decide +kernel
theorem dX2_init_62 : decode cX2_init 62 = .ok (.aload_n 0, 1) := by decide +kernel
theorem dX2_init_63 : decode cX2_init 63 = .ok (.getfield 31, 3) := by decide +kernel
theorem dX2_init_66 : decode cX2_init 66 = .ok (.imul, 1) := by decide +kernel
theorem dX2_init_67 : decode cX2_init 67 = .ok (.invokestatic 34, 3) := by decide +kernel
theorem dX2_init_70 : decode cX2_init 70 = .ok (.newarray .long, 2) := by decide +kernel
theorem dX2_init_72 : decode cX2_init 72 = .ok (.putfield 40, 3) := by decide +kernel
theorem dX2_init_75 : decode cX2_init 75 = .ok (.return_, 1) := by decide +kernel
theorem dX2_size_0 : decode cX2_size 0 = .ok (.aload_n 0, 1) := by decide +kernel
theorem dX2_size_1 : decode cX2_size 1 = .ok (.getfield 22, 3) := by decide +kernel
theorem dX2_size_4 : decode cX2_size 4 = .ok (.aload_n 0, 1) := by decide +kernel
theorem dX2_size_5 : decode cX2_size 5 = .ok (.getfield 28, 3) := by decide +kernel
theorem dX2_size_8 : decode cX2_size 8 = .ok (.imul, 1) := by decide +kernel
theorem dX2_size_9 : decode cX2_size 9 = .ok (.ireturn, 1) := by decide +kernel
theorem dX2_missing_0 : decode cX2_missing 0 = .ok (.aload_n 0, 1) := by decide +kernel
theorem dX2_missing_1 : decode cX2_missing 1 = .ok (.invokevirtual 44, 3) := by decide +kernel
theorem dX2_missing_4 : decode cX2_missing 4 = .ok (.aload_n 0, 1) := by decide +kernel
theorem dX2_missing_5 : decode cX2_missing 5 = .ok (.getfield 7, 3) := by decide +kernel
theorem dX2_missing_8 : decode cX2_missing 8 = .ok (.isub, 1) := by decide +kernel
theorem dX2_missing_9 : decode cX2_missing 9 = .ok (.ireturn, 1) := by decide +kernel
theorem dX2_addByte_0 : decode cX2_addByte 0 = .ok (.aload_n 0, 1) := by decide +kernel
theorem dX2_addByte_1 : decode cX2_addByte 1 = .ok (.invokevirtual 48, 3) := by decide +kernel
theorem dX2_addByte_4 : decode cX2_addByte 4 = .ok (.ifCond .le 10, 3) := by decide +kernel
theorem dX2_addByte_7 : decode cX2_addByte 7 = .ok (.aload_n 0, 1) := by decide +kernel
theorem dX2_addByte_8 : decode cX2_addByte 8 = .ok (.getfield 28, 3) := by decide +kernel
theorem dX2_addByte_11 : decode cX2_addByte 11 = .ok (.ifCond .gt 4, 3) := by decide +kernel
theorem dX2_addByte_14 : decode cX2_addByte 14 = .ok (.return_, 1) := by decide +kernel
theorem dX2_addByte_15 : decode cX2_addByte 15 = .ok (.aload_n 0, 1) := by decide +kernel
theorem dX2_addByte_16 : decode cX2_addByte 16 = .ok (.getfield 7, 3) := by decide +kernel
theorem dX2_addByte_19 : decode cX2_addByte 19 = .ok (.aload_n 0, 1) := by decide +kernel
theorem dX2_addByte_20 : decode cX2_addByte 20 = .ok (.getfield 28, 3) := by decide +kernel
theorem dX2_addByte_23 : decode cX2_addByte 23 = .ok (.idiv, 1) := by decide +kernel
theorem dX2_addByte_24 : decode cX2_addByte 24 = .ok (.istore_n 2, 1) := by decide +kernel
theorem dX2_addByte_25 : decode cX2_addByte 25 = .ok (.aload_n 0, 1) := by decide +kernel
theorem dX2_addByte_26 : decode cX2_addByte 26 = .ok (.getfield 7, 3) := by decide +kernel
theorem dX2_addByte_29 : decode cX2_addByte 29 = .ok (.aload_n 0, 1) := by decide +kernel
theorem dX2_addByte_30 : decode cX2_addByte 30 = .ok (.getfield 28, 3) := by decide +kernel
theorem dX2_addByte_33 : decode cX2_addByte 33 = .ok (.irem, 1) := by decide +kernel
theorem dX2_addByte_34 : decode cX2_addByte 34 = .ok (.istore_n 3, 1) := by decide +kernel
theorem dX2_addByte_35 : decode cX2_addByte 35 = .ok (.iconst 0, 1) := by decide +kernel
theorem dX2_addByte_36 : decode cX2_addByte 36 = .ok (.bipush 8, 2) := by decide +kernel
theorem dX2_addByte_38 : decode cX2_addByte 38 = .ok (.iload_n 3, 1) := by decide +kernel
theorem dX2_addByte_39 : decode cX2_addByte 39 = .ok (.imul, 1) := by decide +kernel
theorem dX2_addByte_40 : decode cX2_addByte 40 = .ok (.bipush 8, 2) := by decide +kernel
theorem dX2_addByte_42 : decode cX2_addByte 42 = .ok (.iadd, 1) := by decide +kernel
theorem dX2_addByte_43 : decode cX2_addByte 43 = .ok (.aload_n 0, 1) := by decide +kernel
theorem dX2_addByte_44 : decode cX2_addByte 44 = .ok (.getfield 19, 3) := by decide +kernel
theorem dX2_addByte_47 : decode cX2_addByte 47 = .ok (.isub, 1) := by decide +kernel
theorem dX2_addByte_48 : decode cX2_addByte 48 = .ok (.invokestatic 34, 3) := by decide +kernel
theorem dX2_addByte_51 : decode cX2_addByte 51 = .ok (.istore 4, 2) := by decide +kernel
theorem dX2_addByte_53 : decode cX2_addByte 53 = .ok (.iload_n 1, 1) := by decide +kernel
theorem dX2_addByte_54 : decode cX2_addByte 54 = .ok (.iload 4, 2) := by decide +kernel
theorem dX2_addByte_56 : decode cX2_addByte 56 = .ok (.iushr, 1) := by decide +kernel
theorem dX2_addByte_57 : decode cX2_addByte 57 = .ok (.iload 4, 2) := by decide +kernel
theorem dX2_addByte_59 : decode cX2_addByte 59 = .ok (.ishl, 1) := by decide +kernel
theorem dX2_addByte_60 : decode cX2_addByte 60 = .ok (.i2l, 1) := by decide +kernel
theorem dX2_addByte_61 : decode cX2_addByte 61 = .ok (.lstore 5, 2) := by decide +kernel
theorem dX2_addByte_63 : decode cX2_addByte 63 = .ok (.iload_n 2, 1) := by decide +kernel
theorem dX2_addByte_64 : decode cX2_addByte 64 = .ok (.aload_n 0, 1) := by decide +kernel
theorem dX2_addByte_65 : decode cX2_addByte 65 = .ok (.getfield 31, 3) := by decide +kernel
theorem dX2_addByte_68 : decode cX2_addByte 68 = .ok (.imul, 1) := by decide +kernel
theorem dX2_addByte_69 : decode cX2_addByte 69 = .ok (.iload_n 3, 1) := by decide +kernel
theorem dX2_addByte_70 : decode cX2_addByte 70 = .ok (.bipush 8, 2) := by decide +kernel
theorem dX2_addByte_72 : decode cX2_addByte 72 = .ok (.idiv, 1) := by decide +kernel
theorem dX2_addByte_73 : decode cX2_addByte 73 = .ok (.iadd, 1) := by decide +kernel
theorem dX2_addByte_74 : decode cX2_addByte 74 = .ok (.istore 7, 2) := by decide +kernel
theorem dX2_addByte_76 : decode cX2_addByte 76 = .ok (.iload 7, 2) := by decide +kernel
theorem dX2_addByte_78 : decode cX2_addByte 78 = .ok (.iconst 0, 1) := by decide +kernel
theorem dX2_addByte_79 : decode cX2_addByte 79 = .ok (.aload_n 0, 1) := by decide +kernel
theorem dX2_addByte_80 : decode cX2_addByte 80 = .ok (.getfield 40, 3) := by decide +kernel
theorem dX2_addByte_83 : decode cX2_addByte 83 = .ok (.arraylength, 1) := by decide +kernel
theorem dX2_addByte_84 : decode cX2_addByte 84 = .ok (.iconst 1, 1) := by decide +kernel
theorem dX2_addByte_85 : decode cX2_addByte 85 = .ok (.isub, 1) := by decide +kernel
theorem dX2_addByte_86 : decode cX2_addByte 86 = .ok (.invokestatic 51, 3) := by decide +kernel
theorem dX2_addByte_89 : decode cX2_addByte 89 = .ok (.ifCond .eq 26, 3) := by decide +kernel
theorem dX2_addByte_92 : decode cX2_addByte 92 = .ok (.aload_n 0, 1) := by decide +kernel
theorem dX2_addByte_93 : decode cX2_addByte 93 = .ok (.getfield 40, 3) := by decide +kernel
theorem dX2_addByte_96 : decode cX2_addByte 96 = .ok (.iload 7, 2) := by decide +kernel
theorem dX2_addByte_98 : decode cX2_addByte 98 = .ok (.dup2, 1) := by decide +kernel
theorem dX2_addByte_99 : decode cX2_addByte 99 = .ok (.laload, 1) := by decide +kernel
theorem dX2_addByte_100 : decode cX2_addByte 100 = .ok (.lload 5, 2) := by decide +kernel
theorem dX2_addByte_102 : decode cX2_addByte 102 = .ok (.bipush 56, 2) := by decide +kernel
theorem dX2_addByte_104 : decode cX2_addByte 104 = .ok (.bipush 8, 2) := by decide +kernel
theorem dX2_addByte_106 : decode cX2_addByte 106 = .ok (.iload_n 3, 1) := by decide +kernel
theorem dX2_addByte_107 : decode cX2_addByte 107 = .ok (.bipush 8, 2) := by decide +kernel
theorem dX2_addByte_109 : decode cX2_addByte 109 = .ok (.irem, 1) := by decide +kernel
theorem dX2_addByte_110 : decode cX2_addByte 110 = .ok (.imul, 1) := by decide +kernel
theorem dX2_addByte_111 : decode cX2_addByte 111 = .ok (.isub, 1) := by decide +kernel
theorem dX2_addByte_112 : decode cX2_addByte 112 = .ok (.lshl, 1) := by decide +kernel
theorem dX2_addByte_113 : decode cX2_addByte 113 = .ok (.lor, 1) := by decide +kernel
theorem dX2_addByte_114 : decode cX2_addByte 114 = .ok (.lastore, 1) := by decide +kernel
theorem dX2_addByte_115 : decode cX2_addByte 115 = .ok (.aload_n 0, 1) := by decide +kernel
theorem dX2_addByte_116 : decode cX2_addByte 116 = .ok (.dup, 1) := by decide +kernel
theorem dX2_addByte_117 : decode cX2_addByte 117 = .ok (.getfield 7, 3) := by decide +kernel
theorem dX2_addByte_120 : decode cX2_addByte 120 = .ok (.iconst 1, 1) := by decide +kernel
theorem dX2_addByte_121 : decode cX2_addByte 121 = .ok (.iadd, 1) := by decide +kernel
theorem dX2_addByte_122 : decode cX2_addByte 122 = .ok (.putfield 7, 3) := by decide +kernel
theorem dX2_addByte_125 : decode cX2_addByte 125 = .ok (.return_, 1) := by decide +kernel
theorem dX2_blackDots_0 : decode cX2_blackDots 0 = .ok (.iconst 0, 1) := by decide +kernel
theorem dX2_blackDots_1 : decode cX2_blackDots 1 = .ok (.istore_n 1, 1) := by decide +kernel
theorem dX2_blackDots_2 : decode cX2_blackDots 2 = .ok (.iconst 0, 1) := by decide +kernel
theorem dX2_blackDots_3 : decode cX2_blackDots 3 = .ok (.istore_n 2, 1) := by decide +kernel
theorem dX2_blackDots_4 : decode cX2_blackDots 4 = .ok (.iload_n 2, 1) := by decide +kernel
theorem dX2_blackDots_5 : decode cX2_blackDots 5 = .ok (.aload_n 0, 1) := by decide +kernel
theorem dX2_blackDots_6 : decode cX2_blackDots 6 = .ok (.getfield 40, 3) := by decide +kernel
theorem dX2_blackDots_9 : decode cX2_blackDots 9 = .ok (.arraylength, 1) := by decide +kernel
theorem dX2_blackDots_10 : decode cX2_blackDots 10 = .ok (.if_icmp .ge 21, 3) := by decide +kernel
theorem dX2_blackDots_13 : decode cX2_blackDots 13 = .ok (.iload_n 1, 1) := by decide +kernel
theorem dX2_blackDots_14 : decode cX2_blackDots 14 = .ok (.aload_n 0, 1) := by decide +kernel
theorem dX2_blackDots_15 : decode cX2_blackDots 15 = .ok (.getfield 40, 3) := by decide +kernel
theorem dX2_blackDots_18 : decode cX2_blackDots 18 = .ok (.iload_n 2, 1) := by decide +kernel
theorem dX2_blackDots_19 : decode cX2_blackDots 19 = .ok (.laload, 1) := by decide +kernel
theorem dX2_blackDots_20 : decode cX2_blackDots 20 = .ok (.invokestatic 57, 3) := by decide +kernel
theorem dX2_blackDots_23 : decode cX2_blackDots 23 = .ok (.iadd, 1) := by decide +kernel
theorem dX2_blackDots_24 : decode cX2_blackDots 24 = .ok (.istore_n 1, 1) := by decide +kernel
theorem dX2_blackDots_25 : decode cX2_blackDots 25 = .ok (.iinc 2 1, 3) := by decide +kernel
theorem dX2_blackDots_28 : decode cX2_blackDots 28 = .ok (.goto (-24), 3) := by decide +kernel
theorem dX2_blackDots_31 : decode cX2_blackDots 31 = .ok (.iload_n 1, 1) := by decide +kernel
theorem dX2_blackDots_32 : decode cX2_blackDots 32 = .ok (.ireturn, 1) := by decide +kernel
theorem dX2_dotsAt_0 : decode cX2_dotsAt 0 = .ok (.iload_n 1, 1) := by decide +kernel
theorem dX2_dotsAt_1 : decode cX2_dotsAt 1 = .ok (.iconst 0, 1) := by decide +kernel
theorem dX2_dotsAt_2 : decode cX2_dotsAt 2 = .ok (.aload_n 0, 1) := by decide +kernel
theorem dX2_dotsAt_3 : decode cX2_dotsAt 3 = .ok (.getfield 22, 3) := by decide +kernel
theorem dX2_dotsAt_6 : decode cX2_dotsAt 6 = .ok (.iconst 1, 1) := by decide +kernel
theorem dX2_dotsAt_7 : decode cX2_dotsAt 7 = .ok (.isub, 1) := by decide +kernel
theorem dX2_dotsAt_8 : decode cX2_dotsAt 8 = .ok (.invokestatic 51, 3) := by decide +kernel
theorem dX2_dotsAt_11 : decode cX2_dotsAt 11 = .ok (.ifCond .eq 17, 3) := by decide +kernel
theorem dX2_dotsAt_14 : decode cX2_dotsAt 14 = .ok (.iload_n 2, 1) := by decide +kernel
theorem dX2_dotsAt_15 : decode cX2_dotsAt 15 = .ok (.iconst 0, 1) := by decide +kernel
theorem dX2_dotsAt_16 : decode cX2_dotsAt 16 = .ok (.aload_n 0, 1) := by decide +kernel
theorem dX2_dotsAt_17 : decode cX2_dotsAt 17 = .ok (.getfield 31, 3) := by decide +kernel
theorem dX2_dotsAt_20 : decode cX2_dotsAt 20 = .ok (.iconst 1, 1) := by decide +kernel
theorem dX2_dotsAt_21 : decode cX2_dotsAt 21 = .ok (.isub, 1) := by decide +kernel
theorem dX2_dotsAt_22 : decode cX2_dotsAt 22 = .ok (.invokestatic 51, 3) := by decide +kernel
theorem dX2_dotsAt_25 : decode cX2_dotsAt 25 = .ok (.ifCond .ne 5, 3) := by decide +kernel
theorem dX2_dotsAt_28 : decode cX2_dotsAt 28 = .ok (.lconst 0, 1) := by decide +kernel
theorem dX2_dotsAt_29 : decode cX2_dotsAt 29 = .ok (.lreturn, 1) := by decide +kernel
theorem dX2_dotsAt_30 : decode cX2_dotsAt 30 = .ok (.iload_n 1, 1) := by decide +kernel
theorem dX2_dotsAt_31 : decode cX2_dotsAt 31 = .ok (.aload_n 0, 1) := by decide +kernel
theorem dX2_dotsAt_32 : decode cX2_dotsAt 32 = .ok (.getfield 31, 3) := by decide +kernel
theorem dX2_dotsAt_35 : decode cX2_dotsAt 35 = .ok (.imul, 1) := by decide +kernel
theorem dX2_dotsAt_36 : decode cX2_dotsAt 36 = .ok (.iload_n 2, 1) := by decide +kernel
theorem dX2_dotsAt_37 : decode cX2_dotsAt 37 = .ok (.iadd, 1) := by decide +kernel
theorem dX2_dotsAt_38 : decode cX2_dotsAt 38 = .ok (.istore_n 3, 1) := by decide +kernel
theorem dX2_dotsAt_39 : decode cX2_dotsAt 39 = .ok (.iload_n 3, 1) := by decide +kernel
theorem dX2_dotsAt_40 : decode cX2_dotsAt 40 = .ok (.iconst 0, 1) := by decide +kernel
theorem dX2_dotsAt_41 : decode cX2_dotsAt 41 = .ok (.aload_n 0, 1) := by decide +kernel
theorem dX2_dotsAt_42 : decode cX2_dotsAt 42 = .ok (.getfield 40, 3) := by decide +kernel
theorem dX2_dotsAt_45 : decode cX2_dotsAt 45 = .ok (.arraylength, 1) := by decide +kernel
theorem dX2_dotsAt_46 : decode cX2_dotsAt 46 = .ok (.iconst 1, 1) := by decide +kernel
theorem dX2_dotsAt_47 : decode cX2_dotsAt 47 = .ok (.isub, 1) := by decide +kernel
theorem dX2_dotsAt_48 : decode cX2_dotsAt 48 = .ok (.invokestatic 51, 3) := by decide +kernel
theorem dX2_dotsAt_51 : decode cX2_dotsAt 51 = .ok (.ifCond .eq 12, 3) := by decide +kernel
theorem dX2_dotsAt_54 : decode cX2_dotsAt 54 = .ok (.aload_n 0, 1) := by decide +kernel
theorem dX2_dotsAt_55 : decode cX2_dotsAt 55 = .ok (.getfield 40, 3) := by decide +kernel
theorem dX2_dotsAt_58 : decode cX2_dotsAt 58 = .ok (.iload_n 3, 1) := by decide +kernel
theorem dX2_dotsAt_59 : decode cX2_dotsAt 59 = .ok (.laload, 1) := by decide +kernel
theorem dX2_dotsAt_60 : decode cX2_dotsAt 60 = .ok (.goto 4, 3) := by decide +kernel
theorem dX2_dotsAt_63 : decode cX2_dotsAt 63 = .ok (.lconst 0, 1) := by decide +kernel
theorem dX2_dotsAt_64 : decode cX2_dotsAt 64 = .ok (.lreturn, 1) := by decide +kernel
theorem dX3_init_0 : decode cX3_init 0 = .ok (.aload_n 0, 1) := by decide +kernel
theorem dX3_init_1 : decode cX3_init 1 = .ok (.invokespecial 1, 3) := by decide +kernel
theorem dX3_init_4 : decode cX3_init 4 = .ok (.aload_n 0, 1) := by decide +kernel
theorem dX3_init_5 : decode cX3_init 5 = .ok (.new 7, 3) := by decide +kernel
theorem dX3_init_8 : decode cX3_init 8 = .ok (.dup, 1) := by decide +kernel
theorem dX3_init_9 : decode cX3_init 9 = .ok (.invokespecial 9, 3) := by decide +kernel
theorem dX3_init_12 : decode cX3_init 12 = .ok (.putfield 10, 3) := by decide +kernel
theorem dX3_init_15 : decode cX3_init 15 = .ok (.aload_n 0, 1) := by decide +kernel
theorem dX3_init_16 : decode cX3_init 16 = .ok (.getstatic 16, 3) := by decide +kernel
theorem dX3_init_19 : decode cX3_init 19 = .ok (.invokevirtual 20, 3) := by decide +kernel
theorem dX3_init_22 : decode cX3_init 22 = .ok (.checkcast 21, 3) := by decide +kernel
theorem dX3_init_25 : decode cX3_init 25 = .ok (.putfield 25, 3) := by decide +kernel
theorem dX3_init_28 : decode cX3_init 28 = .ok (.aload_n 0, 1) := by decide +kernel
theorem dX3_init_29 : decode cX3_init 29 = .ok (.iconst 2, 1) := by decide +kernel
theorem dX3_init_30 : decode cX3_init 30 = .ok (.anewarray 28, 3) := by decide +kernel
theorem dX3_init_33 : decode cX3_init 33 = .ok (.dup, 1) := by decide +kernel
theorem dX3_init_34 : decode cX3_init 34 = .ok (.iconst 0, 1) := by decide +kernel
theorem dX3_init_35 : decode cX3_init 35 = .ok (.new 28, 3) := by decide +kernel
theorem dX3_init_38 : decode cX3_init 38 = .ok (.dup, 1) := by decide +kernel
theorem dX3_init_39 : decode cX3_init 39 = .ok (.invokespecial 30, 3) := by decide +kernel
theorem dX3_init_42 : decode cX3_init 42 = .ok (.aastore, 1) := by decide +kernel
theorem dX3_init_43 : decode cX3_init 43 = .ok (.dup, 1) := by decide +kernel
theorem dX3_init_44 : decode cX3_init 44 = .ok (.iconst 1, 1) := by decide +kernel
theorem dX3_init_45 : decode cX3_init 45 = .ok (.new 28, 3) := by decide +kernel
theorem dX3_init_48 : decode cX3_init 48 = .ok (.dup, 1) := by decide +kernel
theorem dX3_init_49 : decode cX3_init 49 = .ok (.invokespecial 30, 3) := by decide +kernel
theorem dX3_init_52 : decode cX3_init 52 = .ok (.aastore, 1) := by decide +kernel
theorem dX3_init_53 : decode cX3_init 53 = .ok (.putfield 31, 3) := by decide +kernel
theorem dX3_init_56 : decode cX3_init 56 = .ok (.aload_n 0, 1) := by decide +kernel
theorem dX3_init_57 : decode cX3_init 57 = .ok (.iconst 0, 1) := by decide +kernel
theorem dX3_init_58 : decode cX3_init 58 = .ok (.putfield 35, 3) := by decide +kernel
theorem dX3_init_61 : decode cX3_init 61 = .ok (.aload_n 0, 1) := by decide +kernel
theorem dX3_init_62 : decode cX3_init 62 = .ok (.iconst 0, 1) := by decide +kernel
theorem dX3_init_63 : decode cX3_init 63 = .ok (.putfield 39, 3) := by decide +kernel
theorem dX3_init_66 : decode cX3_init 66 = .ok (.aload_n 0, 1) := by decide +kernel
theorem dX3_init_67 : decode cX3_init 67 = .ok (.aconst_null, 1) := by decide +kernel
theorem dX3_init_68 : decode cX3_init 68 = .ok (.putfield 42, 3) := by decide +kernel
theorem dX3_init_71 : decode cX3_init 71 = .ok (.return_, 1) := by decide +kernel
theorem dX3_hand_0 : decode cX3_hand 0 = .ok (.iload_n 2, 1) := by decide +kernel
theorem dX3_hand_1 : decode cX3_hand 1 = .ok (.iconst 0, 1) := by decide +kernel
theorem dX3_hand_2 : decode cX3_hand 2 = .ok (.iload_n 1, 1) := by decide +kernel
theorem dX3_hand_3 : decode cX3_hand 3 = .ok (.ifCond .eq 9, 3) := by decide +kernel
theorem dX3_hand_6 : decode cX3_hand 6 = .ok (.sipush 255, 3) := by decide +kernel
theorem dX3_hand_9 : decode cX3_hand 9 = .ok (.goto 6, 3) := by decide +kernel
theorem dX3_hand_12 : decode cX3_hand 12 = .ok (.sipush 32767, 3) := by decide +kernel
theorem dX3_hand_15 : decode cX3_hand 15 = .ok (.invokestatic 46, 3) := by decide +kernel
theorem dX3_hand_18 : decode cX3_hand 18 = .ok (.ifCond .ne 5, 3) := by decide +kernel
theorem dX3_hand_21 : decode cX3_hand 21 = .ok (.iconst 0, 1) := by decide +kernel
theorem dX3_hand_22 : decode cX3_hand 22 = .ok (.ireturn, 1) := by decide +kernel
theorem dX3_hand_23 : decode cX3_hand 23 = .ok (.iload_n 1, 1) := by decide +kernel
theorem dX3_hand_24 : decode cX3_hand 24 = .ok (.ifCond .eq 11, 3) := by decide +kernel
theorem dX3_hand_27 : decode cX3_hand 27 = .ok (.aload_n 0, 1) := by decide +kernel
theorem dX3_hand_28 : decode cX3_hand 28 = .ok (.iload_n 2, 1) := by decide +kernel
theorem dX3_hand_29 : decode cX3_hand 29 = .ok (.putfield 39, 3) := by decide +kernel
theorem dX3_hand_32 : decode cX3_hand 32 = .ok (.goto 8, 3) := by decide +kernel
theorem dX3_hand_35 : decode cX3_hand 35 = .ok (.aload_n 0, 1) := by decide +kernel
theorem dX3_hand_36 : decode cX3_hand 36 = .ok (.iload_n 2, 1) := by decide +kernel
theorem dX3_hand_37 : decode cX3_hand 37 = .ok (.putfield 35, 3) := by decide +kernel
theorem dX3_hand_40 : decode cX3_hand 40 = .ok (.aload_n 0, 1) := by decide +kernel
theorem dX3_hand_41 : decode cX3_hand 41 = .ok (.aconst_null, 1) := by decide +kernel
theorem dX3_hand_42 : decode cX3_hand 42 = .ok (.putfield 42, 3) := by decide +kernel
theorem dX3_hand_45 : decode cX3_hand 45 = .ok (.iconst 1, 1) := by decide +kernel
theorem dX3_hand_46 : decode cX3_hand 46 = .ok (.ireturn, 1) := by decide +kernel
theorem dX3_attribute_0 : decode cX3_attribute 0 = .ok (.iload_n 3, 1) := by decide +kernel
theorem dX3_attribute_1 : decode cX3_attribute 1 = .ok (.invokestatic 50, 3) := by decide +kernel
theorem dX3_attribute_4 : decode cX3_attribute 4 = .ok (.ifCond .eq 21, 3) := by decide +kernel
theorem dX3_attribute_7 : decode cX3_attribute 7 = .ok (.iload 4, 2) := by decide +kernel
theorem dX3_attribute_9 : decode cX3_attribute 9 = .ok (.getstatic 54, 3) := by decide +kernel
theorem dX3_attribute_12 : decode cX3_attribute 12 = .ok (.iload_n 3, 1) := by decide +kernel
theorem dX3_attribute_13 : decode cX3_attribute 13 = .ok (.iaload, 1) := by decide +kernel
theorem dX3_attribute_14 : decode cX3_attribute 14 = .ok (.getstatic 57, 3) := by decide +kernel
theorem dX3_attribute_17 : decode cX3_attribute 17 = .ok (.iload_n 3, 1) := by decide +kernel
theorem dX3_attribute_18 : decode cX3_attribute 18 = .ok (.iaload, 1) := by decide +kernel
theorem dX3_attribute_19 : decode cX3_attribute 19 = .ok (.invokestatic 46, 3) := by decide +kernel
theorem dX3_attribute_22 : decode cX3_attribute 22 = .ok (.ifCond .ne 5, 3) := by decide +kernel
theorem dX3_attribute_25 : decode cX3_attribute 25 = .ok (.iconst 0, 1) := by decide +kernel
theorem dX3_attribute_26 : decode cX3_attribute 26 = .ok (.ireturn, 1) := by decide +kernel
theorem dX3_attribute_27 : decode cX3_attribute 27 = .ok (.iload_n 1, 1) := by decide +kernel
theorem dX3_attribute_28 : decode cX3_attribute 28 = .ok (.ifCond .ne 13, 3) := by decide +kernel
theorem dX3_attribute_31 : decode cX3_attribute 31 = .ok (.aload_n 0, 1) := by decide +kernel
theorem dX3_attribute_32 : decode cX3_attribute 32 = .ok (.getfield 25, 3) := by decide +kernel
theorem dX3_attribute_35 : decode cX3_attribute 35 = .ok (.iload_n 3, 1) := by decide +kernel
theorem dX3_attribute_36 : decode cX3_attribute 36 = .ok (.iload 4, 2) := by decide +kernel
theorem dX3_attribute_38 : decode cX3_attribute 38 = .ok (.iastore, 1) := by decide +kernel
theorem dX3_attribute_39 : decode cX3_attribute 39 = .ok (.iconst 1, 1) := by decide +kernel
theorem dX3_attribute_40 : decode cX3_attribute 40 = .ok (.ireturn, 1) := by decide +kernel
theorem dX3_attribute_41 : decode cX3_attribute 41 = .ok (.iload_n 2, 1) := by decide +kernel
theorem dX3_attribute_42 : decode cX3_attribute 42 = .ok (.invokestatic 60, 3) := by decide +kernel
theorem dX3_attribute_45 : decode cX3_attribute 45 = .ok (.ifCond .ne 5, 3) := by decide +kernel
theorem dX3_attribute_48 : decode cX3_attribute 48 = .ok (.iconst 0, 1) := by decide +kernel
theorem dX3_attribute_49 : decode cX3_attribute 49 = .ok (.ireturn, 1) := by decide +kernel
theorem dX3_attribute_50 : decode cX3_attribute 50 = .ok (.aload_n 0, 1) := by decide +kernel
theorem dX3_attribute_51 : decode cX3_attribute 51 = .ok (.getfield 31, 3) := by decide +kernel
theorem dX3_attribute_54 : decode cX3_attribute 54 = .ok (.iload_n 2, 1) := by decide +kernel
theorem dX3_attribute_55 : decode cX3_attribute 55 = .ok (.aaload, 1) := by decide +kernel
theorem dX3_attribute_56 : decode cX3_attribute 56 = .ok (.getfield 63, 3) := by decide +kernel
theorem dX3_attribute_59 : decode cX3_attribute 59 = .ok (.iload_n 3, 1) := by decide +kernel
theorem dX3_attribute_60 : decode cX3_attribute 60 = .ok (.iload 4, 2) := by decide +kernel
theorem dX3_attribute_62 : decode cX3_attribute 62 = .ok (.iastore, 1) := by decide +kernel
theorem dX3_attribute_63 : decode cX3_attribute 63 = .ok (.aload_n 0, 1) := by decide +kernel
theorem dX3_attribute_64 : decode cX3_attribute 64 = .ok (.getfield 31, 3) := by decide +kernel
theorem dX3_attribute_67 : decode cX3_attribute 67 = .ok (.iload_n 2, 1) := by decide +kernel
theorem dX3_attribute_68 : decode cX3_attribute 68 = .ok (.aaload, 1) := by decide +kernel
theorem dX3_attribute_69 : decode cX3_attribute 69 = .ok (.iconst (-1), 1) := by decide +kernel
theorem dX3_attribute_70 : decode cX3_attribute 70 = .ok (.putfield 66, 3) := by decide +kernel
theorem dX3_attribute_73 : decode cX3_attribute 73 = .ok (.iconst 1, 1) := by decide +kernel
theorem dX3_attribute_74 : decode cX3_attribute 74 = .ok (.ireturn, 1) := by decide +kernel
theorem dX3_header_0 : decode cX3_header 0 = .ok (.aload_n 0, 1) := by decide +kernel
theorem dX3_header_1 : decode cX3_header 1 = .ok (.aload_n 0, 1) := by decide +kernel
theorem dX3_header_2 : decode cX3_header 2 = .ok (.getfield 35, 3) := by decide +kernel
theorem dX3_header_5 : decode cX3_header 5 = .ok (.invokevirtual 69, 3) := by decide +kernel
theorem dX3_header_8 : decode cX3_header 8 = .ok (.istore_n 1, 1) := by decide +kernel
theorem dX3_header_9 : decode cX3_header 9 = .ok (.iload_n 1, 1) := by decide +kernel
theorem dX3_header_10 : decode cX3_header 10 = .ok (.iconst (-1), 1) := by decide +kernel
theorem dX3_header_11 : decode cX3_header 11 = .ok (.if_icmp .ne 25, 3) := by decide +kernel
theorem dX3_header_14 : decode cX3_header 14 = .ok (.aload_n 0, 1) := by decide +kernel
theorem dX3_header_15 : decode cX3_header 15 = .ok (.getfield 10, 3) := by decide +kernel
theorem dX3_header_18 : decode cX3_header 18 = .ok (.invokevirtual 73, 3) := by decide +kernel
theorem dX3_header_21 : decode cX3_header 21 = .ok (.bipush 32, 2) := by decide +kernel
theorem dX3_header_23 : decode cX3_header 23 = .ok (.if_icmp .lt 13, 3) := by decide +kernel
theorem dX3_header_26 : decode cX3_header 26 = .ok (.new 77, 3) := by decide +kernel
theorem dX3_header_29 : decode cX3_header 29 = .ok (.dup, 1) := by decide +kernel
theorem dX3_header_30 : decode cX3_header 30 = .ok (.ldc 79, 2) := by decide +kernel
theorem dX3_header_32 : decode cX3_header 32 = .ok (.invokespecial 81, 3) := by decide +kernel
theorem dX3_header_35 : decode cX3_header 35 = .ok (.athrow, 1) := by decide +kernel
theorem dX3_header_36 : decode cX3_header 36 = .ok (.aload_n 0, 1) := by decide +kernel
theorem dX3_header_37 : decode cX3_header 37 = .ok (.iload_n 1, 1) := by decide +kernel
theorem dX3_header_38 : decode cX3_header 38 = .ok (.invokevirtual 84, 3) := by decide +kernel
theorem dX3_header_41 : decode cX3_header 41 = .ok (.pop, 1) := by decide +kernel
theorem dX3_header_42 : decode cX3_header 42 = .ok (.aload_n 0, 1) := by decide +kernel
theorem dX3_header_43 : decode cX3_header 43 = .ok (.getfield 10, 3) := by decide +kernel
theorem dX3_header_46 : decode cX3_header 46 = .ok (.new 87, 3) := by decide +kernel
theorem dX3_header_49 : decode cX3_header 49 = .ok (.dup, 1) := by decide +kernel
theorem dX3_header_50 : decode cX3_header 50 = .ok (.aload_n 0, 1) := by decide +kernel
theorem dX3_header_51 : decode cX3_header 51 = .ok (.getfield 35, 3) := by decide +kernel
theorem dX3_header_54 : decode cX3_header 54 = .ok (.aload_n 0, 1) := by decide +kernel
theorem dX3_header_55 : decode cX3_header 55 = .ok (.getfield 25, 3) := by decide +kernel
theorem dX3_header_58 : decode cX3_header 58 = .ok (.invokevirtual 20, 3) := by decide +kernel
theorem dX3_header_61 : decode cX3_header 61 = .ok (.checkcast 21, 3) := by decide +kernel
theorem dX3_header_64 : decode cX3_header 64 = .ok (.invokespecial 89, 3) := by decide +kernel
theorem dX3_header_67 : decode cX3_header 67 = .ok (.invokevirtual 92, 3) := by decide +kernel
theorem dX3_header_70 : decode cX3_header 70 = .ok (.pop, 1) := by decide +kernel
theorem dX3_header_71 : decode cX3_header 71 = .ok (.aload_n 0, 1) := by decide +kernel
theorem dX3_header_72 : decode cX3_header 72 = .ok (.aconst_null, 1) := by decide +kernel
theorem dX3_header_73 : decode cX3_header 73 = .ok (.putfield 42, 3) := by decide +kernel
theorem dX3_header_76 : decode cX3_header 76 = .ok (.aload_n 0, 1) := by decide +kernel
theorem dX3_header_77 : decode cX3_header 77 = .ok (.getfield 10, 3) := by decide +kernel
theorem dX3_header_80 : decode cX3_header 80 = .ok (.invokevirtual 73, 3) := by decide +kernel
theorem dX3_header_83 : decode cX3_header 83 = .ok (.ireturn, 1) := by decide +kernel
theorem dX3_glyph_0 : decode cX3_glyph 0 = .ok (.aload_n 0, 1) := by decide +kernel
theorem dX3_glyph_1 : decode cX3_glyph 1 = .ok (.aload_n 0, 1) := by decide +kernel
theorem dX3_glyph_2 : decode cX3_glyph 2 = .ok (.getfield 35, 3) := by decide +kernel
theorem dX3_glyph_5 : decode cX3_glyph 5 = .ok (.invokevirtual 69, 3) := by decide +kernel
theorem dX3_glyph_8 : decode cX3_glyph 8 = .ok (.iconst (-1), 1) := by decide +kernel
theorem dX3_glyph_9 : decode cX3_glyph 9 = .ok (.if_icmp .ne 13, 3) := by decide +kernel
theorem dX3_glyph_12 : decode cX3_glyph 12 = .ok (.new 77, 3) := by decide +kernel
theorem dX3_glyph_15 : decode cX3_glyph 15 = .ok (.dup, 1) := by decide +kernel
theorem dX3_glyph_16 : decode cX3_glyph 16 = .ok (.ldc 96, 2) := by decide +kernel
theorem dX3_glyph_18 : decode cX3_glyph 18 = .ok (.invokespecial 81, 3) := by decide +kernel
theorem dX3_glyph_21 : decode cX3_glyph 21 = .ok (.athrow, 1) := by decide +kernel
theorem dX3_glyph_22 : decode cX3_glyph 22 = .ok (.iload_n 1, 1) := by decide +kernel
theorem dX3_glyph_23 : decode cX3_glyph 23 = .ok (.sipush (-16384), 3) := by decide +kernel
theorem dX3_glyph_26 : decode cX3_glyph 26 = .ok (.sipush 16383, 3) := by decide +kernel
theorem dX3_glyph_29 : decode cX3_glyph 29 = .ok (.invokestatic 46, 3) := by decide +kernel
theorem dX3_glyph_32 : decode cX3_glyph 32 = .ok (.ifCond .eq 51, 3) := by decide +kernel
theorem dX3_glyph_35 : decode cX3_glyph 35 = .ok (.iload_n 2, 1) := by decide +kernel
theorem dX3_glyph_36 : decode cX3_glyph 36 = .ok (.sipush (-16384), 3) := by decide +kernel
theorem dX3_glyph_39 : decode cX3_glyph 39 = .ok (.sipush 16383, 3) := by decide +kernel
theorem dX3_glyph_42 : decode cX3_glyph 42 = .ok (.invokestatic 46, 3) := by decide +kernel
theorem dX3_glyph_45 : decode cX3_glyph 45 = .ok (.ifCond .eq 38, 3) := by decide +kernel
theorem dX3_glyph_48 : decode cX3_glyph 48 = .ok (.iload_n 3, 1) := by decide +kernel
theorem dX3_glyph_49 : decode cX3_glyph 49 = .ok (.iconst 0, 1) := by decide +kernel
theorem dX3_glyph_50 : decode cX3_glyph 50 = .ok (.sipush 128, 3) := by decide +kernel
theorem dX3_glyph_53 : decode cX3_glyph 53 = .ok (.invokestatic 46, 3) := by decide +kernel
theorem dX3_glyph_56 : decode cX3_glyph 56 = .ok (.ifCond .eq 27, 3) := by decide +kernel
theorem dX3_glyph_59 : decode cX3_glyph 59 = .ok (.iload 4, 2) := by decide +kernel
theorem dX3_glyph_61 : decode cX3_glyph 61 = .ok (.iconst 0, 1) := by decide +kernel
theorem dX3_glyph_62 : decode cX3_glyph 62 = .ok (.sipush 128, 3) := by decide +kernel
theorem dX3_glyph_65 : decode cX3_glyph 65 = .ok (.invokestatic 46, 3) := by decide +kernel
theorem dX3_glyph_68 : decode cX3_glyph 68 = .ok (.ifCond .eq 15, 3) := by decide +kernel
theorem dX3_glyph_71 : decode cX3_glyph 71 = .ok (.iload 5, 2) := by decide +kernel
theorem dX3_glyph_73 : decode cX3_glyph 73 = .ok (.iconst 0, 1) := by decide +kernel
theorem dX3_glyph_74 : decode cX3_glyph 74 = .ok (.sipush 32767, 3) := by decide +kernel
theorem dX3_glyph_77 : decode cX3_glyph 77 = .ok (.invokestatic 46, 3) := by decide +kernel
theorem dX3_glyph_80 : decode cX3_glyph 80 = .ok (.ifCond .ne 13, 3) := by decide +kernel
theorem dX3_glyph_83 : decode cX3_glyph 83 = .ok (.new 98, 3) := by decide +kernel
theorem dX3_glyph_86 : decode cX3_glyph 86 = .ok (.dup, 1) := by decide +kernel
theorem dX3_glyph_87 : decode cX3_glyph 87 = .ok (.ldc 100, 2) := by decide +kernel
theorem dX3_glyph_89 : decode cX3_glyph 89 = .ok (.invokespecial 102, 3) := by decide +kernel
theorem dX3_glyph_92 : decode cX3_glyph 92 = .ok (.athrow, 1) := by decide +kernel
theorem dX3_glyph_93 : decode cX3_glyph 93 = .ok (.aload_n 0, 1) := by decide +kernel
theorem dX3_glyph_94 : decode cX3_glyph 94 = .ok (.new 103, 3) := by decide +kernel
theorem dX3_glyph_97 : decode cX3_glyph 97 = .ok (.dup, 1) := by decide +kernel
theorem dX3_glyph_98 : decode cX3_glyph 98 = .ok (.iload_n 1, 1) := by decide +kernel
theorem dX3_glyph_99 : decode cX3_glyph 99 = .ok (.iload_n 2, 1) := by decide +kernel
theorem dX3_glyph_100 : decode cX3_glyph 100 = .ok (.iload_n 3, 1) := by decide +kernel
theorem dX3_glyph_101 : decode cX3_glyph 101 = .ok (.iload 4, 2) := by decide +kernel
theorem dX3_glyph_103 : decode cX3_glyph 103 = .ok (.iload 5, 2) := by decide +kernel
theorem dX3_glyph_105 : decode cX3_glyph 105 = .ok (.invokespecial 105, 3) := by decide +kernel
theorem dX3_glyph_108 : decode cX3_glyph 108 = .ok (.putfield 42, 3) := by decide +kernel
theorem dX3_glyph_111 : decode cX3_glyph 111 = .ok (.aload_n 0, 1) := by decide +kernel
theorem dX3_glyph_112 : decode cX3_glyph 112 = .ok (.getfield 42, 3) := by decide +kernel
theorem dX3_glyph_115 : decode cX3_glyph 115 = .ok (.invokevirtual 108, 3) := by decide +kernel
theorem dX3_glyph_118 : decode cX3_glyph 118 = .ok (.ireturn, 1) := by decide +kernel
theorem dX3_bytes_0 : decode cX3_bytes 0 = .ok (.aload_n 0, 1) := by decide +kernel
theorem dX3_bytes_1 : decode cX3_bytes 1 = .ok (.getfield 42, 3) := by decide +kernel
theorem dX3_bytes_4 : decode cX3_bytes 4 = .ok (.ifnull 13, 3) := by decide +kernel
theorem dX3_bytes_7 : decode cX3_bytes 7 = .ok (.iload_n 3, 1) := by decide +kernel
theorem dX3_bytes_8 : decode cX3_bytes 8 = .ok (.iconst 1, 1) := by decide +kernel
theorem dX3_bytes_9 : decode cX3_bytes 9 = .ok (.bipush 8, 2) := by decide +kernel
theorem dX3_bytes_11 : decode cX3_bytes 11 = .ok (.invokestatic 46, 3) := by decide +kernel
theorem dX3_bytes_14 : decode cX3_bytes 14 = .ok (.ifCond .ne 5, 3) := by decide +kernel
theorem dX3_bytes_17 : decode cX3_bytes 17 = .ok (.iconst 0, 1) := by decide +kernel
theorem dX3_bytes_18 : decode cX3_bytes 18 = .ok (.ireturn, 1) := by decide +kernel
theorem dX3_bytes_19 : decode cX3_bytes 19 = .ok (.iload_n 3, 1) := by decide +kernel
theorem dX3_bytes_20 : decode cX3_bytes 20 = .ok (.iconst 1, 1) := by decide +kernel
theorem dX3_bytes_21 : decode cX3_bytes 21 = .ok (.isub, 1) := by decide +kernel
theorem dX3_bytes_22 : decode cX3_bytes 22 = .ok (.istore 4, 2) := by decide +kernel
theorem dX3_bytes_24 : decode cX3_bytes 24 = .ok (.iload 4, 2) := by decide +kernel
theorem dX3_bytes_26 : decode cX3_bytes 26 = .ok (.ifCond .lt 28, 3) := by decide +kernel
theorem dX3_bytes_29 : decode cX3_bytes 29 = .ok (.aload_n 0, 1) := by decide +kernel
theorem dX3_bytes_30 : decode cX3_bytes 30 = .ok (.getfield 42, 3) := by decide +kernel
theorem dX3_bytes_33 : decode cX3_bytes 33 = .ok (.lload_n 1, 1) := by decide +kernel
theorem dX3_bytes_34 : decode cX3_bytes 34 = .ok (.bipush 8, 2) := by decide +kernel
theorem dX3_bytes_36 : decode cX3_bytes 36 = .ok (.iload 4, 2) := by decide +kernel
theorem dX3_bytes_38 : decode cX3_bytes 38 = .ok (.imul, 1) := by decide +kernel
theorem dX3_bytes_39 : decode cX3_bytes 39 = .ok (.lushr, 1) := by decide +kernel
theorem dX3_bytes_40 : decode cX3_bytes 40 = .ok (.l2i, 1) := by decide +kernel
theorem dX3_bytes_41 : decode cX3_bytes 41 = .ok (.sipush 255, 3) := by decide +kernel
theorem dX3_bytes_44 : decode cX3_bytes 44 = .ok (.iand, 1) := by decide +kernel
theorem dX3_bytes_45 : decode cX3_bytes 45 = .ok (.invokevirtual 109, 3) := by decide +kernel
theorem dX3_bytes_48 : decode cX3_bytes 48 = .ok (.iinc 4 (-1), 3) := by decide +kernel
theorem dX3_bytes_51 : decode cX3_bytes 51 = .ok (.goto (-27), 3) := by decide +kernel
theorem dX3_bytes_54 : decode cX3_bytes 54 = .ok (.iconst 1, 1) := by decide +kernel
theorem dX3_bytes_55 : decode cX3_bytes 55 = .ok (.ireturn, 1) := by decide +kernel
theorem dX3_load_0 : decode cX3_load 0 = .ok (.aload_n 0, 1) := by decide +kernel
theorem dX3_load_1 : decode cX3_load 1 = .ok (.aload_n 0, 1) := by decide +kernel
theorem dX3_load_2 : decode cX3_load 2 = .ok (.getfield 35, 3) := by decide +kernel
theorem dX3_load_5 : decode cX3_load 5 = .ok (.invokevirtual 113, 3) := by decide +kernel
theorem dX3_load_8 : decode cX3_load 8 = .ok (.astore_n 1, 1) := by decide +kernel
theorem dX3_load_9 : decode cX3_load 9 = .ok (.aload_n 0, 1) := by decide +kernel
theorem dX3_load_10 : decode cX3_load 10 = .ok (.getfield 42, 3) := by decide +kernel
theorem dX3_load_13 : decode cX3_load 13 = .ok (.ifnull 7, 3) := by decide +kernel
theorem dX3_load_16 : decode cX3_load 16 = .ok (.aload_n 1, 1) := by decide +kernel
theorem dX3_load_17 : decode cX3_load 17 = .ok (.ifnonnull 13, 3) := by decide +kernel
theorem dX3_load_20 : decode cX3_load 20 = .ok (.new 77, 3) := by decide +kernel
theorem dX3_load_23 : decode cX3_load 23 = .ok (.dup, 1) := by decide +kernel
theorem dX3_load_24 : decode cX3_load 24 = .ok (.ldc 117, 2) := by decide +kernel
theorem dX3_load_26 : decode cX3_load 26 = .ok (.invokespecial 81, 3) := by decide +kernel
theorem dX3_load_29 : decode cX3_load 29 = .ok (.athrow, 1) := by decide +kernel
theorem dX3_load_30 : decode cX3_load 30 = .ok (.aload_n 0, 1) := by decide +kernel
theorem dX3_load_31 : decode cX3_load 31 = .ok (.getfield 42, 3) := by decide +kernel
theorem dX3_load_34 : decode cX3_load 34 = .ok (.astore_n 2, 1) := by decide +kernel
theorem dX3_load_35 : decode cX3_load 35 = .ok (.aload_n 0, 1) := by decide +kernel
theorem dX3_load_36 : decode cX3_load 36 = .ok (.aconst_null, 1) := by decide +kernel
theorem dX3_load_37 : decode cX3_load 37 = .ok (.putfield 42, 3) := by decide +kernel
theorem dX3_load_40 : decode cX3_load 40 = .ok (.aload_n 0, 1) := by decide +kernel
theorem dX3_load_41 : decode cX3_load 41 = .ok (.aload_n 2, 1) := by decide +kernel
theorem dX3_load_42 : decode cX3_load 42 = .ok (.aload_n 1, 1) := by decide +kernel
theorem dX3_load_43 : decode cX3_load 43 = .ok (.aload_n 0, 1) := by decide +kernel
theorem dX3_load_44 : decode cX3_load 44 = .ok (.getfield 39, 3) := by decide +kernel
theorem dX3_load_47 : decode cX3_load 47 = .ok (.invokevirtual 119, 3) := by decide +kernel
theorem dX3_load_50 : decode cX3_load 50 = .ok (.invokevirtual 123, 3) := by decide +kernel
theorem dX3_load_53 : decode cX3_load 53 = .ok (.ifCond .ne 13, 3) := by decide +kernel
theorem dX3_load_56 : decode cX3_load 56 = .ok (.new 127, 3) := by decide +kernel
theorem dX3_load_59 : decode cX3_load 59 = .ok (.dup, 1) := by decide +kernel
theorem dX3_load_60 : decode cX3_load 60 = .ok (.ldc 129, 2) := by decide +kernel
theorem dX3_load_62 : decode cX3_load 62 = .ok (.invokespecial 131, 3) := by decide +kernel
theorem dX3_load_65 : decode cX3_load 65 = .ok (.athrow, 1) := by decide +kernel
theorem dX3_load_66 : decode cX3_load 66 = .ok (.aload_n 1, 1) := by decide +kernel
theorem dX3_load_67 : decode cX3_load 67 = .ok (.aload_n 0, 1) := by decide +kernel
theorem dX3_load_68 : decode cX3_load 68 = .ok (.getfield 39, 3) := by decide +kernel
theorem dX3_load_71 : decode cX3_load 71 = .ok (.invokevirtual 132, 3) := by decide +kernel
theorem dX3_load_74 : decode cX3_load 74 = .ok (.pop, 1) := by decide +kernel
theorem dX3_load_75 : decode cX3_load 75 = .ok (.aload_n 1, 1) := by decide +kernel
theorem dX3_load_76 : decode cX3_load 76 = .ok (.aload_n 0, 1) := by decide +kernel
theorem dX3_load_77 : decode cX3_load 77 = .ok (.getfield 39, 3) := by decide +kernel
theorem dX3_load_80 : decode cX3_load 80 = .ok (.aload_n 2, 1) := by decide +kernel
theorem dX3_load_81 : decode cX3_load 81 = .ok (.invokevirtual 135, 3) := by decide +kernel
theorem dX3_load_84 : decode cX3_load 84 = .ok (.aload_n 1, 1) := by decide +kernel
theorem dX3_load_85 : decode cX3_load 85 = .ok (.getfield 139, 3) := by decide +kernel
theorem dX3_load_88 : decode cX3_load 88 = .ok (.ireturn, 1) := by decide +kernel
theorem dX3_permanent_0 : decode cX3_permanent 0 = .ok (.aload_n 0, 1) := by decide +kernel
theorem dX3_permanent_1 : decode cX3_permanent 1 = .ok (.aload_n 0, 1) := by decide +kernel
theorem dX3_permanent_2 : decode cX3_permanent 2 = .ok (.getfield 35, 3) := by decide +kernel
theorem dX3_permanent_5 : decode cX3_permanent 5 = .ok (.invokevirtual 113, 3) := by decide +kernel
theorem dX3_permanent_8 : decode cX3_permanent 8 = .ok (.astore_n 2, 1) := by decide +kernel
theorem dX3_permanent_9 : decode cX3_permanent 9 = .ok (.aload_n 2, 1) := by decide +kernel
theorem dX3_permanent_10 : decode cX3_permanent 10 = .ok (.ifnull 11, 3) := by decide +kernel
theorem dX3_permanent_13 : decode cX3_permanent 13 = .ok (.aload_n 2, 1) := by decide +kernel
theorem dX3_permanent_14 : decode cX3_permanent 14 = .ok (.getfield 142, 3) := by decide +kernel
theorem dX3_permanent_17 : decode cX3_permanent 17 = .ok (.iload_n 1, 1) := by decide +kernel
theorem dX3_permanent_18 : decode cX3_permanent 18 = .ok (.if_icmp .ne 5, 3) := by decide +kernel
theorem dX3_permanent_21 : decode cX3_permanent 21 = .ok (.iconst 0, 1) := by decide +kernel
theorem dX3_permanent_22 : decode cX3_permanent 22 = .ok (.ireturn, 1) := by decide +kernel
theorem dX3_permanent_23 : decode cX3_permanent 23 = .ok (.aload_n 2, 1) := by decide +kernel
theorem dX3_permanent_24 : decode cX3_permanent 24 = .ok (.iload_n 1, 1) := by decide +kernel
theorem dX3_permanent_25 : decode cX3_permanent 25 = .ok (.putfield 142, 3) := by decide +kernel
theorem dX3_permanent_28 : decode cX3_permanent 28 = .ok (.iconst 1, 1) := by decide +kernel
theorem dX3_permanent_29 : decode cX3_permanent 29 = .ok (.ireturn, 1) := by decide +kernel
theorem dX3_drop_0 : decode cX3_drop 0 = .ok (.iload_n 1, 1) := by decide +kernel
theorem dX3_drop_1 : decode cX3_drop 1 = .ok (.iconst 0, 1) := by decide +kernel
theorem dX3_drop_2 : decode cX3_drop 2 = .ok (.iconst 3, 1) := by decide +kernel
theorem dX3_drop_3 : decode cX3_drop 3 = .ok (.invokestatic 46, 3) := by decide +kernel
theorem dX3_drop_6 : decode cX3_drop 6 = .ok (.ifCond .ne 13, 3) := by decide +kernel
theorem dX3_drop_9 : decode cX3_drop 9 = .ok (.new 98, 3) := by decide +kernel
theorem dX3_drop_12 : decode cX3_drop 12 = .ok (.dup, 1) := by decide +kernel
theorem dX3_drop_13 : decode cX3_drop 13 = .ok (.ldc 146, 2) := by decide +kernel
theorem dX3_drop_15 : decode cX3_drop 15 = .ok (.invokespecial 102, 3) := by decide +kernel
theorem dX3_drop_18 : decode cX3_drop 18 = .ok (.athrow, 1) := by decide +kernel
theorem dX3_drop_19 : decode cX3_drop 19 = .ok (.aload_n 0, 1) := by decide +kernel
theorem dX3_drop_20 : decode cX3_drop 20 = .ok (.aconst_null, 1) := by decide +kernel
theorem dX3_drop_21 : decode cX3_drop 21 = .ok (.putfield 42, 3) := by decide +kernel
theorem dX3_drop_24 : decode cX3_drop 24 = .ok (.iload_n 1, 1) := by decide +kernel
theorem dX3_drop_25 : decode cX3_drop 25 = .ok (.tableswitch 50 0 2 #[27, 32, 37], 27) := by decide +kernel
theorem dX3_drop_52 : decode cX3_drop 52 = .ok (.aload_n 0, 1) := by decide +kernel
theorem dX3_drop_53 : decode cX3_drop 53 = .ok (.invokevirtual 148, 3) := by decide +kernel
theorem dX3_drop_56 : decode cX3_drop 56 = .ok (.ireturn, 1) := by decide +kernel
theorem dX3_drop_57 : decode cX3_drop 57 = .ok (.aload_n 0, 1) := by decide +kernel
theorem dX3_drop_58 : decode cX3_drop 58 = .ok (.invokevirtual 151, 3) := by decide +kernel
theorem dX3_drop_61 : decode cX3_drop 61 = .ok (.ireturn, 1) := by decide +kernel
theorem dX3_drop_62 : decode cX3_drop 62 = .ok (.aload_n 0, 1) := by decide +kernel
theorem dX3_drop_63 : decode cX3_drop 63 = .ok (.aload_n 0, 1) := by decide +kernel
theorem dX3_drop_64 : decode cX3_drop 64 = .ok (.aload_n 0, 1) := by decide +kernel
theorem dX3_drop_65 : decode cX3_drop 65 = .ok (.getfield 35, 3) := by decide +kernel
theorem dX3_drop_68 : decode cX3_drop 68 = .ok (.invokevirtual 69, 3) := by decide +kernel
theorem dX3_drop_71 : decode cX3_drop 71 = .ok (.invokevirtual 84, 3) := by decide +kernel
theorem dX3_drop_74 : decode cX3_drop 74 = .ok (.ireturn, 1) := by decide +kernel
theorem dX3_drop_75 : decode cX3_drop 75 = .ok (.aload_n 0, 1) := by decide +kernel
theorem dX3_drop_76 : decode cX3_drop 76 = .ok (.invokevirtual 154, 3) := by decide +kernel
theorem dX3_drop_79 : decode cX3_drop 79 = .ok (.ireturn, 1) := by decide +kernel
theorem dX3_pin_0 : decode cX3_pin 0 = .ok (.aload_n 0, 1) := by decide +kernel
theorem dX3_pin_1 : decode cX3_pin 1 = .ok (.iload_n 2, 1) := by decide +kernel
theorem dX3_pin_2 : decode cX3_pin 2 = .ok (.invokevirtual 113, 3) := by decide +kernel
theorem dX3_pin_5 : decode cX3_pin 5 = .ok (.astore_n 3, 1) := by decide +kernel
theorem dX3_pin_6 : decode cX3_pin 6 = .ok (.iload_n 1, 1) := by decide +kernel
theorem dX3_pin_7 : decode cX3_pin 7 = .ok (.invokestatic 60, 3) := by decide +kernel
theorem dX3_pin_10 : decode cX3_pin 10 = .ok (.ifCond .eq 7, 3) := by decide +kernel
theorem dX3_pin_13 : decode cX3_pin 13 = .ok (.aload_n 3, 1) := by decide +kernel
theorem dX3_pin_14 : decode cX3_pin 14 = .ok (.ifnonnull 5, 3) := by decide +kernel
theorem dX3_pin_17 : decode cX3_pin 17 = .ok (.iconst 0, 1) := by decide +kernel
theorem dX3_pin_18 : decode cX3_pin 18 = .ok (.ireturn, 1) := by decide +kernel
theorem dX3_pin_19 : decode cX3_pin 19 = .ok (.aload_n 0, 1) := by decide +kernel
theorem dX3_pin_20 : decode cX3_pin 20 = .ok (.getfield 31, 3) := by decide +kernel
theorem dX3_pin_23 : decode cX3_pin 23 = .ok (.iload_n 1, 1) := by decide +kernel
theorem dX3_pin_24 : decode cX3_pin 24 = .ok (.aaload, 1) := by decide +kernel
theorem dX3_pin_25 : decode cX3_pin 25 = .ok (.iload_n 2, 1) := by decide +kernel
theorem dX3_pin_26 : decode cX3_pin 26 = .ok (.putfield 66, 3) := by decide +kernel
theorem dX3_pin_29 : decode cX3_pin 29 = .ok (.aload_n 3, 1) := by decide +kernel
theorem dX3_pin_30 : decode cX3_pin 30 = .ok (.getfield 157, 3) := by decide +kernel
theorem dX3_pin_33 : decode cX3_pin 33 = .ok (.iconst 0, 1) := by decide +kernel
theorem dX3_pin_34 : decode cX3_pin 34 = .ok (.aload_n 0, 1) := by decide +kernel
theorem dX3_pin_35 : decode cX3_pin 35 = .ok (.getfield 31, 3) := by decide +kernel
theorem dX3_pin_38 : decode cX3_pin 38 = .ok (.iload_n 1, 1) := by decide +kernel
theorem dX3_pin_39 : decode cX3_pin 39 = .ok (.aaload, 1) := by decide +kernel
theorem dX3_pin_40 : decode cX3_pin 40 = .ok (.getfield 63, 3) := by decide +kernel
theorem dX3_pin_43 : decode cX3_pin 43 = .ok (.iconst 0, 1) := by decide +kernel
theorem dX3_pin_44 : decode cX3_pin 44 = .ok (.bipush 7, 2) := by decide +kernel
theorem dX3_pin_46 : decode cX3_pin 46 = .ok (.invokestatic 160, 3) := by decide +kernel
theorem dX3_pin_49 : decode cX3_pin 49 = .ok (.iconst 1, 1) := by decide +kernel
theorem dX3_pin_50 : decode cX3_pin 50 = .ok (.ireturn, 1) := by decide +kernel
theorem dX3_chosen_0 : decode cX3_chosen 0 = .ok (.aload_n 0, 1) := by decide +kernel
theorem dX3_chosen_1 : decode cX3_chosen 1 = .ok (.iload_n 1, 1) := by decide +kernel
theorem dX3_chosen_2 : decode cX3_chosen 2 = .ok (.invokevirtual 166, 3) := by decide +kernel
theorem dX3_chosen_5 : decode cX3_chosen 5 = .ok (.astore_n 2, 1) := by decide +kernel
theorem dX3_chosen_6 : decode cX3_chosen 6 = .ok (.aload_n 2, 1) := by decide +kernel
theorem dX3_chosen_7 : decode cX3_chosen 7 = .ok (.ifnonnull 7, 3) := by decide +kernel
theorem dX3_chosen_10 : decode cX3_chosen 10 = .ok (.iconst (-1), 1) := by decide +kernel
theorem dX3_chosen_11 : decode cX3_chosen 11 = .ok (.goto 7, 3) := by decide +kernel
theorem dX3_chosen_14 : decode cX3_chosen 14 = .ok (.aload_n 2, 1) := by decide +kernel
theorem dX3_chosen_15 : decode cX3_chosen 15 = .ok (.getfield 169, 3) := by decide +kernel
theorem dX3_chosen_18 : decode cX3_chosen 18 = .ok (.ireturn, 1) := by decide +kernel
theorem dX3_font_0 : decode cX3_font 0 = .ok (.iload_n 1, 1) := by decide +kernel
theorem dX3_font_1 : decode cX3_font 1 = .ok (.iconst 0, 1) := by decide +kernel
theorem dX3_font_2 : decode cX3_font 2 = .ok (.aload_n 0, 1) := by decide +kernel
theorem dX3_font_3 : decode cX3_font 3 = .ok (.getfield 10, 3) := by decide +kernel
theorem dX3_font_6 : decode cX3_font 6 = .ok (.invokevirtual 73, 3) := by decide +kernel
theorem dX3_font_9 : decode cX3_font 9 = .ok (.iconst 1, 1) := by decide +kernel
theorem dX3_font_10 : decode cX3_font 10 = .ok (.isub, 1) := by decide +kernel
theorem dX3_font_11 : decode cX3_font 11 = .ok (.invokestatic 46, 3) := by decide +kernel
theorem dX3_font_14 : decode cX3_font 14 = .ok (.ifCond .eq 13, 3) := by decide +kernel
theorem dX3_font_17 : decode cX3_font 17 = .ok (.iload_n 2, 1) := by decide +kernel
theorem dX3_font_18 : decode cX3_font 18 = .ok (.iconst 0, 1) := by decide +kernel
theorem dX3_font_19 : decode cX3_font 19 = .ok (.bipush 9, 2) := by decide +kernel
theorem dX3_font_21 : decode cX3_font 21 = .ok (.invokestatic 46, 3) := by decide +kernel
theorem dX3_font_24 : decode cX3_font 24 = .ok (.ifCond .ne 13, 3) := by decide +kernel
theorem dX3_font_27 : decode cX3_font 27 = .ok (.new 172, 3) := by decide +kernel
theorem dX3_font_30 : decode cX3_font 30 = .ok (.dup, 1) := by decide +kernel
theorem dX3_font_31 : decode cX3_font 31 = .ok (.ldc 174, 2) := by decide +kernel
theorem dX3_font_33 : decode cX3_font 33 = .ok (.invokespecial 176, 3) := by decide +kernel
theorem dX3_font_36 : decode cX3_font 36 = .ok (.athrow, 1) := by decide +kernel
theorem dX3_font_37 : decode cX3_font 37 = .ok (.aload_n 0, 1) := by decide +kernel
theorem dX3_font_38 : decode cX3_font 38 = .ok (.getfield 10, 3) := by decide +kernel
theorem dX3_font_41 : decode cX3_font 41 = .ok (.iload_n 1, 1) := by decide +kernel
theorem dX3_font_42 : decode cX3_font 42 = .ok (.invokevirtual 177, 3) := by decide +kernel
theorem dX3_font_45 : decode cX3_font 45 = .ok (.checkcast 87, 3) := by decide +kernel
theorem dX3_font_48 : decode cX3_font 48 = .ok (.astore_n 3, 1) := by decide +kernel
theorem dX3_font_49 : decode cX3_font 49 = .ok (.iload_n 2, 1) := by decide +kernel
theorem dX3_font_50 : decode cX3_font 50 = .ok (.tableswitch 49 7 9 #[26, 31, 44], 26) := by decide +kernel
theorem dX3_font_76 : decode cX3_font 76 = .ok (.aload_n 3, 1) := by decide +kernel
theorem dX3_font_77 : decode cX3_font 77 = .ok (.getfield 169, 3) := by decide +kernel
theorem dX3_font_80 : decode cX3_font 80 = .ok (.ireturn, 1) := by decide +kernel
theorem dX3_font_81 : decode cX3_font 81 = .ok (.aload_n 3, 1) := by decide +kernel
theorem dX3_font_82 : decode cX3_font 82 = .ok (.getfield 142, 3) := by decide +kernel
theorem dX3_font_85 : decode cX3_font 85 = .ok (.ifCond .eq 7, 3) := by decide +kernel
theorem dX3_font_88 : decode cX3_font 88 = .ok (.iconst 1, 1) := by decide +kernel
theorem dX3_font_89 : decode cX3_font 89 = .ok (.goto 4, 3) := by decide +kernel
theorem dX3_font_92 : decode cX3_font 92 = .ok (.iconst 0, 1) := by decide +kernel
theorem dX3_font_93 : decode cX3_font 93 = .ok (.ireturn, 1) := by decide +kernel
theorem dX3_font_94 : decode cX3_font 94 = .ok (.aload_n 3, 1) := by decide +kernel
theorem dX3_font_95 : decode cX3_font 95 = .ok (.getfield 139, 3) := by decide +kernel
theorem dX3_font_98 : decode cX3_font 98 = .ok (.ireturn, 1) := by decide +kernel
theorem dX3_font_99 : decode cX3_font 99 = .ok (.aload_n 3, 1) := by decide +kernel
theorem dX3_font_100 : decode cX3_font 100 = .ok (.getfield 157, 3) := by decide +kernel
theorem dX3_font_103 : decode cX3_font 103 = .ok (.iload_n 2, 1) := by decide +kernel
theorem dX3_font_104 : decode cX3_font 104 = .ok (.iaload, 1) := by decide +kernel
theorem dX3_font_105 : decode cX3_font 105 = .ok (.ireturn, 1) := by decide +kernel
theorem dX3_of_0 : decode cX3_of 0 = .ok (.iload_n 1, 1) := by decide +kernel
theorem dX3_of_1 : decode cX3_of 1 = .ok (.invokestatic 60, 3) := by decide +kernel
theorem dX3_of_4 : decode cX3_of 4 = .ok (.ifCond .eq 12, 3) := by decide +kernel
theorem dX3_of_7 : decode cX3_of 7 = .ok (.iload_n 3, 1) := by decide +kernel
theorem dX3_of_8 : decode cX3_of 8 = .ok (.iconst 0, 1) := by decide +kernel
theorem dX3_of_9 : decode cX3_of 9 = .ok (.iconst 5, 1) := by decide +kernel
theorem dX3_of_10 : decode cX3_of 10 = .ok (.invokestatic 46, 3) := by decide +kernel
theorem dX3_of_13 : decode cX3_of 13 = .ok (.ifCond .ne 13, 3) := by decide +kernel
theorem dX3_of_16 : decode cX3_of 16 = .ok (.new 98, 3) := by decide +kernel
theorem dX3_of_19 : decode cX3_of 19 = .ok (.dup, 1) := by decide +kernel
theorem dX3_of_20 : decode cX3_of 20 = .ok (.ldc 181, 2) := by decide +kernel
theorem dX3_of_22 : decode cX3_of 22 = .ok (.invokespecial 102, 3) := by decide +kernel
theorem dX3_of_25 : decode cX3_of 25 = .ok (.athrow, 1) := by decide +kernel
theorem dX3_of_26 : decode cX3_of 26 = .ok (.aload_n 0, 1) := by decide +kernel
theorem dX3_of_27 : decode cX3_of 27 = .ok (.iload_n 1, 1) := by decide +kernel
theorem dX3_of_28 : decode cX3_of 28 = .ok (.iload_n 2, 1) := by decide +kernel
theorem dX3_of_29 : decode cX3_of 29 = .ok (.invokevirtual 183, 3) := by decide +kernel
theorem dX3_of_32 : decode cX3_of 32 = .ok (.astore 4, 2) := by decide +kernel
theorem dX3_of_34 : decode cX3_of 34 = .ok (.aload 4, 2) := by decide +kernel
theorem dX3_of_36 : decode cX3_of 36 = .ok (.ifnonnull 13, 3) := by decide +kernel
theorem dX3_of_39 : decode cX3_of 39 = .ok (.new 77, 3) := by decide +kernel
theorem dX3_of_42 : decode cX3_of 42 = .ok (.dup, 1) := by decide +kernel
theorem dX3_of_43 : decode cX3_of 43 = .ok (.ldc 187, 2) := by decide +kernel
theorem dX3_of_45 : decode cX3_of 45 = .ok (.invokespecial 81, 3) := by decide +kernel
theorem dX3_of_48 : decode cX3_of 48 = .ok (.athrow, 1) := by decide +kernel
theorem dX3_of_49 : decode cX3_of 49 = .ok (.iload_n 3, 1) := by decide +kernel
theorem dX3_of_50 : decode cX3_of 50 = .ok (.tableswitch 64 0 4 #[34, 40, 46, 52, 58], 34) := by decide +kernel
theorem dX3_of_84 : decode cX3_of 84 = .ok (.aload 4, 2) := by decide +kernel
theorem dX3_of_86 : decode cX3_of 86 = .ok (.getfield 189, 3) := by decide +kernel
theorem dX3_of_89 : decode cX3_of 89 = .ok (.ireturn, 1) := by decide +kernel
theorem dX3_of_90 : decode cX3_of 90 = .ok (.aload 4, 2) := by decide +kernel
theorem dX3_of_92 : decode cX3_of 92 = .ok (.getfield 192, 3) := by decide +kernel
theorem dX3_of_95 : decode cX3_of 95 = .ok (.ireturn, 1) := by decide +kernel
theorem dX3_of_96 : decode cX3_of 96 = .ok (.aload 4, 2) := by decide +kernel
theorem dX3_of_98 : decode cX3_of 98 = .ok (.getfield 195, 3) := by decide +kernel
theorem dX3_of_101 : decode cX3_of 101 = .ok (.ireturn, 1) := by decide +kernel
theorem dX3_of_102 : decode cX3_of 102 = .ok (.aload 4, 2) := by decide +kernel
theorem dX3_of_104 : decode cX3_of 104 = .ok (.getfield 198, 3) := by decide +kernel
theorem dX3_of_107 : decode cX3_of 107 = .ok (.ireturn, 1) := by decide +kernel
theorem dX3_of_108 : decode cX3_of 108 = .ok (.aload 4, 2) := by decide +kernel
theorem dX3_of_110 : decode cX3_of 110 = .ok (.getfield 201, 3) := by decide +kernel
theorem dX3_of_113 : decode cX3_of 113 = .ok (.ireturn, 1) := by decide +kernel
theorem dX3_of_114 : decode cX3_of 114 = .ok (.aload 4, 2) := by decide +kernel
theorem dX3_of_116 : decode cX3_of 116 = .ok (.invokevirtual 204, 3) := by decide +kernel
theorem dX3_of_119 : decode cX3_of 119 = .ok (.ireturn, 1) := by decide +kernel
theorem dX3_row_0 : decode cX3_row 0 = .ok (.aload_n 0, 1) := by decide +kernel
theorem dX3_row_1 : decode cX3_row 1 = .ok (.iload_n 1, 1) := by decide +kernel
theorem dX3_row_2 : decode cX3_row 2 = .ok (.iload_n 2, 1) := by decide +kernel
theorem dX3_row_3 : decode cX3_row 3 = .ok (.invokevirtual 183, 3) := by decide +kernel
theorem dX3_row_6 : decode cX3_row 6 = .ok (.astore 5, 2) := by decide +kernel
theorem dX3_row_8 : decode cX3_row 8 = .ok (.aload 5, 2) := by decide +kernel
theorem dX3_row_10 : decode cX3_row 10 = .ok (.ifnonnull 7, 3) := by decide +kernel
theorem dX3_row_13 : decode cX3_row 13 = .ok (.lconst 0, 1) := by decide +kernel
theorem dX3_row_14 : decode cX3_row 14 = .ok (.goto 11, 3) := by decide +kernel
theorem dX3_row_17 : decode cX3_row 17 = .ok (.aload 5, 2) := by decide +kernel
theorem dX3_row_19 : decode cX3_row 19 = .ok (.iload_n 3, 1) := by decide +kernel
theorem dX3_row_20 : decode cX3_row 20 = .ok (.iload 4, 2) := by decide +kernel
theorem dX3_row_22 : decode cX3_row 22 = .ok (.invokevirtual 207, 3) := by decide +kernel
theorem dX3_row_25 : decode cX3_row 25 = .ok (.lreturn, 1) := by decide +kernel
theorem dX3_wish_0 : decode cX3_wish 0 = .ok (.iload_n 1, 1) := by decide +kernel
theorem dX3_wish_1 : decode cX3_wish 1 = .ok (.iconst 2, 1) := by decide +kernel
theorem dX3_wish_2 : decode cX3_wish 2 = .ok (.if_icmp .ne 7, 3) := by decide +kernel
theorem dX3_wish_5 : decode cX3_wish 5 = .ok (.iconst 1, 1) := by decide +kernel
theorem dX3_wish_6 : decode cX3_wish 6 = .ok (.goto 4, 3) := by decide +kernel
theorem dX3_wish_9 : decode cX3_wish 9 = .ok (.iconst 0, 1) := by decide +kernel
theorem dX3_wish_10 : decode cX3_wish 10 = .ok (.istore_n 3, 1) := by decide +kernel
theorem dX3_wish_11 : decode cX3_wish 11 = .ok (.iload_n 3, 1) := by decide +kernel
theorem dX3_wish_12 : decode cX3_wish 12 = .ok (.ifCond .ne 10, 3) := by decide +kernel
theorem dX3_wish_15 : decode cX3_wish 15 = .ok (.iload_n 1, 1) := by decide +kernel
theorem dX3_wish_16 : decode cX3_wish 16 = .ok (.invokestatic 60, 3) := by decide +kernel
theorem dX3_wish_19 : decode cX3_wish 19 = .ok (.ifCond .eq 13, 3) := by decide +kernel
theorem dX3_wish_22 : decode cX3_wish 22 = .ok (.iload_n 2, 1) := by decide +kernel
theorem dX3_wish_23 : decode cX3_wish 23 = .ok (.iconst 0, 1) := by decide +kernel
theorem dX3_wish_24 : decode cX3_wish 24 = .ok (.bipush 7, 2) := by decide +kernel
theorem dX3_wish_26 : decode cX3_wish 26 = .ok (.invokestatic 46, 3) := by decide +kernel
theorem dX3_wish_29 : decode cX3_wish 29 = .ok (.ifCond .ne 13, 3) := by decide +kernel
theorem dX3_wish_32 : decode cX3_wish 32 = .ok (.new 172, 3) := by decide +kernel
theorem dX3_wish_35 : decode cX3_wish 35 = .ok (.dup, 1) := by decide +kernel
theorem dX3_wish_36 : decode cX3_wish 36 = .ok (.ldc 211, 2) := by decide +kernel
theorem dX3_wish_38 : decode cX3_wish 38 = .ok (.invokespecial 176, 3) := by decide +kernel
theorem dX3_wish_41 : decode cX3_wish 41 = .ok (.athrow, 1) := by decide +kernel
theorem dX3_wish_42 : decode cX3_wish 42 = .ok (.iload_n 2, 1) := by decide +kernel
theorem dX3_wish_43 : decode cX3_wish 43 = .ok (.bipush 7, 2) := by decide +kernel
theorem dX3_wish_45 : decode cX3_wish 45 = .ok (.if_icmp .ne 24, 3) := by decide +kernel
theorem dX3_wish_48 : decode cX3_wish 48 = .ok (.iload_n 3, 1) := by decide +kernel
theorem dX3_wish_49 : decode cX3_wish 49 = .ok (.ifCond .eq 10, 3) := by decide +kernel
theorem dX3_wish_52 : decode cX3_wish 52 = .ok (.aload_n 0, 1) := by decide +kernel
theorem dX3_wish_53 : decode cX3_wish 53 = .ok (.getfield 35, 3) := by decide +kernel
theorem dX3_wish_56 : decode cX3_wish 56 = .ok (.goto 12, 3) := by decide +kernel
theorem dX3_wish_59 : decode cX3_wish 59 = .ok (.aload_n 0, 1) := by decide +kernel
theorem dX3_wish_60 : decode cX3_wish 60 = .ok (.getfield 31, 3) := by decide +kernel
theorem dX3_wish_63 : decode cX3_wish 63 = .ok (.iload_n 1, 1) := by decide +kernel
theorem dX3_wish_64 : decode cX3_wish 64 = .ok (.aaload, 1) := by decide +kernel
theorem dX3_wish_65 : decode cX3_wish 65 = .ok (.getfield 66, 3) := by decide +kernel
theorem dX3_wish_68 : decode cX3_wish 68 = .ok (.ireturn, 1) := by decide +kernel
theorem dX3_wish_69 : decode cX3_wish 69 = .ok (.iload_n 3, 1) := by decide +kernel
theorem dX3_wish_70 : decode cX3_wish 70 = .ok (.ifCond .eq 12, 3) := by decide +kernel
theorem dX3_wish_73 : decode cX3_wish 73 = .ok (.aload_n 0, 1) := by decide +kernel
theorem dX3_wish_74 : decode cX3_wish 74 = .ok (.getfield 25, 3) := by decide +kernel
theorem dX3_wish_77 : decode cX3_wish 77 = .ok (.iload_n 2, 1) := by decide +kernel
theorem dX3_wish_78 : decode cX3_wish 78 = .ok (.iaload, 1) := by decide +kernel
theorem dX3_wish_79 : decode cX3_wish 79 = .ok (.goto 14, 3) := by decide +kernel
theorem dX3_wish_82 : decode cX3_wish 82 = .ok (.aload_n 0, 1) := by decide +kernel
theorem dX3_wish_83 : decode cX3_wish 83 = .ok (.getfield 31, 3) := by decide +kernel
theorem dX3_wish_86 : decode cX3_wish 86 = .ok (.iload_n 1, 1) := by decide +kernel
theorem dX3_wish_87 : decode cX3_wish 87 = .ok (.aaload, 1) := by decide +kernel
theorem dX3_wish_88 : decode cX3_wish 88 = .ok (.getfield 63, 3) := by decide +kernel
theorem dX3_wish_91 : decode cX3_wish 91 = .ok (.iload_n 2, 1) := by decide +kernel
theorem dX3_wish_92 : decode cX3_wish 92 = .ok (.iaload, 1) := by decide +kernel
theorem dX3_wish_93 : decode cX3_wish 93 = .ok (.ireturn, 1) := by decide +kernel
theorem dX3_look_0 : decode cX3_look 0 = .ok (.iload_n 1, 1) := by decide +kernel
theorem dX3_look_1 : decode cX3_look 1 = .ok (.tableswitch 86 0 5 #[39, 47, 52, 57, 62, 67], 39) := by decide +kernel
theorem dX3_look_40 : decode cX3_look 40 = .ok (.aload_n 0, 1) := by decide +kernel
theorem dX3_look_41 : decode cX3_look 41 = .ok (.getfield 10, 3) := by decide +kernel
theorem dX3_look_44 : decode cX3_look 44 = .ok (.invokevirtual 73, 3) := by decide +kernel
theorem dX3_look_47 : decode cX3_look 47 = .ok (.ireturn, 1) := by decide +kernel
theorem dX3_look_48 : decode cX3_look 48 = .ok (.aload_n 0, 1) := by decide +kernel
theorem dX3_look_49 : decode cX3_look 49 = .ok (.invokevirtual 213, 3) := by decide +kernel
theorem dX3_look_52 : decode cX3_look 52 = .ok (.ireturn, 1) := by decide +kernel
theorem dX3_look_53 : decode cX3_look 53 = .ok (.aload_n 0, 1) := by decide +kernel
theorem dX3_look_54 : decode cX3_look 54 = .ok (.invokevirtual 216, 3) := by decide +kernel
theorem dX3_look_57 : decode cX3_look 57 = .ok (.ireturn, 1) := by decide +kernel
theorem dX3_look_58 : decode cX3_look 58 = .ok (.aload_n 0, 1) := by decide +kernel
theorem dX3_look_59 : decode cX3_look 59 = .ok (.getfield 35, 3) := by decide +kernel
theorem dX3_look_62 : decode cX3_look 62 = .ok (.ireturn, 1) := by decide +kernel
theorem dX3_look_63 : decode cX3_look 63 = .ok (.aload_n 0, 1) := by decide +kernel
theorem dX3_look_64 : decode cX3_look 64 = .ok (.getfield 39, 3) := by decide +kernel
theorem dX3_look_67 : decode cX3_look 67 = .ok (.ireturn, 1) := by decide +kernel
theorem dX3_look_68 : decode cX3_look 68 = .ok (.aload_n 0, 1) := by decide +kernel
theorem dX3_look_69 : decode cX3_look 69 = .ok (.getfield 42, 3) := by decide +kernel
theorem dX3_look_72 : decode cX3_look 72 = .ok (.ifnonnull 7, 3) := by decide +kernel
theorem dX3_look_75 : decode cX3_look 75 = .ok (.iconst (-1), 1) := by decide +kernel
theorem dX3_look_76 : decode cX3_look 76 = .ok (.goto 10, 3) := by decide +kernel
theorem dX3_look_79 : decode cX3_look 79 = .ok (.aload_n 0, 1) := by decide +kernel
theorem dX3_look_80 : decode cX3_look 80 = .ok (.getfield 42, 3) := by decide +kernel
theorem dX3_look_83 : decode cX3_look 83 = .ok (.invokevirtual 219, 3) := by decide +kernel
theorem dX3_look_86 : decode cX3_look 86 = .ok (.ireturn, 1) := by decide +kernel
theorem dX3_look_87 : decode cX3_look 87 = .ok (.iconst (-1), 1) := by decide +kernel
theorem dX3_look_88 : decode cX3_look 88 = .ok (.ireturn, 1) := by decide +kernel
theorem dX3_within_0 : decode cX3_within 0 = .ok (.iload_n 0, 1) := by decide +kernel
theorem dX3_within_1 : decode cX3_within 1 = .ok (.iload_n 1, 1) := by decide +kernel
theorem dX3_within_2 : decode cX3_within 2 = .ok (.if_icmp .lt 12, 3) := by decide +kernel
theorem dX3_within_5 : decode cX3_within 5 = .ok (.iload_n 0, 1) := by decide +kernel
theorem dX3_within_6 : decode cX3_within 6 = .ok (.iload_n 2, 1) := by decide +kernel
theorem dX3_within_7 : decode cX3_within 7 = .ok (.if_icmp .gt 7, 3) := by decide +kernel
theorem dX3_within_10 : decode cX3_within 10 = .ok (.iconst 1, 1) := by decide +kernel
theorem dX3_within_11 : decode cX3_within 11 = .ok (.goto 4, 3) := by decide +kernel
theorem dX3_within_14 : decode cX3_within 14 = .ok (.iconst 0, 1) := by decide +kernel
theorem dX3_within_15 : decode cX3_within 15 = .ok (.ireturn, 1) := by decide +kernel
theorem dX3_isAttribute_0 : decode cX3_isAttribute 0 = .ok (.iload_n 0, 1) := by decide +kernel
theorem dX3_isAttribute_1 : decode cX3_isAttribute 1 = .ok (.iconst 0, 1) := by decide +kernel
theorem dX3_isAttribute_2 : decode cX3_isAttribute 2 = .ok (.bipush 6, 2) := by decide +kernel
theorem dX3_isAttribute_4 : decode cX3_isAttribute 4 = .ok (.invokestatic 46, 3) := by decide +kernel
theorem dX3_isAttribute_7 : decode cX3_isAttribute 7 = .ok (.ireturn, 1) := by decide +kernel
theorem dX3_isAtHand_0 : decode cX3_isAtHand 0 = .ok (.iload_n 0, 1) := by decide +kernel
theorem dX3_isAtHand_1 : decode cX3_isAtHand 1 = .ok (.iconst 0, 1) := by decide +kernel
theorem dX3_isAtHand_2 : decode cX3_isAtHand 2 = .ok (.iconst 1, 1) := by decide +kernel
theorem dX3_isAtHand_3 : decode cX3_isAtHand 3 = .ok (.invokestatic 46, 3) := by decide +kernel
theorem dX3_isAtHand_6 : decode cX3_isAtHand 6 = .ok (.ireturn, 1) := by decide +kernel
theorem dX3_placeOf_0 : decode cX3_placeOf 0 = .ok (.iconst 0, 1) := by decide +kernel
theorem dX3_placeOf_1 : decode cX3_placeOf 1 = .ok (.istore_n 2, 1) := by decide +kernel
theorem dX3_placeOf_2 : decode cX3_placeOf 2 = .ok (.iload_n 2, 1) := by decide +kernel
theorem dX3_placeOf_3 : decode cX3_placeOf 3 = .ok (.aload_n 0, 1) := by decide +kernel
theorem dX3_placeOf_4 : decode cX3_placeOf 4 = .ok (.getfield 10, 3) := by decide +kernel
theorem dX3_placeOf_7 : decode cX3_placeOf 7 = .ok (.invokevirtual 73, 3) := by decide +kernel
theorem dX3_placeOf_10 : decode cX3_placeOf 10 = .ok (.if_icmp .ge 29, 3) := by decide +kernel
theorem dX3_placeOf_13 : decode cX3_placeOf 13 = .ok (.aload_n 0, 1) := by decide +kernel
theorem dX3_placeOf_14 : decode cX3_placeOf 14 = .ok (.getfield 10, 3) := by decide +kernel
theorem dX3_placeOf_17 : decode cX3_placeOf 17 = .ok (.iload_n 2, 1) := by decide +kernel
theorem dX3_placeOf_18 : decode cX3_placeOf 18 = .ok (.invokevirtual 177, 3) := by decide +kernel
theorem dX3_placeOf_21 : decode cX3_placeOf 21 = .ok (.checkcast 87, 3) := by decide +kernel
theorem dX3_placeOf_24 : decode cX3_placeOf 24 = .ok (.getfield 169, 3) := by decide +kernel
theorem dX3_placeOf_27 : decode cX3_placeOf 27 = .ok (.iload_n 1, 1) := by decide +kernel
theorem dX3_placeOf_28 : decode cX3_placeOf 28 = .ok (.if_icmp .ne 5, 3) := by decide +kernel
theorem dX3_placeOf_31 : decode cX3_placeOf 31 = .ok (.iload_n 2, 1) := by decide +kernel
theorem dX3_placeOf_32 : decode cX3_placeOf 32 = .ok (.ireturn, 1) := by decide +kernel
theorem dX3_placeOf_33 : decode cX3_placeOf 33 = .ok (.iinc 2 1, 3) := by decide +kernel
theorem dX3_placeOf_36 : decode cX3_placeOf 36 = .ok (.goto (-34), 3) := by decide +kernel
theorem dX3_placeOf_39 : decode cX3_placeOf 39 = .ok (.iconst (-1), 1) := by decide +kernel
theorem dX3_placeOf_40 : decode cX3_placeOf 40 = .ok (.ireturn, 1) := by decide +kernel
theorem dX3_fontWith_0 : decode cX3_fontWith 0 = .ok (.aload_n 0, 1) := by decide +kernel
theorem dX3_fontWith_1 : decode cX3_fontWith 1 = .ok (.iload_n 1, 1) := by decide +kernel
theorem dX3_fontWith_2 : decode cX3_fontWith 2 = .ok (.invokevirtual 69, 3) := by decide +kernel
theorem dX3_fontWith_5 : decode cX3_fontWith 5 = .ok (.istore_n 2, 1) := by decide +kernel
theorem dX3_fontWith_6 : decode cX3_fontWith 6 = .ok (.iload_n 2, 1) := by decide +kernel
theorem dX3_fontWith_7 : decode cX3_fontWith 7 = .ok (.iconst (-1), 1) := by decide +kernel
theorem dX3_fontWith_8 : decode cX3_fontWith 8 = .ok (.if_icmp .ne 7, 3) := by decide +kernel
theorem dX3_fontWith_11 : decode cX3_fontWith 11 = .ok (.aconst_null, 1) := by decide +kernel
theorem dX3_fontWith_12 : decode cX3_fontWith 12 = .ok (.goto 14, 3) := by decide +kernel
theorem dX3_fontWith_15 : decode cX3_fontWith 15 = .ok (.aload_n 0, 1) := by decide +kernel
theorem dX3_fontWith_16 : decode cX3_fontWith 16 = .ok (.getfield 10, 3) := by decide +kernel
theorem dX3_fontWith_19 : decode cX3_fontWith 19 = .ok (.iload_n 2, 1) := by decide +kernel
theorem dX3_fontWith_20 : decode cX3_fontWith 20 = .ok (.invokevirtual 177, 3) := by decide +kernel
theorem dX3_fontWith_23 : decode cX3_fontWith 23 = .ok (.checkcast 87, 3) := by decide +kernel
theorem dX3_fontWith_26 : decode cX3_fontWith 26 = .ok (.areturn, 1) := by decide +kernel
theorem dX3_takeOut_0 : decode cX3_takeOut 0 = .ok (.iload_n 1, 1) := by decide +kernel
theorem dX3_takeOut_1 : decode cX3_takeOut 1 = .ok (.iconst 0, 1) := by decide +kernel
theorem dX3_takeOut_2 : decode cX3_takeOut 2 = .ok (.aload_n 0, 1) := by decide +kernel
theorem dX3_takeOut_3 : decode cX3_takeOut 3 = .ok (.getfield 10, 3) := by decide +kernel
theorem dX3_takeOut_6 : decode cX3_takeOut 6 = .ok (.invokevirtual 73, 3) := by decide +kernel
theorem dX3_takeOut_9 : decode cX3_takeOut 9 = .ok (.iconst 1, 1) := by decide +kernel
theorem dX3_takeOut_10 : decode cX3_takeOut 10 = .ok (.isub, 1) := by decide +kernel
theorem dX3_takeOut_11 : decode cX3_takeOut 11 = .ok (.invokestatic 46, 3) := by decide +kernel
theorem dX3_takeOut_14 : decode cX3_takeOut 14 = .ok (.ifCond .ne 5, 3) := by decide +kernel
theorem dX3_takeOut_17 : decode cX3_takeOut 17 = .ok (.iconst 0, 1) := by decide +kernel
theorem dX3_takeOut_18 : decode cX3_takeOut 18 = .ok (.ireturn, 1) := by decide +kernel
theorem dX3_takeOut_19 : decode cX3_takeOut 19 = .ok (.aload_n 0, 1) := by decide +kernel
theorem dX3_takeOut_20 : decode cX3_takeOut 20 = .ok (.getfield 10, 3) := by decide +kernel
theorem dX3_takeOut_23 : decode cX3_takeOut 23 = .ok (.iload_n 1, 1) := by decide +kernel
theorem dX3_takeOut_24 : decode cX3_takeOut 24 = .ok (.invokevirtual 222, 3) := by decide +kernel
theorem dX3_takeOut_27 : decode cX3_takeOut 27 = .ok (.pop, 1) := by decide +kernel
theorem dX3_takeOut_28 : decode cX3_takeOut 28 = .ok (.iconst 1, 1) := by decide +kernel
theorem dX3_takeOut_29 : decode cX3_takeOut 29 = .ok (.ireturn, 1) := by decide +kernel
theorem dX3_dropAll_0 : decode cX3_dropAll 0 = .ok (.aload_n 0, 1) := by decide +kernel
theorem dX3_dropAll_1 : decode cX3_dropAll 1 = .ok (.getfield 10, 3) := by decide +kernel
theorem dX3_dropAll_4 : decode cX3_dropAll 4 = .ok (.invokevirtual 73, 3) := by decide +kernel
theorem dX3_dropAll_7 : decode cX3_dropAll 7 = .ok (.istore_n 1, 1) := by decide +kernel
theorem dX3_dropAll_8 : decode cX3_dropAll 8 = .ok (.aload_n 0, 1) := by decide +kernel
theorem dX3_dropAll_9 : decode cX3_dropAll 9 = .ok (.getfield 10, 3) := by decide +kernel
theorem dX3_dropAll_12 : decode cX3_dropAll 12 = .ok (.invokevirtual 224, 3) := by decide +kernel
theorem dX3_dropAll_15 : decode cX3_dropAll 15 = .ok (.iload_n 1, 1) := by decide +kernel
theorem dX3_dropAll_16 : decode cX3_dropAll 16 = .ok (.ireturn, 1) := by decide +kernel
theorem dX3_dropPassing_0 : decode cX3_dropPassing 0 = .ok (.iconst 0, 1) := by decide +kernel
theorem dX3_dropPassing_1 : decode cX3_dropPassing 1 = .ok (.istore_n 1, 1) := by decide +kernel
theorem dX3_dropPassing_2 : decode cX3_dropPassing 2 = .ok (.aload_n 0, 1) := by decide +kernel
theorem dX3_dropPassing_3 : decode cX3_dropPassing 3 = .ok (.getfield 10, 3) := by decide +kernel
theorem dX3_dropPassing_6 : decode cX3_dropPassing 6 = .ok (.invokevirtual 73, 3) := by decide +kernel
theorem dX3_dropPassing_9 : decode cX3_dropPassing 9 = .ok (.iconst 1, 1) := by decide +kernel
theorem dX3_dropPassing_10 : decode cX3_dropPassing 10 = .ok (.isub, 1) := by decide +kernel
theorem dX3_dropPassing_11 : decode cX3_dropPassing 11 = .ok (.istore_n 2, 1) := by decide +kernel
theorem dX3_dropPassing_12 : decode cX3_dropPassing 12 = .ok (.iload_n 2, 1) := by decide +kernel
theorem dX3_dropPassing_13 : decode cX3_dropPassing 13 = .ok (.ifCond .lt 34, 3) := by decide +kernel
theorem dX3_dropPassing_16 : decode cX3_dropPassing 16 = .ok (.aload_n 0, 1) := by decide +kernel
theorem dX3_dropPassing_17 : decode cX3_dropPassing 17 = .ok (.getfield 10, 3) := by decide +kernel
theorem dX3_dropPassing_20 : decode cX3_dropPassing 20 = .ok (.iload_n 2, 1) := by decide +kernel
theorem dX3_dropPassing_21 : decode cX3_dropPassing 21 = .ok (.invokevirtual 177, 3) := by decide +kernel
theorem dX3_dropPassing_24 : decode cX3_dropPassing 24 = .ok (.checkcast 87, 3) := by decide +kernel
theorem dX3_dropPassing_27 : decode cX3_dropPassing 27 = .ok (.getfield 142, 3) := by decide +kernel
theorem dX3_dropPassing_30 : decode cX3_dropPassing 30 = .ok (.ifCond .ne 11, 3) := by decide +kernel
theorem dX3_dropPassing_33 : decode cX3_dropPassing 33 = .ok (.iload_n 1, 1) := by decide +kernel
theorem dX3_dropPassing_34 : decode cX3_dropPassing 34 = .ok (.aload_n 0, 1) := by decide +kernel
theorem dX3_dropPassing_35 : decode cX3_dropPassing 35 = .ok (.iload_n 2, 1) := by decide +kernel
theorem dX3_dropPassing_36 : decode cX3_dropPassing 36 = .ok (.invokevirtual 84, 3) := by decide +kernel
theorem dX3_dropPassing_39 : decode cX3_dropPassing 39 = .ok (.iadd, 1) := by decide +kernel
theorem dX3_dropPassing_40 : decode cX3_dropPassing 40 = .ok (.istore_n 1, 1) := by decide +kernel
theorem dX3_dropPassing_41 : decode cX3_dropPassing 41 = .ok (.iinc 2 (-1), 3) := by decide +kernel
theorem dX3_dropPassing_44 : decode cX3_dropPassing 44 = .ok (.goto (-32), 3) := by decide +kernel
theorem dX3_dropPassing_47 : decode cX3_dropPassing 47 = .ok (.iload_n 1, 1) := by decide +kernel
theorem dX3_dropPassing_48 : decode cX3_dropPassing 48 = .ok (.ireturn, 1) := by decide +kernel
theorem dX3_dropGlyph_0 : decode cX3_dropGlyph 0 = .ok (.aload_n 0, 1) := by decide +kernel
theorem dX3_dropGlyph_1 : decode cX3_dropGlyph 1 = .ok (.aload_n 0, 1) := by decide +kernel
theorem dX3_dropGlyph_2 : decode cX3_dropGlyph 2 = .ok (.getfield 35, 3) := by decide +kernel
theorem dX3_dropGlyph_5 : decode cX3_dropGlyph 5 = .ok (.invokevirtual 113, 3) := by decide +kernel
theorem dX3_dropGlyph_8 : decode cX3_dropGlyph 8 = .ok (.astore_n 1, 1) := by decide +kernel
theorem dX3_dropGlyph_9 : decode cX3_dropGlyph 9 = .ok (.aload_n 1, 1) := by decide +kernel
theorem dX3_dropGlyph_10 : decode cX3_dropGlyph 10 = .ok (.ifnull 18, 3) := by decide +kernel
theorem dX3_dropGlyph_13 : decode cX3_dropGlyph 13 = .ok (.aload_n 1, 1) := by decide +kernel
theorem dX3_dropGlyph_14 : decode cX3_dropGlyph 14 = .ok (.aload_n 0, 1) := by decide +kernel
theorem dX3_dropGlyph_15 : decode cX3_dropGlyph 15 = .ok (.getfield 39, 3) := by decide +kernel
theorem dX3_dropGlyph_18 : decode cX3_dropGlyph 18 = .ok (.invokevirtual 132, 3) := by decide +kernel
theorem dX3_dropGlyph_21 : decode cX3_dropGlyph 21 = .ok (.ifCond .eq 7, 3) := by decide +kernel
theorem dX3_dropGlyph_24 : decode cX3_dropGlyph 24 = .ok (.iconst 1, 1) := by decide +kernel
theorem dX3_dropGlyph_25 : decode cX3_dropGlyph 25 = .ok (.goto 4, 3) := by decide +kernel
theorem dX3_dropGlyph_28 : decode cX3_dropGlyph 28 = .ok (.iconst 0, 1) := by decide +kernel
theorem dX3_dropGlyph_29 : decode cX3_dropGlyph 29 = .ok (.ireturn, 1) := by decide +kernel
theorem dX3_glyphsInAll_0 : decode cX3_glyphsInAll 0 = .ok (.iconst 0, 1) := by decide +kernel
theorem dX3_glyphsInAll_1 : decode cX3_glyphsInAll 1 = .ok (.istore_n 1, 1) := by decide +kernel
theorem dX3_glyphsInAll_2 : decode cX3_glyphsInAll 2 = .ok (.iconst 0, 1) := by decide +kernel
theorem dX3_glyphsInAll_3 : decode cX3_glyphsInAll 3 = .ok (.istore_n 2, 1) := by decide +kernel
theorem dX3_glyphsInAll_4 : decode cX3_glyphsInAll 4 = .ok (.iload_n 2, 1) := by decide +kernel
theorem dX3_glyphsInAll_5 : decode cX3_glyphsInAll 5 = .ok (.aload_n 0, 1) := by decide +kernel
theorem dX3_glyphsInAll_6 : decode cX3_glyphsInAll 6 = .ok (.getfield 10, 3) := by decide +kernel
theorem dX3_glyphsInAll_9 : decode cX3_glyphsInAll 9 = .ok (.invokevirtual 73, 3) := by decide +kernel
theorem dX3_glyphsInAll_12 : decode cX3_glyphsInAll 12 = .ok (.if_icmp .ge 26, 3) := by decide +kernel
theorem dX3_glyphsInAll_15 : decode cX3_glyphsInAll 15 = .ok (.iload_n 1, 1) := by decide +kernel
theorem dX3_glyphsInAll_16 : decode cX3_glyphsInAll 16 = .ok (.aload_n 0, 1) := by decide +kernel
theorem dX3_glyphsInAll_17 : decode cX3_glyphsInAll 17 = .ok (.getfield 10, 3) := by decide +kernel
theorem dX3_glyphsInAll_20 : decode cX3_glyphsInAll 20 = .ok (.iload_n 2, 1) := by decide +kernel
theorem dX3_glyphsInAll_21 : decode cX3_glyphsInAll 21 = .ok (.invokevirtual 177, 3) := by decide +kernel
theorem dX3_glyphsInAll_24 : decode cX3_glyphsInAll 24 = .ok (.checkcast 87, 3) := by decide +kernel
theorem dX3_glyphsInAll_27 : decode cX3_glyphsInAll 27 = .ok (.getfield 139, 3) := by decide +kernel
theorem dX3_glyphsInAll_30 : decode cX3_glyphsInAll 30 = .ok (.iadd, 1) := by decide +kernel
theorem dX3_glyphsInAll_31 : decode cX3_glyphsInAll 31 = .ok (.istore_n 1, 1) := by decide +kernel
theorem dX3_glyphsInAll_32 : decode cX3_glyphsInAll 32 = .ok (.iinc 2 1, 3) := by decide +kernel
theorem dX3_glyphsInAll_35 : decode cX3_glyphsInAll 35 = .ok (.goto (-31), 3) := by decide +kernel
theorem dX3_glyphsInAll_38 : decode cX3_glyphsInAll 38 = .ok (.iload_n 1, 1) := by decide +kernel
theorem dX3_glyphsInAll_39 : decode cX3_glyphsInAll 39 = .ok (.ireturn, 1) := by decide +kernel
theorem dX3_bytesInAll_0 : decode cX3_bytesInAll 0 = .ok (.iconst 0, 1) := by decide +kernel
theorem dX3_bytesInAll_1 : decode cX3_bytesInAll 1 = .ok (.istore_n 1, 1) := by decide +kernel
theorem dX3_bytesInAll_2 : decode cX3_bytesInAll 2 = .ok (.iconst 0, 1) := by decide +kernel
theorem dX3_bytesInAll_3 : decode cX3_bytesInAll 3 = .ok (.istore_n 2, 1) := by decide +kernel
theorem dX3_bytesInAll_4 : decode cX3_bytesInAll 4 = .ok (.iload_n 2, 1) := by decide +kernel
theorem dX3_bytesInAll_5 : decode cX3_bytesInAll 5 = .ok (.aload_n 0, 1) := by decide +kernel
theorem dX3_bytesInAll_6 : decode cX3_bytesInAll 6 = .ok (.getfield 10, 3) := by decide +kernel
theorem dX3_bytesInAll_9 : decode cX3_bytesInAll 9 = .ok (.invokevirtual 73, 3) := by decide +kernel
theorem dX3_bytesInAll_12 : decode cX3_bytesInAll 12 = .ok (.if_icmp .ge 26, 3) := by decide +kernel
theorem dX3_bytesInAll_15 : decode cX3_bytesInAll 15 = .ok (.iload_n 1, 1) := by decide +kernel
theorem dX3_bytesInAll_16 : decode cX3_bytesInAll 16 = .ok (.aload_n 0, 1) := by decide +kernel
theorem dX3_bytesInAll_17 : decode cX3_bytesInAll 17 = .ok (.getfield 10, 3) := by decide +kernel
theorem dX3_bytesInAll_20 : decode cX3_bytesInAll 20 = .ok (.iload_n 2, 1) := by decide +kernel
theorem dX3_bytesInAll_21 : decode cX3_bytesInAll 21 = .ok (.invokevirtual 177, 3) := by decide +kernel
theorem dX3_bytesInAll_24 : decode cX3_bytesInAll 24 = .ok (.checkcast 87, 3) := by decide +kernel
theorem dX3_bytesInAll_27 : decode cX3_bytesInAll 27 = .ok (.getfield 227, 3) := by decide +kernel
theorem dX3_bytesInAll_30 : decode cX3_bytesInAll 30 = .ok (.iadd, 1) := by decide +kernel
theorem dX3_bytesInAll_31 : decode cX3_bytesInAll 31 = .ok (.istore_n 1, 1) := by decide +kernel
theorem dX3_bytesInAll_32 : decode cX3_bytesInAll 32 = .ok (.iinc 2 1, 3) := by decide +kernel
theorem dX3_bytesInAll_35 : decode cX3_bytesInAll 35 = .ok (.goto (-31), 3) := by decide +kernel
theorem dX3_bytesInAll_38 : decode cX3_bytesInAll 38 = .ok (.iload_n 1, 1) := by decide +kernel
theorem dX3_bytesInAll_39 : decode cX3_bytesInAll 39 = .ok (.ireturn, 1) := by decide +kernel
theorem dX3_hasRoomFor_0 : decode cX3_hasRoomFor 0 = .ok (.aload_n 0, 1) := by decide +kernel
theorem dX3_hasRoomFor_1 : decode cX3_hasRoomFor 1 = .ok (.invokevirtual 213, 3) := by decide +kernel
theorem dX3_hasRoomFor_4 : decode cX3_hasRoomFor 4 = .ok (.iconst 1, 1) := by decide +kernel
theorem dX3_hasRoomFor_5 : decode cX3_hasRoomFor 5 = .ok (.iadd, 1) := by decide +kernel
theorem dX3_hasRoomFor_6 : decode cX3_hasRoomFor 6 = .ok (.aload_n 2, 1) := by decide +kernel
theorem dX3_hasRoomFor_7 : decode cX3_hasRoomFor 7 = .ok (.ifnonnull 7, 3) := by decide +kernel
theorem dX3_hasRoomFor_10 : decode cX3_hasRoomFor 10 = .ok (.iconst 0, 1) := by decide +kernel
theorem dX3_hasRoomFor_11 : decode cX3_hasRoomFor 11 = .ok (.goto 4, 3) := by decide +kernel
theorem dX3_hasRoomFor_14 : decode cX3_hasRoomFor 14 = .ok (.iconst 1, 1) := by decide +kernel
theorem dX3_hasRoomFor_15 : decode cX3_hasRoomFor 15 = .ok (.isub, 1) := by decide +kernel
theorem dX3_hasRoomFor_16 : decode cX3_hasRoomFor 16 = .ok (.istore_n 3, 1) := by decide +kernel
theorem dX3_hasRoomFor_17 : decode cX3_hasRoomFor 17 = .ok (.aload_n 0, 1) := by decide +kernel
theorem dX3_hasRoomFor_18 : decode cX3_hasRoomFor 18 = .ok (.invokevirtual 216, 3) := by decide +kernel
theorem dX3_hasRoomFor_21 : decode cX3_hasRoomFor 21 = .ok (.aload_n 1, 1) := by decide +kernel
theorem dX3_hasRoomFor_22 : decode cX3_hasRoomFor 22 = .ok (.invokevirtual 108, 3) := by decide +kernel
theorem dX3_hasRoomFor_25 : decode cX3_hasRoomFor 25 = .ok (.iadd, 1) := by decide +kernel
theorem dX3_hasRoomFor_26 : decode cX3_hasRoomFor 26 = .ok (.aload_n 2, 1) := by decide +kernel
theorem dX3_hasRoomFor_27 : decode cX3_hasRoomFor 27 = .ok (.ifnonnull 7, 3) := by decide +kernel
theorem dX3_hasRoomFor_30 : decode cX3_hasRoomFor 30 = .ok (.iconst 0, 1) := by decide +kernel
theorem dX3_hasRoomFor_31 : decode cX3_hasRoomFor 31 = .ok (.goto 7, 3) := by decide +kernel
theorem dX3_hasRoomFor_34 : decode cX3_hasRoomFor 34 = .ok (.aload_n 2, 1) := by decide +kernel
theorem dX3_hasRoomFor_35 : decode cX3_hasRoomFor 35 = .ok (.invokevirtual 108, 3) := by decide +kernel
theorem dX3_hasRoomFor_38 : decode cX3_hasRoomFor 38 = .ok (.isub, 1) := by decide +kernel
theorem dX3_hasRoomFor_39 : decode cX3_hasRoomFor 39 = .ok (.istore 4, 2) := by decide +kernel
theorem dX3_hasRoomFor_41 : decode cX3_hasRoomFor 41 = .ok (.iload_n 3, 1) := by decide +kernel
theorem dX3_hasRoomFor_42 : decode cX3_hasRoomFor 42 = .ok (.sipush 256, 3) := by decide +kernel
theorem dX3_hasRoomFor_45 : decode cX3_hasRoomFor 45 = .ok (.if_icmp .gt 15, 3) := by decide +kernel
theorem dX3_hasRoomFor_48 : decode cX3_hasRoomFor 48 = .ok (.iload 4, 2) := by decide +kernel
theorem dX3_hasRoomFor_50 : decode cX3_hasRoomFor 50 = .ok (.sipush 16384, 3) := by decide +kernel
theorem dX3_hasRoomFor_53 : decode cX3_hasRoomFor 53 = .ok (.if_icmp .gt 7, 3) := by decide +kernel
theorem dX3_hasRoomFor_56 : decode cX3_hasRoomFor 56 = .ok (.iconst 1, 1) := by decide +kernel
theorem dX3_hasRoomFor_57 : decode cX3_hasRoomFor 57 = .ok (.goto 4, 3) := by decide +kernel
theorem dX3_hasRoomFor_60 : decode cX3_hasRoomFor 60 = .ok (.iconst 0, 1) := by decide +kernel
theorem dX3_hasRoomFor_61 : decode cX3_hasRoomFor 61 = .ok (.ireturn, 1) := by decide +kernel
theorem dX3_chosenGlyph_0 : decode cX3_chosenGlyph 0 = .ok (.aload_n 0, 1) := by decide +kernel
theorem dX3_chosenGlyph_1 : decode cX3_chosenGlyph 1 = .ok (.iload_n 1, 1) := by decide +kernel
theorem dX3_chosenGlyph_2 : decode cX3_chosenGlyph 2 = .ok (.invokevirtual 166, 3) := by decide +kernel
theorem dX3_chosenGlyph_5 : decode cX3_chosenGlyph 5 = .ok (.astore_n 3, 1) := by decide +kernel
theorem dX3_chosenGlyph_6 : decode cX3_chosenGlyph 6 = .ok (.aload_n 3, 1) := by decide +kernel
theorem dX3_chosenGlyph_7 : decode cX3_chosenGlyph 7 = .ok (.ifnonnull 7, 3) := by decide +kernel
theorem dX3_chosenGlyph_10 : decode cX3_chosenGlyph 10 = .ok (.aconst_null, 1) := by decide +kernel
theorem dX3_chosenGlyph_11 : decode cX3_chosenGlyph 11 = .ok (.goto 8, 3) := by decide +kernel
theorem dX3_chosenGlyph_14 : decode cX3_chosenGlyph 14 = .ok (.aload_n 3, 1) := by decide +kernel
theorem dX3_chosenGlyph_15 : decode cX3_chosenGlyph 15 = .ok (.iload_n 2, 1) := by decide +kernel
theorem dX3_chosenGlyph_16 : decode cX3_chosenGlyph 16 = .ok (.invokevirtual 119, 3) := by decide +kernel
theorem dX3_chosenGlyph_19 : decode cX3_chosenGlyph 19 = .ok (.areturn, 1) := by decide +kernel
theorem dX3_chosenFont_0 : decode cX3_chosenFont 0 = .ok (.iload_n 1, 1) := by decide +kernel
theorem dX3_chosenFont_1 : decode cX3_chosenFont 1 = .ok (.invokestatic 60, 3) := by decide +kernel
theorem dX3_chosenFont_4 : decode cX3_chosenFont 4 = .ok (.ifCond .ne 5, 3) := by decide +kernel
theorem dX3_chosenFont_7 : decode cX3_chosenFont 7 = .ok (.aconst_null, 1) := by decide +kernel
theorem dX3_chosenFont_8 : decode cX3_chosenFont 8 = .ok (.areturn, 1) := by decide +kernel
theorem dX3_chosenFont_9 : decode cX3_chosenFont 9 = .ok (.aload_n 0, 1) := by decide +kernel
theorem dX3_chosenFont_10 : decode cX3_chosenFont 10 = .ok (.aload_n 0, 1) := by decide +kernel
theorem dX3_chosenFont_11 : decode cX3_chosenFont 11 = .ok (.getfield 31, 3) := by decide +kernel
theorem dX3_chosenFont_14 : decode cX3_chosenFont 14 = .ok (.iload_n 1, 1) := by decide +kernel
theorem dX3_chosenFont_15 : decode cX3_chosenFont 15 = .ok (.aaload, 1) := by decide +kernel
theorem dX3_chosenFont_16 : decode cX3_chosenFont 16 = .ok (.getfield 66, 3) := by decide +kernel
theorem dX3_chosenFont_19 : decode cX3_chosenFont 19 = .ok (.invokevirtual 113, 3) := by decide +kernel
theorem dX3_chosenFont_22 : decode cX3_chosenFont 22 = .ok (.astore_n 2, 1) := by decide +kernel
theorem dX3_chosenFont_23 : decode cX3_chosenFont 23 = .ok (.aload_n 2, 1) := by decide +kernel
theorem dX3_chosenFont_24 : decode cX3_chosenFont 24 = .ok (.ifnull 7, 3) := by decide +kernel
theorem dX3_chosenFont_27 : decode cX3_chosenFont 27 = .ok (.aload_n 2, 1) := by decide +kernel
theorem dX3_chosenFont_28 : decode cX3_chosenFont 28 = .ok (.goto 16, 3) := by decide +kernel
theorem dX3_chosenFont_31 : decode cX3_chosenFont 31 = .ok (.aload_n 0, 1) := by decide +kernel
theorem dX3_chosenFont_32 : decode cX3_chosenFont 32 = .ok (.aload_n 0, 1) := by decide +kernel
theorem dX3_chosenFont_33 : decode cX3_chosenFont 33 = .ok (.getfield 31, 3) := by decide +kernel
theorem dX3_chosenFont_36 : decode cX3_chosenFont 36 = .ok (.iload_n 1, 1) := by decide +kernel
theorem dX3_chosenFont_37 : decode cX3_chosenFont 37 = .ok (.aaload, 1) := by decide +kernel
theorem dX3_chosenFont_38 : decode cX3_chosenFont 38 = .ok (.getfield 63, 3) := by decide +kernel
theorem dX3_chosenFont_41 : decode cX3_chosenFont 41 = .ok (.invokevirtual 230, 3) := by decide +kernel
theorem dX3_chosenFont_44 : decode cX3_chosenFont 44 = .ok (.areturn, 1) := by decide +kernel
theorem dX3_bestFor_0 : decode cX3_bestFor 0 = .ok (.aload_n 0, 1) := by decide +kernel
theorem dX3_bestFor_1 : decode cX3_bestFor 1 = .ok (.invokevirtual 234, 3) := by decide +kernel
theorem dX3_bestFor_4 : decode cX3_bestFor 4 = .ok (.istore_n 2, 1) := by decide +kernel
theorem dX3_bestFor_5 : decode cX3_bestFor 5 = .ok (.aload_n 0, 1) := by decide +kernel
theorem dX3_bestFor_6 : decode cX3_bestFor 6 = .ok (.iload_n 2, 1) := by decide +kernel
theorem dX3_bestFor_7 : decode cX3_bestFor 7 = .ok (.iconst 0, 1) := by decide +kernel
theorem dX3_bestFor_8 : decode cX3_bestFor 8 = .ok (.aload_n 0, 1) := by decide +kernel
theorem dX3_bestFor_9 : decode cX3_bestFor 9 = .ok (.iload_n 2, 1) := by decide +kernel
theorem dX3_bestFor_10 : decode cX3_bestFor 10 = .ok (.iconst 0, 1) := by decide +kernel
theorem dX3_bestFor_11 : decode cX3_bestFor 11 = .ok (.aload_n 1, 1) := by decide +kernel
theorem dX3_bestFor_12 : decode cX3_bestFor 12 = .ok (.iconst 0, 1) := by decide +kernel
theorem dX3_bestFor_13 : decode cX3_bestFor 13 = .ok (.iaload, 1) := by decide +kernel
theorem dX3_bestFor_14 : decode cX3_bestFor 14 = .ok (.invokevirtual 237, 3) := by decide +kernel
theorem dX3_bestFor_17 : decode cX3_bestFor 17 = .ok (.ifCond .ne 9, 3) := by decide +kernel
theorem dX3_bestFor_20 : decode cX3_bestFor 20 = .ok (.sipush 277, 3) := by decide +kernel
theorem dX3_bestFor_23 : decode cX3_bestFor 23 = .ok (.goto 6, 3) := by decide +kernel
theorem dX3_bestFor_26 : decode cX3_bestFor 26 = .ok (.aload_n 1, 1) := by decide +kernel
theorem dX3_bestFor_27 : decode cX3_bestFor 27 = .ok (.iconst 0, 1) := by decide +kernel
theorem dX3_bestFor_28 : decode cX3_bestFor 28 = .ok (.iaload, 1) := by decide +kernel
theorem dX3_bestFor_29 : decode cX3_bestFor 29 = .ok (.invokevirtual 241, 3) := by decide +kernel
theorem dX3_bestFor_32 : decode cX3_bestFor 32 = .ok (.istore_n 2, 1) := by decide +kernel
theorem dX3_bestFor_33 : decode cX3_bestFor 33 = .ok (.aload_n 0, 1) := by decide +kernel
theorem dX3_bestFor_34 : decode cX3_bestFor 34 = .ok (.iload_n 2, 1) := by decide +kernel
theorem dX3_bestFor_35 : decode cX3_bestFor 35 = .ok (.iconst 1, 1) := by decide +kernel
theorem dX3_bestFor_36 : decode cX3_bestFor 36 = .ok (.aload_n 1, 1) := by decide +kernel
theorem dX3_bestFor_37 : decode cX3_bestFor 37 = .ok (.iconst 1, 1) := by decide +kernel
theorem dX3_bestFor_38 : decode cX3_bestFor 38 = .ok (.iaload, 1) := by decide +kernel
theorem dX3_bestFor_39 : decode cX3_bestFor 39 = .ok (.invokevirtual 241, 3) := by decide +kernel
theorem dX3_bestFor_42 : decode cX3_bestFor 42 = .ok (.istore_n 2, 1) := by decide +kernel
theorem dX3_bestFor_43 : decode cX3_bestFor 43 = .ok (.aload_n 1, 1) := by decide +kernel
theorem dX3_bestFor_44 : decode cX3_bestFor 44 = .ok (.iconst 1, 1) := by decide +kernel
theorem dX3_bestFor_45 : decode cX3_bestFor 45 = .ok (.iaload, 1) := by decide +kernel
theorem dX3_bestFor_46 : decode cX3_bestFor 46 = .ok (.ifCond .ne 30, 3) := by decide +kernel
theorem dX3_bestFor_49 : decode cX3_bestFor 49 = .ok (.aload_n 0, 1) := by decide +kernel
theorem dX3_bestFor_50 : decode cX3_bestFor 50 = .ok (.iload_n 2, 1) := by decide +kernel
theorem dX3_bestFor_51 : decode cX3_bestFor 51 = .ok (.iconst 1, 1) := by decide +kernel
theorem dX3_bestFor_52 : decode cX3_bestFor 52 = .ok (.iconst 0, 1) := by decide +kernel
theorem dX3_bestFor_53 : decode cX3_bestFor 53 = .ok (.invokevirtual 237, 3) := by decide +kernel
theorem dX3_bestFor_56 : decode cX3_bestFor 56 = .ok (.iload_n 2, 1) := by decide +kernel
theorem dX3_bestFor_57 : decode cX3_bestFor 57 = .ok (.if_icmp .ne 19, 3) := by decide +kernel
theorem dX3_bestFor_60 : decode cX3_bestFor 60 = .ok (.aload_n 0, 1) := by decide +kernel
theorem dX3_bestFor_61 : decode cX3_bestFor 61 = .ok (.iload_n 2, 1) := by decide +kernel
theorem dX3_bestFor_62 : decode cX3_bestFor 62 = .ok (.iconst 2, 1) := by decide +kernel
theorem dX3_bestFor_63 : decode cX3_bestFor 63 = .ok (.aload_n 0, 1) := by decide +kernel
theorem dX3_bestFor_64 : decode cX3_bestFor 64 = .ok (.iload_n 2, 1) := by decide +kernel
theorem dX3_bestFor_65 : decode cX3_bestFor 65 = .ok (.iconst 2, 1) := by decide +kernel
theorem dX3_bestFor_66 : decode cX3_bestFor 66 = .ok (.aload_n 1, 1) := by decide +kernel
theorem dX3_bestFor_67 : decode cX3_bestFor 67 = .ok (.iconst 2, 1) := by decide +kernel
theorem dX3_bestFor_68 : decode cX3_bestFor 68 = .ok (.iaload, 1) := by decide +kernel
theorem dX3_bestFor_69 : decode cX3_bestFor 69 = .ok (.invokevirtual 244, 3) := by decide +kernel
theorem dX3_bestFor_72 : decode cX3_bestFor 72 = .ok (.invokevirtual 237, 3) := by decide +kernel
theorem dX3_bestFor_75 : decode cX3_bestFor 75 = .ok (.istore_n 2, 1) := by decide +kernel
theorem dX3_bestFor_76 : decode cX3_bestFor 76 = .ok (.aload_n 0, 1) := by decide +kernel
theorem dX3_bestFor_77 : decode cX3_bestFor 77 = .ok (.iload_n 2, 1) := by decide +kernel
theorem dX3_bestFor_78 : decode cX3_bestFor 78 = .ok (.iconst 3, 1) := by decide +kernel
theorem dX3_bestFor_79 : decode cX3_bestFor 79 = .ok (.aload_n 0, 1) := by decide +kernel
theorem dX3_bestFor_80 : decode cX3_bestFor 80 = .ok (.iload_n 2, 1) := by decide +kernel
theorem dX3_bestFor_81 : decode cX3_bestFor 81 = .ok (.aload_n 1, 1) := by decide +kernel
theorem dX3_bestFor_82 : decode cX3_bestFor 82 = .ok (.iconst 3, 1) := by decide +kernel
theorem dX3_bestFor_83 : decode cX3_bestFor 83 = .ok (.iaload, 1) := by decide +kernel
theorem dX3_bestFor_84 : decode cX3_bestFor 84 = .ok (.invokevirtual 247, 3) := by decide +kernel
theorem dX3_bestFor_87 : decode cX3_bestFor 87 = .ok (.invokevirtual 237, 3) := by decide +kernel
theorem dX3_bestFor_90 : decode cX3_bestFor 90 = .ok (.istore_n 2, 1) := by decide +kernel
theorem dX3_bestFor_91 : decode cX3_bestFor 91 = .ok (.aload_n 0, 1) := by decide +kernel
theorem dX3_bestFor_92 : decode cX3_bestFor 92 = .ok (.iload_n 2, 1) := by decide +kernel
theorem dX3_bestFor_93 : decode cX3_bestFor 93 = .ok (.iconst 4, 1) := by decide +kernel
theorem dX3_bestFor_94 : decode cX3_bestFor 94 = .ok (.aload_n 1, 1) := by decide +kernel
theorem dX3_bestFor_95 : decode cX3_bestFor 95 = .ok (.iconst 4, 1) := by decide +kernel
theorem dX3_bestFor_96 : decode cX3_bestFor 96 = .ok (.iaload, 1) := by decide +kernel
theorem dX3_bestFor_97 : decode cX3_bestFor 97 = .ok (.invokevirtual 241, 3) := by decide +kernel
theorem dX3_bestFor_100 : decode cX3_bestFor 100 = .ok (.istore_n 2, 1) := by decide +kernel
theorem dX3_bestFor_101 : decode cX3_bestFor 101 = .ok (.aload_n 0, 1) := by decide +kernel
theorem dX3_bestFor_102 : decode cX3_bestFor 102 = .ok (.iload_n 2, 1) := by decide +kernel
theorem dX3_bestFor_103 : decode cX3_bestFor 103 = .ok (.iconst 5, 1) := by decide +kernel
theorem dX3_bestFor_104 : decode cX3_bestFor 104 = .ok (.aload_n 1, 1) := by decide +kernel
theorem dX3_bestFor_105 : decode cX3_bestFor 105 = .ok (.iconst 5, 1) := by decide +kernel
theorem dX3_bestFor_106 : decode cX3_bestFor 106 = .ok (.iaload, 1) := by decide +kernel
theorem dX3_bestFor_107 : decode cX3_bestFor 107 = .ok (.ifCond .lt 15, 3) := by decide +kernel
theorem dX3_bestFor_110 : decode cX3_bestFor 110 = .ok (.aload_n 0, 1) := by decide +kernel
theorem dX3_bestFor_111 : decode cX3_bestFor 111 = .ok (.iload_n 2, 1) := by decide +kernel
theorem dX3_bestFor_112 : decode cX3_bestFor 112 = .ok (.iconst 5, 1) := by decide +kernel
theorem dX3_bestFor_113 : decode cX3_bestFor 113 = .ok (.aload_n 1, 1) := by decide +kernel
theorem dX3_bestFor_114 : decode cX3_bestFor 114 = .ok (.iconst 5, 1) := by decide +kernel
theorem dX3_bestFor_115 : decode cX3_bestFor 115 = .ok (.iaload, 1) := by decide +kernel
theorem dX3_bestFor_116 : decode cX3_bestFor 116 = .ok (.invokevirtual 244, 3) := by decide +kernel
theorem dX3_bestFor_119 : decode cX3_bestFor 119 = .ok (.goto 12, 3) := by decide +kernel
theorem dX3_bestFor_122 : decode cX3_bestFor 122 = .ok (.aload_n 0, 1) := by decide +kernel
theorem dX3_bestFor_123 : decode cX3_bestFor 123 = .ok (.iload_n 2, 1) := by decide +kernel
theorem dX3_bestFor_124 : decode cX3_bestFor 124 = .ok (.iconst 5, 1) := by decide +kernel
theorem dX3_bestFor_125 : decode cX3_bestFor 125 = .ok (.aload_n 1, 1) := by decide +kernel
theorem dX3_bestFor_126 : decode cX3_bestFor 126 = .ok (.iconst 5, 1) := by decide +kernel
theorem dX3_bestFor_127 : decode cX3_bestFor 127 = .ok (.iaload, 1) := by decide +kernel
theorem dX3_bestFor_128 : decode cX3_bestFor 128 = .ok (.invokevirtual 251, 3) := by decide +kernel
theorem dX3_bestFor_131 : decode cX3_bestFor 131 = .ok (.invokevirtual 237, 3) := by decide +kernel
theorem dX3_bestFor_134 : decode cX3_bestFor 134 = .ok (.istore_n 2, 1) := by decide +kernel
theorem dX3_bestFor_135 : decode cX3_bestFor 135 = .ok (.aload_n 0, 1) := by decide +kernel
theorem dX3_bestFor_136 : decode cX3_bestFor 136 = .ok (.iload_n 2, 1) := by decide +kernel
theorem dX3_bestFor_137 : decode cX3_bestFor 137 = .ok (.bipush 6, 2) := by decide +kernel
theorem dX3_bestFor_139 : decode cX3_bestFor 139 = .ok (.aload_n 1, 1) := by decide +kernel
theorem dX3_bestFor_140 : decode cX3_bestFor 140 = .ok (.bipush 6, 2) := by decide +kernel
theorem dX3_bestFor_142 : decode cX3_bestFor 142 = .ok (.iaload, 1) := by decide +kernel
theorem dX3_bestFor_143 : decode cX3_bestFor 143 = .ok (.invokevirtual 241, 3) := by decide +kernel
theorem dX3_bestFor_146 : decode cX3_bestFor 146 = .ok (.istore_n 2, 1) := by decide +kernel
theorem dX3_bestFor_147 : decode cX3_bestFor 147 = .ok (.aload_n 0, 1) := by decide +kernel
theorem dX3_bestFor_148 : decode cX3_bestFor 148 = .ok (.iload_n 2, 1) := by decide +kernel
theorem dX3_bestFor_149 : decode cX3_bestFor 149 = .ok (.invokevirtual 254, 3) := by decide +kernel
theorem dX3_bestFor_152 : decode cX3_bestFor 152 = .ok (.istore_n 2, 1) := by decide +kernel
theorem dX3_bestFor_153 : decode cX3_bestFor 153 = .ok (.bipush 31, 2) := by decide +kernel
theorem dX3_bestFor_155 : decode cX3_bestFor 155 = .ok (.iload_n 2, 1) := by decide +kernel
theorem dX3_bestFor_156 : decode cX3_bestFor 156 = .ok (.invokestatic 257, 3) := by decide +kernel
theorem dX3_bestFor_159 : decode cX3_bestFor 159 = .ok (.isub, 1) := by decide +kernel
theorem dX3_bestFor_160 : decode cX3_bestFor 160 = .ok (.istore_n 3, 1) := by decide +kernel
theorem dX3_bestFor_161 : decode cX3_bestFor 161 = .ok (.iload_n 3, 1) := by decide +kernel
theorem dX3_bestFor_162 : decode cX3_bestFor 162 = .ok (.iconst 0, 1) := by decide +kernel
theorem dX3_bestFor_163 : decode cX3_bestFor 163 = .ok (.aload_n 0, 1) := by decide +kernel
theorem dX3_bestFor_164 : decode cX3_bestFor 164 = .ok (.getfield 10, 3) := by decide +kernel
theorem dX3_bestFor_167 : decode cX3_bestFor 167 = .ok (.invokevirtual 73, 3) := by decide +kernel
theorem dX3_bestFor_170 : decode cX3_bestFor 170 = .ok (.iconst 1, 1) := by decide +kernel
theorem dX3_bestFor_171 : decode cX3_bestFor 171 = .ok (.isub, 1) := by decide +kernel
theorem dX3_bestFor_172 : decode cX3_bestFor 172 = .ok (.invokestatic 46, 3) := by decide +kernel
theorem dX3_bestFor_175 : decode cX3_bestFor 175 = .ok (.ifCond .eq 17, 3) := by decide +kernel
theorem dX3_bestFor_178 : decode cX3_bestFor 178 = .ok (.aload_n 0, 1) := by decide +kernel
theorem dX3_bestFor_179 : decode cX3_bestFor 179 = .ok (.getfield 10, 3) := by decide +kernel
theorem dX3_bestFor_182 : decode cX3_bestFor 182 = .ok (.iload_n 3, 1) := by decide +kernel
theorem dX3_bestFor_183 : decode cX3_bestFor 183 = .ok (.invokevirtual 177, 3) := by decide +kernel
theorem dX3_bestFor_186 : decode cX3_bestFor 186 = .ok (.checkcast 87, 3) := by decide +kernel
theorem dX3_bestFor_189 : decode cX3_bestFor 189 = .ok (.goto 4, 3) := by decide +kernel
theorem dX3_bestFor_192 : decode cX3_bestFor 192 = .ok (.aconst_null, 1) := by decide +kernel
theorem dX3_bestFor_193 : decode cX3_bestFor 193 = .ok (.areturn, 1) := by decide +kernel
theorem dX3_allFonts_0 : decode cX3_allFonts 0 = .ok (.aload_n 0, 1) := by decide +kernel
theorem dX3_allFonts_1 : decode cX3_allFonts 1 = .ok (.getfield 10, 3) := by decide +kernel
theorem dX3_allFonts_4 : decode cX3_allFonts 4 = .ok (.invokevirtual 73, 3) := by decide +kernel
theorem dX3_allFonts_7 : decode cX3_allFonts 7 = .ok (.bipush 32, 2) := by decide +kernel
theorem dX3_allFonts_9 : decode cX3_allFonts 9 = .ok (.if_icmp .lt 7, 3) := by decide +kernel
theorem dX3_allFonts_12 : decode cX3_allFonts 12 = .ok (.iconst (-1), 1) := by decide +kernel
theorem dX3_allFonts_13 : decode cX3_allFonts 13 = .ok (.goto 14, 3) := by decide +kernel
theorem dX3_allFonts_16 : decode cX3_allFonts 16 = .ok (.iconst 1, 1) := by decide +kernel
theorem dX3_allFonts_17 : decode cX3_allFonts 17 = .ok (.aload_n 0, 1) := by decide +kernel
theorem dX3_allFonts_18 : decode cX3_allFonts 18 = .ok (.getfield 10, 3) := by decide +kernel
theorem dX3_allFonts_21 : decode cX3_allFonts 21 = .ok (.invokevirtual 73, 3) := by decide +kernel
theorem dX3_allFonts_24 : decode cX3_allFonts 24 = .ok (.ishl, 1) := by decide +kernel
theorem dX3_allFonts_25 : decode cX3_allFonts 25 = .ok (.iconst 1, 1) := by decide +kernel
theorem dX3_allFonts_26 : decode cX3_allFonts 26 = .ok (.isub, 1) := by decide +kernel
theorem dX3_allFonts_27 : decode cX3_allFonts 27 = .ok (.ireturn, 1) := by decide +kernel
theorem dX3_isIn_0 : decode cX3_isIn 0 = .ok (.iload_n 0, 1) := by decide +kernel
theorem dX3_isIn_1 : decode cX3_isIn 1 = .ok (.iload_n 1, 1) := by decide +kernel
theorem dX3_isIn_2 : decode cX3_isIn 2 = .ok (.iushr, 1) := by decide +kernel
theorem dX3_isIn_3 : decode cX3_isIn 3 = .ok (.iconst 1, 1) := by decide +kernel
theorem dX3_isIn_4 : decode cX3_isIn 4 = .ok (.iand, 1) := by decide +kernel
theorem dX3_isIn_5 : decode cX3_isIn 5 = .ok (.iconst 1, 1) := by decide +kernel
theorem dX3_isIn_6 : decode cX3_isIn 6 = .ok (.if_icmp .ne 7, 3) := by decide +kernel
theorem dX3_isIn_9 : decode cX3_isIn 9 = .ok (.iconst 1, 1) := by decide +kernel
theorem dX3_isIn_10 : decode cX3_isIn 10 = .ok (.goto 4, 3) := by decide +kernel
theorem dX3_isIn_13 : decode cX3_isIn 13 = .ok (.iconst 0, 1) := by decide +kernel
theorem dX3_isIn_14 : decode cX3_isIn 14 = .ok (.ireturn, 1) := by decide +kernel
theorem dX3_having_0 : decode cX3_having 0 = .ok (.iconst 0, 1) := by decide +kernel
theorem dX3_having_1 : decode cX3_having 1 = .ok (.istore 4, 2) := by decide +kernel
theorem dX3_having_3 : decode cX3_having 3 = .ok (.iconst 0, 1) := by decide +kernel
theorem dX3_having_4 : decode cX3_having 4 = .ok (.istore 5, 2) := by decide +kernel
theorem dX3_having_6 : decode cX3_having 6 = .ok (.iload 5, 2) := by decide +kernel
theorem dX3_having_8 : decode cX3_having 8 = .ok (.aload_n 0, 1) := by decide +kernel
theorem dX3_having_9 : decode cX3_having 9 = .ok (.getfield 10, 3) := by decide +kernel
theorem dX3_having_12 : decode cX3_having 12 = .ok (.invokevirtual 73, 3) := by decide +kernel
theorem dX3_having_15 : decode cX3_having 15 = .ok (.if_icmp .ge 48, 3) := by decide +kernel
theorem dX3_having_18 : decode cX3_having 18 = .ok (.iload_n 1, 1) := by decide +kernel
theorem dX3_having_19 : decode cX3_having 19 = .ok (.iload 5, 2) := by decide +kernel
theorem dX3_having_21 : decode cX3_having 21 = .ok (.invokestatic 262, 3) := by decide +kernel
theorem dX3_having_24 : decode cX3_having 24 = .ok (.ifCond .eq 33, 3) := by decide +kernel
theorem dX3_having_27 : decode cX3_having 27 = .ok (.aload_n 0, 1) := by decide +kernel
theorem dX3_having_28 : decode cX3_having 28 = .ok (.getfield 10, 3) := by decide +kernel
theorem dX3_having_31 : decode cX3_having 31 = .ok (.iload 5, 2) := by decide +kernel
theorem dX3_having_33 : decode cX3_having 33 = .ok (.invokevirtual 177, 3) := by decide +kernel
theorem dX3_having_36 : decode cX3_having 36 = .ok (.checkcast 87, 3) := by decide +kernel
theorem dX3_having_39 : decode cX3_having 39 = .ok (.getfield 157, 3) := by decide +kernel
theorem dX3_having_42 : decode cX3_having 42 = .ok (.iload_n 2, 1) := by decide +kernel
theorem dX3_having_43 : decode cX3_having 43 = .ok (.iaload, 1) := by decide +kernel
theorem dX3_having_44 : decode cX3_having 44 = .ok (.iload_n 3, 1) := by decide +kernel
theorem dX3_having_45 : decode cX3_having 45 = .ok (.if_icmp .ne 12, 3) := by decide +kernel
theorem dX3_having_48 : decode cX3_having 48 = .ok (.iload 4, 2) := by decide +kernel
theorem dX3_having_50 : decode cX3_having 50 = .ok (.iconst 1, 1) := by decide +kernel
theorem dX3_having_51 : decode cX3_having 51 = .ok (.iload 5, 2) := by decide +kernel
theorem dX3_having_53 : decode cX3_having 53 = .ok (.ishl, 1) := by decide +kernel
theorem dX3_having_54 : decode cX3_having 54 = .ok (.ior, 1) := by decide +kernel
theorem dX3_having_55 : decode cX3_having 55 = .ok (.istore 4, 2) := by decide +kernel
theorem dX3_having_57 : decode cX3_having 57 = .ok (.iinc 5 1, 3) := by decide +kernel
theorem dX3_having_60 : decode cX3_having 60 = .ok (.goto (-54), 3) := by decide +kernel
theorem dX3_having_63 : decode cX3_having 63 = .ok (.iload 4, 2) := by decide +kernel
theorem dX3_having_65 : decode cX3_having 65 = .ok (.ireturn, 1) := by decide +kernel
theorem dX3_preferring_0 : decode cX3_preferring 0 = .ok (.aload_n 0, 1) := by decide +kernel
theorem dX3_preferring_1 : decode cX3_preferring 1 = .ok (.iload_n 1, 1) := by decide +kernel
theorem dX3_preferring_2 : decode cX3_preferring 2 = .ok (.iload_n 2, 1) := by decide +kernel
theorem dX3_preferring_3 : decode cX3_preferring 3 = .ok (.iload_n 3, 1) := by decide +kernel
theorem dX3_preferring_4 : decode cX3_preferring 4 = .ok (.invokevirtual 237, 3) := by decide +kernel
theorem dX3_preferring_7 : decode cX3_preferring 7 = .ok (.istore 4, 2) := by decide +kernel
theorem dX3_preferring_9 : decode cX3_preferring 9 = .ok (.iload 4, 2) := by decide +kernel
theorem dX3_preferring_11 : decode cX3_preferring 11 = .ok (.ifCond .ne 7, 3) := by decide +kernel
theorem dX3_preferring_14 : decode cX3_preferring 14 = .ok (.iload_n 1, 1) := by decide +kernel
theorem dX3_preferring_15 : decode cX3_preferring 15 = .ok (.goto 5, 3) := by decide +kernel
theorem dX3_preferring_18 : decode cX3_preferring 18 = .ok (.iload 4, 2) := by decide +kernel
theorem dX3_preferring_20 : decode cX3_preferring 20 = .ok (.ireturn, 1) := by decide +kernel
theorem dX3_preferringPassing_0 : decode cX3_preferringPassing 0 = .ok (.iconst 0, 1) := by decide +kernel
theorem dX3_preferringPassing_1 : decode cX3_preferringPassing 1 = .ok (.istore_n 2, 1) := by decide +kernel
theorem dX3_preferringPassing_2 : decode cX3_preferringPassing 2 = .ok (.iconst 0, 1) := by decide +kernel
theorem dX3_preferringPassing_3 : decode cX3_preferringPassing 3 = .ok (.istore_n 3, 1) := by decide +kernel
theorem dX3_preferringPassing_4 : decode cX3_preferringPassing 4 = .ok (.iload_n 3, 1) := by decide +kernel
theorem dX3_preferringPassing_5 : decode cX3_preferringPassing 5 = .ok (.aload_n 0, 1) := by decide +kernel
theorem dX3_preferringPassing_6 : decode cX3_preferringPassing 6 = .ok (.getfield 10, 3) := by decide +kernel
theorem dX3_preferringPassing_9 : decode cX3_preferringPassing 9 = .ok (.invokevirtual 73, 3) := by decide +kernel
theorem dX3_preferringPassing_12 : decode cX3_preferringPassing 12 = .ok (.if_icmp .ge 40, 3) := by decide +kernel
theorem dX3_preferringPassing_15 : decode cX3_preferringPassing 15 = .ok (.iload_n 1, 1) := by decide +kernel
theorem dX3_preferringPassing_16 : decode cX3_preferringPassing 16 = .ok (.iload_n 3, 1) := by decide +kernel
theorem dX3_preferringPassing_17 : decode cX3_preferringPassing 17 = .ok (.invokestatic 262, 3) := by decide +kernel
theorem dX3_preferringPassing_20 : decode cX3_preferringPassing 20 = .ok (.ifCond .eq 26, 3) := by decide +kernel
theorem dX3_preferringPassing_23 : decode cX3_preferringPassing 23 = .ok (.aload_n 0, 1) := by decide +kernel
theorem dX3_preferringPassing_24 : decode cX3_preferringPassing 24 = .ok (.getfield 10, 3) := by decide +kernel
theorem dX3_preferringPassing_27 : decode cX3_preferringPassing 27 = .ok (.iload_n 3, 1) := by decide +kernel
theorem dX3_preferringPassing_28 : decode cX3_preferringPassing 28 = .ok (.invokevirtual 177, 3) := by decide +kernel
theorem dX3_preferringPassing_31 : decode cX3_preferringPassing 31 = .ok (.checkcast 87, 3) := by decide +kernel
theorem dX3_preferringPassing_34 : decode cX3_preferringPassing 34 = .ok (.getfield 142, 3) := by decide +kernel
theorem dX3_preferringPassing_37 : decode cX3_preferringPassing 37 = .ok (.ifCond .ne 9, 3) := by decide +kernel
theorem dX3_preferringPassing_40 : decode cX3_preferringPassing 40 = .ok (.iload_n 2, 1) := by decide +kernel
theorem dX3_preferringPassing_41 : decode cX3_preferringPassing 41 = .ok (.iconst 1, 1) := by decide +kernel
theorem dX3_preferringPassing_42 : decode cX3_preferringPassing 42 = .ok (.iload_n 3, 1) := by decide +kernel
theorem dX3_preferringPassing_43 : decode cX3_preferringPassing 43 = .ok (.ishl, 1) := by decide +kernel
theorem dX3_preferringPassing_44 : decode cX3_preferringPassing 44 = .ok (.ior, 1) := by decide +kernel
theorem dX3_preferringPassing_45 : decode cX3_preferringPassing 45 = .ok (.istore_n 2, 1) := by decide +kernel
theorem dX3_preferringPassing_46 : decode cX3_preferringPassing 46 = .ok (.iinc 3 1, 3) := by decide +kernel
theorem dX3_preferringPassing_49 : decode cX3_preferringPassing 49 = .ok (.goto (-45), 3) := by decide +kernel
theorem dX3_preferringPassing_52 : decode cX3_preferringPassing 52 = .ok (.iload_n 2, 1) := by decide +kernel
theorem dX3_preferringPassing_53 : decode cX3_preferringPassing 53 = .ok (.ifCond .ne 7, 3) := by decide +kernel
theorem dX3_preferringPassing_56 : decode cX3_preferringPassing 56 = .ok (.iload_n 1, 1) := by decide +kernel
theorem dX3_preferringPassing_57 : decode cX3_preferringPassing 57 = .ok (.goto 4, 3) := by decide +kernel
theorem dX3_preferringPassing_60 : decode cX3_preferringPassing 60 = .ok (.iload_n 2, 1) := by decide +kernel
theorem dX3_preferringPassing_61 : decode cX3_preferringPassing 61 = .ok (.ireturn, 1) := by decide +kernel
theorem dX3_leastFrom_0 : decode cX3_leastFrom 0 = .ok (.ldc_w 266, 3) := by decide +kernel
theorem dX3_leastFrom_3 : decode cX3_leastFrom 3 = .ok (.istore 4, 2) := by decide +kernel
theorem dX3_leastFrom_5 : decode cX3_leastFrom 5 = .ok (.iconst 0, 1) := by decide +kernel
theorem dX3_leastFrom_6 : decode cX3_leastFrom 6 = .ok (.istore 5, 2) := by decide +kernel
theorem dX3_leastFrom_8 : decode cX3_leastFrom 8 = .ok (.iload 5, 2) := by decide +kernel
theorem dX3_leastFrom_10 : decode cX3_leastFrom 10 = .ok (.aload_n 0, 1) := by decide +kernel
theorem dX3_leastFrom_11 : decode cX3_leastFrom 11 = .ok (.getfield 10, 3) := by decide +kernel
theorem dX3_leastFrom_14 : decode cX3_leastFrom 14 = .ok (.invokevirtual 73, 3) := by decide +kernel
theorem dX3_leastFrom_17 : decode cX3_leastFrom 17 = .ok (.if_icmp .ge 54, 3) := by decide +kernel
theorem dX3_leastFrom_20 : decode cX3_leastFrom 20 = .ok (.aload_n 0, 1) := by decide +kernel
theorem dX3_leastFrom_21 : decode cX3_leastFrom 21 = .ok (.getfield 10, 3) := by decide +kernel
theorem dX3_leastFrom_24 : decode cX3_leastFrom 24 = .ok (.iload 5, 2) := by decide +kernel
theorem dX3_leastFrom_26 : decode cX3_leastFrom 26 = .ok (.invokevirtual 177, 3) := by decide +kernel
theorem dX3_leastFrom_29 : decode cX3_leastFrom 29 = .ok (.checkcast 87, 3) := by decide +kernel
theorem dX3_leastFrom_32 : decode cX3_leastFrom 32 = .ok (.getfield 157, 3) := by decide +kernel
theorem dX3_leastFrom_35 : decode cX3_leastFrom 35 = .ok (.iload_n 2, 1) := by decide +kernel
theorem dX3_leastFrom_36 : decode cX3_leastFrom 36 = .ok (.iaload, 1) := by decide +kernel
theorem dX3_leastFrom_37 : decode cX3_leastFrom 37 = .ok (.istore 6, 2) := by decide +kernel
theorem dX3_leastFrom_39 : decode cX3_leastFrom 39 = .ok (.iload_n 1, 1) := by decide +kernel
theorem dX3_leastFrom_40 : decode cX3_leastFrom 40 = .ok (.iload 5, 2) := by decide +kernel
theorem dX3_leastFrom_42 : decode cX3_leastFrom 42 = .ok (.invokestatic 262, 3) := by decide +kernel
theorem dX3_leastFrom_45 : decode cX3_leastFrom 45 = .ok (.ifCond .eq 20, 3) := by decide +kernel
theorem dX3_leastFrom_48 : decode cX3_leastFrom 48 = .ok (.iload 6, 2) := by decide +kernel
theorem dX3_leastFrom_50 : decode cX3_leastFrom 50 = .ok (.iload_n 3, 1) := by decide +kernel
theorem dX3_leastFrom_51 : decode cX3_leastFrom 51 = .ok (.if_icmp .lt 14, 3) := by decide +kernel
theorem dX3_leastFrom_54 : decode cX3_leastFrom 54 = .ok (.iload 6, 2) := by decide +kernel
theorem dX3_leastFrom_56 : decode cX3_leastFrom 56 = .ok (.iload 4, 2) := by decide +kernel
theorem dX3_leastFrom_58 : decode cX3_leastFrom 58 = .ok (.if_icmp .ge 7, 3) := by decide +kernel
theorem dX3_leastFrom_61 : decode cX3_leastFrom 61 = .ok (.iload 6, 2) := by decide +kernel
theorem dX3_leastFrom_63 : decode cX3_leastFrom 63 = .ok (.istore 4, 2) := by decide +kernel
theorem dX3_leastFrom_65 : decode cX3_leastFrom 65 = .ok (.iinc 5 1, 3) := by decide +kernel
theorem dX3_leastFrom_68 : decode cX3_leastFrom 68 = .ok (.goto (-60), 3) := by decide +kernel
theorem dX3_leastFrom_71 : decode cX3_leastFrom 71 = .ok (.iload 4, 2) := by decide +kernel
theorem dX3_leastFrom_73 : decode cX3_leastFrom 73 = .ok (.ireturn, 1) := by decide +kernel
theorem dX3_greatestUpTo_0 : decode cX3_greatestUpTo 0 = .ok (.ldc_w 267, 3) := by decide +kernel
theorem dX3_greatestUpTo_3 : decode cX3_greatestUpTo 3 = .ok (.istore 4, 2) := by decide +kernel
theorem dX3_greatestUpTo_5 : decode cX3_greatestUpTo 5 = .ok (.iconst 0, 1) := by decide +kernel
theorem dX3_greatestUpTo_6 : decode cX3_greatestUpTo 6 = .ok (.istore 5, 2) := by decide +kernel
theorem dX3_greatestUpTo_8 : decode cX3_greatestUpTo 8 = .ok (.iload 5, 2) := by decide +kernel
theorem dX3_greatestUpTo_10 : decode cX3_greatestUpTo 10 = .ok (.aload_n 0, 1) := by decide +kernel
theorem dX3_greatestUpTo_11 : decode cX3_greatestUpTo 11 = .ok (.getfield 10, 3) := by decide +kernel
theorem dX3_greatestUpTo_14 : decode cX3_greatestUpTo 14 = .ok (.invokevirtual 73, 3) := by decide +kernel
theorem dX3_greatestUpTo_17 : decode cX3_greatestUpTo 17 = .ok (.if_icmp .ge 54, 3) := by decide +kernel
theorem dX3_greatestUpTo_20 : decode cX3_greatestUpTo 20 = .ok (.aload_n 0, 1) := by decide +kernel
theorem dX3_greatestUpTo_21 : decode cX3_greatestUpTo 21 = .ok (.getfield 10, 3) := by decide +kernel
theorem dX3_greatestUpTo_24 : decode cX3_greatestUpTo 24 = .ok (.iload 5, 2) := by decide +kernel
theorem dX3_greatestUpTo_26 : decode cX3_greatestUpTo 26 = .ok (.invokevirtual 177, 3) := by decide +kernel
theorem dX3_greatestUpTo_29 : decode cX3_greatestUpTo 29 = .ok (.checkcast 87, 3) := by decide +kernel
theorem dX3_greatestUpTo_32 : decode cX3_greatestUpTo 32 = .ok (.getfield 157, 3) := by decide +kernel
theorem dX3_greatestUpTo_35 : decode cX3_greatestUpTo 35 = .ok (.iload_n 2, 1) := by decide +kernel
theorem dX3_greatestUpTo_36 : decode cX3_greatestUpTo 36 = .ok (.iaload, 1) := by decide +kernel
theorem dX3_greatestUpTo_37 : decode cX3_greatestUpTo 37 = .ok (.istore 6, 2) := by decide +kernel
theorem dX3_greatestUpTo_39 : decode cX3_greatestUpTo 39 = .ok (.iload_n 1, 1) := by decide +kernel
theorem dX3_greatestUpTo_40 : decode cX3_greatestUpTo 40 = .ok (.iload 5, 2) := by decide +kernel
theorem dX3_greatestUpTo_42 : decode cX3_greatestUpTo 42 = .ok (.invokestatic 262, 3) := by decide +kernel
theorem dX3_greatestUpTo_45 : decode cX3_greatestUpTo 45 = .ok (.ifCond .eq 20, 3) := by decide +kernel
theorem dX3_greatestUpTo_48 : decode cX3_greatestUpTo 48 = .ok (.iload 6, 2) := by decide +kernel
theorem dX3_greatestUpTo_50 : decode cX3_greatestUpTo 50 = .ok (.iload_n 3, 1) := by decide +kernel
theorem dX3_greatestUpTo_51 : decode cX3_greatestUpTo 51 = .ok (.if_icmp .gt 14, 3) := by decide +kernel
theorem dX3_greatestUpTo_54 : decode cX3_greatestUpTo 54 = .ok (.iload 6, 2) := by decide +kernel
theorem dX3_greatestUpTo_56 : decode cX3_greatestUpTo 56 = .ok (.iload 4, 2) := by decide +kernel
theorem dX3_greatestUpTo_58 : decode cX3_greatestUpTo 58 = .ok (.if_icmp .le 7, 3) := by decide +kernel
theorem dX3_greatestUpTo_61 : decode cX3_greatestUpTo 61 = .ok (.iload 6, 2) := by decide +kernel
theorem dX3_greatestUpTo_63 : decode cX3_greatestUpTo 63 = .ok (.istore 4, 2) := by decide +kernel
theorem dX3_greatestUpTo_65 : decode cX3_greatestUpTo 65 = .ok (.iinc 5 1, 3) := by decide +kernel
theorem dX3_greatestUpTo_68 : decode cX3_greatestUpTo 68 = .ok (.goto (-60), 3) := by decide +kernel
theorem dX3_greatestUpTo_71 : decode cX3_greatestUpTo 71 = .ok (.iload 4, 2) := by decide +kernel
theorem dX3_greatestUpTo_73 : decode cX3_greatestUpTo 73 = .ok (.ireturn, 1) := by decide +kernel
theorem dX3_nextUp_0 : decode cX3_nextUp 0 = .ok (.aload_n 0, 1) := by decide +kernel
theorem dX3_nextUp_1 : decode cX3_nextUp 1 = .ok (.iload_n 1, 1) := by decide +kernel
theorem dX3_nextUp_2 : decode cX3_nextUp 2 = .ok (.iload_n 2, 1) := by decide +kernel
theorem dX3_nextUp_3 : decode cX3_nextUp 3 = .ok (.iload_n 3, 1) := by decide +kernel
theorem dX3_nextUp_4 : decode cX3_nextUp 4 = .ok (.invokevirtual 268, 3) := by decide +kernel
theorem dX3_nextUp_7 : decode cX3_nextUp 7 = .ok (.istore 4, 2) := by decide +kernel
theorem dX3_nextUp_9 : decode cX3_nextUp 9 = .ok (.iload 4, 2) := by decide +kernel
theorem dX3_nextUp_11 : decode cX3_nextUp 11 = .ok (.ldc_w 266, 3) := by decide +kernel
theorem dX3_nextUp_14 : decode cX3_nextUp 14 = .ok (.if_icmp .ne 13, 3) := by decide +kernel
theorem dX3_nextUp_17 : decode cX3_nextUp 17 = .ok (.aload_n 0, 1) := by decide +kernel
theorem dX3_nextUp_18 : decode cX3_nextUp 18 = .ok (.iload_n 1, 1) := by decide +kernel
theorem dX3_nextUp_19 : decode cX3_nextUp 19 = .ok (.iload_n 2, 1) := by decide +kernel
theorem dX3_nextUp_20 : decode cX3_nextUp 20 = .ok (.iload_n 3, 1) := by decide +kernel
theorem dX3_nextUp_21 : decode cX3_nextUp 21 = .ok (.invokevirtual 271, 3) := by decide +kernel
theorem dX3_nextUp_24 : decode cX3_nextUp 24 = .ok (.goto 5, 3) := by decide +kernel
theorem dX3_nextUp_27 : decode cX3_nextUp 27 = .ok (.iload 4, 2) := by decide +kernel
theorem dX3_nextUp_29 : decode cX3_nextUp 29 = .ok (.ireturn, 1) := by decide +kernel
theorem dX3_nextDown_0 : decode cX3_nextDown 0 = .ok (.aload_n 0, 1) := by decide +kernel
theorem dX3_nextDown_1 : decode cX3_nextDown 1 = .ok (.iload_n 1, 1) := by decide +kernel
theorem dX3_nextDown_2 : decode cX3_nextDown 2 = .ok (.iload_n 2, 1) := by decide +kernel
theorem dX3_nextDown_3 : decode cX3_nextDown 3 = .ok (.iload_n 3, 1) := by decide +kernel
theorem dX3_nextDown_4 : decode cX3_nextDown 4 = .ok (.invokevirtual 271, 3) := by decide +kernel
theorem dX3_nextDown_7 : decode cX3_nextDown 7 = .ok (.istore 4, 2) := by decide +kernel
theorem dX3_nextDown_9 : decode cX3_nextDown 9 = .ok (.iload 4, 2) := by decide +kernel
theorem dX3_nextDown_11 : decode cX3_nextDown 11 = .ok (.ldc_w 267, 3) := by decide +kernel
theorem dX3_nextDown_14 : decode cX3_nextDown 14 = .ok (.if_icmp .ne 13, 3) := by decide +kernel
theorem dX3_nextDown_17 : decode cX3_nextDown 17 = .ok (.aload_n 0, 1) := by decide +kernel
theorem dX3_nextDown_18 : decode cX3_nextDown 18 = .ok (.iload_n 1, 1) := by decide +kernel
theorem dX3_nextDown_19 : decode cX3_nextDown 19 = .ok (.iload_n 2, 1) := by decide +kernel
theorem dX3_nextDown_20 : decode cX3_nextDown 20 = .ok (.iload_n 3, 1) := by decide +kernel
theorem dX3_nextDown_21 : decode cX3_nextDown 21 = .ok (.invokevirtual 268, 3) := by decide +kernel
theorem dX3_nextDown_24 : decode cX3_nextDown 24 = .ok (.goto 5, 3) := by decide +kernel
theorem dX3_nextDown_27 : decode cX3_nextDown 27 = .ok (.iload 4, 2) := by decide +kernel
theorem dX3_nextDown_29 : decode cX3_nextDown 29 = .ok (.ireturn, 1) := by decide +kernel
theorem dX3_nearestHeight_0 : decode cX3_nearestHeight 0 = .ok (.aload_n 0, 1) := by decide +kernel
theorem dX3_nearestHeight_1 : decode cX3_nearestHeight 1 = .ok (.iload_n 1, 1) := by decide +kernel
theorem dX3_nearestHeight_2 : decode cX3_nearestHeight 2 = .ok (.iconst 3, 1) := by decide +kernel
theorem dX3_nearestHeight_3 : decode cX3_nearestHeight 3 = .ok (.iload_n 2, 1) := by decide +kernel
theorem dX3_nearestHeight_4 : decode cX3_nearestHeight 4 = .ok (.invokevirtual 268, 3) := by decide +kernel
theorem dX3_nearestHeight_7 : decode cX3_nearestHeight 7 = .ok (.istore_n 3, 1) := by decide +kernel
theorem dX3_nearestHeight_8 : decode cX3_nearestHeight 8 = .ok (.aload_n 0, 1) := by decide +kernel
theorem dX3_nearestHeight_9 : decode cX3_nearestHeight 9 = .ok (.iload_n 1, 1) := by decide +kernel
theorem dX3_nearestHeight_10 : decode cX3_nearestHeight 10 = .ok (.iconst 3, 1) := by decide +kernel
theorem dX3_nearestHeight_11 : decode cX3_nearestHeight 11 = .ok (.iload_n 2, 1) := by decide +kernel
theorem dX3_nearestHeight_12 : decode cX3_nearestHeight 12 = .ok (.invokevirtual 271, 3) := by decide +kernel
theorem dX3_nearestHeight_15 : decode cX3_nearestHeight 15 = .ok (.istore 4, 2) := by decide +kernel
theorem dX3_nearestHeight_17 : decode cX3_nearestHeight 17 = .ok (.iload_n 3, 1) := by decide +kernel
theorem dX3_nearestHeight_18 : decode cX3_nearestHeight 18 = .ok (.ldc_w 266, 3) := by decide +kernel
theorem dX3_nearestHeight_21 : decode cX3_nearestHeight 21 = .ok (.if_icmp .ne 6, 3) := by decide +kernel
theorem dX3_nearestHeight_24 : decode cX3_nearestHeight 24 = .ok (.iload 4, 2) := by decide +kernel
theorem dX3_nearestHeight_26 : decode cX3_nearestHeight 26 = .ok (.ireturn, 1) := by decide +kernel
theorem dX3_nearestHeight_27 : decode cX3_nearestHeight 27 = .ok (.iload 4, 2) := by decide +kernel
theorem dX3_nearestHeight_29 : decode cX3_nearestHeight 29 = .ok (.ldc_w 267, 3) := by decide +kernel
theorem dX3_nearestHeight_32 : decode cX3_nearestHeight 32 = .ok (.if_icmp .ne 5, 3) := by decide +kernel
theorem dX3_nearestHeight_35 : decode cX3_nearestHeight 35 = .ok (.iload_n 3, 1) := by decide +kernel
theorem dX3_nearestHeight_36 : decode cX3_nearestHeight 36 = .ok (.ireturn, 1) := by decide +kernel
theorem dX3_nearestHeight_37 : decode cX3_nearestHeight 37 = .ok (.iload_n 3, 1) := by decide +kernel
theorem dX3_nearestHeight_38 : decode cX3_nearestHeight 38 = .ok (.iload_n 2, 1) := by decide +kernel
theorem dX3_nearestHeight_39 : decode cX3_nearestHeight 39 = .ok (.isub, 1) := by decide +kernel
theorem dX3_nearestHeight_40 : decode cX3_nearestHeight 40 = .ok (.iload_n 2, 1) := by decide +kernel
theorem dX3_nearestHeight_41 : decode cX3_nearestHeight 41 = .ok (.iload 4, 2) := by decide +kernel
theorem dX3_nearestHeight_43 : decode cX3_nearestHeight 43 = .ok (.isub, 1) := by decide +kernel
theorem dX3_nearestHeight_44 : decode cX3_nearestHeight 44 = .ok (.if_icmp .gt 7, 3) := by decide +kernel
theorem dX3_nearestHeight_47 : decode cX3_nearestHeight 47 = .ok (.iload_n 3, 1) := by decide +kernel
theorem dX3_nearestHeight_48 : decode cX3_nearestHeight 48 = .ok (.goto 5, 3) := by decide +kernel
theorem dX3_nearestHeight_51 : decode cX3_nearestHeight 51 = .ok (.iload 4, 2) := by decide +kernel
theorem dX3_nearestHeight_53 : decode cX3_nearestHeight 53 = .ok (.ireturn, 1) := by decide +kernel
end
section
theorem dX4_init_0 : decode cX4_init 0 = .ok (.aload_n 0, 1) := by decide +kernel
theorem dX4_init_1 : decode cX4_init 1 = .ok (.invokespecial 1, 3) := by decide +kernel
theorem dX4_init_4 : decode cX4_init 4 = .ok (.aload_n 0, 1) := by decide +kernel
theorem dX4_init_5 : decode cX4_init 5 = .ok (.bipush 33, 2) := by decide +kernel
theorem dX4_init_7 : decode cX4_init 7 = .ok (.newarray .int, 2) := by decide +kernel
theorem dX4_init_9 : decode cX4_init 9 = .ok (.putfield 7, 3) := by decide +kernel
theorem dX4_init_12 : decode cX4_init 12 = .ok (.aload_n 0, 1) := by decide +kernel
theorem dX4_init_13 : decode cX4_init 13 = .ok (.sipush 231, 3) := by decide +kernel
theorem dX4_init_16 : decode cX4_init 16 = .ok (.newarray .int, 2) := by decide +kernel
theorem dX4_init_18 : decode cX4_init 18 = .ok (.putfield 13, 3) := by decide +kernel
theorem dX4_init_21 : decode cX4_init 21 = .ok (.aload_n 0, 1) := by decide +kernel
theorem dX4_init_22 : decode cX4_init 22 = .ok (.bipush 33, 2) := by decide +kernel
theorem dX4_init_24 : decode cX4_init 24 = .ok (.newarray .boolean, 2) := by decide +kernel
theorem dX4_init_26 : decode cX4_init 26 = .ok (.putfield 16, 3) := by decide +kernel
theorem dX4_init_29 : decode cX4_init 29 = .ok (.aload_n 0, 1) := by decide +kernel
theorem dX4_init_30 : decode cX4_init 30 = .ok (.sipush 1799, 3) := by decide +kernel
theorem dX4_init_33 : decode cX4_init 33 = .ok (.newarray .int, 2) := by decide +kernel
theorem dX4_init_35 : decode cX4_init 35 = .ok (.putfield 20, 3) := by decide +kernel
theorem dX4_init_38 : decode cX4_init 38 = .ok (.aload_n 0, 1) := by decide +kernel
theorem dX4_init_39 : decode cX4_init 39 = .ok (.sipush 20000, 3) := by decide +kernel
theorem dX4_init_42 : decode cX4_init 42 = .ok (.newarray .byte, 2) := by decide +kernel
theorem dX4_init_44 : decode cX4_init 44 = .ok (.putfield 23, 3) := by decide +kernel
theorem dX4_init_47 : decode cX4_init 47 = .ok (.aload_n 0, 1) := by decide +kernel
theorem dX4_init_48 : decode cX4_init 48 = .ok (.bipush 7, 2) := by decide +kernel
theorem dX4_init_50 : decode cX4_init 50 = .ok (.newarray .int, 2) := by decide +kernel
theorem dX4_init_52 : decode cX4_init 52 = .ok (.dup, 1) := by decide +kernel
theorem dX4_init_53 : decode cX4_init 53 = .ok (.iconst 0, 1) := by decide +kernel
theorem dX4_init_54 : decode cX4_init 54 = .ok (.sipush 277, 3) := by decide +kernel
theorem dX4_init_57 : decode cX4_init 57 = .ok (.iastore, 1) := by decide +kernel
theorem dX4_init_58 : decode cX4_init 58 = .ok (.dup, 1) := by decide +kernel
theorem dX4_init_59 : decode cX4_init 59 = .ok (.iconst 1, 1) := by decide +kernel
theorem dX4_init_60 : decode cX4_init 60 = .ok (.iconst 0, 1) := by decide +kernel
theorem dX4_init_61 : decode cX4_init 61 = .ok (.iastore, 1) := by decide +kernel
theorem dX4_init_62 : decode cX4_init 62 = .ok (.dup, 1) := by decide +kernel
theorem dX4_init_63 : decode cX4_init 63 = .ok (.iconst 2, 1) := by decide +kernel
theorem dX4_init_64 : decode cX4_init 64 = .ok (.sipush 1000, 3) := by decide +kernel
theorem dX4_init_67 : decode cX4_init 67 = .ok (.iastore, 1) := by decide +kernel
theorem dX4_init_68 : decode cX4_init 68 = .ok (.dup, 1) := by decide +kernel
theorem dX4_init_69 : decode cX4_init 69 = .ok (.iconst 3, 1) := by decide +kernel
theorem dX4_init_70 : decode cX4_init 70 = .ok (.sipush 1200, 3) := by decide +kernel
theorem dX4_init_73 : decode cX4_init 73 = .ok (.iastore, 1) := by decide +kernel
theorem dX4_init_74 : decode cX4_init 74 = .ok (.dup, 1) := by decide +kernel
theorem dX4_init_75 : decode cX4_init 75 = .ok (.iconst 4, 1) := by decide +kernel
theorem dX4_init_76 : decode cX4_init 76 = .ok (.iconst 0, 1) := by decide +kernel
theorem dX4_init_77 : decode cX4_init 77 = .ok (.iastore, 1) := by decide +kernel
theorem dX4_init_78 : decode cX4_init 78 = .ok (.dup, 1) := by decide +kernel
theorem dX4_init_79 : decode cX4_init 79 = .ok (.iconst 5, 1) := by decide +kernel
theorem dX4_init_80 : decode cX4_init 80 = .ok (.iconst 0, 1) := by decide +kernel
theorem dX4_init_81 : decode cX4_init 81 = .ok (.iastore, 1) := by decide +kernel
theorem dX4_init_82 : decode cX4_init 82 = .ok (.dup, 1) := by decide +kernel
theorem dX4_init_83 : decode cX4_init 83 = .ok (.bipush 6, 2) := by decide +kernel
theorem dX4_init_85 : decode cX4_init 85 = .ok (.iconst 3, 1) := by decide +kernel
theorem dX4_init_86 : decode cX4_init 86 = .ok (.iastore, 1) := by decide +kernel
theorem dX4_init_87 : decode cX4_init 87 = .ok (.putfield 27, 3) := by decide +kernel
theorem dX4_init_90 : decode cX4_init 90 = .ok (.aload_n 0, 1) := by decide +kernel
theorem dX4_init_91 : decode cX4_init 91 = .ok (.bipush 14, 2) := by decide +kernel
theorem dX4_init_93 : decode cX4_init 93 = .ok (.newarray .int, 2) := by decide +kernel
theorem dX4_init_95 : decode cX4_init 95 = .ok (.dup, 1) := by decide +kernel
theorem dX4_init_96 : decode cX4_init 96 = .ok (.iconst 0, 1) := by decide +kernel
theorem dX4_init_97 : decode cX4_init 97 = .ok (.sipush 277, 3) := by decide +kernel
theorem dX4_init_100 : decode cX4_init 100 = .ok (.iastore, 1) := by decide +kernel
theorem dX4_init_101 : decode cX4_init 101 = .ok (.dup, 1) := by decide +kernel
theorem dX4_init_102 : decode cX4_init 102 = .ok (.iconst 1, 1) := by decide +kernel
theorem dX4_init_103 : decode cX4_init 103 = .ok (.iconst 0, 1) := by decide +kernel
theorem dX4_init_104 : decode cX4_init 104 = .ok (.iastore, 1) := by decide +kernel
theorem dX4_init_105 : decode cX4_init 105 = .ok (.dup, 1) := by decide +kernel
theorem dX4_init_106 : decode cX4_init 106 = .ok (.iconst 2, 1) := by decide +kernel
theorem dX4_init_107 : decode cX4_init 107 = .ok (.sipush 1000, 3) := by decide +kernel
theorem dX4_init_110 : decode cX4_init 110 = .ok (.iastore, 1) := by decide +kernel
theorem dX4_init_111 : decode cX4_init 111 = .ok (.dup, 1) := by decide +kernel
theorem dX4_init_112 : decode cX4_init 112 = .ok (.iconst 3, 1) := by decide +kernel
theorem dX4_init_113 : decode cX4_init 113 = .ok (.sipush 1200, 3) := by decide +kernel
theorem dX4_init_116 : decode cX4_init 116 = .ok (.iastore, 1) := by decide +kernel
theorem dX4_init_117 : decode cX4_init 117 = .ok (.dup, 1) := by decide +kernel
theorem dX4_init_118 : decode cX4_init 118 = .ok (.iconst 4, 1) := by decide +kernel
theorem dX4_init_119 : decode cX4_init 119 = .ok (.iconst 0, 1) := by decide +kernel
theorem dX4_init_120 : decode cX4_init 120 = .ok (.iastore, 1) := by decide +kernel
theorem dX4_init_121 : decode cX4_init 121 = .ok (.dup, 1) := by decide +kernel
theorem dX4_init_122 : decode cX4_init 122 = .ok (.iconst 5, 1) := by decide +kernel
theorem dX4_init_123 : decode cX4_init 123 = .ok (.iconst 0, 1) := by decide +kernel
theorem dX4_init_124 : decode cX4_init 124 = .ok (.iastore, 1) := by decide +kernel
theorem dX4_init_125 : decode cX4_init 125 = .ok (.dup, 1) := by decide +kernel
theorem dX4_init_126 : decode cX4_init 126 = .ok (.bipush 6, 2) := by decide +kernel
theorem dX4_init_128 : decode cX4_init 128 = .ok (.iconst 3, 1) := by decide +kernel
theorem dX4_init_129 : decode cX4_init 129 = .ok (.iastore, 1) := by decide +kernel
theorem dX4_init_130 : decode cX4_init 130 = .ok (.dup, 1) := by decide +kernel
theorem dX4_init_131 : decode cX4_init 131 = .ok (.bipush 7, 2) := by decide +kernel
theorem dX4_init_133 : decode cX4_init 133 = .ok (.sipush 277, 3) := by decide +kernel
theorem dX4_init_136 : decode cX4_init 136 = .ok (.iastore, 1) := by decide +kernel
theorem dX4_init_137 : decode cX4_init 137 = .ok (.dup, 1) := by decide +kernel
theorem dX4_init_138 : decode cX4_init 138 = .ok (.bipush 8, 2) := by decide +kernel
theorem dX4_init_140 : decode cX4_init 140 = .ok (.iconst 0, 1) := by decide +kernel
theorem dX4_init_141 : decode cX4_init 141 = .ok (.iastore, 1) := by decide +kernel
theorem dX4_init_142 : decode cX4_init 142 = .ok (.dup, 1) := by decide +kernel
theorem dX4_init_143 : decode cX4_init 143 = .ok (.bipush 9, 2) := by decide +kernel
theorem dX4_init_145 : decode cX4_init 145 = .ok (.sipush 1000, 3) := by decide +kernel
theorem dX4_init_148 : decode cX4_init 148 = .ok (.iastore, 1) := by decide +kernel
theorem dX4_init_149 : decode cX4_init 149 = .ok (.dup, 1) := by decide +kernel
theorem dX4_init_150 : decode cX4_init 150 = .ok (.bipush 10, 2) := by decide +kernel
theorem dX4_init_152 : decode cX4_init 152 = .ok (.sipush 1200, 3) := by decide +kernel
theorem dX4_init_155 : decode cX4_init 155 = .ok (.iastore, 1) := by decide +kernel
theorem dX4_init_156 : decode cX4_init 156 = .ok (.dup, 1) := by decide +kernel
theorem dX4_init_157 : decode cX4_init 157 = .ok (.bipush 11, 2) := by decide +kernel
theorem dX4_init_159 : decode cX4_init 159 = .ok (.iconst 0, 1) := by decide +kernel
theorem dX4_init_160 : decode cX4_init 160 = .ok (.iastore, 1) := by decide +kernel
theorem dX4_init_161 : decode cX4_init 161 = .ok (.dup, 1) := by decide +kernel
theorem dX4_init_162 : decode cX4_init 162 = .ok (.bipush 12, 2) := by decide +kernel
theorem dX4_init_164 : decode cX4_init 164 = .ok (.iconst 0, 1) := by decide +kernel
theorem dX4_init_165 : decode cX4_init 165 = .ok (.iastore, 1) := by decide +kernel
theorem dX4_init_166 : decode cX4_init 166 = .ok (.dup, 1) := by decide +kernel
theorem dX4_init_167 : decode cX4_init 167 = .ok (.bipush 13, 2) := by decide +kernel
theorem dX4_init_169 : decode cX4_init 169 = .ok (.iconst 3, 1) := by decide +kernel
theorem dX4_init_170 : decode cX4_init 170 = .ok (.iastore, 1) := by decide +kernel
theorem dX4_init_171 : decode cX4_init 171 = .ok (.putfield 30, 3) := by decide +kernel
theorem dX4_init_174 : decode cX4_init 174 = .ok (.aload_n 0, 1) := by decide +kernel
theorem dX4_init_175 : decode cX4_init 175 = .ok (.iconst 2, 1) := by decide +kernel
theorem dX4_init_176 : decode cX4_init 176 = .ok (.newarray .int, 2) := by decide +kernel
theorem dX4_init_178 : decode cX4_init 178 = .ok (.dup, 1) := by decide +kernel
theorem dX4_init_179 : decode cX4_init 179 = .ok (.iconst 0, 1) := by decide +kernel
theorem dX4_init_180 : decode cX4_init 180 = .ok (.iconst (-1), 1) := by decide +kernel
theorem dX4_init_181 : decode cX4_init 181 = .ok (.iastore, 1) := by decide +kernel
theorem dX4_init_182 : decode cX4_init 182 = .ok (.dup, 1) := by decide +kernel
theorem dX4_init_183 : decode cX4_init 183 = .ok (.iconst 1, 1) := by decide +kernel
theorem dX4_init_184 : decode cX4_init 184 = .ok (.iconst (-1), 1) := by decide +kernel
theorem dX4_init_185 : decode cX4_init 185 = .ok (.iastore, 1) := by decide +kernel
theorem dX4_init_186 : decode cX4_init 186 = .ok (.putfield 33, 3) := by decide +kernel
theorem dX4_init_189 : decode cX4_init 189 = .ok (.aload_n 0, 1) := by decide +kernel
theorem dX4_init_190 : decode cX4_init 190 = .ok (.iconst 5, 1) := by decide +kernel
theorem dX4_init_191 : decode cX4_init 191 = .ok (.newarray .int, 2) := by decide +kernel
theorem dX4_init_193 : decode cX4_init 193 = .ok (.putfield 36, 3) := by decide +kernel
theorem dX4_init_196 : decode cX4_init 196 = .ok (.aload_n 0, 1) := by decide +kernel
theorem dX4_init_197 : decode cX4_init 197 = .ok (.sipush 2048, 3) := by decide +kernel
theorem dX4_init_200 : decode cX4_init 200 = .ok (.newarray .byte, 2) := by decide +kernel
theorem dX4_init_202 : decode cX4_init 202 = .ok (.putfield 39, 3) := by decide +kernel
theorem dX4_init_205 : decode cX4_init 205 = .ok (.aload_n 0, 1) := by decide +kernel
theorem dX4_init_206 : decode cX4_init 206 = .ok (.bipush 32, 2) := by decide +kernel
theorem dX4_init_208 : decode cX4_init 208 = .ok (.newarray .boolean, 2) := by decide +kernel
theorem dX4_init_210 : decode cX4_init 210 = .ok (.putfield 42, 3) := by decide +kernel
theorem dX4_init_213 : decode cX4_init 213 = .ok (.return_, 1) := by decide +kernel
theorem dX4_thrown_0 : decode cX4_thrown 0 = .ok (.aload_n 0, 1) := by decide +kernel
theorem dX4_thrown_1 : decode cX4_thrown 1 = .ok (.getfield 45, 3) := by decide +kernel
theorem dX4_thrown_4 : decode cX4_thrown 4 = .ok (.ireturn, 1) := by decide +kernel
theorem dX4_fits_0 : decode cX4_fits 0 = .ok (.iload_n 0, 1) := by decide +kernel
theorem dX4_fits_1 : decode cX4_fits 1 = .ok (.tableswitch 140 0 5 #[39, 56, 71, 88, 105, 122], 39) := by decide +kernel
theorem dX4_fits_40 : decode cX4_fits 40 = .ok (.iload_n 1, 1) := by decide +kernel
theorem dX4_fits_41 : decode cX4_fits 41 = .ok (.ifCond .lt 14, 3) := by decide +kernel
theorem dX4_fits_44 : decode cX4_fits 44 = .ok (.iload_n 1, 1) := by decide +kernel
theorem dX4_fits_45 : decode cX4_fits 45 = .ok (.sipush 2047, 3) := by decide +kernel
theorem dX4_fits_48 : decode cX4_fits 48 = .ok (.if_icmp .gt 7, 3) := by decide +kernel
theorem dX4_fits_51 : decode cX4_fits 51 = .ok (.iconst 1, 1) := by decide +kernel
theorem dX4_fits_52 : decode cX4_fits 52 = .ok (.goto 4, 3) := by decide +kernel
theorem dX4_fits_55 : decode cX4_fits 55 = .ok (.iconst 0, 1) := by decide +kernel
theorem dX4_fits_56 : decode cX4_fits 56 = .ok (.ireturn, 1) := by decide +kernel
theorem dX4_fits_57 : decode cX4_fits 57 = .ok (.iload_n 1, 1) := by decide +kernel
theorem dX4_fits_58 : decode cX4_fits 58 = .ok (.ifCond .eq 8, 3) := by decide +kernel
theorem dX4_fits_61 : decode cX4_fits 61 = .ok (.iload_n 1, 1) := by decide +kernel
theorem dX4_fits_62 : decode cX4_fits 62 = .ok (.iconst 1, 1) := by decide +kernel
theorem dX4_fits_63 : decode cX4_fits 63 = .ok (.if_icmp .ne 7, 3) := by decide +kernel
theorem dX4_fits_66 : decode cX4_fits 66 = .ok (.iconst 1, 1) := by decide +kernel
theorem dX4_fits_67 : decode cX4_fits 67 = .ok (.goto 4, 3) := by decide +kernel
theorem dX4_fits_70 : decode cX4_fits 70 = .ok (.iconst 0, 1) := by decide +kernel
theorem dX4_fits_71 : decode cX4_fits 71 = .ok (.ireturn, 1) := by decide +kernel
theorem dX4_fits_72 : decode cX4_fits 72 = .ok (.iload_n 1, 1) := by decide +kernel
theorem dX4_fits_73 : decode cX4_fits 73 = .ok (.iconst 1, 1) := by decide +kernel
theorem dX4_fits_74 : decode cX4_fits 74 = .ok (.if_icmp .lt 13, 3) := by decide +kernel
theorem dX4_fits_77 : decode cX4_fits 77 = .ok (.iload_n 1, 1) := by decide +kernel
theorem dX4_fits_78 : decode cX4_fits 78 = .ok (.ldc 49, 2) := by decide +kernel
theorem dX4_fits_80 : decode cX4_fits 80 = .ok (.if_icmp .gt 7, 3) := by decide +kernel
theorem dX4_fits_83 : decode cX4_fits 83 = .ok (.iconst 1, 1) := by decide +kernel
theorem dX4_fits_84 : decode cX4_fits 84 = .ok (.goto 4, 3) := by decide +kernel
theorem dX4_fits_87 : decode cX4_fits 87 = .ok (.iconst 0, 1) := by decide +kernel
theorem dX4_fits_88 : decode cX4_fits 88 = .ok (.ireturn, 1) := by decide +kernel
theorem dX4_fits_89 : decode cX4_fits 89 = .ok (.iload_n 1, 1) := by decide +kernel
theorem dX4_fits_90 : decode cX4_fits 90 = .ok (.iconst 1, 1) := by decide +kernel
theorem dX4_fits_91 : decode cX4_fits 91 = .ok (.if_icmp .lt 13, 3) := by decide +kernel
theorem dX4_fits_94 : decode cX4_fits 94 = .ok (.iload_n 1, 1) := by decide +kernel
theorem dX4_fits_95 : decode cX4_fits 95 = .ok (.ldc 50, 2) := by decide +kernel
theorem dX4_fits_97 : decode cX4_fits 97 = .ok (.if_icmp .gt 7, 3) := by decide +kernel
theorem dX4_fits_100 : decode cX4_fits 100 = .ok (.iconst 1, 1) := by decide +kernel
theorem dX4_fits_101 : decode cX4_fits 101 = .ok (.goto 4, 3) := by decide +kernel
theorem dX4_fits_104 : decode cX4_fits 104 = .ok (.iconst 0, 1) := by decide +kernel
theorem dX4_fits_105 : decode cX4_fits 105 = .ok (.ireturn, 1) := by decide +kernel
theorem dX4_fits_106 : decode cX4_fits 106 = .ok (.iload_n 1, 1) := by decide +kernel
theorem dX4_fits_107 : decode cX4_fits 107 = .ok (.ifCond .lt 14, 3) := by decide +kernel
theorem dX4_fits_110 : decode cX4_fits 110 = .ok (.iload_n 1, 1) := by decide +kernel
theorem dX4_fits_111 : decode cX4_fits 111 = .ok (.sipush 32767, 3) := by decide +kernel
theorem dX4_fits_114 : decode cX4_fits 114 = .ok (.if_icmp .gt 7, 3) := by decide +kernel
theorem dX4_fits_117 : decode cX4_fits 117 = .ok (.iconst 1, 1) := by decide +kernel
theorem dX4_fits_118 : decode cX4_fits 118 = .ok (.goto 4, 3) := by decide +kernel
theorem dX4_fits_121 : decode cX4_fits 121 = .ok (.iconst 0, 1) := by decide +kernel
theorem dX4_fits_122 : decode cX4_fits 122 = .ok (.ireturn, 1) := by decide +kernel
theorem dX4_fits_123 : decode cX4_fits 123 = .ok (.iload_n 1, 1) := by decide +kernel
theorem dX4_fits_124 : decode cX4_fits 124 = .ok (.bipush (-7), 2) := by decide +kernel
theorem dX4_fits_126 : decode cX4_fits 126 = .ok (.if_icmp .lt 13, 3) := by decide +kernel
theorem dX4_fits_129 : decode cX4_fits 129 = .ok (.iload_n 1, 1) := by decide +kernel
theorem dX4_fits_130 : decode cX4_fits 130 = .ok (.bipush 7, 2) := by decide +kernel
theorem dX4_fits_132 : decode cX4_fits 132 = .ok (.if_icmp .gt 7, 3) := by decide +kernel
theorem dX4_fits_135 : decode cX4_fits 135 = .ok (.iconst 1, 1) := by decide +kernel
theorem dX4_fits_136 : decode cX4_fits 136 = .ok (.goto 4, 3) := by decide +kernel
theorem dX4_fits_139 : decode cX4_fits 139 = .ok (.iconst 0, 1) := by decide +kernel
theorem dX4_fits_140 : decode cX4_fits 140 = .ok (.ireturn, 1) := by decide +kernel
theorem dX4_fits_141 : decode cX4_fits 141 = .ok (.iload_n 0, 1) := by decide +kernel
theorem dX4_fits_142 : decode cX4_fits 142 = .ok (.bipush 6, 2) := by decide +kernel
theorem dX4_fits_144 : decode cX4_fits 144 = .ok (.if_icmp .ne 17, 3) := by decide +kernel
theorem dX4_fits_147 : decode cX4_fits 147 = .ok (.iload_n 1, 1) := by decide +kernel
theorem dX4_fits_148 : decode cX4_fits 148 = .ok (.ifCond .lt 13, 3) := by decide +kernel
theorem dX4_fits_151 : decode cX4_fits 151 = .ok (.iload_n 1, 1) := by decide +kernel
theorem dX4_fits_152 : decode cX4_fits 152 = .ok (.ldc 51, 2) := by decide +kernel
theorem dX4_fits_154 : decode cX4_fits 154 = .ok (.if_icmp .gt 7, 3) := by decide +kernel
theorem dX4_fits_157 : decode cX4_fits 157 = .ok (.iconst 1, 1) := by decide +kernel
theorem dX4_fits_158 : decode cX4_fits 158 = .ok (.goto 4, 3) := by decide +kernel
theorem dX4_fits_161 : decode cX4_fits 161 = .ok (.iconst 0, 1) := by decide +kernel
theorem dX4_fits_162 : decode cX4_fits 162 = .ok (.ireturn, 1) := by decide +kernel
theorem dX4_hand_0 : decode cX4_hand 0 = .ok (.aload_n 0, 1) := by decide +kernel
theorem dX4_hand_1 : decode cX4_hand 1 = .ok (.iconst 0, 1) := by decide +kernel
theorem dX4_hand_2 : decode cX4_hand 2 = .ok (.putfield 45, 3) := by decide +kernel
theorem dX4_hand_5 : decode cX4_hand 5 = .ok (.iload_n 2, 1) := by decide +kernel
theorem dX4_hand_6 : decode cX4_hand 6 = .ok (.ifCond .lt 20, 3) := by decide +kernel
theorem dX4_hand_9 : decode cX4_hand 9 = .ok (.iload_n 2, 1) := by decide +kernel
theorem dX4_hand_10 : decode cX4_hand 10 = .ok (.iload_n 1, 1) := by decide +kernel
theorem dX4_hand_11 : decode cX4_hand 11 = .ok (.ifCond .eq 9, 3) := by decide +kernel
theorem dX4_hand_14 : decode cX4_hand 14 = .ok (.sipush 255, 3) := by decide +kernel
theorem dX4_hand_17 : decode cX4_hand 17 = .ok (.goto 6, 3) := by decide +kernel
theorem dX4_hand_20 : decode cX4_hand 20 = .ok (.sipush 32767, 3) := by decide +kernel
theorem dX4_hand_23 : decode cX4_hand 23 = .ok (.if_icmp .le 5, 3) := by decide +kernel
theorem dX4_hand_26 : decode cX4_hand 26 = .ok (.iconst 0, 1) := by decide +kernel
theorem dX4_hand_27 : decode cX4_hand 27 = .ok (.ireturn, 1) := by decide +kernel
theorem dX4_hand_28 : decode cX4_hand 28 = .ok (.aload_n 0, 1) := by decide +kernel
theorem dX4_hand_29 : decode cX4_hand 29 = .ok (.iload_n 1, 1) := by decide +kernel
theorem dX4_hand_30 : decode cX4_hand 30 = .ok (.ifCond .eq 7, 3) := by decide +kernel
theorem dX4_hand_33 : decode cX4_hand 33 = .ok (.iload_n 2, 1) := by decide +kernel
theorem dX4_hand_34 : decode cX4_hand 34 = .ok (.goto 7, 3) := by decide +kernel
theorem dX4_hand_37 : decode cX4_hand 37 = .ok (.aload_n 0, 1) := by decide +kernel
theorem dX4_hand_38 : decode cX4_hand 38 = .ok (.getfield 52, 3) := by decide +kernel
theorem dX4_hand_41 : decode cX4_hand 41 = .ok (.putfield 52, 3) := by decide +kernel
theorem dX4_hand_44 : decode cX4_hand 44 = .ok (.aload_n 0, 1) := by decide +kernel
theorem dX4_hand_45 : decode cX4_hand 45 = .ok (.iload_n 1, 1) := by decide +kernel
theorem dX4_hand_46 : decode cX4_hand 46 = .ok (.ifCond .eq 10, 3) := by decide +kernel
theorem dX4_hand_49 : decode cX4_hand 49 = .ok (.aload_n 0, 1) := by decide +kernel
theorem dX4_hand_50 : decode cX4_hand 50 = .ok (.getfield 55, 3) := by decide +kernel
theorem dX4_hand_53 : decode cX4_hand 53 = .ok (.goto 4, 3) := by decide +kernel
theorem dX4_hand_56 : decode cX4_hand 56 = .ok (.iload_n 2, 1) := by decide +kernel
theorem dX4_hand_57 : decode cX4_hand 57 = .ok (.putfield 55, 3) := by decide +kernel
theorem dX4_hand_60 : decode cX4_hand 60 = .ok (.aload_n 0, 1) := by decide +kernel
theorem dX4_hand_61 : decode cX4_hand 61 = .ok (.iconst 0, 1) := by decide +kernel
theorem dX4_hand_62 : decode cX4_hand 62 = .ok (.putfield 58, 3) := by decide +kernel
theorem dX4_hand_65 : decode cX4_hand 65 = .ok (.iconst 1, 1) := by decide +kernel
theorem dX4_hand_66 : decode cX4_hand 66 = .ok (.ireturn, 1) := by decide +kernel
theorem dX4_attribute_0 : decode cX4_attribute 0 = .ok (.aload_n 0, 1) := by decide +kernel
theorem dX4_attribute_1 : decode cX4_attribute 1 = .ok (.iconst 0, 1) := by decide +kernel
theorem dX4_attribute_2 : decode cX4_attribute 2 = .ok (.putfield 45, 3) := by decide +kernel
theorem dX4_attribute_5 : decode cX4_attribute 5 = .ok (.iload_n 3, 1) := by decide +kernel
theorem dX4_attribute_6 : decode cX4_attribute 6 = .ok (.iload 4, 2) := by decide +kernel
theorem dX4_attribute_8 : decode cX4_attribute 8 = .ok (.invokestatic 62, 3) := by decide +kernel
theorem dX4_attribute_11 : decode cX4_attribute 11 = .ok (.ifCond .eq 16, 3) := by decide +kernel
theorem dX4_attribute_14 : decode cX4_attribute 14 = .ok (.iload_n 1, 1) := by decide +kernel
theorem dX4_attribute_15 : decode cX4_attribute 15 = .ok (.ifCond .eq 14, 3) := by decide +kernel
theorem dX4_attribute_18 : decode cX4_attribute 18 = .ok (.iload_n 2, 1) := by decide +kernel
theorem dX4_attribute_19 : decode cX4_attribute 19 = .ok (.ifCond .eq 10, 3) := by decide +kernel
theorem dX4_attribute_22 : decode cX4_attribute 22 = .ok (.iload_n 2, 1) := by decide +kernel
theorem dX4_attribute_23 : decode cX4_attribute 23 = .ok (.iconst 1, 1) := by decide +kernel
theorem dX4_attribute_24 : decode cX4_attribute 24 = .ok (.if_icmp .eq 5, 3) := by decide +kernel
theorem dX4_attribute_27 : decode cX4_attribute 27 = .ok (.iconst 0, 1) := by decide +kernel
theorem dX4_attribute_28 : decode cX4_attribute 28 = .ok (.ireturn, 1) := by decide +kernel
theorem dX4_attribute_29 : decode cX4_attribute 29 = .ok (.iload_n 1, 1) := by decide +kernel
theorem dX4_attribute_30 : decode cX4_attribute 30 = .ok (.ifCond .eq 26, 3) := by decide +kernel
theorem dX4_attribute_33 : decode cX4_attribute 33 = .ok (.aload_n 0, 1) := by decide +kernel
theorem dX4_attribute_34 : decode cX4_attribute 34 = .ok (.getfield 30, 3) := by decide +kernel
theorem dX4_attribute_37 : decode cX4_attribute 37 = .ok (.bipush 7, 2) := by decide +kernel
theorem dX4_attribute_39 : decode cX4_attribute 39 = .ok (.iload_n 2, 1) := by decide +kernel
theorem dX4_attribute_40 : decode cX4_attribute 40 = .ok (.imul, 1) := by decide +kernel
theorem dX4_attribute_41 : decode cX4_attribute 41 = .ok (.iload_n 3, 1) := by decide +kernel
theorem dX4_attribute_42 : decode cX4_attribute 42 = .ok (.iadd, 1) := by decide +kernel
theorem dX4_attribute_43 : decode cX4_attribute 43 = .ok (.iload 4, 2) := by decide +kernel
theorem dX4_attribute_45 : decode cX4_attribute 45 = .ok (.iastore, 1) := by decide +kernel
theorem dX4_attribute_46 : decode cX4_attribute 46 = .ok (.aload_n 0, 1) := by decide +kernel
theorem dX4_attribute_47 : decode cX4_attribute 47 = .ok (.getfield 33, 3) := by decide +kernel
theorem dX4_attribute_50 : decode cX4_attribute 50 = .ok (.iload_n 2, 1) := by decide +kernel
theorem dX4_attribute_51 : decode cX4_attribute 51 = .ok (.iconst (-1), 1) := by decide +kernel
theorem dX4_attribute_52 : decode cX4_attribute 52 = .ok (.iastore, 1) := by decide +kernel
theorem dX4_attribute_53 : decode cX4_attribute 53 = .ok (.goto 11, 3) := by decide +kernel
theorem dX4_attribute_56 : decode cX4_attribute 56 = .ok (.aload_n 0, 1) := by decide +kernel
theorem dX4_attribute_57 : decode cX4_attribute 57 = .ok (.getfield 27, 3) := by decide +kernel
theorem dX4_attribute_60 : decode cX4_attribute 60 = .ok (.iload_n 3, 1) := by decide +kernel
theorem dX4_attribute_61 : decode cX4_attribute 61 = .ok (.iload 4, 2) := by decide +kernel
theorem dX4_attribute_63 : decode cX4_attribute 63 = .ok (.iastore, 1) := by decide +kernel
theorem dX4_attribute_64 : decode cX4_attribute 64 = .ok (.iconst 1, 1) := by decide +kernel
theorem dX4_attribute_65 : decode cX4_attribute 65 = .ok (.ireturn, 1) := by decide +kernel
theorem dX4_fontOf_0 : decode cX4_fontOf 0 = .ok (.iconst (-1), 1) := by decide +kernel
theorem dX4_fontOf_1 : decode cX4_fontOf 1 = .ok (.istore_n 2, 1) := by decide +kernel
theorem dX4_fontOf_2 : decode cX4_fontOf 2 = .ok (.iconst 0, 1) := by decide +kernel
theorem dX4_fontOf_3 : decode cX4_fontOf 3 = .ok (.istore_n 3, 1) := by decide +kernel
theorem dX4_fontOf_4 : decode cX4_fontOf 4 = .ok (.iload_n 3, 1) := by decide +kernel
theorem dX4_fontOf_5 : decode cX4_fontOf 5 = .ok (.aload_n 0, 1) := by decide +kernel
theorem dX4_fontOf_6 : decode cX4_fontOf 6 = .ok (.getfield 66, 3) := by decide +kernel
theorem dX4_fontOf_9 : decode cX4_fontOf 9 = .ok (.if_icmp .ge 25, 3) := by decide +kernel
theorem dX4_fontOf_12 : decode cX4_fontOf 12 = .ok (.aload_n 0, 1) := by decide +kernel
theorem dX4_fontOf_13 : decode cX4_fontOf 13 = .ok (.getfield 7, 3) := by decide +kernel
theorem dX4_fontOf_16 : decode cX4_fontOf 16 = .ok (.iload_n 3, 1) := by decide +kernel
theorem dX4_fontOf_17 : decode cX4_fontOf 17 = .ok (.iaload, 1) := by decide +kernel
theorem dX4_fontOf_18 : decode cX4_fontOf 18 = .ok (.iload_n 1, 1) := by decide +kernel
theorem dX4_fontOf_19 : decode cX4_fontOf 19 = .ok (.if_icmp .ne 7, 3) := by decide +kernel
theorem dX4_fontOf_22 : decode cX4_fontOf 22 = .ok (.iload_n 3, 1) := by decide +kernel
theorem dX4_fontOf_23 : decode cX4_fontOf 23 = .ok (.goto 4, 3) := by decide +kernel
theorem dX4_fontOf_26 : decode cX4_fontOf 26 = .ok (.iload_n 2, 1) := by decide +kernel
theorem dX4_fontOf_27 : decode cX4_fontOf 27 = .ok (.istore_n 2, 1) := by decide +kernel
theorem dX4_fontOf_28 : decode cX4_fontOf 28 = .ok (.iinc 3 1, 3) := by decide +kernel
theorem dX4_fontOf_31 : decode cX4_fontOf 31 = .ok (.goto (-27), 3) := by decide +kernel
theorem dX4_fontOf_34 : decode cX4_fontOf 34 = .ok (.iload_n 2, 1) := by decide +kernel
theorem dX4_fontOf_35 : decode cX4_fontOf 35 = .ok (.ireturn, 1) := by decide +kernel
theorem dX4_bytesOf_0 : decode cX4_bytesOf 0 = .ok (.aload_n 0, 1) := by decide +kernel
theorem dX4_bytesOf_1 : decode cX4_bytesOf 1 = .ok (.getfield 20, 3) := by decide +kernel
theorem dX4_bytesOf_4 : decode cX4_bytesOf 4 = .ok (.bipush 7, 2) := by decide +kernel
theorem dX4_bytesOf_6 : decode cX4_bytesOf 6 = .ok (.iload_n 1, 1) := by decide +kernel
theorem dX4_bytesOf_7 : decode cX4_bytesOf 7 = .ok (.imul, 1) := by decide +kernel
theorem dX4_bytesOf_8 : decode cX4_bytesOf 8 = .ok (.iconst 5, 1) := by decide +kernel
theorem dX4_bytesOf_9 : decode cX4_bytesOf 9 = .ok (.iadd, 1) := by decide +kernel
theorem dX4_bytesOf_10 : decode cX4_bytesOf 10 = .ok (.iaload, 1) := by decide +kernel
theorem dX4_bytesOf_11 : decode cX4_bytesOf 11 = .ok (.aload_n 0, 1) := by decide +kernel
theorem dX4_bytesOf_12 : decode cX4_bytesOf 12 = .ok (.getfield 20, 3) := by decide +kernel
theorem dX4_bytesOf_15 : decode cX4_bytesOf 15 = .ok (.bipush 7, 2) := by decide +kernel
theorem dX4_bytesOf_17 : decode cX4_bytesOf 17 = .ok (.iload_n 1, 1) := by decide +kernel
theorem dX4_bytesOf_18 : decode cX4_bytesOf 18 = .ok (.imul, 1) := by decide +kernel
theorem dX4_bytesOf_19 : decode cX4_bytesOf 19 = .ok (.iconst 4, 1) := by decide +kernel
theorem dX4_bytesOf_20 : decode cX4_bytesOf 20 = .ok (.iadd, 1) := by decide +kernel
theorem dX4_bytesOf_21 : decode cX4_bytesOf 21 = .ok (.iaload, 1) := by decide +kernel
theorem dX4_bytesOf_22 : decode cX4_bytesOf 22 = .ok (.bipush 7, 2) := by decide +kernel
theorem dX4_bytesOf_24 : decode cX4_bytesOf 24 = .ok (.iadd, 1) := by decide +kernel
theorem dX4_bytesOf_25 : decode cX4_bytesOf 25 = .ok (.bipush 8, 2) := by decide +kernel
theorem dX4_bytesOf_27 : decode cX4_bytesOf 27 = .ok (.idiv, 1) := by decide +kernel
theorem dX4_bytesOf_28 : decode cX4_bytesOf 28 = .ok (.imul, 1) := by decide +kernel
theorem dX4_bytesOf_29 : decode cX4_bytesOf 29 = .ok (.ireturn, 1) := by decide +kernel
theorem dX4_startOf_0 : decode cX4_startOf 0 = .ok (.iconst 0, 1) := by decide +kernel
theorem dX4_startOf_1 : decode cX4_startOf 1 = .ok (.istore_n 2, 1) := by decide +kernel
theorem dX4_startOf_2 : decode cX4_startOf 2 = .ok (.iconst 0, 1) := by decide +kernel
theorem dX4_startOf_3 : decode cX4_startOf 3 = .ok (.istore_n 3, 1) := by decide +kernel
theorem dX4_startOf_4 : decode cX4_startOf 4 = .ok (.iload_n 3, 1) := by decide +kernel
theorem dX4_startOf_5 : decode cX4_startOf 5 = .ok (.iload_n 1, 1) := by decide +kernel
theorem dX4_startOf_6 : decode cX4_startOf 6 = .ok (.if_icmp .ge 17, 3) := by decide +kernel
theorem dX4_startOf_9 : decode cX4_startOf 9 = .ok (.iload_n 2, 1) := by decide +kernel
theorem dX4_startOf_10 : decode cX4_startOf 10 = .ok (.aload_n 0, 1) := by decide +kernel
theorem dX4_startOf_11 : decode cX4_startOf 11 = .ok (.iload_n 3, 1) := by decide +kernel
theorem dX4_startOf_12 : decode cX4_startOf 12 = .ok (.invokevirtual 69, 3) := by decide +kernel
theorem dX4_startOf_15 : decode cX4_startOf 15 = .ok (.iadd, 1) := by decide +kernel
theorem dX4_startOf_16 : decode cX4_startOf 16 = .ok (.istore_n 2, 1) := by decide +kernel
theorem dX4_startOf_17 : decode cX4_startOf 17 = .ok (.iinc 3 1, 3) := by decide +kernel
theorem dX4_startOf_20 : decode cX4_startOf 20 = .ok (.goto (-16), 3) := by decide +kernel
theorem dX4_startOf_23 : decode cX4_startOf 23 = .ok (.iload_n 2, 1) := by decide +kernel
theorem dX4_startOf_24 : decode cX4_startOf 24 = .ok (.ireturn, 1) := by decide +kernel
theorem dX4_glyphOf_0 : decode cX4_glyphOf 0 = .ok (.iconst (-1), 1) := by decide +kernel
theorem dX4_glyphOf_1 : decode cX4_glyphOf 1 = .ok (.istore_n 3, 1) := by decide +kernel
theorem dX4_glyphOf_2 : decode cX4_glyphOf 2 = .ok (.iconst 0, 1) := by decide +kernel
theorem dX4_glyphOf_3 : decode cX4_glyphOf 3 = .ok (.istore 4, 2) := by decide +kernel
theorem dX4_glyphOf_5 : decode cX4_glyphOf 5 = .ok (.iload 4, 2) := by decide +kernel
theorem dX4_glyphOf_7 : decode cX4_glyphOf 7 = .ok (.aload_n 0, 1) := by decide +kernel
theorem dX4_glyphOf_8 : decode cX4_glyphOf 8 = .ok (.getfield 73, 3) := by decide +kernel
theorem dX4_glyphOf_11 : decode cX4_glyphOf 11 = .ok (.if_icmp .ge 46, 3) := by decide +kernel
theorem dX4_glyphOf_14 : decode cX4_glyphOf 14 = .ok (.aload_n 0, 1) := by decide +kernel
theorem dX4_glyphOf_15 : decode cX4_glyphOf 15 = .ok (.getfield 20, 3) := by decide +kernel
theorem dX4_glyphOf_18 : decode cX4_glyphOf 18 = .ok (.bipush 7, 2) := by decide +kernel
theorem dX4_glyphOf_20 : decode cX4_glyphOf 20 = .ok (.iload 4, 2) := by decide +kernel
theorem dX4_glyphOf_22 : decode cX4_glyphOf 22 = .ok (.imul, 1) := by decide +kernel
theorem dX4_glyphOf_23 : decode cX4_glyphOf 23 = .ok (.iaload, 1) := by decide +kernel
theorem dX4_glyphOf_24 : decode cX4_glyphOf 24 = .ok (.iload_n 1, 1) := by decide +kernel
theorem dX4_glyphOf_25 : decode cX4_glyphOf 25 = .ok (.if_icmp .ne 24, 3) := by decide +kernel
theorem dX4_glyphOf_28 : decode cX4_glyphOf 28 = .ok (.aload_n 0, 1) := by decide +kernel
theorem dX4_glyphOf_29 : decode cX4_glyphOf 29 = .ok (.getfield 20, 3) := by decide +kernel
theorem dX4_glyphOf_32 : decode cX4_glyphOf 32 = .ok (.bipush 7, 2) := by decide +kernel
theorem dX4_glyphOf_34 : decode cX4_glyphOf 34 = .ok (.iload 4, 2) := by decide +kernel
theorem dX4_glyphOf_36 : decode cX4_glyphOf 36 = .ok (.imul, 1) := by decide +kernel
theorem dX4_glyphOf_37 : decode cX4_glyphOf 37 = .ok (.iconst 1, 1) := by decide +kernel
theorem dX4_glyphOf_38 : decode cX4_glyphOf 38 = .ok (.iadd, 1) := by decide +kernel
theorem dX4_glyphOf_39 : decode cX4_glyphOf 39 = .ok (.iaload, 1) := by decide +kernel
theorem dX4_glyphOf_40 : decode cX4_glyphOf 40 = .ok (.iload_n 2, 1) := by decide +kernel
theorem dX4_glyphOf_41 : decode cX4_glyphOf 41 = .ok (.if_icmp .ne 8, 3) := by decide +kernel
theorem dX4_glyphOf_44 : decode cX4_glyphOf 44 = .ok (.iload 4, 2) := by decide +kernel
theorem dX4_glyphOf_46 : decode cX4_glyphOf 46 = .ok (.goto 4, 3) := by decide +kernel
theorem dX4_glyphOf_49 : decode cX4_glyphOf 49 = .ok (.iload_n 3, 1) := by decide +kernel
theorem dX4_glyphOf_50 : decode cX4_glyphOf 50 = .ok (.istore_n 3, 1) := by decide +kernel
theorem dX4_glyphOf_51 : decode cX4_glyphOf 51 = .ok (.iinc 4 1, 3) := by decide +kernel
theorem dX4_glyphOf_54 : decode cX4_glyphOf 54 = .ok (.goto (-49), 3) := by decide +kernel
theorem dX4_glyphOf_57 : decode cX4_glyphOf 57 = .ok (.iload_n 3, 1) := by decide +kernel
theorem dX4_glyphOf_58 : decode cX4_glyphOf 58 = .ok (.ireturn, 1) := by decide +kernel
theorem dX4_goGlyph_0 : decode cX4_goGlyph 0 = .ok (.aload_n 0, 1) := by decide +kernel
theorem dX4_goGlyph_1 : decode cX4_goGlyph 1 = .ok (.iload_n 1, 1) := by decide +kernel
theorem dX4_goGlyph_2 : decode cX4_goGlyph 2 = .ok (.invokevirtual 76, 3) := by decide +kernel
theorem dX4_goGlyph_5 : decode cX4_goGlyph 5 = .ok (.istore_n 2, 1) := by decide +kernel
theorem dX4_goGlyph_6 : decode cX4_goGlyph 6 = .ok (.aload_n 0, 1) := by decide +kernel
theorem dX4_goGlyph_7 : decode cX4_goGlyph 7 = .ok (.iload_n 1, 1) := by decide +kernel
theorem dX4_goGlyph_8 : decode cX4_goGlyph 8 = .ok (.invokevirtual 69, 3) := by decide +kernel
theorem dX4_goGlyph_11 : decode cX4_goGlyph 11 = .ok (.istore_n 3, 1) := by decide +kernel
theorem dX4_goGlyph_12 : decode cX4_goGlyph 12 = .ok (.iload_n 2, 1) := by decide +kernel
theorem dX4_goGlyph_13 : decode cX4_goGlyph 13 = .ok (.iload_n 3, 1) := by decide +kernel
theorem dX4_goGlyph_14 : decode cX4_goGlyph 14 = .ok (.iadd, 1) := by decide +kernel
theorem dX4_goGlyph_15 : decode cX4_goGlyph 15 = .ok (.istore 4, 2) := by decide +kernel
theorem dX4_goGlyph_17 : decode cX4_goGlyph 17 = .ok (.iload 4, 2) := by decide +kernel
theorem dX4_goGlyph_19 : decode cX4_goGlyph 19 = .ok (.aload_n 0, 1) := by decide +kernel
theorem dX4_goGlyph_20 : decode cX4_goGlyph 20 = .ok (.getfield 79, 3) := by decide +kernel
theorem dX4_goGlyph_23 : decode cX4_goGlyph 23 = .ok (.if_icmp .ge 25, 3) := by decide +kernel
theorem dX4_goGlyph_26 : decode cX4_goGlyph 26 = .ok (.aload_n 0, 1) := by decide +kernel
theorem dX4_goGlyph_27 : decode cX4_goGlyph 27 = .ok (.getfield 23, 3) := by decide +kernel
theorem dX4_goGlyph_30 : decode cX4_goGlyph 30 = .ok (.iload 4, 2) := by decide +kernel
theorem dX4_goGlyph_32 : decode cX4_goGlyph 32 = .ok (.iload_n 3, 1) := by decide +kernel
theorem dX4_goGlyph_33 : decode cX4_goGlyph 33 = .ok (.isub, 1) := by decide +kernel
theorem dX4_goGlyph_34 : decode cX4_goGlyph 34 = .ok (.aload_n 0, 1) := by decide +kernel
theorem dX4_goGlyph_35 : decode cX4_goGlyph 35 = .ok (.getfield 23, 3) := by decide +kernel
theorem dX4_goGlyph_38 : decode cX4_goGlyph 38 = .ok (.iload 4, 2) := by decide +kernel
theorem dX4_goGlyph_40 : decode cX4_goGlyph 40 = .ok (.baload, 1) := by decide +kernel
theorem dX4_goGlyph_41 : decode cX4_goGlyph 41 = .ok (.bastore, 1) := by decide +kernel
theorem dX4_goGlyph_42 : decode cX4_goGlyph 42 = .ok (.iinc 4 1, 3) := by decide +kernel
theorem dX4_goGlyph_45 : decode cX4_goGlyph 45 = .ok (.goto (-28), 3) := by decide +kernel
theorem dX4_goGlyph_48 : decode cX4_goGlyph 48 = .ok (.aload_n 0, 1) := by decide +kernel
theorem dX4_goGlyph_49 : decode cX4_goGlyph 49 = .ok (.dup, 1) := by decide +kernel
theorem dX4_goGlyph_50 : decode cX4_goGlyph 50 = .ok (.getfield 79, 3) := by decide +kernel
theorem dX4_goGlyph_53 : decode cX4_goGlyph 53 = .ok (.iload_n 3, 1) := by decide +kernel
theorem dX4_goGlyph_54 : decode cX4_goGlyph 54 = .ok (.isub, 1) := by decide +kernel
theorem dX4_goGlyph_55 : decode cX4_goGlyph 55 = .ok (.putfield 79, 3) := by decide +kernel
theorem dX4_goGlyph_58 : decode cX4_goGlyph 58 = .ok (.aload_n 0, 1) := by decide +kernel
theorem dX4_goGlyph_59 : decode cX4_goGlyph 59 = .ok (.dup, 1) := by decide +kernel
theorem dX4_goGlyph_60 : decode cX4_goGlyph 60 = .ok (.getfield 73, 3) := by decide +kernel
theorem dX4_goGlyph_63 : decode cX4_goGlyph 63 = .ok (.iconst 1, 1) := by decide +kernel
theorem dX4_goGlyph_64 : decode cX4_goGlyph 64 = .ok (.isub, 1) := by decide +kernel
theorem dX4_goGlyph_65 : decode cX4_goGlyph 65 = .ok (.putfield 73, 3) := by decide +kernel
theorem dX4_goGlyph_68 : decode cX4_goGlyph 68 = .ok (.bipush 7, 2) := by decide +kernel
theorem dX4_goGlyph_70 : decode cX4_goGlyph 70 = .ok (.iload_n 1, 1) := by decide +kernel
theorem dX4_goGlyph_71 : decode cX4_goGlyph 71 = .ok (.imul, 1) := by decide +kernel
theorem dX4_goGlyph_72 : decode cX4_goGlyph 72 = .ok (.istore 4, 2) := by decide +kernel
theorem dX4_goGlyph_74 : decode cX4_goGlyph 74 = .ok (.iload 4, 2) := by decide +kernel
theorem dX4_goGlyph_76 : decode cX4_goGlyph 76 = .ok (.bipush 7, 2) := by decide +kernel
theorem dX4_goGlyph_78 : decode cX4_goGlyph 78 = .ok (.aload_n 0, 1) := by decide +kernel
theorem dX4_goGlyph_79 : decode cX4_goGlyph 79 = .ok (.getfield 73, 3) := by decide +kernel
theorem dX4_goGlyph_82 : decode cX4_goGlyph 82 = .ok (.imul, 1) := by decide +kernel
theorem dX4_goGlyph_83 : decode cX4_goGlyph 83 = .ok (.if_icmp .ge 26, 3) := by decide +kernel
theorem dX4_goGlyph_86 : decode cX4_goGlyph 86 = .ok (.aload_n 0, 1) := by decide +kernel
theorem dX4_goGlyph_87 : decode cX4_goGlyph 87 = .ok (.getfield 20, 3) := by decide +kernel
theorem dX4_goGlyph_90 : decode cX4_goGlyph 90 = .ok (.iload 4, 2) := by decide +kernel
theorem dX4_goGlyph_92 : decode cX4_goGlyph 92 = .ok (.aload_n 0, 1) := by decide +kernel
theorem dX4_goGlyph_93 : decode cX4_goGlyph 93 = .ok (.getfield 20, 3) := by decide +kernel
theorem dX4_goGlyph_96 : decode cX4_goGlyph 96 = .ok (.iload 4, 2) := by decide +kernel
theorem dX4_goGlyph_98 : decode cX4_goGlyph 98 = .ok (.bipush 7, 2) := by decide +kernel
theorem dX4_goGlyph_100 : decode cX4_goGlyph 100 = .ok (.iadd, 1) := by decide +kernel
theorem dX4_goGlyph_101 : decode cX4_goGlyph 101 = .ok (.iaload, 1) := by decide +kernel
theorem dX4_goGlyph_102 : decode cX4_goGlyph 102 = .ok (.iastore, 1) := by decide +kernel
theorem dX4_goGlyph_103 : decode cX4_goGlyph 103 = .ok (.iinc 4 1, 3) := by decide +kernel
theorem dX4_goGlyph_106 : decode cX4_goGlyph 106 = .ok (.goto (-32), 3) := by decide +kernel
theorem dX4_goGlyph_109 : decode cX4_goGlyph 109 = .ok (.return_, 1) := by decide +kernel
theorem dX4_goFont_0 : decode cX4_goFont 0 = .ok (.aload_n 0, 1) := by decide +kernel
theorem dX4_goFont_1 : decode cX4_goFont 1 = .ok (.getfield 73, 3) := by decide +kernel
theorem dX4_goFont_4 : decode cX4_goFont 4 = .ok (.iconst 1, 1) := by decide +kernel
theorem dX4_goFont_5 : decode cX4_goFont 5 = .ok (.isub, 1) := by decide +kernel
theorem dX4_goFont_6 : decode cX4_goFont 6 = .ok (.istore_n 2, 1) := by decide +kernel
theorem dX4_goFont_7 : decode cX4_goFont 7 = .ok (.iload_n 2, 1) := by decide +kernel
theorem dX4_goFont_8 : decode cX4_goFont 8 = .ok (.ifCond .lt 32, 3) := by decide +kernel
theorem dX4_goFont_11 : decode cX4_goFont 11 = .ok (.aload_n 0, 1) := by decide +kernel
theorem dX4_goFont_12 : decode cX4_goFont 12 = .ok (.getfield 20, 3) := by decide +kernel
theorem dX4_goFont_15 : decode cX4_goFont 15 = .ok (.bipush 7, 2) := by decide +kernel
theorem dX4_goFont_17 : decode cX4_goFont 17 = .ok (.iload_n 2, 1) := by decide +kernel
theorem dX4_goFont_18 : decode cX4_goFont 18 = .ok (.imul, 1) := by decide +kernel
theorem dX4_goFont_19 : decode cX4_goFont 19 = .ok (.iaload, 1) := by decide +kernel
theorem dX4_goFont_20 : decode cX4_goFont 20 = .ok (.aload_n 0, 1) := by decide +kernel
theorem dX4_goFont_21 : decode cX4_goFont 21 = .ok (.getfield 7, 3) := by decide +kernel
theorem dX4_goFont_24 : decode cX4_goFont 24 = .ok (.iload_n 1, 1) := by decide +kernel
theorem dX4_goFont_25 : decode cX4_goFont 25 = .ok (.iaload, 1) := by decide +kernel
theorem dX4_goFont_26 : decode cX4_goFont 26 = .ok (.if_icmp .ne 8, 3) := by decide +kernel
theorem dX4_goFont_29 : decode cX4_goFont 29 = .ok (.aload_n 0, 1) := by decide +kernel
theorem dX4_goFont_30 : decode cX4_goFont 30 = .ok (.iload_n 2, 1) := by decide +kernel
theorem dX4_goFont_31 : decode cX4_goFont 31 = .ok (.invokevirtual 82, 3) := by decide +kernel
theorem dX4_goFont_34 : decode cX4_goFont 34 = .ok (.iinc 2 (-1), 3) := by decide +kernel
theorem dX4_goFont_37 : decode cX4_goFont 37 = .ok (.goto (-30), 3) := by decide +kernel
theorem dX4_goFont_40 : decode cX4_goFont 40 = .ok (.aload_n 0, 1) := by decide +kernel
theorem dX4_goFont_41 : decode cX4_goFont 41 = .ok (.dup, 1) := by decide +kernel
theorem dX4_goFont_42 : decode cX4_goFont 42 = .ok (.getfield 66, 3) := by decide +kernel
theorem dX4_goFont_45 : decode cX4_goFont 45 = .ok (.iconst 1, 1) := by decide +kernel
theorem dX4_goFont_46 : decode cX4_goFont 46 = .ok (.isub, 1) := by decide +kernel
theorem dX4_goFont_47 : decode cX4_goFont 47 = .ok (.putfield 66, 3) := by decide +kernel
theorem dX4_goFont_50 : decode cX4_goFont 50 = .ok (.iload_n 1, 1) := by decide +kernel
theorem dX4_goFont_51 : decode cX4_goFont 51 = .ok (.istore_n 2, 1) := by decide +kernel
theorem dX4_goFont_52 : decode cX4_goFont 52 = .ok (.iload_n 2, 1) := by decide +kernel
theorem dX4_goFont_53 : decode cX4_goFont 53 = .ok (.aload_n 0, 1) := by decide +kernel
theorem dX4_goFont_54 : decode cX4_goFont 54 = .ok (.getfield 66, 3) := by decide +kernel
theorem dX4_goFont_57 : decode cX4_goFont 57 = .ok (.if_icmp .ge 76, 3) := by decide +kernel
theorem dX4_goFont_60 : decode cX4_goFont 60 = .ok (.aload_n 0, 1) := by decide +kernel
theorem dX4_goFont_61 : decode cX4_goFont 61 = .ok (.getfield 7, 3) := by decide +kernel
theorem dX4_goFont_64 : decode cX4_goFont 64 = .ok (.iload_n 2, 1) := by decide +kernel
theorem dX4_goFont_65 : decode cX4_goFont 65 = .ok (.aload_n 0, 1) := by decide +kernel
theorem dX4_goFont_66 : decode cX4_goFont 66 = .ok (.getfield 7, 3) := by decide +kernel
theorem dX4_goFont_69 : decode cX4_goFont 69 = .ok (.iload_n 2, 1) := by decide +kernel
theorem dX4_goFont_70 : decode cX4_goFont 70 = .ok (.iconst 1, 1) := by decide +kernel
theorem dX4_goFont_71 : decode cX4_goFont 71 = .ok (.iadd, 1) := by decide +kernel
theorem dX4_goFont_72 : decode cX4_goFont 72 = .ok (.iaload, 1) := by decide +kernel
theorem dX4_goFont_73 : decode cX4_goFont 73 = .ok (.iastore, 1) := by decide +kernel
theorem dX4_goFont_74 : decode cX4_goFont 74 = .ok (.aload_n 0, 1) := by decide +kernel
theorem dX4_goFont_75 : decode cX4_goFont 75 = .ok (.getfield 16, 3) := by decide +kernel
theorem dX4_goFont_78 : decode cX4_goFont 78 = .ok (.iload_n 2, 1) := by decide +kernel
theorem dX4_goFont_79 : decode cX4_goFont 79 = .ok (.aload_n 0, 1) := by decide +kernel
theorem dX4_goFont_80 : decode cX4_goFont 80 = .ok (.getfield 16, 3) := by decide +kernel
theorem dX4_goFont_83 : decode cX4_goFont 83 = .ok (.iload_n 2, 1) := by decide +kernel
theorem dX4_goFont_84 : decode cX4_goFont 84 = .ok (.iconst 1, 1) := by decide +kernel
theorem dX4_goFont_85 : decode cX4_goFont 85 = .ok (.iadd, 1) := by decide +kernel
theorem dX4_goFont_86 : decode cX4_goFont 86 = .ok (.baload, 1) := by decide +kernel
theorem dX4_goFont_87 : decode cX4_goFont 87 = .ok (.bastore, 1) := by decide +kernel
theorem dX4_goFont_88 : decode cX4_goFont 88 = .ok (.iconst 0, 1) := by decide +kernel
theorem dX4_goFont_89 : decode cX4_goFont 89 = .ok (.istore_n 3, 1) := by decide +kernel
theorem dX4_goFont_90 : decode cX4_goFont 90 = .ok (.iload_n 3, 1) := by decide +kernel
theorem dX4_goFont_91 : decode cX4_goFont 91 = .ok (.bipush 7, 2) := by decide +kernel
theorem dX4_goFont_93 : decode cX4_goFont 93 = .ok (.if_icmp .ge 34, 3) := by decide +kernel
theorem dX4_goFont_96 : decode cX4_goFont 96 = .ok (.aload_n 0, 1) := by decide +kernel
theorem dX4_goFont_97 : decode cX4_goFont 97 = .ok (.getfield 13, 3) := by decide +kernel
theorem dX4_goFont_100 : decode cX4_goFont 100 = .ok (.bipush 7, 2) := by decide +kernel
theorem dX4_goFont_102 : decode cX4_goFont 102 = .ok (.iload_n 2, 1) := by decide +kernel
theorem dX4_goFont_103 : decode cX4_goFont 103 = .ok (.imul, 1) := by decide +kernel
theorem dX4_goFont_104 : decode cX4_goFont 104 = .ok (.iload_n 3, 1) := by decide +kernel
theorem dX4_goFont_105 : decode cX4_goFont 105 = .ok (.iadd, 1) := by decide +kernel
theorem dX4_goFont_106 : decode cX4_goFont 106 = .ok (.aload_n 0, 1) := by decide +kernel
theorem dX4_goFont_107 : decode cX4_goFont 107 = .ok (.getfield 13, 3) := by decide +kernel
theorem dX4_goFont_110 : decode cX4_goFont 110 = .ok (.bipush 7, 2) := by decide +kernel
theorem dX4_goFont_112 : decode cX4_goFont 112 = .ok (.iload_n 2, 1) := by decide +kernel
theorem dX4_goFont_113 : decode cX4_goFont 113 = .ok (.imul, 1) := by decide +kernel
theorem dX4_goFont_114 : decode cX4_goFont 114 = .ok (.bipush 7, 2) := by decide +kernel
theorem dX4_goFont_116 : decode cX4_goFont 116 = .ok (.iadd, 1) := by decide +kernel
theorem dX4_goFont_117 : decode cX4_goFont 117 = .ok (.iload_n 3, 1) := by decide +kernel
theorem dX4_goFont_118 : decode cX4_goFont 118 = .ok (.iadd, 1) := by decide +kernel
theorem dX4_goFont_119 : decode cX4_goFont 119 = .ok (.iaload, 1) := by decide +kernel
theorem dX4_goFont_120 : decode cX4_goFont 120 = .ok (.iastore, 1) := by decide +kernel
theorem dX4_goFont_121 : decode cX4_goFont 121 = .ok (.iinc 3 1, 3) := by decide +kernel
theorem dX4_goFont_124 : decode cX4_goFont 124 = .ok (.goto (-34), 3) := by decide +kernel
theorem dX4_goFont_127 : decode cX4_goFont 127 = .ok (.iinc 2 1, 3) := by decide +kernel
theorem dX4_goFont_130 : decode cX4_goFont 130 = .ok (.goto (-78), 3) := by decide +kernel
theorem dX4_goFont_133 : decode cX4_goFont 133 = .ok (.return_, 1) := by decide +kernel
theorem dX4_header_0 : decode cX4_header 0 = .ok (.aload_n 0, 1) := by decide +kernel
theorem dX4_header_1 : decode cX4_header 1 = .ok (.aload_n 0, 1) := by decide +kernel
theorem dX4_header_2 : decode cX4_header 2 = .ok (.getfield 55, 3) := by decide +kernel
theorem dX4_header_5 : decode cX4_header 5 = .ok (.invokevirtual 86, 3) := by decide +kernel
theorem dX4_header_8 : decode cX4_header 8 = .ok (.istore_n 1, 1) := by decide +kernel
theorem dX4_header_9 : decode cX4_header 9 = .ok (.aload_n 0, 1) := by decide +kernel
theorem dX4_header_10 : decode cX4_header 10 = .ok (.iload_n 1, 1) := by decide +kernel
theorem dX4_header_11 : decode cX4_header 11 = .ok (.ifCond .ge 16, 3) := by decide +kernel
theorem dX4_header_14 : decode cX4_header 14 = .ok (.aload_n 0, 1) := by decide +kernel
theorem dX4_header_15 : decode cX4_header 15 = .ok (.getfield 66, 3) := by decide +kernel
theorem dX4_header_18 : decode cX4_header 18 = .ok (.bipush 32, 2) := by decide +kernel
theorem dX4_header_20 : decode cX4_header 20 = .ok (.if_icmp .ne 7, 3) := by decide +kernel
theorem dX4_header_23 : decode cX4_header 23 = .ok (.iconst 1, 1) := by decide +kernel
theorem dX4_header_24 : decode cX4_header 24 = .ok (.goto 4, 3) := by decide +kernel
theorem dX4_header_27 : decode cX4_header 27 = .ok (.iconst 0, 1) := by decide +kernel
theorem dX4_header_28 : decode cX4_header 28 = .ok (.putfield 45, 3) := by decide +kernel
theorem dX4_header_31 : decode cX4_header 31 = .ok (.aload_n 0, 1) := by decide +kernel
theorem dX4_header_32 : decode cX4_header 32 = .ok (.getfield 45, 3) := by decide +kernel
theorem dX4_header_35 : decode cX4_header 35 = .ok (.ifCond .le 5, 3) := by decide +kernel
theorem dX4_header_38 : decode cX4_header 38 = .ok (.iconst 0, 1) := by decide +kernel
theorem dX4_header_39 : decode cX4_header 39 = .ok (.ireturn, 1) := by decide +kernel
theorem dX4_header_40 : decode cX4_header 40 = .ok (.iload_n 1, 1) := by decide +kernel
theorem dX4_header_41 : decode cX4_header 41 = .ok (.ifCond .lt 8, 3) := by decide +kernel
theorem dX4_header_44 : decode cX4_header 44 = .ok (.aload_n 0, 1) := by decide +kernel
theorem dX4_header_45 : decode cX4_header 45 = .ok (.iload_n 1, 1) := by decide +kernel
theorem dX4_header_46 : decode cX4_header 46 = .ok (.invokevirtual 89, 3) := by decide +kernel
theorem dX4_header_49 : decode cX4_header 49 = .ok (.aload_n 0, 1) := by decide +kernel
theorem dX4_header_50 : decode cX4_header 50 = .ok (.getfield 7, 3) := by decide +kernel
theorem dX4_header_53 : decode cX4_header 53 = .ok (.aload_n 0, 1) := by decide +kernel
theorem dX4_header_54 : decode cX4_header 54 = .ok (.getfield 66, 3) := by decide +kernel
theorem dX4_header_57 : decode cX4_header 57 = .ok (.aload_n 0, 1) := by decide +kernel
theorem dX4_header_58 : decode cX4_header 58 = .ok (.getfield 55, 3) := by decide +kernel
theorem dX4_header_61 : decode cX4_header 61 = .ok (.iastore, 1) := by decide +kernel
theorem dX4_header_62 : decode cX4_header 62 = .ok (.aload_n 0, 1) := by decide +kernel
theorem dX4_header_63 : decode cX4_header 63 = .ok (.getfield 16, 3) := by decide +kernel
theorem dX4_header_66 : decode cX4_header 66 = .ok (.aload_n 0, 1) := by decide +kernel
theorem dX4_header_67 : decode cX4_header 67 = .ok (.getfield 66, 3) := by decide +kernel
theorem dX4_header_70 : decode cX4_header 70 = .ok (.iconst 0, 1) := by decide +kernel
theorem dX4_header_71 : decode cX4_header 71 = .ok (.bastore, 1) := by decide +kernel
theorem dX4_header_72 : decode cX4_header 72 = .ok (.iconst 0, 1) := by decide +kernel
theorem dX4_header_73 : decode cX4_header 73 = .ok (.istore_n 2, 1) := by decide +kernel
theorem dX4_header_74 : decode cX4_header 74 = .ok (.iload_n 2, 1) := by decide +kernel
theorem dX4_header_75 : decode cX4_header 75 = .ok (.bipush 7, 2) := by decide +kernel
theorem dX4_header_77 : decode cX4_header 77 = .ok (.if_icmp .ge 29, 3) := by decide +kernel
theorem dX4_header_80 : decode cX4_header 80 = .ok (.aload_n 0, 1) := by decide +kernel
theorem dX4_header_81 : decode cX4_header 81 = .ok (.getfield 13, 3) := by decide +kernel
theorem dX4_header_84 : decode cX4_header 84 = .ok (.bipush 7, 2) := by decide +kernel
theorem dX4_header_86 : decode cX4_header 86 = .ok (.aload_n 0, 1) := by decide +kernel
theorem dX4_header_87 : decode cX4_header 87 = .ok (.getfield 66, 3) := by decide +kernel
theorem dX4_header_90 : decode cX4_header 90 = .ok (.imul, 1) := by decide +kernel
theorem dX4_header_91 : decode cX4_header 91 = .ok (.iload_n 2, 1) := by decide +kernel
theorem dX4_header_92 : decode cX4_header 92 = .ok (.iadd, 1) := by decide +kernel
theorem dX4_header_93 : decode cX4_header 93 = .ok (.aload_n 0, 1) := by decide +kernel
theorem dX4_header_94 : decode cX4_header 94 = .ok (.getfield 27, 3) := by decide +kernel
theorem dX4_header_97 : decode cX4_header 97 = .ok (.iload_n 2, 1) := by decide +kernel
theorem dX4_header_98 : decode cX4_header 98 = .ok (.iaload, 1) := by decide +kernel
theorem dX4_header_99 : decode cX4_header 99 = .ok (.iastore, 1) := by decide +kernel
theorem dX4_header_100 : decode cX4_header 100 = .ok (.iinc 2 1, 3) := by decide +kernel
theorem dX4_header_103 : decode cX4_header 103 = .ok (.goto (-29), 3) := by decide +kernel
theorem dX4_header_106 : decode cX4_header 106 = .ok (.aload_n 0, 1) := by decide +kernel
theorem dX4_header_107 : decode cX4_header 107 = .ok (.dup, 1) := by decide +kernel
theorem dX4_header_108 : decode cX4_header 108 = .ok (.getfield 66, 3) := by decide +kernel
theorem dX4_header_111 : decode cX4_header 111 = .ok (.iconst 1, 1) := by decide +kernel
theorem dX4_header_112 : decode cX4_header 112 = .ok (.iadd, 1) := by decide +kernel
theorem dX4_header_113 : decode cX4_header 113 = .ok (.putfield 66, 3) := by decide +kernel
theorem dX4_header_116 : decode cX4_header 116 = .ok (.aload_n 0, 1) := by decide +kernel
theorem dX4_header_117 : decode cX4_header 117 = .ok (.iconst 0, 1) := by decide +kernel
theorem dX4_header_118 : decode cX4_header 118 = .ok (.putfield 58, 3) := by decide +kernel
theorem dX4_header_121 : decode cX4_header 121 = .ok (.aload_n 0, 1) := by decide +kernel
theorem dX4_header_122 : decode cX4_header 122 = .ok (.getfield 66, 3) := by decide +kernel
theorem dX4_header_125 : decode cX4_header 125 = .ok (.ireturn, 1) := by decide +kernel
theorem dX4_glyph_0 : decode cX4_glyph 0 = .ok (.aload_n 0, 1) := by decide +kernel
theorem dX4_glyph_1 : decode cX4_glyph 1 = .ok (.aload_n 0, 1) := by decide +kernel
theorem dX4_glyph_2 : decode cX4_glyph 2 = .ok (.aload_n 0, 1) := by decide +kernel
theorem dX4_glyph_3 : decode cX4_glyph 3 = .ok (.getfield 55, 3) := by decide +kernel
theorem dX4_glyph_6 : decode cX4_glyph 6 = .ok (.invokevirtual 86, 3) := by decide +kernel
theorem dX4_glyph_9 : decode cX4_glyph 9 = .ok (.ifCond .ge 7, 3) := by decide +kernel
theorem dX4_glyph_12 : decode cX4_glyph 12 = .ok (.iconst 1, 1) := by decide +kernel
theorem dX4_glyph_13 : decode cX4_glyph 13 = .ok (.goto 4, 3) := by decide +kernel
theorem dX4_glyph_16 : decode cX4_glyph 16 = .ok (.iconst 0, 1) := by decide +kernel
theorem dX4_glyph_17 : decode cX4_glyph 17 = .ok (.putfield 45, 3) := by decide +kernel
theorem dX4_glyph_20 : decode cX4_glyph 20 = .ok (.aload_n 0, 1) := by decide +kernel
theorem dX4_glyph_21 : decode cX4_glyph 21 = .ok (.getfield 45, 3) := by decide +kernel
theorem dX4_glyph_24 : decode cX4_glyph 24 = .ok (.ifCond .le 5, 3) := by decide +kernel
theorem dX4_glyph_27 : decode cX4_glyph 27 = .ok (.iconst 0, 1) := by decide +kernel
theorem dX4_glyph_28 : decode cX4_glyph 28 = .ok (.ireturn, 1) := by decide +kernel
theorem dX4_glyph_29 : decode cX4_glyph 29 = .ok (.iload_n 1, 1) := by decide +kernel
theorem dX4_glyph_30 : decode cX4_glyph 30 = .ok (.sipush (-16384), 3) := by decide +kernel
theorem dX4_glyph_33 : decode cX4_glyph 33 = .ok (.if_icmp .lt 65, 3) := by decide +kernel
theorem dX4_glyph_36 : decode cX4_glyph 36 = .ok (.iload_n 1, 1) := by decide +kernel
theorem dX4_glyph_37 : decode cX4_glyph 37 = .ok (.sipush 16383, 3) := by decide +kernel
theorem dX4_glyph_40 : decode cX4_glyph 40 = .ok (.if_icmp .gt 58, 3) := by decide +kernel
theorem dX4_glyph_43 : decode cX4_glyph 43 = .ok (.iload_n 2, 1) := by decide +kernel
theorem dX4_glyph_44 : decode cX4_glyph 44 = .ok (.sipush (-16384), 3) := by decide +kernel
theorem dX4_glyph_47 : decode cX4_glyph 47 = .ok (.if_icmp .lt 51, 3) := by decide +kernel
theorem dX4_glyph_50 : decode cX4_glyph 50 = .ok (.iload_n 2, 1) := by decide +kernel
theorem dX4_glyph_51 : decode cX4_glyph 51 = .ok (.sipush 16383, 3) := by decide +kernel
theorem dX4_glyph_54 : decode cX4_glyph 54 = .ok (.if_icmp .gt 44, 3) := by decide +kernel
theorem dX4_glyph_57 : decode cX4_glyph 57 = .ok (.iload_n 3, 1) := by decide +kernel
theorem dX4_glyph_58 : decode cX4_glyph 58 = .ok (.ifCond .lt 40, 3) := by decide +kernel
theorem dX4_glyph_61 : decode cX4_glyph 61 = .ok (.iload_n 3, 1) := by decide +kernel
theorem dX4_glyph_62 : decode cX4_glyph 62 = .ok (.sipush 128, 3) := by decide +kernel
theorem dX4_glyph_65 : decode cX4_glyph 65 = .ok (.if_icmp .gt 33, 3) := by decide +kernel
theorem dX4_glyph_68 : decode cX4_glyph 68 = .ok (.iload 4, 2) := by decide +kernel
theorem dX4_glyph_70 : decode cX4_glyph 70 = .ok (.ifCond .lt 28, 3) := by decide +kernel
theorem dX4_glyph_73 : decode cX4_glyph 73 = .ok (.iload 4, 2) := by decide +kernel
theorem dX4_glyph_75 : decode cX4_glyph 75 = .ok (.sipush 128, 3) := by decide +kernel
theorem dX4_glyph_78 : decode cX4_glyph 78 = .ok (.if_icmp .gt 20, 3) := by decide +kernel
theorem dX4_glyph_81 : decode cX4_glyph 81 = .ok (.iload 5, 2) := by decide +kernel
theorem dX4_glyph_83 : decode cX4_glyph 83 = .ok (.ifCond .lt 15, 3) := by decide +kernel
theorem dX4_glyph_86 : decode cX4_glyph 86 = .ok (.iload 5, 2) := by decide +kernel
theorem dX4_glyph_88 : decode cX4_glyph 88 = .ok (.sipush 32767, 3) := by decide +kernel
theorem dX4_glyph_91 : decode cX4_glyph 91 = .ok (.if_icmp .gt 7, 3) := by decide +kernel
theorem dX4_glyph_94 : decode cX4_glyph 94 = .ok (.iconst 1, 1) := by decide +kernel
theorem dX4_glyph_95 : decode cX4_glyph 95 = .ok (.goto 4, 3) := by decide +kernel
theorem dX4_glyph_98 : decode cX4_glyph 98 = .ok (.iconst 0, 1) := by decide +kernel
theorem dX4_glyph_99 : decode cX4_glyph 99 = .ok (.istore 6, 2) := by decide +kernel
theorem dX4_glyph_101 : decode cX4_glyph 101 = .ok (.aload_n 0, 1) := by decide +kernel
theorem dX4_glyph_102 : decode cX4_glyph 102 = .ok (.iload 6, 2) := by decide +kernel
theorem dX4_glyph_104 : decode cX4_glyph 104 = .ok (.ifCond .eq 7, 3) := by decide +kernel
theorem dX4_glyph_107 : decode cX4_glyph 107 = .ok (.iconst 0, 1) := by decide +kernel
theorem dX4_glyph_108 : decode cX4_glyph 108 = .ok (.goto 4, 3) := by decide +kernel
theorem dX4_glyph_111 : decode cX4_glyph 111 = .ok (.iconst 2, 1) := by decide +kernel
theorem dX4_glyph_112 : decode cX4_glyph 112 = .ok (.putfield 45, 3) := by decide +kernel
theorem dX4_glyph_115 : decode cX4_glyph 115 = .ok (.aload_n 0, 1) := by decide +kernel
theorem dX4_glyph_116 : decode cX4_glyph 116 = .ok (.getfield 45, 3) := by decide +kernel
theorem dX4_glyph_119 : decode cX4_glyph 119 = .ok (.ifCond .le 5, 3) := by decide +kernel
theorem dX4_glyph_122 : decode cX4_glyph 122 = .ok (.iconst 0, 1) := by decide +kernel
theorem dX4_glyph_123 : decode cX4_glyph 123 = .ok (.ireturn, 1) := by decide +kernel
theorem dX4_glyph_124 : decode cX4_glyph 124 = .ok (.aload_n 0, 1) := by decide +kernel
theorem dX4_glyph_125 : decode cX4_glyph 125 = .ok (.getfield 36, 3) := by decide +kernel
theorem dX4_glyph_128 : decode cX4_glyph 128 = .ok (.iconst 0, 1) := by decide +kernel
theorem dX4_glyph_129 : decode cX4_glyph 129 = .ok (.iload_n 1, 1) := by decide +kernel
theorem dX4_glyph_130 : decode cX4_glyph 130 = .ok (.iastore, 1) := by decide +kernel
theorem dX4_glyph_131 : decode cX4_glyph 131 = .ok (.aload_n 0, 1) := by decide +kernel
theorem dX4_glyph_132 : decode cX4_glyph 132 = .ok (.getfield 36, 3) := by decide +kernel
theorem dX4_glyph_135 : decode cX4_glyph 135 = .ok (.iconst 1, 1) := by decide +kernel
theorem dX4_glyph_136 : decode cX4_glyph 136 = .ok (.iload_n 2, 1) := by decide +kernel
theorem dX4_glyph_137 : decode cX4_glyph 137 = .ok (.iastore, 1) := by decide +kernel
theorem dX4_glyph_138 : decode cX4_glyph 138 = .ok (.aload_n 0, 1) := by decide +kernel
theorem dX4_glyph_139 : decode cX4_glyph 139 = .ok (.getfield 36, 3) := by decide +kernel
theorem dX4_glyph_142 : decode cX4_glyph 142 = .ok (.iconst 2, 1) := by decide +kernel
theorem dX4_glyph_143 : decode cX4_glyph 143 = .ok (.iload_n 3, 1) := by decide +kernel
theorem dX4_glyph_144 : decode cX4_glyph 144 = .ok (.iastore, 1) := by decide +kernel
theorem dX4_glyph_145 : decode cX4_glyph 145 = .ok (.aload_n 0, 1) := by decide +kernel
theorem dX4_glyph_146 : decode cX4_glyph 146 = .ok (.getfield 36, 3) := by decide +kernel
theorem dX4_glyph_149 : decode cX4_glyph 149 = .ok (.iconst 3, 1) := by decide +kernel
theorem dX4_glyph_150 : decode cX4_glyph 150 = .ok (.iload 4, 2) := by decide +kernel
theorem dX4_glyph_152 : decode cX4_glyph 152 = .ok (.iastore, 1) := by decide +kernel
theorem dX4_glyph_153 : decode cX4_glyph 153 = .ok (.aload_n 0, 1) := by decide +kernel
theorem dX4_glyph_154 : decode cX4_glyph 154 = .ok (.getfield 36, 3) := by decide +kernel
theorem dX4_glyph_157 : decode cX4_glyph 157 = .ok (.iconst 4, 1) := by decide +kernel
theorem dX4_glyph_158 : decode cX4_glyph 158 = .ok (.iload 5, 2) := by decide +kernel
theorem dX4_glyph_160 : decode cX4_glyph 160 = .ok (.iastore, 1) := by decide +kernel
theorem dX4_glyph_161 : decode cX4_glyph 161 = .ok (.aload_n 0, 1) := by decide +kernel
theorem dX4_glyph_162 : decode cX4_glyph 162 = .ok (.iload 4, 2) := by decide +kernel
theorem dX4_glyph_164 : decode cX4_glyph 164 = .ok (.iload_n 3, 1) := by decide +kernel
theorem dX4_glyph_165 : decode cX4_glyph 165 = .ok (.bipush 7, 2) := by decide +kernel
theorem dX4_glyph_167 : decode cX4_glyph 167 = .ok (.iadd, 1) := by decide +kernel
theorem dX4_glyph_168 : decode cX4_glyph 168 = .ok (.bipush 8, 2) := by decide +kernel
theorem dX4_glyph_170 : decode cX4_glyph 170 = .ok (.idiv, 1) := by decide +kernel
theorem dX4_glyph_171 : decode cX4_glyph 171 = .ok (.imul, 1) := by decide +kernel
theorem dX4_glyph_172 : decode cX4_glyph 172 = .ok (.putfield 92, 3) := by decide +kernel
theorem dX4_glyph_175 : decode cX4_glyph 175 = .ok (.aload_n 0, 1) := by decide +kernel
theorem dX4_glyph_176 : decode cX4_glyph 176 = .ok (.iconst 0, 1) := by decide +kernel
theorem dX4_glyph_177 : decode cX4_glyph 177 = .ok (.putfield 95, 3) := by decide +kernel
theorem dX4_glyph_180 : decode cX4_glyph 180 = .ok (.aload_n 0, 1) := by decide +kernel
theorem dX4_glyph_181 : decode cX4_glyph 181 = .ok (.iconst 1, 1) := by decide +kernel
theorem dX4_glyph_182 : decode cX4_glyph 182 = .ok (.putfield 58, 3) := by decide +kernel
theorem dX4_glyph_185 : decode cX4_glyph 185 = .ok (.aload_n 0, 1) := by decide +kernel
theorem dX4_glyph_186 : decode cX4_glyph 186 = .ok (.getfield 92, 3) := by decide +kernel
theorem dX4_glyph_189 : decode cX4_glyph 189 = .ok (.ireturn, 1) := by decide +kernel
theorem dX4_bytes_0 : decode cX4_bytes 0 = .ok (.aload_n 0, 1) := by decide +kernel
theorem dX4_bytes_1 : decode cX4_bytes 1 = .ok (.iconst 0, 1) := by decide +kernel
theorem dX4_bytes_2 : decode cX4_bytes 2 = .ok (.putfield 45, 3) := by decide +kernel
theorem dX4_bytes_5 : decode cX4_bytes 5 = .ok (.iload_n 3, 1) := by decide +kernel
theorem dX4_bytes_6 : decode cX4_bytes 6 = .ok (.iconst 1, 1) := by decide +kernel
theorem dX4_bytes_7 : decode cX4_bytes 7 = .ok (.if_icmp .lt 16, 3) := by decide +kernel
theorem dX4_bytes_10 : decode cX4_bytes 10 = .ok (.iload_n 3, 1) := by decide +kernel
theorem dX4_bytes_11 : decode cX4_bytes 11 = .ok (.bipush 8, 2) := by decide +kernel
theorem dX4_bytes_13 : decode cX4_bytes 13 = .ok (.if_icmp .gt 10, 3) := by decide +kernel
theorem dX4_bytes_16 : decode cX4_bytes 16 = .ok (.aload_n 0, 1) := by decide +kernel
theorem dX4_bytes_17 : decode cX4_bytes 17 = .ok (.getfield 58, 3) := by decide +kernel
theorem dX4_bytes_20 : decode cX4_bytes 20 = .ok (.ifCond .ne 5, 3) := by decide +kernel
theorem dX4_bytes_23 : decode cX4_bytes 23 = .ok (.iconst 0, 1) := by decide +kernel
theorem dX4_bytes_24 : decode cX4_bytes 24 = .ok (.ireturn, 1) := by decide +kernel
theorem dX4_bytes_25 : decode cX4_bytes 25 = .ok (.iload_n 3, 1) := by decide +kernel
theorem dX4_bytes_26 : decode cX4_bytes 26 = .ok (.iconst 1, 1) := by decide +kernel
theorem dX4_bytes_27 : decode cX4_bytes 27 = .ok (.isub, 1) := by decide +kernel
theorem dX4_bytes_28 : decode cX4_bytes 28 = .ok (.istore 4, 2) := by decide +kernel
theorem dX4_bytes_30 : decode cX4_bytes 30 = .ok (.iload 4, 2) := by decide +kernel
theorem dX4_bytes_32 : decode cX4_bytes 32 = .ok (.ifCond .lt 52, 3) := by decide +kernel
theorem dX4_bytes_35 : decode cX4_bytes 35 = .ok (.aload_n 0, 1) := by decide +kernel
theorem dX4_bytes_36 : decode cX4_bytes 36 = .ok (.getfield 95, 3) := by decide +kernel
theorem dX4_bytes_39 : decode cX4_bytes 39 = .ok (.aload_n 0, 1) := by decide +kernel
theorem dX4_bytes_40 : decode cX4_bytes 40 = .ok (.getfield 92, 3) := by decide +kernel
theorem dX4_bytes_43 : decode cX4_bytes 43 = .ok (.if_icmp .ge 35, 3) := by decide +kernel
theorem dX4_bytes_46 : decode cX4_bytes 46 = .ok (.aload_n 0, 1) := by decide +kernel
theorem dX4_bytes_47 : decode cX4_bytes 47 = .ok (.getfield 39, 3) := by decide +kernel
theorem dX4_bytes_50 : decode cX4_bytes 50 = .ok (.aload_n 0, 1) := by decide +kernel
theorem dX4_bytes_51 : decode cX4_bytes 51 = .ok (.getfield 95, 3) := by decide +kernel
theorem dX4_bytes_54 : decode cX4_bytes 54 = .ok (.lload_n 1, 1) := by decide +kernel
theorem dX4_bytes_55 : decode cX4_bytes 55 = .ok (.bipush 8, 2) := by decide +kernel
theorem dX4_bytes_57 : decode cX4_bytes 57 = .ok (.iload 4, 2) := by decide +kernel
theorem dX4_bytes_59 : decode cX4_bytes 59 = .ok (.imul, 1) := by decide +kernel
theorem dX4_bytes_60 : decode cX4_bytes 60 = .ok (.lshr, 1) := by decide +kernel
theorem dX4_bytes_61 : decode cX4_bytes 61 = .ok (.ldc2_w 98, 3) := by decide +kernel
theorem dX4_bytes_64 : decode cX4_bytes 64 = .ok (.land, 1) := by decide +kernel
theorem dX4_bytes_65 : decode cX4_bytes 65 = .ok (.l2i, 1) := by decide +kernel
theorem dX4_bytes_66 : decode cX4_bytes 66 = .ok (.i2b, 1) := by decide +kernel
theorem dX4_bytes_67 : decode cX4_bytes 67 = .ok (.bastore, 1) := by decide +kernel
theorem dX4_bytes_68 : decode cX4_bytes 68 = .ok (.aload_n 0, 1) := by decide +kernel
theorem dX4_bytes_69 : decode cX4_bytes 69 = .ok (.dup, 1) := by decide +kernel
theorem dX4_bytes_70 : decode cX4_bytes 70 = .ok (.getfield 95, 3) := by decide +kernel
theorem dX4_bytes_73 : decode cX4_bytes 73 = .ok (.iconst 1, 1) := by decide +kernel
theorem dX4_bytes_74 : decode cX4_bytes 74 = .ok (.iadd, 1) := by decide +kernel
theorem dX4_bytes_75 : decode cX4_bytes 75 = .ok (.putfield 95, 3) := by decide +kernel
theorem dX4_bytes_78 : decode cX4_bytes 78 = .ok (.iinc 4 (-1), 3) := by decide +kernel
theorem dX4_bytes_81 : decode cX4_bytes 81 = .ok (.goto (-51), 3) := by decide +kernel
theorem dX4_bytes_84 : decode cX4_bytes 84 = .ok (.iconst 1, 1) := by decide +kernel
theorem dX4_bytes_85 : decode cX4_bytes 85 = .ok (.ireturn, 1) := by decide +kernel
theorem dX4_byteOf_0 : decode cX4_byteOf 0 = .ok (.aload_n 0, 1) := by decide +kernel
theorem dX4_byteOf_1 : decode cX4_byteOf 1 = .ok (.getfield 36, 3) := by decide +kernel
theorem dX4_byteOf_4 : decode cX4_byteOf 4 = .ok (.iconst 2, 1) := by decide +kernel
theorem dX4_byteOf_5 : decode cX4_byteOf 5 = .ok (.iaload, 1) := by decide +kernel
theorem dX4_byteOf_6 : decode cX4_byteOf 6 = .ok (.bipush 7, 2) := by decide +kernel
theorem dX4_byteOf_8 : decode cX4_byteOf 8 = .ok (.iadd, 1) := by decide +kernel
theorem dX4_byteOf_9 : decode cX4_byteOf 9 = .ok (.bipush 8, 2) := by decide +kernel
theorem dX4_byteOf_11 : decode cX4_byteOf 11 = .ok (.idiv, 1) := by decide +kernel
theorem dX4_byteOf_12 : decode cX4_byteOf 12 = .ok (.istore_n 2, 1) := by decide +kernel
theorem dX4_byteOf_13 : decode cX4_byteOf 13 = .ok (.aload_n 0, 1) := by decide +kernel
theorem dX4_byteOf_14 : decode cX4_byteOf 14 = .ok (.getfield 36, 3) := by decide +kernel
theorem dX4_byteOf_17 : decode cX4_byteOf 17 = .ok (.iconst 2, 1) := by decide +kernel
theorem dX4_byteOf_18 : decode cX4_byteOf 18 = .ok (.iaload, 1) := by decide +kernel
theorem dX4_byteOf_19 : decode cX4_byteOf 19 = .ok (.bipush 8, 2) := by decide +kernel
theorem dX4_byteOf_21 : decode cX4_byteOf 21 = .ok (.iload_n 1, 1) := by decide +kernel
theorem dX4_byteOf_22 : decode cX4_byteOf 22 = .ok (.iload_n 2, 1) := by decide +kernel
theorem dX4_byteOf_23 : decode cX4_byteOf 23 = .ok (.ifCond .ne 7, 3) := by decide +kernel
theorem dX4_byteOf_26 : decode cX4_byteOf 26 = .ok (.iconst 1, 1) := by decide +kernel
theorem dX4_byteOf_27 : decode cX4_byteOf 27 = .ok (.goto 4, 3) := by decide +kernel
theorem dX4_byteOf_30 : decode cX4_byteOf 30 = .ok (.iload_n 2, 1) := by decide +kernel
theorem dX4_byteOf_31 : decode cX4_byteOf 31 = .ok (.irem, 1) := by decide +kernel
theorem dX4_byteOf_32 : decode cX4_byteOf 32 = .ok (.imul, 1) := by decide +kernel
theorem dX4_byteOf_33 : decode cX4_byteOf 33 = .ok (.isub, 1) := by decide +kernel
theorem dX4_byteOf_34 : decode cX4_byteOf 34 = .ok (.istore_n 3, 1) := by decide +kernel
theorem dX4_byteOf_35 : decode cX4_byteOf 35 = .ok (.iload_n 3, 1) := by decide +kernel
theorem dX4_byteOf_36 : decode cX4_byteOf 36 = .ok (.bipush 8, 2) := by decide +kernel
theorem dX4_byteOf_38 : decode cX4_byteOf 38 = .ok (.if_icmp .lt 9, 3) := by decide +kernel
theorem dX4_byteOf_41 : decode cX4_byteOf 41 = .ok (.sipush 255, 3) := by decide +kernel
theorem dX4_byteOf_44 : decode cX4_byteOf 44 = .ok (.goto 12, 3) := by decide +kernel
theorem dX4_byteOf_47 : decode cX4_byteOf 47 = .ok (.sipush 255, 3) := by decide +kernel
theorem dX4_byteOf_50 : decode cX4_byteOf 50 = .ok (.sipush 255, 3) := by decide +kernel
theorem dX4_byteOf_53 : decode cX4_byteOf 53 = .ok (.iload_n 3, 1) := by decide +kernel
theorem dX4_byteOf_54 : decode cX4_byteOf 54 = .ok (.ishr, 1) := by decide +kernel
theorem dX4_byteOf_55 : decode cX4_byteOf 55 = .ok (.isub, 1) := by decide +kernel
theorem dX4_byteOf_56 : decode cX4_byteOf 56 = .ok (.istore 4, 2) := by decide +kernel
theorem dX4_byteOf_58 : decode cX4_byteOf 58 = .ok (.iload_n 1, 1) := by decide +kernel
theorem dX4_byteOf_59 : decode cX4_byteOf 59 = .ok (.aload_n 0, 1) := by decide +kernel
theorem dX4_byteOf_60 : decode cX4_byteOf 60 = .ok (.getfield 95, 3) := by decide +kernel
theorem dX4_byteOf_63 : decode cX4_byteOf 63 = .ok (.if_icmp .ge 15, 3) := by decide +kernel
theorem dX4_byteOf_66 : decode cX4_byteOf 66 = .ok (.aload_n 0, 1) := by decide +kernel
theorem dX4_byteOf_67 : decode cX4_byteOf 67 = .ok (.getfield 39, 3) := by decide +kernel
theorem dX4_byteOf_70 : decode cX4_byteOf 70 = .ok (.iload_n 1, 1) := by decide +kernel
theorem dX4_byteOf_71 : decode cX4_byteOf 71 = .ok (.baload, 1) := by decide +kernel
theorem dX4_byteOf_72 : decode cX4_byteOf 72 = .ok (.iload 4, 2) := by decide +kernel
theorem dX4_byteOf_74 : decode cX4_byteOf 74 = .ok (.iand, 1) := by decide +kernel
theorem dX4_byteOf_75 : decode cX4_byteOf 75 = .ok (.goto 4, 3) := by decide +kernel
theorem dX4_byteOf_78 : decode cX4_byteOf 78 = .ok (.iconst 0, 1) := by decide +kernel
theorem dX4_byteOf_79 : decode cX4_byteOf 79 = .ok (.ireturn, 1) := by decide +kernel
theorem dX4_load_0 : decode cX4_load 0 = .ok (.aload_n 0, 1) := by decide +kernel
theorem dX4_load_1 : decode cX4_load 1 = .ok (.aload_n 0, 1) := by decide +kernel
theorem dX4_load_2 : decode cX4_load 2 = .ok (.getfield 58, 3) := by decide +kernel
theorem dX4_load_5 : decode cX4_load 5 = .ok (.ifCond .eq 7, 3) := by decide +kernel
theorem dX4_load_8 : decode cX4_load 8 = .ok (.iconst 0, 1) := by decide +kernel
theorem dX4_load_9 : decode cX4_load 9 = .ok (.goto 4, 3) := by decide +kernel
theorem dX4_load_12 : decode cX4_load 12 = .ok (.iconst 1, 1) := by decide +kernel
theorem dX4_load_13 : decode cX4_load 13 = .ok (.putfield 45, 3) := by decide +kernel
theorem dX4_load_16 : decode cX4_load 16 = .ok (.aload_n 0, 1) := by decide +kernel
theorem dX4_load_17 : decode cX4_load 17 = .ok (.getfield 45, 3) := by decide +kernel
theorem dX4_load_20 : decode cX4_load 20 = .ok (.ifCond .le 5, 3) := by decide +kernel
theorem dX4_load_23 : decode cX4_load 23 = .ok (.iconst 0, 1) := by decide +kernel
theorem dX4_load_24 : decode cX4_load 24 = .ok (.ireturn, 1) := by decide +kernel
theorem dX4_load_25 : decode cX4_load 25 = .ok (.aload_n 0, 1) := by decide +kernel
theorem dX4_load_26 : decode cX4_load 26 = .ok (.iconst 0, 1) := by decide +kernel
theorem dX4_load_27 : decode cX4_load 27 = .ok (.putfield 58, 3) := by decide +kernel
theorem dX4_load_30 : decode cX4_load 30 = .ok (.aload_n 0, 1) := by decide +kernel
theorem dX4_load_31 : decode cX4_load 31 = .ok (.aload_n 0, 1) := by decide +kernel
theorem dX4_load_32 : decode cX4_load 32 = .ok (.getfield 55, 3) := by decide +kernel
theorem dX4_load_35 : decode cX4_load 35 = .ok (.aload_n 0, 1) := by decide +kernel
theorem dX4_load_36 : decode cX4_load 36 = .ok (.getfield 52, 3) := by decide +kernel
theorem dX4_load_39 : decode cX4_load 39 = .ok (.invokevirtual 100, 3) := by decide +kernel
theorem dX4_load_42 : decode cX4_load 42 = .ok (.istore_n 1, 1) := by decide +kernel
theorem dX4_load_43 : decode cX4_load 43 = .ok (.aload_n 0, 1) := by decide +kernel
theorem dX4_load_44 : decode cX4_load 44 = .ok (.getfield 73, 3) := by decide +kernel
theorem dX4_load_47 : decode cX4_load 47 = .ok (.iload_n 1, 1) := by decide +kernel
theorem dX4_load_48 : decode cX4_load 48 = .ok (.ifCond .ge 7, 3) := by decide +kernel
theorem dX4_load_51 : decode cX4_load 51 = .ok (.iconst 1, 1) := by decide +kernel
theorem dX4_load_52 : decode cX4_load 52 = .ok (.goto 4, 3) := by decide +kernel
theorem dX4_load_55 : decode cX4_load 55 = .ok (.iconst 0, 1) := by decide +kernel
theorem dX4_load_56 : decode cX4_load 56 = .ok (.iadd, 1) := by decide +kernel
theorem dX4_load_57 : decode cX4_load 57 = .ok (.istore_n 2, 1) := by decide +kernel
theorem dX4_load_58 : decode cX4_load 58 = .ok (.aload_n 0, 1) := by decide +kernel
theorem dX4_load_59 : decode cX4_load 59 = .ok (.getfield 79, 3) := by decide +kernel
theorem dX4_load_62 : decode cX4_load 62 = .ok (.aload_n 0, 1) := by decide +kernel
theorem dX4_load_63 : decode cX4_load 63 = .ok (.getfield 92, 3) := by decide +kernel
theorem dX4_load_66 : decode cX4_load 66 = .ok (.iadd, 1) := by decide +kernel
theorem dX4_load_67 : decode cX4_load 67 = .ok (.iload_n 1, 1) := by decide +kernel
theorem dX4_load_68 : decode cX4_load 68 = .ok (.ifCond .ge 7, 3) := by decide +kernel
theorem dX4_load_71 : decode cX4_load 71 = .ok (.iconst 0, 1) := by decide +kernel
theorem dX4_load_72 : decode cX4_load 72 = .ok (.goto 8, 3) := by decide +kernel
theorem dX4_load_75 : decode cX4_load 75 = .ok (.aload_n 0, 1) := by decide +kernel
theorem dX4_load_76 : decode cX4_load 76 = .ok (.iload_n 1, 1) := by decide +kernel
theorem dX4_load_77 : decode cX4_load 77 = .ok (.invokevirtual 69, 3) := by decide +kernel
theorem dX4_load_80 : decode cX4_load 80 = .ok (.isub, 1) := by decide +kernel
theorem dX4_load_81 : decode cX4_load 81 = .ok (.istore_n 3, 1) := by decide +kernel
theorem dX4_load_82 : decode cX4_load 82 = .ok (.aload_n 0, 1) := by decide +kernel
theorem dX4_load_83 : decode cX4_load 83 = .ok (.iload_n 2, 1) := by decide +kernel
theorem dX4_load_84 : decode cX4_load 84 = .ok (.sipush 256, 3) := by decide +kernel
theorem dX4_load_87 : decode cX4_load 87 = .ok (.if_icmp .gt 10, 3) := by decide +kernel
theorem dX4_load_90 : decode cX4_load 90 = .ok (.iload_n 3, 1) := by decide +kernel
theorem dX4_load_91 : decode cX4_load 91 = .ok (.sipush 16384, 3) := by decide +kernel
theorem dX4_load_94 : decode cX4_load 94 = .ok (.if_icmp .le 7, 3) := by decide +kernel
theorem dX4_load_97 : decode cX4_load 97 = .ok (.iconst 2, 1) := by decide +kernel
theorem dX4_load_98 : decode cX4_load 98 = .ok (.goto 4, 3) := by decide +kernel
theorem dX4_load_101 : decode cX4_load 101 = .ok (.iconst 0, 1) := by decide +kernel
theorem dX4_load_102 : decode cX4_load 102 = .ok (.putfield 45, 3) := by decide +kernel
theorem dX4_load_105 : decode cX4_load 105 = .ok (.aload_n 0, 1) := by decide +kernel
theorem dX4_load_106 : decode cX4_load 106 = .ok (.getfield 45, 3) := by decide +kernel
theorem dX4_load_109 : decode cX4_load 109 = .ok (.ifCond .le 5, 3) := by decide +kernel
theorem dX4_load_112 : decode cX4_load 112 = .ok (.iconst 0, 1) := by decide +kernel
theorem dX4_load_113 : decode cX4_load 113 = .ok (.ireturn, 1) := by decide +kernel
theorem dX4_load_114 : decode cX4_load 114 = .ok (.iload_n 1, 1) := by decide +kernel
theorem dX4_load_115 : decode cX4_load 115 = .ok (.ifCond .lt 8, 3) := by decide +kernel
theorem dX4_load_118 : decode cX4_load 118 = .ok (.aload_n 0, 1) := by decide +kernel
theorem dX4_load_119 : decode cX4_load 119 = .ok (.iload_n 1, 1) := by decide +kernel
theorem dX4_load_120 : decode cX4_load 120 = .ok (.invokevirtual 82, 3) := by decide +kernel
theorem dX4_load_123 : decode cX4_load 123 = .ok (.bipush 7, 2) := by decide +kernel
theorem dX4_load_125 : decode cX4_load 125 = .ok (.aload_n 0, 1) := by decide +kernel
theorem dX4_load_126 : decode cX4_load 126 = .ok (.getfield 73, 3) := by decide +kernel
theorem dX4_load_129 : decode cX4_load 129 = .ok (.imul, 1) := by decide +kernel
theorem dX4_load_130 : decode cX4_load 130 = .ok (.istore 4, 2) := by decide +kernel
theorem dX4_load_132 : decode cX4_load 132 = .ok (.aload_n 0, 1) := by decide +kernel
theorem dX4_load_133 : decode cX4_load 133 = .ok (.getfield 20, 3) := by decide +kernel
theorem dX4_load_136 : decode cX4_load 136 = .ok (.iload 4, 2) := by decide +kernel
theorem dX4_load_138 : decode cX4_load 138 = .ok (.aload_n 0, 1) := by decide +kernel
theorem dX4_load_139 : decode cX4_load 139 = .ok (.getfield 55, 3) := by decide +kernel
theorem dX4_load_142 : decode cX4_load 142 = .ok (.iastore, 1) := by decide +kernel
theorem dX4_load_143 : decode cX4_load 143 = .ok (.aload_n 0, 1) := by decide +kernel
theorem dX4_load_144 : decode cX4_load 144 = .ok (.getfield 20, 3) := by decide +kernel
theorem dX4_load_147 : decode cX4_load 147 = .ok (.iload 4, 2) := by decide +kernel
theorem dX4_load_149 : decode cX4_load 149 = .ok (.iconst 1, 1) := by decide +kernel
theorem dX4_load_150 : decode cX4_load 150 = .ok (.iadd, 1) := by decide +kernel
theorem dX4_load_151 : decode cX4_load 151 = .ok (.aload_n 0, 1) := by decide +kernel
theorem dX4_load_152 : decode cX4_load 152 = .ok (.getfield 52, 3) := by decide +kernel
theorem dX4_load_155 : decode cX4_load 155 = .ok (.iastore, 1) := by decide +kernel
theorem dX4_load_156 : decode cX4_load 156 = .ok (.iconst 0, 1) := by decide +kernel
theorem dX4_load_157 : decode cX4_load 157 = .ok (.istore 5, 2) := by decide +kernel
theorem dX4_load_159 : decode cX4_load 159 = .ok (.iload 5, 2) := by decide +kernel
theorem dX4_load_161 : decode cX4_load 161 = .ok (.iconst 5, 1) := by decide +kernel
theorem dX4_load_162 : decode cX4_load 162 = .ok (.if_icmp .ge 28, 3) := by decide +kernel
theorem dX4_load_165 : decode cX4_load 165 = .ok (.aload_n 0, 1) := by decide +kernel
theorem dX4_load_166 : decode cX4_load 166 = .ok (.getfield 20, 3) := by decide +kernel
theorem dX4_load_169 : decode cX4_load 169 = .ok (.iload 4, 2) := by decide +kernel
theorem dX4_load_171 : decode cX4_load 171 = .ok (.iconst 2, 1) := by decide +kernel
theorem dX4_load_172 : decode cX4_load 172 = .ok (.iadd, 1) := by decide +kernel
theorem dX4_load_173 : decode cX4_load 173 = .ok (.iload 5, 2) := by decide +kernel
theorem dX4_load_175 : decode cX4_load 175 = .ok (.iadd, 1) := by decide +kernel
theorem dX4_load_176 : decode cX4_load 176 = .ok (.aload_n 0, 1) := by decide +kernel
theorem dX4_load_177 : decode cX4_load 177 = .ok (.getfield 36, 3) := by decide +kernel
theorem dX4_load_180 : decode cX4_load 180 = .ok (.iload 5, 2) := by decide +kernel
theorem dX4_load_182 : decode cX4_load 182 = .ok (.iaload, 1) := by decide +kernel
theorem dX4_load_183 : decode cX4_load 183 = .ok (.iastore, 1) := by decide +kernel
theorem dX4_load_184 : decode cX4_load 184 = .ok (.iinc 5 1, 3) := by decide +kernel
theorem dX4_load_187 : decode cX4_load 187 = .ok (.goto (-28), 3) := by decide +kernel
theorem dX4_load_190 : decode cX4_load 190 = .ok (.iconst 0, 1) := by decide +kernel
theorem dX4_load_191 : decode cX4_load 191 = .ok (.istore 5, 2) := by decide +kernel
theorem dX4_load_193 : decode cX4_load 193 = .ok (.iload 5, 2) := by decide +kernel
theorem dX4_load_195 : decode cX4_load 195 = .ok (.aload_n 0, 1) := by decide +kernel
theorem dX4_load_196 : decode cX4_load 196 = .ok (.getfield 92, 3) := by decide +kernel
theorem dX4_load_199 : decode cX4_load 199 = .ok (.if_icmp .ge 28, 3) := by decide +kernel
theorem dX4_load_202 : decode cX4_load 202 = .ok (.aload_n 0, 1) := by decide +kernel
theorem dX4_load_203 : decode cX4_load 203 = .ok (.getfield 23, 3) := by decide +kernel
theorem dX4_load_206 : decode cX4_load 206 = .ok (.aload_n 0, 1) := by decide +kernel
theorem dX4_load_207 : decode cX4_load 207 = .ok (.getfield 79, 3) := by decide +kernel
theorem dX4_load_210 : decode cX4_load 210 = .ok (.iload 5, 2) := by decide +kernel
theorem dX4_load_212 : decode cX4_load 212 = .ok (.iadd, 1) := by decide +kernel
theorem dX4_load_213 : decode cX4_load 213 = .ok (.aload_n 0, 1) := by decide +kernel
theorem dX4_load_214 : decode cX4_load 214 = .ok (.iload 5, 2) := by decide +kernel
theorem dX4_load_216 : decode cX4_load 216 = .ok (.invokevirtual 104, 3) := by decide +kernel
theorem dX4_load_219 : decode cX4_load 219 = .ok (.i2b, 1) := by decide +kernel
theorem dX4_load_220 : decode cX4_load 220 = .ok (.bastore, 1) := by decide +kernel
theorem dX4_load_221 : decode cX4_load 221 = .ok (.iinc 5 1, 3) := by decide +kernel
theorem dX4_load_224 : decode cX4_load 224 = .ok (.goto (-31), 3) := by decide +kernel
theorem dX4_load_227 : decode cX4_load 227 = .ok (.aload_n 0, 1) := by decide +kernel
theorem dX4_load_228 : decode cX4_load 228 = .ok (.dup, 1) := by decide +kernel
theorem dX4_load_229 : decode cX4_load 229 = .ok (.getfield 73, 3) := by decide +kernel
theorem dX4_load_232 : decode cX4_load 232 = .ok (.iconst 1, 1) := by decide +kernel
theorem dX4_load_233 : decode cX4_load 233 = .ok (.iadd, 1) := by decide +kernel
theorem dX4_load_234 : decode cX4_load 234 = .ok (.putfield 73, 3) := by decide +kernel
theorem dX4_load_237 : decode cX4_load 237 = .ok (.aload_n 0, 1) := by decide +kernel
theorem dX4_load_238 : decode cX4_load 238 = .ok (.dup, 1) := by decide +kernel
theorem dX4_load_239 : decode cX4_load 239 = .ok (.getfield 79, 3) := by decide +kernel
theorem dX4_load_242 : decode cX4_load 242 = .ok (.aload_n 0, 1) := by decide +kernel
theorem dX4_load_243 : decode cX4_load 243 = .ok (.getfield 92, 3) := by decide +kernel
theorem dX4_load_246 : decode cX4_load 246 = .ok (.iadd, 1) := by decide +kernel
theorem dX4_load_247 : decode cX4_load 247 = .ok (.putfield 79, 3) := by decide +kernel
theorem dX4_load_250 : decode cX4_load 250 = .ok (.aload_n 0, 1) := by decide +kernel
theorem dX4_load_251 : decode cX4_load 251 = .ok (.aload_n 0, 1) := by decide +kernel
theorem dX4_load_252 : decode cX4_load 252 = .ok (.getfield 55, 3) := by decide +kernel
theorem dX4_load_255 : decode cX4_load 255 = .ok (.invokevirtual 107, 3) := by decide +kernel
theorem dX4_load_258 : decode cX4_load 258 = .ok (.ireturn, 1) := by decide +kernel
theorem dX4_glyphsOf_0 : decode cX4_glyphsOf 0 = .ok (.iconst 0, 1) := by decide +kernel
theorem dX4_glyphsOf_1 : decode cX4_glyphsOf 1 = .ok (.istore_n 2, 1) := by decide +kernel
theorem dX4_glyphsOf_2 : decode cX4_glyphsOf 2 = .ok (.iconst 0, 1) := by decide +kernel
theorem dX4_glyphsOf_3 : decode cX4_glyphsOf 3 = .ok (.istore_n 3, 1) := by decide +kernel
theorem dX4_glyphsOf_4 : decode cX4_glyphsOf 4 = .ok (.iload_n 3, 1) := by decide +kernel
theorem dX4_glyphsOf_5 : decode cX4_glyphsOf 5 = .ok (.aload_n 0, 1) := by decide +kernel
theorem dX4_glyphsOf_6 : decode cX4_glyphsOf 6 = .ok (.getfield 73, 3) := by decide +kernel
theorem dX4_glyphsOf_9 : decode cX4_glyphsOf 9 = .ok (.if_icmp .ge 30, 3) := by decide +kernel
theorem dX4_glyphsOf_12 : decode cX4_glyphsOf 12 = .ok (.iload_n 2, 1) := by decide +kernel
theorem dX4_glyphsOf_13 : decode cX4_glyphsOf 13 = .ok (.aload_n 0, 1) := by decide +kernel
theorem dX4_glyphsOf_14 : decode cX4_glyphsOf 14 = .ok (.getfield 20, 3) := by decide +kernel
theorem dX4_glyphsOf_17 : decode cX4_glyphsOf 17 = .ok (.bipush 7, 2) := by decide +kernel
theorem dX4_glyphsOf_19 : decode cX4_glyphsOf 19 = .ok (.iload_n 3, 1) := by decide +kernel
theorem dX4_glyphsOf_20 : decode cX4_glyphsOf 20 = .ok (.imul, 1) := by decide +kernel
theorem dX4_glyphsOf_21 : decode cX4_glyphsOf 21 = .ok (.iaload, 1) := by decide +kernel
theorem dX4_glyphsOf_22 : decode cX4_glyphsOf 22 = .ok (.iload_n 1, 1) := by decide +kernel
theorem dX4_glyphsOf_23 : decode cX4_glyphsOf 23 = .ok (.if_icmp .ne 7, 3) := by decide +kernel
theorem dX4_glyphsOf_26 : decode cX4_glyphsOf 26 = .ok (.iconst 1, 1) := by decide +kernel
theorem dX4_glyphsOf_27 : decode cX4_glyphsOf 27 = .ok (.goto 4, 3) := by decide +kernel
theorem dX4_glyphsOf_30 : decode cX4_glyphsOf 30 = .ok (.iconst 0, 1) := by decide +kernel
theorem dX4_glyphsOf_31 : decode cX4_glyphsOf 31 = .ok (.iadd, 1) := by decide +kernel
theorem dX4_glyphsOf_32 : decode cX4_glyphsOf 32 = .ok (.istore_n 2, 1) := by decide +kernel
theorem dX4_glyphsOf_33 : decode cX4_glyphsOf 33 = .ok (.iinc 3 1, 3) := by decide +kernel
theorem dX4_glyphsOf_36 : decode cX4_glyphsOf 36 = .ok (.goto (-32), 3) := by decide +kernel
theorem dX4_glyphsOf_39 : decode cX4_glyphsOf 39 = .ok (.iload_n 2, 1) := by decide +kernel
theorem dX4_glyphsOf_40 : decode cX4_glyphsOf 40 = .ok (.ireturn, 1) := by decide +kernel
theorem dX4_permanent_0 : decode cX4_permanent 0 = .ok (.aload_n 0, 1) := by decide +kernel
theorem dX4_permanent_1 : decode cX4_permanent 1 = .ok (.iconst 0, 1) := by decide +kernel
theorem dX4_permanent_2 : decode cX4_permanent 2 = .ok (.putfield 45, 3) := by decide +kernel
theorem dX4_permanent_5 : decode cX4_permanent 5 = .ok (.aload_n 0, 1) := by decide +kernel
theorem dX4_permanent_6 : decode cX4_permanent 6 = .ok (.aload_n 0, 1) := by decide +kernel
theorem dX4_permanent_7 : decode cX4_permanent 7 = .ok (.getfield 55, 3) := by decide +kernel
theorem dX4_permanent_10 : decode cX4_permanent 10 = .ok (.invokevirtual 86, 3) := by decide +kernel
theorem dX4_permanent_13 : decode cX4_permanent 13 = .ok (.istore_n 2, 1) := by decide +kernel
theorem dX4_permanent_14 : decode cX4_permanent 14 = .ok (.iload_n 2, 1) := by decide +kernel
theorem dX4_permanent_15 : decode cX4_permanent 15 = .ok (.ifCond .lt 21, 3) := by decide +kernel
theorem dX4_permanent_18 : decode cX4_permanent 18 = .ok (.aload_n 0, 1) := by decide +kernel
theorem dX4_permanent_19 : decode cX4_permanent 19 = .ok (.getfield 16, 3) := by decide +kernel
theorem dX4_permanent_22 : decode cX4_permanent 22 = .ok (.iload_n 2, 1) := by decide +kernel
theorem dX4_permanent_23 : decode cX4_permanent 23 = .ok (.ifCond .ge 7, 3) := by decide +kernel
theorem dX4_permanent_26 : decode cX4_permanent 26 = .ok (.iconst 0, 1) := by decide +kernel
theorem dX4_permanent_27 : decode cX4_permanent 27 = .ok (.goto 4, 3) := by decide +kernel
theorem dX4_permanent_30 : decode cX4_permanent 30 = .ok (.iload_n 2, 1) := by decide +kernel
theorem dX4_permanent_31 : decode cX4_permanent 31 = .ok (.baload, 1) := by decide +kernel
theorem dX4_permanent_32 : decode cX4_permanent 32 = .ok (.iload_n 1, 1) := by decide +kernel
theorem dX4_permanent_33 : decode cX4_permanent 33 = .ok (.if_icmp .ne 5, 3) := by decide +kernel
theorem dX4_permanent_36 : decode cX4_permanent 36 = .ok (.iconst 0, 1) := by decide +kernel
theorem dX4_permanent_37 : decode cX4_permanent 37 = .ok (.ireturn, 1) := by decide +kernel
theorem dX4_permanent_38 : decode cX4_permanent 38 = .ok (.aload_n 0, 1) := by decide +kernel
theorem dX4_permanent_39 : decode cX4_permanent 39 = .ok (.getfield 16, 3) := by decide +kernel
theorem dX4_permanent_42 : decode cX4_permanent 42 = .ok (.iload_n 2, 1) := by decide +kernel
theorem dX4_permanent_43 : decode cX4_permanent 43 = .ok (.iload_n 1, 1) := by decide +kernel
theorem dX4_permanent_44 : decode cX4_permanent 44 = .ok (.bastore, 1) := by decide +kernel
theorem dX4_permanent_45 : decode cX4_permanent 45 = .ok (.iconst 1, 1) := by decide +kernel
theorem dX4_permanent_46 : decode cX4_permanent 46 = .ok (.ireturn, 1) := by decide +kernel
theorem dX4_drop_0 : decode cX4_drop 0 = .ok (.aload_n 0, 1) := by decide +kernel
theorem dX4_drop_1 : decode cX4_drop 1 = .ok (.iload_n 1, 1) := by decide +kernel
theorem dX4_drop_2 : decode cX4_drop 2 = .ok (.ifCond .lt 8, 3) := by decide +kernel
theorem dX4_drop_5 : decode cX4_drop 5 = .ok (.iload_n 1, 1) := by decide +kernel
theorem dX4_drop_6 : decode cX4_drop 6 = .ok (.iconst 3, 1) := by decide +kernel
theorem dX4_drop_7 : decode cX4_drop 7 = .ok (.if_icmp .le 7, 3) := by decide +kernel
theorem dX4_drop_10 : decode cX4_drop 10 = .ok (.iconst 1, 1) := by decide +kernel
theorem dX4_drop_11 : decode cX4_drop 11 = .ok (.goto 4, 3) := by decide +kernel
theorem dX4_drop_14 : decode cX4_drop 14 = .ok (.iconst 0, 1) := by decide +kernel
theorem dX4_drop_15 : decode cX4_drop 15 = .ok (.putfield 45, 3) := by decide +kernel
theorem dX4_drop_18 : decode cX4_drop 18 = .ok (.aload_n 0, 1) := by decide +kernel
theorem dX4_drop_19 : decode cX4_drop 19 = .ok (.getfield 45, 3) := by decide +kernel
theorem dX4_drop_22 : decode cX4_drop 22 = .ok (.ifCond .le 5, 3) := by decide +kernel
theorem dX4_drop_25 : decode cX4_drop 25 = .ok (.iconst 0, 1) := by decide +kernel
theorem dX4_drop_26 : decode cX4_drop 26 = .ok (.ireturn, 1) := by decide +kernel
theorem dX4_drop_27 : decode cX4_drop 27 = .ok (.aload_n 0, 1) := by decide +kernel
theorem dX4_drop_28 : decode cX4_drop 28 = .ok (.iconst 0, 1) := by decide +kernel
theorem dX4_drop_29 : decode cX4_drop 29 = .ok (.putfield 58, 3) := by decide +kernel
theorem dX4_drop_32 : decode cX4_drop 32 = .ok (.iconst 0, 1) := by decide +kernel
theorem dX4_drop_33 : decode cX4_drop 33 = .ok (.istore_n 2, 1) := by decide +kernel
theorem dX4_drop_34 : decode cX4_drop 34 = .ok (.iload_n 1, 1) := by decide +kernel
theorem dX4_drop_35 : decode cX4_drop 35 = .ok (.iconst 3, 1) := by decide +kernel
theorem dX4_drop_36 : decode cX4_drop 36 = .ok (.if_icmp .ne 29, 3) := by decide +kernel
theorem dX4_drop_39 : decode cX4_drop 39 = .ok (.aload_n 0, 1) := by decide +kernel
theorem dX4_drop_40 : decode cX4_drop 40 = .ok (.aload_n 0, 1) := by decide +kernel
theorem dX4_drop_41 : decode cX4_drop 41 = .ok (.getfield 55, 3) := by decide +kernel
theorem dX4_drop_44 : decode cX4_drop 44 = .ok (.aload_n 0, 1) := by decide +kernel
theorem dX4_drop_45 : decode cX4_drop 45 = .ok (.getfield 52, 3) := by decide +kernel
theorem dX4_drop_48 : decode cX4_drop 48 = .ok (.invokevirtual 100, 3) := by decide +kernel
theorem dX4_drop_51 : decode cX4_drop 51 = .ok (.istore_n 3, 1) := by decide +kernel
theorem dX4_drop_52 : decode cX4_drop 52 = .ok (.iload_n 3, 1) := by decide +kernel
theorem dX4_drop_53 : decode cX4_drop 53 = .ok (.ifCond .lt 10, 3) := by decide +kernel
theorem dX4_drop_56 : decode cX4_drop 56 = .ok (.aload_n 0, 1) := by decide +kernel
theorem dX4_drop_57 : decode cX4_drop 57 = .ok (.iload_n 3, 1) := by decide +kernel
theorem dX4_drop_58 : decode cX4_drop 58 = .ok (.invokevirtual 82, 3) := by decide +kernel
theorem dX4_drop_61 : decode cX4_drop 61 = .ok (.iconst 1, 1) := by decide +kernel
theorem dX4_drop_62 : decode cX4_drop 62 = .ok (.istore_n 2, 1) := by decide +kernel
theorem dX4_drop_63 : decode cX4_drop 63 = .ok (.iload_n 2, 1) := by decide +kernel
theorem dX4_drop_64 : decode cX4_drop 64 = .ok (.ireturn, 1) := by decide +kernel
theorem dX4_drop_65 : decode cX4_drop 65 = .ok (.aload_n 0, 1) := by decide +kernel
theorem dX4_drop_66 : decode cX4_drop 66 = .ok (.getfield 66, 3) := by decide +kernel
theorem dX4_drop_69 : decode cX4_drop 69 = .ok (.iconst 1, 1) := by decide +kernel
theorem dX4_drop_70 : decode cX4_drop 70 = .ok (.isub, 1) := by decide +kernel
theorem dX4_drop_71 : decode cX4_drop 71 = .ok (.istore_n 3, 1) := by decide +kernel
theorem dX4_drop_72 : decode cX4_drop 72 = .ok (.iload_n 3, 1) := by decide +kernel
theorem dX4_drop_73 : decode cX4_drop 73 = .ok (.ifCond .lt 53, 3) := by decide +kernel
theorem dX4_drop_76 : decode cX4_drop 76 = .ok (.iload_n 1, 1) := by decide +kernel
theorem dX4_drop_77 : decode cX4_drop 77 = .ok (.ifCond .eq 35, 3) := by decide +kernel
theorem dX4_drop_80 : decode cX4_drop 80 = .ok (.iload_n 1, 1) := by decide +kernel
theorem dX4_drop_81 : decode cX4_drop 81 = .ok (.iconst 1, 1) := by decide +kernel
theorem dX4_drop_82 : decode cX4_drop 82 = .ok (.if_icmp .ne 12, 3) := by decide +kernel
theorem dX4_drop_85 : decode cX4_drop 85 = .ok (.aload_n 0, 1) := by decide +kernel
theorem dX4_drop_86 : decode cX4_drop 86 = .ok (.getfield 16, 3) := by decide +kernel
theorem dX4_drop_89 : decode cX4_drop 89 = .ok (.iload_n 3, 1) := by decide +kernel
theorem dX4_drop_90 : decode cX4_drop 90 = .ok (.baload, 1) := by decide +kernel
theorem dX4_drop_91 : decode cX4_drop 91 = .ok (.ifCond .eq 21, 3) := by decide +kernel
theorem dX4_drop_94 : decode cX4_drop 94 = .ok (.iload_n 1, 1) := by decide +kernel
theorem dX4_drop_95 : decode cX4_drop 95 = .ok (.iconst 2, 1) := by decide +kernel
theorem dX4_drop_96 : decode cX4_drop 96 = .ok (.if_icmp .ne 24, 3) := by decide +kernel
theorem dX4_drop_99 : decode cX4_drop 99 = .ok (.aload_n 0, 1) := by decide +kernel
theorem dX4_drop_100 : decode cX4_drop 100 = .ok (.getfield 7, 3) := by decide +kernel
theorem dX4_drop_103 : decode cX4_drop 103 = .ok (.iload_n 3, 1) := by decide +kernel
theorem dX4_drop_104 : decode cX4_drop 104 = .ok (.iaload, 1) := by decide +kernel
theorem dX4_drop_105 : decode cX4_drop 105 = .ok (.aload_n 0, 1) := by decide +kernel
theorem dX4_drop_106 : decode cX4_drop 106 = .ok (.getfield 55, 3) := by decide +kernel
theorem dX4_drop_109 : decode cX4_drop 109 = .ok (.if_icmp .ne 11, 3) := by decide +kernel
theorem dX4_drop_112 : decode cX4_drop 112 = .ok (.aload_n 0, 1) := by decide +kernel
theorem dX4_drop_113 : decode cX4_drop 113 = .ok (.iload_n 3, 1) := by decide +kernel
theorem dX4_drop_114 : decode cX4_drop 114 = .ok (.invokevirtual 89, 3) := by decide +kernel
theorem dX4_drop_117 : decode cX4_drop 117 = .ok (.iinc 2 1, 3) := by decide +kernel
theorem dX4_drop_120 : decode cX4_drop 120 = .ok (.iinc 3 (-1), 3) := by decide +kernel
theorem dX4_drop_123 : decode cX4_drop 123 = .ok (.goto (-51), 3) := by decide +kernel
theorem dX4_drop_126 : decode cX4_drop 126 = .ok (.iload_n 2, 1) := by decide +kernel
theorem dX4_drop_127 : decode cX4_drop 127 = .ok (.ireturn, 1) := by decide +kernel
theorem dX4_pin_0 : decode cX4_pin 0 = .ok (.aload_n 0, 1) := by decide +kernel
theorem dX4_pin_1 : decode cX4_pin 1 = .ok (.iconst 0, 1) := by decide +kernel
theorem dX4_pin_2 : decode cX4_pin 2 = .ok (.putfield 45, 3) := by decide +kernel
theorem dX4_pin_5 : decode cX4_pin 5 = .ok (.aload_n 0, 1) := by decide +kernel
theorem dX4_pin_6 : decode cX4_pin 6 = .ok (.iload_n 2, 1) := by decide +kernel
theorem dX4_pin_7 : decode cX4_pin 7 = .ok (.invokevirtual 86, 3) := by decide +kernel
theorem dX4_pin_10 : decode cX4_pin 10 = .ok (.istore_n 3, 1) := by decide +kernel
theorem dX4_pin_11 : decode cX4_pin 11 = .ok (.iload_n 3, 1) := by decide +kernel
theorem dX4_pin_12 : decode cX4_pin 12 = .ok (.ifCond .lt 12, 3) := by decide +kernel
theorem dX4_pin_15 : decode cX4_pin 15 = .ok (.iload_n 1, 1) := by decide +kernel
theorem dX4_pin_16 : decode cX4_pin 16 = .ok (.ifCond .eq 10, 3) := by decide +kernel
theorem dX4_pin_19 : decode cX4_pin 19 = .ok (.iload_n 1, 1) := by decide +kernel
theorem dX4_pin_20 : decode cX4_pin 20 = .ok (.iconst 1, 1) := by decide +kernel
theorem dX4_pin_21 : decode cX4_pin 21 = .ok (.if_icmp .eq 5, 3) := by decide +kernel
theorem dX4_pin_24 : decode cX4_pin 24 = .ok (.iconst 0, 1) := by decide +kernel
theorem dX4_pin_25 : decode cX4_pin 25 = .ok (.ireturn, 1) := by decide +kernel
theorem dX4_pin_26 : decode cX4_pin 26 = .ok (.aload_n 0, 1) := by decide +kernel
theorem dX4_pin_27 : decode cX4_pin 27 = .ok (.getfield 33, 3) := by decide +kernel
theorem dX4_pin_30 : decode cX4_pin 30 = .ok (.iload_n 1, 1) := by decide +kernel
theorem dX4_pin_31 : decode cX4_pin 31 = .ok (.iload_n 2, 1) := by decide +kernel
theorem dX4_pin_32 : decode cX4_pin 32 = .ok (.iastore, 1) := by decide +kernel
theorem dX4_pin_33 : decode cX4_pin 33 = .ok (.iconst 0, 1) := by decide +kernel
theorem dX4_pin_34 : decode cX4_pin 34 = .ok (.istore 4, 2) := by decide +kernel
theorem dX4_pin_36 : decode cX4_pin 36 = .ok (.iload 4, 2) := by decide +kernel
theorem dX4_pin_38 : decode cX4_pin 38 = .ok (.bipush 7, 2) := by decide +kernel
theorem dX4_pin_40 : decode cX4_pin 40 = .ok (.if_icmp .ge 33, 3) := by decide +kernel
theorem dX4_pin_43 : decode cX4_pin 43 = .ok (.aload_n 0, 1) := by decide +kernel
theorem dX4_pin_44 : decode cX4_pin 44 = .ok (.getfield 30, 3) := by decide +kernel
theorem dX4_pin_47 : decode cX4_pin 47 = .ok (.bipush 7, 2) := by decide +kernel
theorem dX4_pin_49 : decode cX4_pin 49 = .ok (.iload_n 1, 1) := by decide +kernel
theorem dX4_pin_50 : decode cX4_pin 50 = .ok (.imul, 1) := by decide +kernel
theorem dX4_pin_51 : decode cX4_pin 51 = .ok (.iload 4, 2) := by decide +kernel
theorem dX4_pin_53 : decode cX4_pin 53 = .ok (.iadd, 1) := by decide +kernel
theorem dX4_pin_54 : decode cX4_pin 54 = .ok (.aload_n 0, 1) := by decide +kernel
theorem dX4_pin_55 : decode cX4_pin 55 = .ok (.getfield 13, 3) := by decide +kernel
theorem dX4_pin_58 : decode cX4_pin 58 = .ok (.bipush 7, 2) := by decide +kernel
theorem dX4_pin_60 : decode cX4_pin 60 = .ok (.iload_n 3, 1) := by decide +kernel
theorem dX4_pin_61 : decode cX4_pin 61 = .ok (.imul, 1) := by decide +kernel
theorem dX4_pin_62 : decode cX4_pin 62 = .ok (.iload 4, 2) := by decide +kernel
theorem dX4_pin_64 : decode cX4_pin 64 = .ok (.iadd, 1) := by decide +kernel
theorem dX4_pin_65 : decode cX4_pin 65 = .ok (.iaload, 1) := by decide +kernel
theorem dX4_pin_66 : decode cX4_pin 66 = .ok (.iastore, 1) := by decide +kernel
theorem dX4_pin_67 : decode cX4_pin 67 = .ok (.iinc 4 1, 3) := by decide +kernel
theorem dX4_pin_70 : decode cX4_pin 70 = .ok (.goto (-34), 3) := by decide +kernel
theorem dX4_pin_73 : decode cX4_pin 73 = .ok (.iconst 1, 1) := by decide +kernel
theorem dX4_pin_74 : decode cX4_pin 74 = .ok (.ireturn, 1) := by decide +kernel
theorem dX4_strike_0 : decode cX4_strike 0 = .ok (.iconst 0, 1) := by decide +kernel
theorem dX4_strike_1 : decode cX4_strike 1 = .ok (.istore_n 3, 1) := by decide +kernel
theorem dX4_strike_2 : decode cX4_strike 2 = .ok (.iconst 0, 1) := by decide +kernel
theorem dX4_strike_3 : decode cX4_strike 3 = .ok (.istore 4, 2) := by decide +kernel
theorem dX4_strike_5 : decode cX4_strike 5 = .ok (.iload 4, 2) := by decide +kernel
theorem dX4_strike_7 : decode cX4_strike 7 = .ok (.aload_n 0, 1) := by decide +kernel
theorem dX4_strike_8 : decode cX4_strike 8 = .ok (.getfield 66, 3) := by decide +kernel
theorem dX4_strike_11 : decode cX4_strike 11 = .ok (.if_icmp .ge 45, 3) := by decide +kernel
theorem dX4_strike_14 : decode cX4_strike 14 = .ok (.iload_n 3, 1) := by decide +kernel
theorem dX4_strike_15 : decode cX4_strike 15 = .ok (.ifCond .ne 29, 3) := by decide +kernel
theorem dX4_strike_18 : decode cX4_strike 18 = .ok (.aload_n 0, 1) := by decide +kernel
theorem dX4_strike_19 : decode cX4_strike 19 = .ok (.getfield 42, 3) := by decide +kernel
theorem dX4_strike_22 : decode cX4_strike 22 = .ok (.iload 4, 2) := by decide +kernel
theorem dX4_strike_24 : decode cX4_strike 24 = .ok (.baload, 1) := by decide +kernel
theorem dX4_strike_25 : decode cX4_strike 25 = .ok (.ifCond .eq 23, 3) := by decide +kernel
theorem dX4_strike_28 : decode cX4_strike 28 = .ok (.aload_n 0, 1) := by decide +kernel
theorem dX4_strike_29 : decode cX4_strike 29 = .ok (.getfield 13, 3) := by decide +kernel
theorem dX4_strike_32 : decode cX4_strike 32 = .ok (.bipush 7, 2) := by decide +kernel
theorem dX4_strike_34 : decode cX4_strike 34 = .ok (.iload 4, 2) := by decide +kernel
theorem dX4_strike_36 : decode cX4_strike 36 = .ok (.imul, 1) := by decide +kernel
theorem dX4_strike_37 : decode cX4_strike 37 = .ok (.iload_n 1, 1) := by decide +kernel
theorem dX4_strike_38 : decode cX4_strike 38 = .ok (.iadd, 1) := by decide +kernel
theorem dX4_strike_39 : decode cX4_strike 39 = .ok (.iaload, 1) := by decide +kernel
theorem dX4_strike_40 : decode cX4_strike 40 = .ok (.iload_n 2, 1) := by decide +kernel
theorem dX4_strike_41 : decode cX4_strike 41 = .ok (.if_icmp .ne 7, 3) := by decide +kernel
theorem dX4_strike_44 : decode cX4_strike 44 = .ok (.iconst 1, 1) := by decide +kernel
theorem dX4_strike_45 : decode cX4_strike 45 = .ok (.goto 4, 3) := by decide +kernel
theorem dX4_strike_48 : decode cX4_strike 48 = .ok (.iconst 0, 1) := by decide +kernel
theorem dX4_strike_49 : decode cX4_strike 49 = .ok (.istore_n 3, 1) := by decide +kernel
theorem dX4_strike_50 : decode cX4_strike 50 = .ok (.iinc 4 1, 3) := by decide +kernel
theorem dX4_strike_53 : decode cX4_strike 53 = .ok (.goto (-48), 3) := by decide +kernel
theorem dX4_strike_56 : decode cX4_strike 56 = .ok (.iconst 0, 1) := by decide +kernel
theorem dX4_strike_57 : decode cX4_strike 57 = .ok (.istore 4, 2) := by decide +kernel
theorem dX4_strike_59 : decode cX4_strike 59 = .ok (.iload 4, 2) := by decide +kernel
theorem dX4_strike_61 : decode cX4_strike 61 = .ok (.aload_n 0, 1) := by decide +kernel
theorem dX4_strike_62 : decode cX4_strike 62 = .ok (.getfield 66, 3) := by decide +kernel
theorem dX4_strike_65 : decode cX4_strike 65 = .ok (.if_icmp .ge 51, 3) := by decide +kernel
theorem dX4_strike_68 : decode cX4_strike 68 = .ok (.iload_n 3, 1) := by decide +kernel
theorem dX4_strike_69 : decode cX4_strike 69 = .ok (.ifCond .eq 47, 3) := by decide +kernel
theorem dX4_strike_72 : decode cX4_strike 72 = .ok (.aload_n 0, 1) := by decide +kernel
theorem dX4_strike_73 : decode cX4_strike 73 = .ok (.getfield 42, 3) := by decide +kernel
theorem dX4_strike_76 : decode cX4_strike 76 = .ok (.iload 4, 2) := by decide +kernel
theorem dX4_strike_78 : decode cX4_strike 78 = .ok (.aload_n 0, 1) := by decide +kernel
theorem dX4_strike_79 : decode cX4_strike 79 = .ok (.getfield 42, 3) := by decide +kernel
theorem dX4_strike_82 : decode cX4_strike 82 = .ok (.iload 4, 2) := by decide +kernel
theorem dX4_strike_84 : decode cX4_strike 84 = .ok (.baload, 1) := by decide +kernel
theorem dX4_strike_85 : decode cX4_strike 85 = .ok (.ifCond .eq 23, 3) := by decide +kernel
theorem dX4_strike_88 : decode cX4_strike 88 = .ok (.aload_n 0, 1) := by decide +kernel
theorem dX4_strike_89 : decode cX4_strike 89 = .ok (.getfield 13, 3) := by decide +kernel
theorem dX4_strike_92 : decode cX4_strike 92 = .ok (.bipush 7, 2) := by decide +kernel
theorem dX4_strike_94 : decode cX4_strike 94 = .ok (.iload 4, 2) := by decide +kernel
theorem dX4_strike_96 : decode cX4_strike 96 = .ok (.imul, 1) := by decide +kernel
theorem dX4_strike_97 : decode cX4_strike 97 = .ok (.iload_n 1, 1) := by decide +kernel
theorem dX4_strike_98 : decode cX4_strike 98 = .ok (.iadd, 1) := by decide +kernel
theorem dX4_strike_99 : decode cX4_strike 99 = .ok (.iaload, 1) := by decide +kernel
theorem dX4_strike_100 : decode cX4_strike 100 = .ok (.iload_n 2, 1) := by decide +kernel
theorem dX4_strike_101 : decode cX4_strike 101 = .ok (.if_icmp .ne 7, 3) := by decide +kernel
theorem dX4_strike_104 : decode cX4_strike 104 = .ok (.iconst 1, 1) := by decide +kernel
theorem dX4_strike_105 : decode cX4_strike 105 = .ok (.goto 4, 3) := by decide +kernel
theorem dX4_strike_108 : decode cX4_strike 108 = .ok (.iconst 0, 1) := by decide +kernel
theorem dX4_strike_109 : decode cX4_strike 109 = .ok (.bastore, 1) := by decide +kernel
theorem dX4_strike_110 : decode cX4_strike 110 = .ok (.iinc 4 1, 3) := by decide +kernel
theorem dX4_strike_113 : decode cX4_strike 113 = .ok (.goto (-54), 3) := by decide +kernel
theorem dX4_strike_116 : decode cX4_strike 116 = .ok (.iload_n 3, 1) := by decide +kernel
theorem dX4_strike_117 : decode cX4_strike 117 = .ok (.ireturn, 1) := by decide +kernel
theorem dX4_end_0 : decode cX4_end 0 = .ok (.iload_n 2, 1) := by decide +kernel
theorem dX4_end_1 : decode cX4_end 1 = .ok (.iconst 1, 1) := by decide +kernel
theorem dX4_end_2 : decode cX4_end 2 = .ok (.isub, 1) := by decide +kernel
theorem dX4_end_3 : decode cX4_end 3 = .ok (.istore 5, 2) := by decide +kernel
theorem dX4_end_5 : decode cX4_end 5 = .ok (.iconst 0, 1) := by decide +kernel
theorem dX4_end_6 : decode cX4_end 6 = .ok (.istore 6, 2) := by decide +kernel
theorem dX4_end_8 : decode cX4_end 8 = .ok (.iload 6, 2) := by decide +kernel
theorem dX4_end_10 : decode cX4_end 10 = .ok (.aload_n 0, 1) := by decide +kernel
theorem dX4_end_11 : decode cX4_end 11 = .ok (.getfield 66, 3) := by decide +kernel
theorem dX4_end_14 : decode cX4_end 14 = .ok (.if_icmp .ge 94, 3) := by decide +kernel
theorem dX4_end_17 : decode cX4_end 17 = .ok (.aload_n 0, 1) := by decide +kernel
theorem dX4_end_18 : decode cX4_end 18 = .ok (.getfield 13, 3) := by decide +kernel
theorem dX4_end_21 : decode cX4_end 21 = .ok (.bipush 7, 2) := by decide +kernel
theorem dX4_end_23 : decode cX4_end 23 = .ok (.iload 6, 2) := by decide +kernel
theorem dX4_end_25 : decode cX4_end 25 = .ok (.imul, 1) := by decide +kernel
theorem dX4_end_26 : decode cX4_end 26 = .ok (.iload_n 1, 1) := by decide +kernel
theorem dX4_end_27 : decode cX4_end 27 = .ok (.iadd, 1) := by decide +kernel
theorem dX4_end_28 : decode cX4_end 28 = .ok (.iaload, 1) := by decide +kernel
theorem dX4_end_29 : decode cX4_end 29 = .ok (.istore 7, 2) := by decide +kernel
theorem dX4_end_31 : decode cX4_end 31 = .ok (.aload_n 0, 1) := by decide +kernel
theorem dX4_end_32 : decode cX4_end 32 = .ok (.getfield 42, 3) := by decide +kernel
theorem dX4_end_35 : decode cX4_end 35 = .ok (.iload 6, 2) := by decide +kernel
theorem dX4_end_37 : decode cX4_end 37 = .ok (.baload, 1) := by decide +kernel
theorem dX4_end_38 : decode cX4_end 38 = .ok (.ifCond .eq 19, 3) := by decide +kernel
theorem dX4_end_41 : decode cX4_end 41 = .ok (.iload 7, 2) := by decide +kernel
theorem dX4_end_43 : decode cX4_end 43 = .ok (.iload_n 2, 1) := by decide +kernel
theorem dX4_end_44 : decode cX4_end 44 = .ok (.if_icmp .lt 13, 3) := by decide +kernel
theorem dX4_end_47 : decode cX4_end 47 = .ok (.iload 7, 2) := by decide +kernel
theorem dX4_end_49 : decode cX4_end 49 = .ok (.iload_n 3, 1) := by decide +kernel
theorem dX4_end_50 : decode cX4_end 50 = .ok (.if_icmp .gt 7, 3) := by decide +kernel
theorem dX4_end_53 : decode cX4_end 53 = .ok (.iconst 1, 1) := by decide +kernel
theorem dX4_end_54 : decode cX4_end 54 = .ok (.goto 4, 3) := by decide +kernel
theorem dX4_end_57 : decode cX4_end 57 = .ok (.iconst 0, 1) := by decide +kernel
theorem dX4_end_58 : decode cX4_end 58 = .ok (.istore 8, 2) := by decide +kernel
theorem dX4_end_60 : decode cX4_end 60 = .ok (.iload 8, 2) := by decide +kernel
theorem dX4_end_62 : decode cX4_end 62 = .ok (.ifCond .eq 36, 3) := by decide +kernel
theorem dX4_end_65 : decode cX4_end 65 = .ok (.iload 5, 2) := by decide +kernel
theorem dX4_end_67 : decode cX4_end 67 = .ok (.iload_n 2, 1) := by decide +kernel
theorem dX4_end_68 : decode cX4_end 68 = .ok (.if_icmp .lt 25, 3) := by decide +kernel
theorem dX4_end_71 : decode cX4_end 71 = .ok (.iload 4, 2) := by decide +kernel
theorem dX4_end_73 : decode cX4_end 73 = .ok (.ifCond .eq 13, 3) := by decide +kernel
theorem dX4_end_76 : decode cX4_end 76 = .ok (.iload 7, 2) := by decide +kernel
theorem dX4_end_78 : decode cX4_end 78 = .ok (.iload 5, 2) := by decide +kernel
theorem dX4_end_80 : decode cX4_end 80 = .ok (.if_icmp .ge 18, 3) := by decide +kernel
theorem dX4_end_83 : decode cX4_end 83 = .ok (.goto 10, 3) := by decide +kernel
theorem dX4_end_86 : decode cX4_end 86 = .ok (.iload 7, 2) := by decide +kernel
theorem dX4_end_88 : decode cX4_end 88 = .ok (.iload 5, 2) := by decide +kernel
theorem dX4_end_90 : decode cX4_end 90 = .ok (.if_icmp .le 8, 3) := by decide +kernel
theorem dX4_end_93 : decode cX4_end 93 = .ok (.iload 7, 2) := by decide +kernel
theorem dX4_end_95 : decode cX4_end 95 = .ok (.goto 5, 3) := by decide +kernel
theorem dX4_end_98 : decode cX4_end 98 = .ok (.iload 5, 2) := by decide +kernel
theorem dX4_end_100 : decode cX4_end 100 = .ok (.istore 5, 2) := by decide +kernel
theorem dX4_end_102 : decode cX4_end 102 = .ok (.iinc 6 1, 3) := by decide +kernel
theorem dX4_end_105 : decode cX4_end 105 = .ok (.goto (-97), 3) := by decide +kernel
theorem dX4_end_108 : decode cX4_end 108 = .ok (.iload 5, 2) := by decide +kernel
theorem dX4_end_110 : decode cX4_end 110 = .ok (.ireturn, 1) := by decide +kernel
theorem dX4_byPitch_0 : decode cX4_byPitch 0 = .ok (.aload_n 0, 1) := by decide +kernel
theorem dX4_byPitch_1 : decode cX4_byPitch 1 = .ok (.iconst 1, 1) := by decide +kernel
theorem dX4_byPitch_2 : decode cX4_byPitch 2 = .ok (.iconst 1, 1) := by decide +kernel
theorem dX4_byPitch_3 : decode cX4_byPitch 3 = .ok (.iconst 1, 1) := by decide +kernel
theorem dX4_byPitch_4 : decode cX4_byPitch 4 = .ok (.iconst 1, 1) := by decide +kernel
theorem dX4_byPitch_5 : decode cX4_byPitch 5 = .ok (.invokevirtual 110, 3) := by decide +kernel
theorem dX4_byPitch_8 : decode cX4_byPitch 8 = .ok (.iconst 1, 1) := by decide +kernel
theorem dX4_byPitch_9 : decode cX4_byPitch 9 = .ok (.if_icmp .ne 4, 3) := by decide +kernel
theorem dX4_byPitch_12 : decode cX4_byPitch 12 = .ok (.return_, 1) := by decide +kernel
theorem dX4_byPitch_13 : decode cX4_byPitch 13 = .ok (.aload_n 0, 1) := by decide +kernel
theorem dX4_byPitch_14 : decode cX4_byPitch 14 = .ok (.iconst 2, 1) := by decide +kernel
theorem dX4_byPitch_15 : decode cX4_byPitch 15 = .ok (.iload_n 1, 1) := by decide +kernel
theorem dX4_byPitch_16 : decode cX4_byPitch 16 = .ok (.ldc 49, 2) := by decide +kernel
theorem dX4_byPitch_18 : decode cX4_byPitch 18 = .ok (.iconst 1, 1) := by decide +kernel
theorem dX4_byPitch_19 : decode cX4_byPitch 19 = .ok (.invokevirtual 110, 3) := by decide +kernel
theorem dX4_byPitch_22 : decode cX4_byPitch 22 = .ok (.istore_n 2, 1) := by decide +kernel
theorem dX4_byPitch_23 : decode cX4_byPitch 23 = .ok (.aload_n 0, 1) := by decide +kernel
theorem dX4_byPitch_24 : decode cX4_byPitch 24 = .ok (.iconst 2, 1) := by decide +kernel
theorem dX4_byPitch_25 : decode cX4_byPitch 25 = .ok (.iload_n 2, 1) := by decide +kernel
theorem dX4_byPitch_26 : decode cX4_byPitch 26 = .ok (.iload_n 1, 1) := by decide +kernel
theorem dX4_byPitch_27 : decode cX4_byPitch 27 = .ok (.if_icmp .ge 14, 3) := by decide +kernel
theorem dX4_byPitch_30 : decode cX4_byPitch 30 = .ok (.aload_n 0, 1) := by decide +kernel
theorem dX4_byPitch_31 : decode cX4_byPitch 31 = .ok (.iconst 2, 1) := by decide +kernel
theorem dX4_byPitch_32 : decode cX4_byPitch 32 = .ok (.iconst 1, 1) := by decide +kernel
theorem dX4_byPitch_33 : decode cX4_byPitch 33 = .ok (.iload_n 1, 1) := by decide +kernel
theorem dX4_byPitch_34 : decode cX4_byPitch 34 = .ok (.iconst 0, 1) := by decide +kernel
theorem dX4_byPitch_35 : decode cX4_byPitch 35 = .ok (.invokevirtual 110, 3) := by decide +kernel
theorem dX4_byPitch_38 : decode cX4_byPitch 38 = .ok (.goto 4, 3) := by decide +kernel
theorem dX4_byPitch_41 : decode cX4_byPitch 41 = .ok (.iload_n 2, 1) := by decide +kernel
theorem dX4_byPitch_42 : decode cX4_byPitch 42 = .ok (.invokevirtual 114, 3) := by decide +kernel
theorem dX4_byPitch_45 : decode cX4_byPitch 45 = .ok (.istore_n 3, 1) := by decide +kernel
theorem dX4_byPitch_46 : decode cX4_byPitch 46 = .ok (.return_, 1) := by decide +kernel
theorem dX4_byHeight_0 : decode cX4_byHeight 0 = .ok (.aload_n 0, 1) := by decide +kernel
theorem dX4_byHeight_1 : decode cX4_byHeight 1 = .ok (.iconst 3, 1) := by decide +kernel
theorem dX4_byHeight_2 : decode cX4_byHeight 2 = .ok (.iload_n 1, 1) := by decide +kernel
theorem dX4_byHeight_3 : decode cX4_byHeight 3 = .ok (.ldc 50, 2) := by decide +kernel
theorem dX4_byHeight_5 : decode cX4_byHeight 5 = .ok (.iconst 1, 1) := by decide +kernel
theorem dX4_byHeight_6 : decode cX4_byHeight 6 = .ok (.invokevirtual 110, 3) := by decide +kernel
theorem dX4_byHeight_9 : decode cX4_byHeight 9 = .ok (.istore_n 2, 1) := by decide +kernel
theorem dX4_byHeight_10 : decode cX4_byHeight 10 = .ok (.aload_n 0, 1) := by decide +kernel
theorem dX4_byHeight_11 : decode cX4_byHeight 11 = .ok (.iconst 3, 1) := by decide +kernel
theorem dX4_byHeight_12 : decode cX4_byHeight 12 = .ok (.iconst 1, 1) := by decide +kernel
theorem dX4_byHeight_13 : decode cX4_byHeight 13 = .ok (.iload_n 1, 1) := by decide +kernel
theorem dX4_byHeight_14 : decode cX4_byHeight 14 = .ok (.iconst 0, 1) := by decide +kernel
theorem dX4_byHeight_15 : decode cX4_byHeight 15 = .ok (.invokevirtual 110, 3) := by decide +kernel
theorem dX4_byHeight_18 : decode cX4_byHeight 18 = .ok (.istore_n 3, 1) := by decide +kernel
theorem dX4_byHeight_19 : decode cX4_byHeight 19 = .ok (.iload_n 2, 1) := by decide +kernel
theorem dX4_byHeight_20 : decode cX4_byHeight 20 = .ok (.iload_n 1, 1) := by decide +kernel
theorem dX4_byHeight_21 : decode cX4_byHeight 21 = .ok (.if_icmp .lt 21, 3) := by decide +kernel
theorem dX4_byHeight_24 : decode cX4_byHeight 24 = .ok (.iload_n 3, 1) := by decide +kernel
theorem dX4_byHeight_25 : decode cX4_byHeight 25 = .ok (.iconst 1, 1) := by decide +kernel
theorem dX4_byHeight_26 : decode cX4_byHeight 26 = .ok (.if_icmp .lt 12, 3) := by decide +kernel
theorem dX4_byHeight_29 : decode cX4_byHeight 29 = .ok (.iload_n 2, 1) := by decide +kernel
theorem dX4_byHeight_30 : decode cX4_byHeight 30 = .ok (.iload_n 1, 1) := by decide +kernel
theorem dX4_byHeight_31 : decode cX4_byHeight 31 = .ok (.isub, 1) := by decide +kernel
theorem dX4_byHeight_32 : decode cX4_byHeight 32 = .ok (.iload_n 1, 1) := by decide +kernel
theorem dX4_byHeight_33 : decode cX4_byHeight 33 = .ok (.iload_n 3, 1) := by decide +kernel
theorem dX4_byHeight_34 : decode cX4_byHeight 34 = .ok (.isub, 1) := by decide +kernel
theorem dX4_byHeight_35 : decode cX4_byHeight 35 = .ok (.if_icmp .gt 7, 3) := by decide +kernel
theorem dX4_byHeight_38 : decode cX4_byHeight 38 = .ok (.iconst 1, 1) := by decide +kernel
theorem dX4_byHeight_39 : decode cX4_byHeight 39 = .ok (.goto 4, 3) := by decide +kernel
theorem dX4_byHeight_42 : decode cX4_byHeight 42 = .ok (.iconst 0, 1) := by decide +kernel
theorem dX4_byHeight_43 : decode cX4_byHeight 43 = .ok (.istore 4, 2) := by decide +kernel
theorem dX4_byHeight_45 : decode cX4_byHeight 45 = .ok (.aload_n 0, 1) := by decide +kernel
theorem dX4_byHeight_46 : decode cX4_byHeight 46 = .ok (.iconst 3, 1) := by decide +kernel
theorem dX4_byHeight_47 : decode cX4_byHeight 47 = .ok (.iload 4, 2) := by decide +kernel
theorem dX4_byHeight_49 : decode cX4_byHeight 49 = .ok (.ifCond .eq 7, 3) := by decide +kernel
theorem dX4_byHeight_52 : decode cX4_byHeight 52 = .ok (.iload_n 2, 1) := by decide +kernel
theorem dX4_byHeight_53 : decode cX4_byHeight 53 = .ok (.goto 4, 3) := by decide +kernel
theorem dX4_byHeight_56 : decode cX4_byHeight 56 = .ok (.iload_n 3, 1) := by decide +kernel
theorem dX4_byHeight_57 : decode cX4_byHeight 57 = .ok (.invokevirtual 114, 3) := by decide +kernel
theorem dX4_byHeight_60 : decode cX4_byHeight 60 = .ok (.istore 5, 2) := by decide +kernel
theorem dX4_byHeight_62 : decode cX4_byHeight 62 = .ok (.return_, 1) := by decide +kernel
theorem dX4_byWeight_0 : decode cX4_byWeight 0 = .ok (.aload_n 0, 1) := by decide +kernel
theorem dX4_byWeight_1 : decode cX4_byWeight 1 = .ok (.iconst 5, 1) := by decide +kernel
theorem dX4_byWeight_2 : decode cX4_byWeight 2 = .ok (.iload_n 1, 1) := by decide +kernel
theorem dX4_byWeight_3 : decode cX4_byWeight 3 = .ok (.invokevirtual 114, 3) := by decide +kernel
theorem dX4_byWeight_6 : decode cX4_byWeight 6 = .ok (.ifCond .eq 4, 3) := by decide +kernel
theorem dX4_byWeight_9 : decode cX4_byWeight 9 = .ok (.return_, 1) := by decide +kernel
theorem dX4_byWeight_10 : decode cX4_byWeight 10 = .ok (.iload_n 1, 1) := by decide +kernel
theorem dX4_byWeight_11 : decode cX4_byWeight 11 = .ok (.ifCond .lt 17, 3) := by decide +kernel
theorem dX4_byWeight_14 : decode cX4_byWeight 14 = .ok (.aload_n 0, 1) := by decide +kernel
theorem dX4_byWeight_15 : decode cX4_byWeight 15 = .ok (.iconst 5, 1) := by decide +kernel
theorem dX4_byWeight_16 : decode cX4_byWeight 16 = .ok (.iload_n 1, 1) := by decide +kernel
theorem dX4_byWeight_17 : decode cX4_byWeight 17 = .ok (.iconst 1, 1) := by decide +kernel
theorem dX4_byWeight_18 : decode cX4_byWeight 18 = .ok (.iadd, 1) := by decide +kernel
theorem dX4_byWeight_19 : decode cX4_byWeight 19 = .ok (.bipush 7, 2) := by decide +kernel
theorem dX4_byWeight_21 : decode cX4_byWeight 21 = .ok (.iconst 1, 1) := by decide +kernel
theorem dX4_byWeight_22 : decode cX4_byWeight 22 = .ok (.invokevirtual 110, 3) := by decide +kernel
theorem dX4_byWeight_25 : decode cX4_byWeight 25 = .ok (.goto 14, 3) := by decide +kernel
theorem dX4_byWeight_28 : decode cX4_byWeight 28 = .ok (.aload_n 0, 1) := by decide +kernel
theorem dX4_byWeight_29 : decode cX4_byWeight 29 = .ok (.iconst 5, 1) := by decide +kernel
theorem dX4_byWeight_30 : decode cX4_byWeight 30 = .ok (.bipush (-7), 2) := by decide +kernel
theorem dX4_byWeight_32 : decode cX4_byWeight 32 = .ok (.iload_n 1, 1) := by decide +kernel
theorem dX4_byWeight_33 : decode cX4_byWeight 33 = .ok (.iconst 1, 1) := by decide +kernel
theorem dX4_byWeight_34 : decode cX4_byWeight 34 = .ok (.isub, 1) := by decide +kernel
theorem dX4_byWeight_35 : decode cX4_byWeight 35 = .ok (.iconst 0, 1) := by decide +kernel
theorem dX4_byWeight_36 : decode cX4_byWeight 36 = .ok (.invokevirtual 110, 3) := by decide +kernel
theorem dX4_byWeight_39 : decode cX4_byWeight 39 = .ok (.istore_n 2, 1) := by decide +kernel
theorem dX4_byWeight_40 : decode cX4_byWeight 40 = .ok (.iload_n 1, 1) := by decide +kernel
theorem dX4_byWeight_41 : decode cX4_byWeight 41 = .ok (.ifCond .lt 16, 3) := by decide +kernel
theorem dX4_byWeight_44 : decode cX4_byWeight 44 = .ok (.iload_n 2, 1) := by decide +kernel
theorem dX4_byWeight_45 : decode cX4_byWeight 45 = .ok (.iload_n 1, 1) := by decide +kernel
theorem dX4_byWeight_46 : decode cX4_byWeight 46 = .ok (.if_icmp .ne 7, 3) := by decide +kernel
theorem dX4_byWeight_49 : decode cX4_byWeight 49 = .ok (.iconst 1, 1) := by decide +kernel
theorem dX4_byWeight_50 : decode cX4_byWeight 50 = .ok (.goto 18, 3) := by decide +kernel
theorem dX4_byWeight_53 : decode cX4_byWeight 53 = .ok (.iconst 0, 1) := by decide +kernel
theorem dX4_byWeight_54 : decode cX4_byWeight 54 = .ok (.goto 14, 3) := by decide +kernel
theorem dX4_byWeight_57 : decode cX4_byWeight 57 = .ok (.iload_n 2, 1) := by decide +kernel
theorem dX4_byWeight_58 : decode cX4_byWeight 58 = .ok (.bipush (-8), 2) := by decide +kernel
theorem dX4_byWeight_60 : decode cX4_byWeight 60 = .ok (.if_icmp .ne 7, 3) := by decide +kernel
theorem dX4_byWeight_63 : decode cX4_byWeight 63 = .ok (.iconst 1, 1) := by decide +kernel
theorem dX4_byWeight_64 : decode cX4_byWeight 64 = .ok (.goto 4, 3) := by decide +kernel
theorem dX4_byWeight_67 : decode cX4_byWeight 67 = .ok (.iconst 0, 1) := by decide +kernel
theorem dX4_byWeight_68 : decode cX4_byWeight 68 = .ok (.istore_n 3, 1) := by decide +kernel
theorem dX4_byWeight_69 : decode cX4_byWeight 69 = .ok (.aload_n 0, 1) := by decide +kernel
theorem dX4_byWeight_70 : decode cX4_byWeight 70 = .ok (.iconst 5, 1) := by decide +kernel
theorem dX4_byWeight_71 : decode cX4_byWeight 71 = .ok (.iload_n 3, 1) := by decide +kernel
theorem dX4_byWeight_72 : decode cX4_byWeight 72 = .ok (.ifCond .eq 24, 3) := by decide +kernel
theorem dX4_byWeight_75 : decode cX4_byWeight 75 = .ok (.aload_n 0, 1) := by decide +kernel
theorem dX4_byWeight_76 : decode cX4_byWeight 76 = .ok (.iconst 5, 1) := by decide +kernel
theorem dX4_byWeight_77 : decode cX4_byWeight 77 = .ok (.bipush (-7), 2) := by decide +kernel
theorem dX4_byWeight_79 : decode cX4_byWeight 79 = .ok (.bipush 7, 2) := by decide +kernel
theorem dX4_byWeight_81 : decode cX4_byWeight 81 = .ok (.iload_n 1, 1) := by decide +kernel
theorem dX4_byWeight_82 : decode cX4_byWeight 82 = .ok (.ifCond .ge 7, 3) := by decide +kernel
theorem dX4_byWeight_85 : decode cX4_byWeight 85 = .ok (.iconst 1, 1) := by decide +kernel
theorem dX4_byWeight_86 : decode cX4_byWeight 86 = .ok (.goto 4, 3) := by decide +kernel
theorem dX4_byWeight_89 : decode cX4_byWeight 89 = .ok (.iconst 0, 1) := by decide +kernel
theorem dX4_byWeight_90 : decode cX4_byWeight 90 = .ok (.invokevirtual 110, 3) := by decide +kernel
theorem dX4_byWeight_93 : decode cX4_byWeight 93 = .ok (.goto 4, 3) := by decide +kernel
theorem dX4_byWeight_96 : decode cX4_byWeight 96 = .ok (.iload_n 2, 1) := by decide +kernel
theorem dX4_byWeight_97 : decode cX4_byWeight 97 = .ok (.invokevirtual 114, 3) := by decide +kernel
theorem dX4_byWeight_100 : decode cX4_byWeight 100 = .ok (.istore 4, 2) := by decide +kernel
theorem dX4_byWeight_102 : decode cX4_byWeight 102 = .ok (.return_, 1) := by decide +kernel
theorem dX4_choose_0 : decode cX4_choose 0 = .ok (.aload_n 0, 1) := by decide +kernel
theorem dX4_choose_1 : decode cX4_choose 1 = .ok (.getfield 33, 3) := by decide +kernel
theorem dX4_choose_4 : decode cX4_choose 4 = .ok (.iload_n 1, 1) := by decide +kernel
theorem dX4_choose_5 : decode cX4_choose 5 = .ok (.iaload, 1) := by decide +kernel
theorem dX4_choose_6 : decode cX4_choose 6 = .ok (.ifCond .ge 7, 3) := by decide +kernel
theorem dX4_choose_9 : decode cX4_choose 9 = .ok (.iconst (-1), 1) := by decide +kernel
theorem dX4_choose_10 : decode cX4_choose 10 = .ok (.goto 13, 3) := by decide +kernel
theorem dX4_choose_13 : decode cX4_choose 13 = .ok (.aload_n 0, 1) := by decide +kernel
theorem dX4_choose_14 : decode cX4_choose 14 = .ok (.aload_n 0, 1) := by decide +kernel
theorem dX4_choose_15 : decode cX4_choose 15 = .ok (.getfield 33, 3) := by decide +kernel
theorem dX4_choose_18 : decode cX4_choose 18 = .ok (.iload_n 1, 1) := by decide +kernel
theorem dX4_choose_19 : decode cX4_choose 19 = .ok (.iaload, 1) := by decide +kernel
theorem dX4_choose_20 : decode cX4_choose 20 = .ok (.invokevirtual 86, 3) := by decide +kernel
theorem dX4_choose_23 : decode cX4_choose 23 = .ok (.istore_n 2, 1) := by decide +kernel
theorem dX4_choose_24 : decode cX4_choose 24 = .ok (.iload_n 2, 1) := by decide +kernel
theorem dX4_choose_25 : decode cX4_choose 25 = .ok (.ifCond .ge 10, 3) := by decide +kernel
theorem dX4_choose_28 : decode cX4_choose 28 = .ok (.aload_n 0, 1) := by decide +kernel
theorem dX4_choose_29 : decode cX4_choose 29 = .ok (.getfield 66, 3) := by decide +kernel
theorem dX4_choose_32 : decode cX4_choose 32 = .ok (.ifCond .ne 5, 3) := by decide +kernel
theorem dX4_choose_35 : decode cX4_choose 35 = .ok (.iload_n 2, 1) := by decide +kernel
theorem dX4_choose_36 : decode cX4_choose 36 = .ok (.ireturn, 1) := by decide +kernel
theorem dX4_choose_37 : decode cX4_choose 37 = .ok (.iconst 0, 1) := by decide +kernel
theorem dX4_choose_38 : decode cX4_choose 38 = .ok (.istore_n 3, 1) := by decide +kernel
theorem dX4_choose_39 : decode cX4_choose 39 = .ok (.iload_n 3, 1) := by decide +kernel
theorem dX4_choose_40 : decode cX4_choose 40 = .ok (.aload_n 0, 1) := by decide +kernel
theorem dX4_choose_41 : decode cX4_choose 41 = .ok (.getfield 66, 3) := by decide +kernel
theorem dX4_choose_44 : decode cX4_choose 44 = .ok (.if_icmp .ge 16, 3) := by decide +kernel
theorem dX4_choose_47 : decode cX4_choose 47 = .ok (.aload_n 0, 1) := by decide +kernel
theorem dX4_choose_48 : decode cX4_choose 48 = .ok (.getfield 42, 3) := by decide +kernel
theorem dX4_choose_51 : decode cX4_choose 51 = .ok (.iload_n 3, 1) := by decide +kernel
theorem dX4_choose_52 : decode cX4_choose 52 = .ok (.iconst 1, 1) := by decide +kernel
theorem dX4_choose_53 : decode cX4_choose 53 = .ok (.bastore, 1) := by decide +kernel
theorem dX4_choose_54 : decode cX4_choose 54 = .ok (.iinc 3 1, 3) := by decide +kernel
theorem dX4_choose_57 : decode cX4_choose 57 = .ok (.goto (-18), 3) := by decide +kernel
theorem dX4_choose_60 : decode cX4_choose 60 = .ok (.bipush 7, 2) := by decide +kernel
theorem dX4_choose_62 : decode cX4_choose 62 = .ok (.iload_n 1, 1) := by decide +kernel
theorem dX4_choose_63 : decode cX4_choose 63 = .ok (.imul, 1) := by decide +kernel
theorem dX4_choose_64 : decode cX4_choose 64 = .ok (.istore_n 3, 1) := by decide +kernel
theorem dX4_choose_65 : decode cX4_choose 65 = .ok (.aload_n 0, 1) := by decide +kernel
theorem dX4_choose_66 : decode cX4_choose 66 = .ok (.iconst 0, 1) := by decide +kernel
theorem dX4_choose_67 : decode cX4_choose 67 = .ok (.aload_n 0, 1) := by decide +kernel
theorem dX4_choose_68 : decode cX4_choose 68 = .ok (.getfield 30, 3) := by decide +kernel
theorem dX4_choose_71 : decode cX4_choose 71 = .ok (.iload_n 3, 1) := by decide +kernel
theorem dX4_choose_72 : decode cX4_choose 72 = .ok (.iaload, 1) := by decide +kernel
theorem dX4_choose_73 : decode cX4_choose 73 = .ok (.invokevirtual 114, 3) := by decide +kernel
theorem dX4_choose_76 : decode cX4_choose 76 = .ok (.ifCond .ne 14, 3) := by decide +kernel
theorem dX4_choose_79 : decode cX4_choose 79 = .ok (.aload_n 0, 1) := by decide +kernel
theorem dX4_choose_80 : decode cX4_choose 80 = .ok (.iconst 0, 1) := by decide +kernel
theorem dX4_choose_81 : decode cX4_choose 81 = .ok (.sipush 277, 3) := by decide +kernel
theorem dX4_choose_84 : decode cX4_choose 84 = .ok (.invokevirtual 114, 3) := by decide +kernel
theorem dX4_choose_87 : decode cX4_choose 87 = .ok (.ifCond .eq 7, 3) := by decide +kernel
theorem dX4_choose_90 : decode cX4_choose 90 = .ok (.iconst 1, 1) := by decide +kernel
theorem dX4_choose_91 : decode cX4_choose 91 = .ok (.goto 4, 3) := by decide +kernel
theorem dX4_choose_94 : decode cX4_choose 94 = .ok (.iconst 0, 1) := by decide +kernel
theorem dX4_choose_95 : decode cX4_choose 95 = .ok (.istore 4, 2) := by decide +kernel
theorem dX4_choose_97 : decode cX4_choose 97 = .ok (.aload_n 0, 1) := by decide +kernel
theorem dX4_choose_98 : decode cX4_choose 98 = .ok (.iconst 1, 1) := by decide +kernel
theorem dX4_choose_99 : decode cX4_choose 99 = .ok (.aload_n 0, 1) := by decide +kernel
theorem dX4_choose_100 : decode cX4_choose 100 = .ok (.getfield 30, 3) := by decide +kernel
theorem dX4_choose_103 : decode cX4_choose 103 = .ok (.iload_n 3, 1) := by decide +kernel
theorem dX4_choose_104 : decode cX4_choose 104 = .ok (.iconst 1, 1) := by decide +kernel
theorem dX4_choose_105 : decode cX4_choose 105 = .ok (.iadd, 1) := by decide +kernel
theorem dX4_choose_106 : decode cX4_choose 106 = .ok (.iaload, 1) := by decide +kernel
theorem dX4_choose_107 : decode cX4_choose 107 = .ok (.invokevirtual 114, 3) := by decide +kernel
theorem dX4_choose_110 : decode cX4_choose 110 = .ok (.istore 4, 2) := by decide +kernel
theorem dX4_choose_112 : decode cX4_choose 112 = .ok (.aload_n 0, 1) := by decide +kernel
theorem dX4_choose_113 : decode cX4_choose 113 = .ok (.getfield 30, 3) := by decide +kernel
theorem dX4_choose_116 : decode cX4_choose 116 = .ok (.iload_n 3, 1) := by decide +kernel
theorem dX4_choose_117 : decode cX4_choose 117 = .ok (.iconst 1, 1) := by decide +kernel
theorem dX4_choose_118 : decode cX4_choose 118 = .ok (.iadd, 1) := by decide +kernel
theorem dX4_choose_119 : decode cX4_choose 119 = .ok (.iaload, 1) := by decide +kernel
theorem dX4_choose_120 : decode cX4_choose 120 = .ok (.ifCond .ne 15, 3) := by decide +kernel
theorem dX4_choose_123 : decode cX4_choose 123 = .ok (.aload_n 0, 1) := by decide +kernel
theorem dX4_choose_124 : decode cX4_choose 124 = .ok (.aload_n 0, 1) := by decide +kernel
theorem dX4_choose_125 : decode cX4_choose 125 = .ok (.getfield 30, 3) := by decide +kernel
theorem dX4_choose_128 : decode cX4_choose 128 = .ok (.iload_n 3, 1) := by decide +kernel
theorem dX4_choose_129 : decode cX4_choose 129 = .ok (.iconst 2, 1) := by decide +kernel
theorem dX4_choose_130 : decode cX4_choose 130 = .ok (.iadd, 1) := by decide +kernel
theorem dX4_choose_131 : decode cX4_choose 131 = .ok (.iaload, 1) := by decide +kernel
theorem dX4_choose_132 : decode cX4_choose 132 = .ok (.invokevirtual 117, 3) := by decide +kernel
theorem dX4_choose_135 : decode cX4_choose 135 = .ok (.aload_n 0, 1) := by decide +kernel
theorem dX4_choose_136 : decode cX4_choose 136 = .ok (.aload_n 0, 1) := by decide +kernel
theorem dX4_choose_137 : decode cX4_choose 137 = .ok (.getfield 30, 3) := by decide +kernel
theorem dX4_choose_140 : decode cX4_choose 140 = .ok (.iload_n 3, 1) := by decide +kernel
theorem dX4_choose_141 : decode cX4_choose 141 = .ok (.iconst 3, 1) := by decide +kernel
theorem dX4_choose_142 : decode cX4_choose 142 = .ok (.iadd, 1) := by decide +kernel
theorem dX4_choose_143 : decode cX4_choose 143 = .ok (.iaload, 1) := by decide +kernel
theorem dX4_choose_144 : decode cX4_choose 144 = .ok (.invokevirtual 120, 3) := by decide +kernel
theorem dX4_choose_147 : decode cX4_choose 147 = .ok (.aload_n 0, 1) := by decide +kernel
theorem dX4_choose_148 : decode cX4_choose 148 = .ok (.iconst 4, 1) := by decide +kernel
theorem dX4_choose_149 : decode cX4_choose 149 = .ok (.aload_n 0, 1) := by decide +kernel
theorem dX4_choose_150 : decode cX4_choose 150 = .ok (.getfield 30, 3) := by decide +kernel
theorem dX4_choose_153 : decode cX4_choose 153 = .ok (.iload_n 3, 1) := by decide +kernel
theorem dX4_choose_154 : decode cX4_choose 154 = .ok (.iconst 4, 1) := by decide +kernel
theorem dX4_choose_155 : decode cX4_choose 155 = .ok (.iadd, 1) := by decide +kernel
theorem dX4_choose_156 : decode cX4_choose 156 = .ok (.iaload, 1) := by decide +kernel
theorem dX4_choose_157 : decode cX4_choose 157 = .ok (.invokevirtual 114, 3) := by decide +kernel
theorem dX4_choose_160 : decode cX4_choose 160 = .ok (.istore 4, 2) := by decide +kernel
theorem dX4_choose_162 : decode cX4_choose 162 = .ok (.aload_n 0, 1) := by decide +kernel
theorem dX4_choose_163 : decode cX4_choose 163 = .ok (.aload_n 0, 1) := by decide +kernel
theorem dX4_choose_164 : decode cX4_choose 164 = .ok (.getfield 30, 3) := by decide +kernel
theorem dX4_choose_167 : decode cX4_choose 167 = .ok (.iload_n 3, 1) := by decide +kernel
theorem dX4_choose_168 : decode cX4_choose 168 = .ok (.iconst 5, 1) := by decide +kernel
theorem dX4_choose_169 : decode cX4_choose 169 = .ok (.iadd, 1) := by decide +kernel
theorem dX4_choose_170 : decode cX4_choose 170 = .ok (.iaload, 1) := by decide +kernel
theorem dX4_choose_171 : decode cX4_choose 171 = .ok (.invokevirtual 123, 3) := by decide +kernel
theorem dX4_choose_174 : decode cX4_choose 174 = .ok (.aload_n 0, 1) := by decide +kernel
theorem dX4_choose_175 : decode cX4_choose 175 = .ok (.bipush 6, 2) := by decide +kernel
theorem dX4_choose_177 : decode cX4_choose 177 = .ok (.aload_n 0, 1) := by decide +kernel
theorem dX4_choose_178 : decode cX4_choose 178 = .ok (.getfield 30, 3) := by decide +kernel
theorem dX4_choose_181 : decode cX4_choose 181 = .ok (.iload_n 3, 1) := by decide +kernel
theorem dX4_choose_182 : decode cX4_choose 182 = .ok (.bipush 6, 2) := by decide +kernel
theorem dX4_choose_184 : decode cX4_choose 184 = .ok (.iadd, 1) := by decide +kernel
theorem dX4_choose_185 : decode cX4_choose 185 = .ok (.iaload, 1) := by decide +kernel
theorem dX4_choose_186 : decode cX4_choose 186 = .ok (.invokevirtual 114, 3) := by decide +kernel
theorem dX4_choose_189 : decode cX4_choose 189 = .ok (.istore 4, 2) := by decide +kernel
theorem dX4_choose_191 : decode cX4_choose 191 = .ok (.iconst (-1), 1) := by decide +kernel
theorem dX4_choose_192 : decode cX4_choose 192 = .ok (.istore 5, 2) := by decide +kernel
theorem dX4_choose_194 : decode cX4_choose 194 = .ok (.iconst (-1), 1) := by decide +kernel
theorem dX4_choose_195 : decode cX4_choose 195 = .ok (.istore 6, 2) := by decide +kernel
theorem dX4_choose_197 : decode cX4_choose 197 = .ok (.iconst 0, 1) := by decide +kernel
theorem dX4_choose_198 : decode cX4_choose 198 = .ok (.istore 7, 2) := by decide +kernel
theorem dX4_choose_200 : decode cX4_choose 200 = .ok (.iload 7, 2) := by decide +kernel
theorem dX4_choose_202 : decode cX4_choose 202 = .ok (.aload_n 0, 1) := by decide +kernel
theorem dX4_choose_203 : decode cX4_choose 203 = .ok (.getfield 66, 3) := by decide +kernel
theorem dX4_choose_206 : decode cX4_choose 206 = .ok (.if_icmp .ge 57, 3) := by decide +kernel
theorem dX4_choose_209 : decode cX4_choose 209 = .ok (.aload_n 0, 1) := by decide +kernel
theorem dX4_choose_210 : decode cX4_choose 210 = .ok (.getfield 42, 3) := by decide +kernel
theorem dX4_choose_213 : decode cX4_choose 213 = .ok (.iload 7, 2) := by decide +kernel
theorem dX4_choose_215 : decode cX4_choose 215 = .ok (.baload, 1) := by decide +kernel
theorem dX4_choose_216 : decode cX4_choose 216 = .ok (.ifCond .eq 8, 3) := by decide +kernel
theorem dX4_choose_219 : decode cX4_choose 219 = .ok (.iload 7, 2) := by decide +kernel
theorem dX4_choose_221 : decode cX4_choose 221 = .ok (.goto 5, 3) := by decide +kernel
theorem dX4_choose_224 : decode cX4_choose 224 = .ok (.iload 5, 2) := by decide +kernel
theorem dX4_choose_226 : decode cX4_choose 226 = .ok (.istore 5, 2) := by decide +kernel
theorem dX4_choose_228 : decode cX4_choose 228 = .ok (.aload_n 0, 1) := by decide +kernel
theorem dX4_choose_229 : decode cX4_choose 229 = .ok (.getfield 42, 3) := by decide +kernel
theorem dX4_choose_232 : decode cX4_choose 232 = .ok (.iload 7, 2) := by decide +kernel
theorem dX4_choose_234 : decode cX4_choose 234 = .ok (.baload, 1) := by decide +kernel
theorem dX4_choose_235 : decode cX4_choose 235 = .ok (.ifCond .eq 18, 3) := by decide +kernel
theorem dX4_choose_238 : decode cX4_choose 238 = .ok (.aload_n 0, 1) := by decide +kernel
theorem dX4_choose_239 : decode cX4_choose 239 = .ok (.getfield 16, 3) := by decide +kernel
theorem dX4_choose_242 : decode cX4_choose 242 = .ok (.iload 7, 2) := by decide +kernel
theorem dX4_choose_244 : decode cX4_choose 244 = .ok (.baload, 1) := by decide +kernel
theorem dX4_choose_245 : decode cX4_choose 245 = .ok (.ifCond .ne 8, 3) := by decide +kernel
theorem dX4_choose_248 : decode cX4_choose 248 = .ok (.iload 7, 2) := by decide +kernel
theorem dX4_choose_250 : decode cX4_choose 250 = .ok (.goto 5, 3) := by decide +kernel
theorem dX4_choose_253 : decode cX4_choose 253 = .ok (.iload 6, 2) := by decide +kernel
theorem dX4_choose_255 : decode cX4_choose 255 = .ok (.istore 6, 2) := by decide +kernel
theorem dX4_choose_257 : decode cX4_choose 257 = .ok (.iinc 7 1, 3) := by decide +kernel
theorem dX4_choose_260 : decode cX4_choose 260 = .ok (.goto (-60), 3) := by decide +kernel
theorem dX4_choose_263 : decode cX4_choose 263 = .ok (.iload 6, 2) := by decide +kernel
theorem dX4_choose_265 : decode cX4_choose 265 = .ok (.ifCond .ge 8, 3) := by decide +kernel
theorem dX4_choose_268 : decode cX4_choose 268 = .ok (.iload 5, 2) := by decide +kernel
theorem dX4_choose_270 : decode cX4_choose 270 = .ok (.goto 5, 3) := by decide +kernel
theorem dX4_choose_273 : decode cX4_choose 273 = .ok (.iload 6, 2) := by decide +kernel
theorem dX4_choose_275 : decode cX4_choose 275 = .ok (.ireturn, 1) := by decide +kernel
theorem dX4_chosen_0 : decode cX4_chosen 0 = .ok (.aload_n 0, 1) := by decide +kernel
theorem dX4_chosen_1 : decode cX4_chosen 1 = .ok (.iconst 0, 1) := by decide +kernel
theorem dX4_chosen_2 : decode cX4_chosen 2 = .ok (.putfield 45, 3) := by decide +kernel
theorem dX4_chosen_5 : decode cX4_chosen 5 = .ok (.iload_n 1, 1) := by decide +kernel
theorem dX4_chosen_6 : decode cX4_chosen 6 = .ok (.ifCond .eq 10, 3) := by decide +kernel
theorem dX4_chosen_9 : decode cX4_chosen 9 = .ok (.iload_n 1, 1) := by decide +kernel
theorem dX4_chosen_10 : decode cX4_chosen 10 = .ok (.iconst 1, 1) := by decide +kernel
theorem dX4_chosen_11 : decode cX4_chosen 11 = .ok (.if_icmp .eq 5, 3) := by decide +kernel
theorem dX4_chosen_14 : decode cX4_chosen 14 = .ok (.iconst (-1), 1) := by decide +kernel
theorem dX4_chosen_15 : decode cX4_chosen 15 = .ok (.ireturn, 1) := by decide +kernel
theorem dX4_chosen_16 : decode cX4_chosen 16 = .ok (.aload_n 0, 1) := by decide +kernel
theorem dX4_chosen_17 : decode cX4_chosen 17 = .ok (.iload_n 1, 1) := by decide +kernel
theorem dX4_chosen_18 : decode cX4_chosen 18 = .ok (.invokevirtual 126, 3) := by decide +kernel
theorem dX4_chosen_21 : decode cX4_chosen 21 = .ok (.istore_n 2, 1) := by decide +kernel
theorem dX4_chosen_22 : decode cX4_chosen 22 = .ok (.iload_n 2, 1) := by decide +kernel
theorem dX4_chosen_23 : decode cX4_chosen 23 = .ok (.ifCond .ge 7, 3) := by decide +kernel
theorem dX4_chosen_26 : decode cX4_chosen 26 = .ok (.iconst (-1), 1) := by decide +kernel
theorem dX4_chosen_27 : decode cX4_chosen 27 = .ok (.goto 9, 3) := by decide +kernel
theorem dX4_chosen_30 : decode cX4_chosen 30 = .ok (.aload_n 0, 1) := by decide +kernel
theorem dX4_chosen_31 : decode cX4_chosen 31 = .ok (.getfield 7, 3) := by decide +kernel
theorem dX4_chosen_34 : decode cX4_chosen 34 = .ok (.iload_n 2, 1) := by decide +kernel
theorem dX4_chosen_35 : decode cX4_chosen 35 = .ok (.iaload, 1) := by decide +kernel
theorem dX4_chosen_36 : decode cX4_chosen 36 = .ok (.ireturn, 1) := by decide +kernel
theorem dX4_font_0 : decode cX4_font 0 = .ok (.aload_n 0, 1) := by decide +kernel
theorem dX4_font_1 : decode cX4_font 1 = .ok (.iload_n 1, 1) := by decide +kernel
theorem dX4_font_2 : decode cX4_font 2 = .ok (.ifCond .lt 21, 3) := by decide +kernel
theorem dX4_font_5 : decode cX4_font 5 = .ok (.iload_n 1, 1) := by decide +kernel
theorem dX4_font_6 : decode cX4_font 6 = .ok (.aload_n 0, 1) := by decide +kernel
theorem dX4_font_7 : decode cX4_font 7 = .ok (.getfield 66, 3) := by decide +kernel
theorem dX4_font_10 : decode cX4_font 10 = .ok (.if_icmp .ge 13, 3) := by decide +kernel
theorem dX4_font_13 : decode cX4_font 13 = .ok (.iload_n 2, 1) := by decide +kernel
theorem dX4_font_14 : decode cX4_font 14 = .ok (.ifCond .lt 9, 3) := by decide +kernel
theorem dX4_font_17 : decode cX4_font 17 = .ok (.iload_n 2, 1) := by decide +kernel
theorem dX4_font_18 : decode cX4_font 18 = .ok (.bipush 9, 2) := by decide +kernel
theorem dX4_font_20 : decode cX4_font 20 = .ok (.if_icmp .le 7, 3) := by decide +kernel
theorem dX4_font_23 : decode cX4_font 23 = .ok (.iconst 1, 1) := by decide +kernel
theorem dX4_font_24 : decode cX4_font 24 = .ok (.goto 4, 3) := by decide +kernel
theorem dX4_font_27 : decode cX4_font 27 = .ok (.iconst 0, 1) := by decide +kernel
theorem dX4_font_28 : decode cX4_font 28 = .ok (.putfield 45, 3) := by decide +kernel
theorem dX4_font_31 : decode cX4_font 31 = .ok (.aload_n 0, 1) := by decide +kernel
theorem dX4_font_32 : decode cX4_font 32 = .ok (.getfield 45, 3) := by decide +kernel
theorem dX4_font_35 : decode cX4_font 35 = .ok (.ifCond .le 5, 3) := by decide +kernel
theorem dX4_font_38 : decode cX4_font 38 = .ok (.iconst 0, 1) := by decide +kernel
theorem dX4_font_39 : decode cX4_font 39 = .ok (.ireturn, 1) := by decide +kernel
theorem dX4_font_40 : decode cX4_font 40 = .ok (.iload_n 2, 1) := by decide +kernel
theorem dX4_font_41 : decode cX4_font 41 = .ok (.bipush 7, 2) := by decide +kernel
theorem dX4_font_43 : decode cX4_font 43 = .ok (.if_icmp .ge 17, 3) := by decide +kernel
theorem dX4_font_46 : decode cX4_font 46 = .ok (.aload_n 0, 1) := by decide +kernel
theorem dX4_font_47 : decode cX4_font 47 = .ok (.getfield 13, 3) := by decide +kernel
theorem dX4_font_50 : decode cX4_font 50 = .ok (.bipush 7, 2) := by decide +kernel
theorem dX4_font_52 : decode cX4_font 52 = .ok (.iload_n 1, 1) := by decide +kernel
theorem dX4_font_53 : decode cX4_font 53 = .ok (.imul, 1) := by decide +kernel
theorem dX4_font_54 : decode cX4_font 54 = .ok (.iload_n 2, 1) := by decide +kernel
theorem dX4_font_55 : decode cX4_font 55 = .ok (.iadd, 1) := by decide +kernel
theorem dX4_font_56 : decode cX4_font 56 = .ok (.iaload, 1) := by decide +kernel
theorem dX4_font_57 : decode cX4_font 57 = .ok (.goto 51, 3) := by decide +kernel
theorem dX4_font_60 : decode cX4_font 60 = .ok (.iload_n 2, 1) := by decide +kernel
theorem dX4_font_61 : decode cX4_font 61 = .ok (.bipush 7, 2) := by decide +kernel
theorem dX4_font_63 : decode cX4_font 63 = .ok (.if_icmp .ne 12, 3) := by decide +kernel
theorem dX4_font_66 : decode cX4_font 66 = .ok (.aload_n 0, 1) := by decide +kernel
theorem dX4_font_67 : decode cX4_font 67 = .ok (.getfield 7, 3) := by decide +kernel
theorem dX4_font_70 : decode cX4_font 70 = .ok (.iload_n 1, 1) := by decide +kernel
theorem dX4_font_71 : decode cX4_font 71 = .ok (.iaload, 1) := by decide +kernel
theorem dX4_font_72 : decode cX4_font 72 = .ok (.goto 36, 3) := by decide +kernel
theorem dX4_font_75 : decode cX4_font 75 = .ok (.iload_n 2, 1) := by decide +kernel
theorem dX4_font_76 : decode cX4_font 76 = .ok (.bipush 8, 2) := by decide +kernel
theorem dX4_font_78 : decode cX4_font 78 = .ok (.if_icmp .ne 20, 3) := by decide +kernel
theorem dX4_font_81 : decode cX4_font 81 = .ok (.aload_n 0, 1) := by decide +kernel
theorem dX4_font_82 : decode cX4_font 82 = .ok (.getfield 16, 3) := by decide +kernel
theorem dX4_font_85 : decode cX4_font 85 = .ok (.iload_n 1, 1) := by decide +kernel
theorem dX4_font_86 : decode cX4_font 86 = .ok (.baload, 1) := by decide +kernel
theorem dX4_font_87 : decode cX4_font 87 = .ok (.ifCond .eq 7, 3) := by decide +kernel
theorem dX4_font_90 : decode cX4_font 90 = .ok (.iconst 1, 1) := by decide +kernel
theorem dX4_font_91 : decode cX4_font 91 = .ok (.goto 17, 3) := by decide +kernel
theorem dX4_font_94 : decode cX4_font 94 = .ok (.iconst 0, 1) := by decide +kernel
theorem dX4_font_95 : decode cX4_font 95 = .ok (.goto 13, 3) := by decide +kernel
theorem dX4_font_98 : decode cX4_font 98 = .ok (.aload_n 0, 1) := by decide +kernel
theorem dX4_font_99 : decode cX4_font 99 = .ok (.aload_n 0, 1) := by decide +kernel
theorem dX4_font_100 : decode cX4_font 100 = .ok (.getfield 7, 3) := by decide +kernel
theorem dX4_font_103 : decode cX4_font 103 = .ok (.iload_n 1, 1) := by decide +kernel
theorem dX4_font_104 : decode cX4_font 104 = .ok (.iaload, 1) := by decide +kernel
theorem dX4_font_105 : decode cX4_font 105 = .ok (.invokevirtual 107, 3) := by decide +kernel
theorem dX4_font_108 : decode cX4_font 108 = .ok (.ireturn, 1) := by decide +kernel
theorem dX4_chosenGlyph_0 : decode cX4_chosenGlyph 0 = .ok (.aload_n 0, 1) := by decide +kernel
theorem dX4_chosenGlyph_1 : decode cX4_chosenGlyph 1 = .ok (.iload_n 1, 1) := by decide +kernel
theorem dX4_chosenGlyph_2 : decode cX4_chosenGlyph 2 = .ok (.invokevirtual 126, 3) := by decide +kernel
theorem dX4_chosenGlyph_5 : decode cX4_chosenGlyph 5 = .ok (.istore_n 3, 1) := by decide +kernel
theorem dX4_chosenGlyph_6 : decode cX4_chosenGlyph 6 = .ok (.iload_n 3, 1) := by decide +kernel
theorem dX4_chosenGlyph_7 : decode cX4_chosenGlyph 7 = .ok (.ifCond .ge 7, 3) := by decide +kernel
theorem dX4_chosenGlyph_10 : decode cX4_chosenGlyph 10 = .ok (.iconst (-1), 1) := by decide +kernel
theorem dX4_chosenGlyph_11 : decode cX4_chosenGlyph 11 = .ok (.goto 14, 3) := by decide +kernel
theorem dX4_chosenGlyph_14 : decode cX4_chosenGlyph 14 = .ok (.aload_n 0, 1) := by decide +kernel
theorem dX4_chosenGlyph_15 : decode cX4_chosenGlyph 15 = .ok (.aload_n 0, 1) := by decide +kernel
theorem dX4_chosenGlyph_16 : decode cX4_chosenGlyph 16 = .ok (.getfield 7, 3) := by decide +kernel
theorem dX4_chosenGlyph_19 : decode cX4_chosenGlyph 19 = .ok (.iload_n 3, 1) := by decide +kernel
theorem dX4_chosenGlyph_20 : decode cX4_chosenGlyph 20 = .ok (.iaload, 1) := by decide +kernel
theorem dX4_chosenGlyph_21 : decode cX4_chosenGlyph 21 = .ok (.iload_n 2, 1) := by decide +kernel
theorem dX4_chosenGlyph_22 : decode cX4_chosenGlyph 22 = .ok (.invokevirtual 100, 3) := by decide +kernel
theorem dX4_chosenGlyph_25 : decode cX4_chosenGlyph 25 = .ok (.ireturn, 1) := by decide +kernel
theorem dX4_isBlack_0 : decode cX4_isBlack 0 = .ok (.aload_n 0, 1) := by decide +kernel
theorem dX4_isBlack_1 : decode cX4_isBlack 1 = .ok (.getfield 20, 3) := by decide +kernel
theorem dX4_isBlack_4 : decode cX4_isBlack 4 = .ok (.bipush 7, 2) := by decide +kernel
theorem dX4_isBlack_6 : decode cX4_isBlack 6 = .ok (.iload_n 1, 1) := by decide +kernel
theorem dX4_isBlack_7 : decode cX4_isBlack 7 = .ok (.imul, 1) := by decide +kernel
theorem dX4_isBlack_8 : decode cX4_isBlack 8 = .ok (.iconst 4, 1) := by decide +kernel
theorem dX4_isBlack_9 : decode cX4_isBlack 9 = .ok (.iadd, 1) := by decide +kernel
theorem dX4_isBlack_10 : decode cX4_isBlack 10 = .ok (.iaload, 1) := by decide +kernel
theorem dX4_isBlack_11 : decode cX4_isBlack 11 = .ok (.bipush 7, 2) := by decide +kernel
theorem dX4_isBlack_13 : decode cX4_isBlack 13 = .ok (.iadd, 1) := by decide +kernel
theorem dX4_isBlack_14 : decode cX4_isBlack 14 = .ok (.bipush 8, 2) := by decide +kernel
theorem dX4_isBlack_16 : decode cX4_isBlack 16 = .ok (.idiv, 1) := by decide +kernel
theorem dX4_isBlack_17 : decode cX4_isBlack 17 = .ok (.istore 4, 2) := by decide +kernel
theorem dX4_isBlack_19 : decode cX4_isBlack 19 = .ok (.aload_n 0, 1) := by decide +kernel
theorem dX4_isBlack_20 : decode cX4_isBlack 20 = .ok (.getfield 23, 3) := by decide +kernel
theorem dX4_isBlack_23 : decode cX4_isBlack 23 = .ok (.aload_n 0, 1) := by decide +kernel
theorem dX4_isBlack_24 : decode cX4_isBlack 24 = .ok (.iload_n 1, 1) := by decide +kernel
theorem dX4_isBlack_25 : decode cX4_isBlack 25 = .ok (.invokevirtual 76, 3) := by decide +kernel
theorem dX4_isBlack_28 : decode cX4_isBlack 28 = .ok (.iload 4, 2) := by decide +kernel
theorem dX4_isBlack_30 : decode cX4_isBlack 30 = .ok (.iload_n 3, 1) := by decide +kernel
theorem dX4_isBlack_31 : decode cX4_isBlack 31 = .ok (.imul, 1) := by decide +kernel
theorem dX4_isBlack_32 : decode cX4_isBlack 32 = .ok (.iadd, 1) := by decide +kernel
theorem dX4_isBlack_33 : decode cX4_isBlack 33 = .ok (.iload_n 2, 1) := by decide +kernel
theorem dX4_isBlack_34 : decode cX4_isBlack 34 = .ok (.bipush 8, 2) := by decide +kernel
theorem dX4_isBlack_36 : decode cX4_isBlack 36 = .ok (.idiv, 1) := by decide +kernel
theorem dX4_isBlack_37 : decode cX4_isBlack 37 = .ok (.iadd, 1) := by decide +kernel
theorem dX4_isBlack_38 : decode cX4_isBlack 38 = .ok (.baload, 1) := by decide +kernel
theorem dX4_isBlack_39 : decode cX4_isBlack 39 = .ok (.bipush 7, 2) := by decide +kernel
theorem dX4_isBlack_41 : decode cX4_isBlack 41 = .ok (.iload_n 2, 1) := by decide +kernel
theorem dX4_isBlack_42 : decode cX4_isBlack 42 = .ok (.bipush 8, 2) := by decide +kernel
theorem dX4_isBlack_44 : decode cX4_isBlack 44 = .ok (.irem, 1) := by decide +kernel
theorem dX4_isBlack_45 : decode cX4_isBlack 45 = .ok (.isub, 1) := by decide +kernel
theorem dX4_isBlack_46 : decode cX4_isBlack 46 = .ok (.ishr, 1) := by decide +kernel
theorem dX4_isBlack_47 : decode cX4_isBlack 47 = .ok (.iconst 1, 1) := by decide +kernel
theorem dX4_isBlack_48 : decode cX4_isBlack 48 = .ok (.iand, 1) := by decide +kernel
theorem dX4_isBlack_49 : decode cX4_isBlack 49 = .ok (.iconst 1, 1) := by decide +kernel
theorem dX4_isBlack_50 : decode cX4_isBlack 50 = .ok (.if_icmp .ne 7, 3) := by decide +kernel
theorem dX4_isBlack_53 : decode cX4_isBlack 53 = .ok (.iconst 1, 1) := by decide +kernel
theorem dX4_isBlack_54 : decode cX4_isBlack 54 = .ok (.goto 4, 3) := by decide +kernel
theorem dX4_isBlack_57 : decode cX4_isBlack 57 = .ok (.iconst 0, 1) := by decide +kernel
theorem dX4_isBlack_58 : decode cX4_isBlack 58 = .ok (.ireturn, 1) := by decide +kernel
theorem dX4_of_0 : decode cX4_of 0 = .ok (.aload_n 0, 1) := by decide +kernel
theorem dX4_of_1 : decode cX4_of 1 = .ok (.iload_n 1, 1) := by decide +kernel
theorem dX4_of_2 : decode cX4_of 2 = .ok (.ifCond .eq 8, 3) := by decide +kernel
theorem dX4_of_5 : decode cX4_of 5 = .ok (.iload_n 1, 1) := by decide +kernel
theorem dX4_of_6 : decode cX4_of 6 = .ok (.iconst 1, 1) := by decide +kernel
theorem dX4_of_7 : decode cX4_of 7 = .ok (.if_icmp .ne 12, 3) := by decide +kernel
theorem dX4_of_10 : decode cX4_of 10 = .ok (.iload_n 3, 1) := by decide +kernel
theorem dX4_of_11 : decode cX4_of 11 = .ok (.ifCond .lt 8, 3) := by decide +kernel
theorem dX4_of_14 : decode cX4_of 14 = .ok (.iload_n 3, 1) := by decide +kernel
theorem dX4_of_15 : decode cX4_of 15 = .ok (.iconst 5, 1) := by decide +kernel
theorem dX4_of_16 : decode cX4_of 16 = .ok (.if_icmp .le 7, 3) := by decide +kernel
theorem dX4_of_19 : decode cX4_of 19 = .ok (.iconst 1, 1) := by decide +kernel
theorem dX4_of_20 : decode cX4_of 20 = .ok (.goto 4, 3) := by decide +kernel
theorem dX4_of_23 : decode cX4_of 23 = .ok (.iconst 0, 1) := by decide +kernel
theorem dX4_of_24 : decode cX4_of 24 = .ok (.putfield 45, 3) := by decide +kernel
theorem dX4_of_27 : decode cX4_of 27 = .ok (.aload_n 0, 1) := by decide +kernel
theorem dX4_of_28 : decode cX4_of 28 = .ok (.getfield 45, 3) := by decide +kernel
theorem dX4_of_31 : decode cX4_of 31 = .ok (.ifCond .le 5, 3) := by decide +kernel
theorem dX4_of_34 : decode cX4_of 34 = .ok (.iconst 0, 1) := by decide +kernel
theorem dX4_of_35 : decode cX4_of 35 = .ok (.ireturn, 1) := by decide +kernel
theorem dX4_of_36 : decode cX4_of 36 = .ok (.aload_n 0, 1) := by decide +kernel
theorem dX4_of_37 : decode cX4_of 37 = .ok (.iload_n 1, 1) := by decide +kernel
theorem dX4_of_38 : decode cX4_of 38 = .ok (.iload_n 2, 1) := by decide +kernel
theorem dX4_of_39 : decode cX4_of 39 = .ok (.invokevirtual 129, 3) := by decide +kernel
theorem dX4_of_42 : decode cX4_of 42 = .ok (.istore 4, 2) := by decide +kernel
theorem dX4_of_44 : decode cX4_of 44 = .ok (.aload_n 0, 1) := by decide +kernel
theorem dX4_of_45 : decode cX4_of 45 = .ok (.iload 4, 2) := by decide +kernel
theorem dX4_of_47 : decode cX4_of 47 = .ok (.ifCond .ge 7, 3) := by decide +kernel
theorem dX4_of_50 : decode cX4_of 50 = .ok (.iconst 2, 1) := by decide +kernel
theorem dX4_of_51 : decode cX4_of 51 = .ok (.goto 4, 3) := by decide +kernel
theorem dX4_of_54 : decode cX4_of 54 = .ok (.iconst 0, 1) := by decide +kernel
theorem dX4_of_55 : decode cX4_of 55 = .ok (.putfield 45, 3) := by decide +kernel
theorem dX4_of_58 : decode cX4_of 58 = .ok (.aload_n 0, 1) := by decide +kernel
theorem dX4_of_59 : decode cX4_of 59 = .ok (.getfield 45, 3) := by decide +kernel
theorem dX4_of_62 : decode cX4_of 62 = .ok (.ifCond .gt 8, 3) := by decide +kernel
theorem dX4_of_65 : decode cX4_of 65 = .ok (.iload_n 3, 1) := by decide +kernel
theorem dX4_of_66 : decode cX4_of 66 = .ok (.iconst 5, 1) := by decide +kernel
theorem dX4_of_67 : decode cX4_of 67 = .ok (.if_icmp .ge 29, 3) := by decide +kernel
theorem dX4_of_70 : decode cX4_of 70 = .ok (.aload_n 0, 1) := by decide +kernel
theorem dX4_of_71 : decode cX4_of 71 = .ok (.getfield 45, 3) := by decide +kernel
theorem dX4_of_74 : decode cX4_of 74 = .ok (.ifCond .le 7, 3) := by decide +kernel
theorem dX4_of_77 : decode cX4_of 77 = .ok (.iconst 0, 1) := by decide +kernel
theorem dX4_of_78 : decode cX4_of 78 = .ok (.goto 17, 3) := by decide +kernel
theorem dX4_of_81 : decode cX4_of 81 = .ok (.aload_n 0, 1) := by decide +kernel
theorem dX4_of_82 : decode cX4_of 82 = .ok (.getfield 20, 3) := by decide +kernel
theorem dX4_of_85 : decode cX4_of 85 = .ok (.bipush 7, 2) := by decide +kernel
theorem dX4_of_87 : decode cX4_of 87 = .ok (.iload 4, 2) := by decide +kernel
theorem dX4_of_89 : decode cX4_of 89 = .ok (.imul, 1) := by decide +kernel
theorem dX4_of_90 : decode cX4_of 90 = .ok (.iconst 2, 1) := by decide +kernel
theorem dX4_of_91 : decode cX4_of 91 = .ok (.iadd, 1) := by decide +kernel
theorem dX4_of_92 : decode cX4_of 92 = .ok (.iload_n 3, 1) := by decide +kernel
theorem dX4_of_93 : decode cX4_of 93 = .ok (.iadd, 1) := by decide +kernel
theorem dX4_of_94 : decode cX4_of 94 = .ok (.iaload, 1) := by decide +kernel
theorem dX4_of_95 : decode cX4_of 95 = .ok (.ireturn, 1) := by decide +kernel
theorem dX4_of_96 : decode cX4_of 96 = .ok (.iconst 0, 1) := by decide +kernel
theorem dX4_of_97 : decode cX4_of 97 = .ok (.istore 5, 2) := by decide +kernel
theorem dX4_of_99 : decode cX4_of 99 = .ok (.iconst 0, 1) := by decide +kernel
theorem dX4_of_100 : decode cX4_of 100 = .ok (.istore 6, 2) := by decide +kernel
theorem dX4_of_102 : decode cX4_of 102 = .ok (.iload 6, 2) := by decide +kernel
theorem dX4_of_104 : decode cX4_of 104 = .ok (.aload_n 0, 1) := by decide +kernel
theorem dX4_of_105 : decode cX4_of 105 = .ok (.getfield 20, 3) := by decide +kernel
theorem dX4_of_108 : decode cX4_of 108 = .ok (.bipush 7, 2) := by decide +kernel
theorem dX4_of_110 : decode cX4_of 110 = .ok (.iload 4, 2) := by decide +kernel
theorem dX4_of_112 : decode cX4_of 112 = .ok (.imul, 1) := by decide +kernel
theorem dX4_of_113 : decode cX4_of 113 = .ok (.iconst 5, 1) := by decide +kernel
theorem dX4_of_114 : decode cX4_of 114 = .ok (.iadd, 1) := by decide +kernel
theorem dX4_of_115 : decode cX4_of 115 = .ok (.iaload, 1) := by decide +kernel
theorem dX4_of_116 : decode cX4_of 116 = .ok (.if_icmp .ge 58, 3) := by decide +kernel
theorem dX4_of_119 : decode cX4_of 119 = .ok (.iconst 0, 1) := by decide +kernel
theorem dX4_of_120 : decode cX4_of 120 = .ok (.istore 7, 2) := by decide +kernel
theorem dX4_of_122 : decode cX4_of 122 = .ok (.iload 7, 2) := by decide +kernel
theorem dX4_of_124 : decode cX4_of 124 = .ok (.aload_n 0, 1) := by decide +kernel
theorem dX4_of_125 : decode cX4_of 125 = .ok (.getfield 20, 3) := by decide +kernel
theorem dX4_of_128 : decode cX4_of 128 = .ok (.bipush 7, 2) := by decide +kernel
theorem dX4_of_130 : decode cX4_of 130 = .ok (.iload 4, 2) := by decide +kernel
theorem dX4_of_132 : decode cX4_of 132 = .ok (.imul, 1) := by decide +kernel
theorem dX4_of_133 : decode cX4_of 133 = .ok (.iconst 4, 1) := by decide +kernel
theorem dX4_of_134 : decode cX4_of 134 = .ok (.iadd, 1) := by decide +kernel
theorem dX4_of_135 : decode cX4_of 135 = .ok (.iaload, 1) := by decide +kernel
theorem dX4_of_136 : decode cX4_of 136 = .ok (.if_icmp .ge 32, 3) := by decide +kernel
theorem dX4_of_139 : decode cX4_of 139 = .ok (.iload 5, 2) := by decide +kernel
theorem dX4_of_141 : decode cX4_of 141 = .ok (.aload_n 0, 1) := by decide +kernel
theorem dX4_of_142 : decode cX4_of 142 = .ok (.iload 4, 2) := by decide +kernel
theorem dX4_of_144 : decode cX4_of 144 = .ok (.iload 7, 2) := by decide +kernel
theorem dX4_of_146 : decode cX4_of 146 = .ok (.iload 6, 2) := by decide +kernel
theorem dX4_of_148 : decode cX4_of 148 = .ok (.invokevirtual 132, 3) := by decide +kernel
theorem dX4_of_151 : decode cX4_of 151 = .ok (.ifCond .eq 7, 3) := by decide +kernel
theorem dX4_of_154 : decode cX4_of 154 = .ok (.iconst 1, 1) := by decide +kernel
theorem dX4_of_155 : decode cX4_of 155 = .ok (.goto 4, 3) := by decide +kernel
theorem dX4_of_158 : decode cX4_of 158 = .ok (.iconst 0, 1) := by decide +kernel
theorem dX4_of_159 : decode cX4_of 159 = .ok (.iadd, 1) := by decide +kernel
theorem dX4_of_160 : decode cX4_of 160 = .ok (.istore 5, 2) := by decide +kernel
theorem dX4_of_162 : decode cX4_of 162 = .ok (.iinc 7 1, 3) := by decide +kernel
theorem dX4_of_165 : decode cX4_of 165 = .ok (.goto (-43), 3) := by decide +kernel
theorem dX4_of_168 : decode cX4_of 168 = .ok (.iinc 6 1, 3) := by decide +kernel
theorem dX4_of_171 : decode cX4_of 171 = .ok (.goto (-69), 3) := by decide +kernel
theorem dX4_of_174 : decode cX4_of 174 = .ok (.iload 5, 2) := by decide +kernel
theorem dX4_of_176 : decode cX4_of 176 = .ok (.ireturn, 1) := by decide +kernel
theorem dX4_row_0 : decode cX4_row 0 = .ok (.aload_n 0, 1) := by decide +kernel
theorem dX4_row_1 : decode cX4_row 1 = .ok (.iconst 0, 1) := by decide +kernel
theorem dX4_row_2 : decode cX4_row 2 = .ok (.putfield 45, 3) := by decide +kernel
theorem dX4_row_5 : decode cX4_row 5 = .ok (.iload_n 1, 1) := by decide +kernel
theorem dX4_row_6 : decode cX4_row 6 = .ok (.ifCond .eq 8, 3) := by decide +kernel
theorem dX4_row_9 : decode cX4_row 9 = .ok (.iload_n 1, 1) := by decide +kernel
theorem dX4_row_10 : decode cX4_row 10 = .ok (.iconst 1, 1) := by decide +kernel
theorem dX4_row_11 : decode cX4_row 11 = .ok (.if_icmp .ne 12, 3) := by decide +kernel
theorem dX4_row_14 : decode cX4_row 14 = .ok (.aload_n 0, 1) := by decide +kernel
theorem dX4_row_15 : decode cX4_row 15 = .ok (.iload_n 1, 1) := by decide +kernel
theorem dX4_row_16 : decode cX4_row 16 = .ok (.iload_n 2, 1) := by decide +kernel
theorem dX4_row_17 : decode cX4_row 17 = .ok (.invokevirtual 129, 3) := by decide +kernel
theorem dX4_row_20 : decode cX4_row 20 = .ok (.goto 4, 3) := by decide +kernel
theorem dX4_row_23 : decode cX4_row 23 = .ok (.iconst (-1), 1) := by decide +kernel
theorem dX4_row_24 : decode cX4_row 24 = .ok (.istore 5, 2) := by decide +kernel
theorem dX4_row_26 : decode cX4_row 26 = .ok (.iload 5, 2) := by decide +kernel
theorem dX4_row_28 : decode cX4_row 28 = .ok (.ifCond .ge 5, 3) := by decide +kernel
theorem dX4_row_31 : decode cX4_row 31 = .ok (.lconst 0, 1) := by decide +kernel
theorem dX4_row_32 : decode cX4_row 32 = .ok (.lreturn, 1) := by decide +kernel
theorem dX4_row_33 : decode cX4_row 33 = .ok (.iload_n 3, 1) := by decide +kernel
theorem dX4_row_34 : decode cX4_row 34 = .ok (.ifCond .lt 19, 3) := by decide +kernel
theorem dX4_row_37 : decode cX4_row 37 = .ok (.iload_n 3, 1) := by decide +kernel
theorem dX4_row_38 : decode cX4_row 38 = .ok (.aload_n 0, 1) := by decide +kernel
theorem dX4_row_39 : decode cX4_row 39 = .ok (.getfield 20, 3) := by decide +kernel
theorem dX4_row_42 : decode cX4_row 42 = .ok (.bipush 7, 2) := by decide +kernel
theorem dX4_row_44 : decode cX4_row 44 = .ok (.iload 5, 2) := by decide +kernel
theorem dX4_row_46 : decode cX4_row 46 = .ok (.imul, 1) := by decide +kernel
theorem dX4_row_47 : decode cX4_row 47 = .ok (.iconst 5, 1) := by decide +kernel
theorem dX4_row_48 : decode cX4_row 48 = .ok (.iadd, 1) := by decide +kernel
theorem dX4_row_49 : decode cX4_row 49 = .ok (.iaload, 1) := by decide +kernel
theorem dX4_row_50 : decode cX4_row 50 = .ok (.if_icmp .lt 5, 3) := by decide +kernel
theorem dX4_row_53 : decode cX4_row 53 = .ok (.lconst 0, 1) := by decide +kernel
theorem dX4_row_54 : decode cX4_row 54 = .ok (.lreturn, 1) := by decide +kernel
theorem dX4_row_55 : decode cX4_row 55 = .ok (.lconst 0, 1) := by decide +kernel
theorem dX4_row_56 : decode cX4_row 56 = .ok (.lstore 6, 2) := by decide +kernel
theorem dX4_row_58 : decode cX4_row 58 = .ok (.iconst 0, 1) := by decide +kernel
theorem dX4_row_59 : decode cX4_row 59 = .ok (.istore 8, 2) := by decide +kernel
theorem dX4_row_61 : decode cX4_row 61 = .ok (.iload 8, 2) := by decide +kernel
theorem dX4_row_63 : decode cX4_row 63 = .ok (.bipush 64, 2) := by decide +kernel
theorem dX4_row_65 : decode cX4_row 65 = .ok (.if_icmp .ge 94, 3) := by decide +kernel
theorem dX4_row_68 : decode cX4_row 68 = .ok (.iload 4, 2) := by decide +kernel
theorem dX4_row_70 : decode cX4_row 70 = .ok (.ifCond .lt 36, 3) := by decide +kernel
theorem dX4_row_73 : decode cX4_row 73 = .ok (.iload 4, 2) := by decide +kernel
theorem dX4_row_75 : decode cX4_row 75 = .ok (.iconst 2, 1) := by decide +kernel
theorem dX4_row_76 : decode cX4_row 76 = .ok (.if_icmp .ge 30, 3) := by decide +kernel
theorem dX4_row_79 : decode cX4_row 79 = .ok (.bipush 64, 2) := by decide +kernel
theorem dX4_row_81 : decode cX4_row 81 = .ok (.iload 4, 2) := by decide +kernel
theorem dX4_row_83 : decode cX4_row 83 = .ok (.imul, 1) := by decide +kernel
theorem dX4_row_84 : decode cX4_row 84 = .ok (.iload 8, 2) := by decide +kernel
theorem dX4_row_86 : decode cX4_row 86 = .ok (.iadd, 1) := by decide +kernel
theorem dX4_row_87 : decode cX4_row 87 = .ok (.aload_n 0, 1) := by decide +kernel
theorem dX4_row_88 : decode cX4_row 88 = .ok (.getfield 20, 3) := by decide +kernel
theorem dX4_row_91 : decode cX4_row 91 = .ok (.bipush 7, 2) := by decide +kernel
theorem dX4_row_93 : decode cX4_row 93 = .ok (.iload 5, 2) := by decide +kernel
theorem dX4_row_95 : decode cX4_row 95 = .ok (.imul, 1) := by decide +kernel
theorem dX4_row_96 : decode cX4_row 96 = .ok (.iconst 4, 1) := by decide +kernel
theorem dX4_row_97 : decode cX4_row 97 = .ok (.iadd, 1) := by decide +kernel
theorem dX4_row_98 : decode cX4_row 98 = .ok (.iaload, 1) := by decide +kernel
theorem dX4_row_99 : decode cX4_row 99 = .ok (.if_icmp .ge 7, 3) := by decide +kernel
theorem dX4_row_102 : decode cX4_row 102 = .ok (.iconst 1, 1) := by decide +kernel
theorem dX4_row_103 : decode cX4_row 103 = .ok (.goto 4, 3) := by decide +kernel
theorem dX4_row_106 : decode cX4_row 106 = .ok (.iconst 0, 1) := by decide +kernel
theorem dX4_row_107 : decode cX4_row 107 = .ok (.istore 9, 2) := by decide +kernel
theorem dX4_row_109 : decode cX4_row 109 = .ok (.lload 6, 2) := by decide +kernel
theorem dX4_row_111 : decode cX4_row 111 = .ok (.iconst 1, 1) := by decide +kernel
theorem dX4_row_112 : decode cX4_row 112 = .ok (.lshl, 1) := by decide +kernel
theorem dX4_row_113 : decode cX4_row 113 = .ok (.iload 9, 2) := by decide +kernel
theorem dX4_row_115 : decode cX4_row 115 = .ok (.ifCond .eq 34, 3) := by decide +kernel
theorem dX4_row_118 : decode cX4_row 118 = .ok (.aload_n 0, 1) := by decide +kernel
theorem dX4_row_119 : decode cX4_row 119 = .ok (.iload 5, 2) := by decide +kernel
theorem dX4_row_121 : decode cX4_row 121 = .ok (.iload 9, 2) := by decide +kernel
theorem dX4_row_123 : decode cX4_row 123 = .ok (.ifCond .eq 14, 3) := by decide +kernel
theorem dX4_row_126 : decode cX4_row 126 = .ok (.bipush 64, 2) := by decide +kernel
theorem dX4_row_128 : decode cX4_row 128 = .ok (.iload 4, 2) := by decide +kernel
theorem dX4_row_130 : decode cX4_row 130 = .ok (.imul, 1) := by decide +kernel
theorem dX4_row_131 : decode cX4_row 131 = .ok (.iload 8, 2) := by decide +kernel
theorem dX4_row_133 : decode cX4_row 133 = .ok (.iadd, 1) := by decide +kernel
theorem dX4_row_134 : decode cX4_row 134 = .ok (.goto 4, 3) := by decide +kernel
theorem dX4_row_137 : decode cX4_row 137 = .ok (.iconst 0, 1) := by decide +kernel
theorem dX4_row_138 : decode cX4_row 138 = .ok (.iload_n 3, 1) := by decide +kernel
theorem dX4_row_139 : decode cX4_row 139 = .ok (.invokevirtual 132, 3) := by decide +kernel
theorem dX4_row_142 : decode cX4_row 142 = .ok (.ifCond .eq 7, 3) := by decide +kernel
theorem dX4_row_145 : decode cX4_row 145 = .ok (.lconst 1, 1) := by decide +kernel
theorem dX4_row_146 : decode cX4_row 146 = .ok (.goto 4, 3) := by decide +kernel
theorem dX4_row_149 : decode cX4_row 149 = .ok (.lconst 0, 1) := by decide +kernel
theorem dX4_row_150 : decode cX4_row 150 = .ok (.lor, 1) := by decide +kernel
theorem dX4_row_151 : decode cX4_row 151 = .ok (.lstore 6, 2) := by decide +kernel
theorem dX4_row_153 : decode cX4_row 153 = .ok (.iinc 8 1, 3) := by decide +kernel
theorem dX4_row_156 : decode cX4_row 156 = .ok (.goto (-95), 3) := by decide +kernel
theorem dX4_row_159 : decode cX4_row 159 = .ok (.lload 6, 2) := by decide +kernel
theorem dX4_row_161 : decode cX4_row 161 = .ok (.lreturn, 1) := by decide +kernel
theorem dX4_wish_0 : decode cX4_wish 0 = .ok (.aload_n 0, 1) := by decide +kernel
theorem dX4_wish_1 : decode cX4_wish 1 = .ok (.iload_n 1, 1) := by decide +kernel
theorem dX4_wish_2 : decode cX4_wish 2 = .ok (.ifCond .lt 18, 3) := by decide +kernel
theorem dX4_wish_5 : decode cX4_wish 5 = .ok (.iload_n 1, 1) := by decide +kernel
theorem dX4_wish_6 : decode cX4_wish 6 = .ok (.iconst 2, 1) := by decide +kernel
theorem dX4_wish_7 : decode cX4_wish 7 = .ok (.if_icmp .gt 13, 3) := by decide +kernel
theorem dX4_wish_10 : decode cX4_wish 10 = .ok (.iload_n 2, 1) := by decide +kernel
theorem dX4_wish_11 : decode cX4_wish 11 = .ok (.ifCond .lt 9, 3) := by decide +kernel
theorem dX4_wish_14 : decode cX4_wish 14 = .ok (.iload_n 2, 1) := by decide +kernel
theorem dX4_wish_15 : decode cX4_wish 15 = .ok (.bipush 7, 2) := by decide +kernel
theorem dX4_wish_17 : decode cX4_wish 17 = .ok (.if_icmp .le 7, 3) := by decide +kernel
theorem dX4_wish_20 : decode cX4_wish 20 = .ok (.iconst 1, 1) := by decide +kernel
theorem dX4_wish_21 : decode cX4_wish 21 = .ok (.goto 4, 3) := by decide +kernel
theorem dX4_wish_24 : decode cX4_wish 24 = .ok (.iconst 0, 1) := by decide +kernel
theorem dX4_wish_25 : decode cX4_wish 25 = .ok (.putfield 45, 3) := by decide +kernel
theorem dX4_wish_28 : decode cX4_wish 28 = .ok (.aload_n 0, 1) := by decide +kernel
theorem dX4_wish_29 : decode cX4_wish 29 = .ok (.getfield 45, 3) := by decide +kernel
theorem dX4_wish_32 : decode cX4_wish 32 = .ok (.ifCond .le 5, 3) := by decide +kernel
theorem dX4_wish_35 : decode cX4_wish 35 = .ok (.iconst 0, 1) := by decide +kernel
theorem dX4_wish_36 : decode cX4_wish 36 = .ok (.ireturn, 1) := by decide +kernel
theorem dX4_wish_37 : decode cX4_wish 37 = .ok (.iload_n 1, 1) := by decide +kernel
theorem dX4_wish_38 : decode cX4_wish 38 = .ok (.iconst 2, 1) := by decide +kernel
theorem dX4_wish_39 : decode cX4_wish 39 = .ok (.if_icmp .ne 33, 3) := by decide +kernel
theorem dX4_wish_42 : decode cX4_wish 42 = .ok (.iload_n 2, 1) := by decide +kernel
theorem dX4_wish_43 : decode cX4_wish 43 = .ok (.bipush 7, 2) := by decide +kernel
theorem dX4_wish_45 : decode cX4_wish 45 = .ok (.if_icmp .ne 10, 3) := by decide +kernel
theorem dX4_wish_48 : decode cX4_wish 48 = .ok (.aload_n 0, 1) := by decide +kernel
theorem dX4_wish_49 : decode cX4_wish 49 = .ok (.getfield 55, 3) := by decide +kernel
theorem dX4_wish_52 : decode cX4_wish 52 = .ok (.goto 19, 3) := by decide +kernel
theorem dX4_wish_55 : decode cX4_wish 55 = .ok (.aload_n 0, 1) := by decide +kernel
theorem dX4_wish_56 : decode cX4_wish 56 = .ok (.getfield 27, 3) := by decide +kernel
theorem dX4_wish_59 : decode cX4_wish 59 = .ok (.iload_n 2, 1) := by decide +kernel
theorem dX4_wish_60 : decode cX4_wish 60 = .ok (.bipush 7, 2) := by decide +kernel
theorem dX4_wish_62 : decode cX4_wish 62 = .ok (.if_icmp .ge 7, 3) := by decide +kernel
theorem dX4_wish_65 : decode cX4_wish 65 = .ok (.iload_n 2, 1) := by decide +kernel
theorem dX4_wish_66 : decode cX4_wish 66 = .ok (.goto 4, 3) := by decide +kernel
theorem dX4_wish_69 : decode cX4_wish 69 = .ok (.iconst 0, 1) := by decide +kernel
theorem dX4_wish_70 : decode cX4_wish 70 = .ok (.iaload, 1) := by decide +kernel
theorem dX4_wish_71 : decode cX4_wish 71 = .ok (.ireturn, 1) := by decide +kernel
theorem dX4_wish_72 : decode cX4_wish 72 = .ok (.iload_n 2, 1) := by decide +kernel
theorem dX4_wish_73 : decode cX4_wish 73 = .ok (.bipush 7, 2) := by decide +kernel
theorem dX4_wish_75 : decode cX4_wish 75 = .ok (.if_icmp .ne 12, 3) := by decide +kernel
theorem dX4_wish_78 : decode cX4_wish 78 = .ok (.aload_n 0, 1) := by decide +kernel
theorem dX4_wish_79 : decode cX4_wish 79 = .ok (.getfield 33, 3) := by decide +kernel
theorem dX4_wish_82 : decode cX4_wish 82 = .ok (.iload_n 1, 1) := by decide +kernel
theorem dX4_wish_83 : decode cX4_wish 83 = .ok (.iaload, 1) := by decide +kernel
theorem dX4_wish_84 : decode cX4_wish 84 = .ok (.goto 24, 3) := by decide +kernel
theorem dX4_wish_87 : decode cX4_wish 87 = .ok (.aload_n 0, 1) := by decide +kernel
theorem dX4_wish_88 : decode cX4_wish 88 = .ok (.getfield 30, 3) := by decide +kernel
theorem dX4_wish_91 : decode cX4_wish 91 = .ok (.bipush 7, 2) := by decide +kernel
theorem dX4_wish_93 : decode cX4_wish 93 = .ok (.iload_n 1, 1) := by decide +kernel
theorem dX4_wish_94 : decode cX4_wish 94 = .ok (.imul, 1) := by decide +kernel
theorem dX4_wish_95 : decode cX4_wish 95 = .ok (.iload_n 2, 1) := by decide +kernel
theorem dX4_wish_96 : decode cX4_wish 96 = .ok (.bipush 7, 2) := by decide +kernel
theorem dX4_wish_98 : decode cX4_wish 98 = .ok (.if_icmp .ge 7, 3) := by decide +kernel
theorem dX4_wish_101 : decode cX4_wish 101 = .ok (.iload_n 2, 1) := by decide +kernel
theorem dX4_wish_102 : decode cX4_wish 102 = .ok (.goto 4, 3) := by decide +kernel
theorem dX4_wish_105 : decode cX4_wish 105 = .ok (.iconst 0, 1) := by decide +kernel
theorem dX4_wish_106 : decode cX4_wish 106 = .ok (.iadd, 1) := by decide +kernel
theorem dX4_wish_107 : decode cX4_wish 107 = .ok (.iaload, 1) := by decide +kernel
theorem dX4_wish_108 : decode cX4_wish 108 = .ok (.ireturn, 1) := by decide +kernel
theorem dX4_look_0 : decode cX4_look 0 = .ok (.aload_n 0, 1) := by decide +kernel
theorem dX4_look_1 : decode cX4_look 1 = .ok (.iconst 0, 1) := by decide +kernel
theorem dX4_look_2 : decode cX4_look 2 = .ok (.putfield 45, 3) := by decide +kernel
theorem dX4_look_5 : decode cX4_look 5 = .ok (.iload_n 1, 1) := by decide +kernel
theorem dX4_look_6 : decode cX4_look 6 = .ok (.tableswitch 84 0 5 #[38, 43, 48, 53, 58, 63], 38) := by decide +kernel
theorem dX4_look_44 : decode cX4_look 44 = .ok (.aload_n 0, 1) := by decide +kernel
theorem dX4_look_45 : decode cX4_look 45 = .ok (.getfield 66, 3) := by decide +kernel
theorem dX4_look_48 : decode cX4_look 48 = .ok (.ireturn, 1) := by decide +kernel
theorem dX4_look_49 : decode cX4_look 49 = .ok (.aload_n 0, 1) := by decide +kernel
theorem dX4_look_50 : decode cX4_look 50 = .ok (.getfield 73, 3) := by decide +kernel
theorem dX4_look_53 : decode cX4_look 53 = .ok (.ireturn, 1) := by decide +kernel
theorem dX4_look_54 : decode cX4_look 54 = .ok (.aload_n 0, 1) := by decide +kernel
theorem dX4_look_55 : decode cX4_look 55 = .ok (.getfield 79, 3) := by decide +kernel
theorem dX4_look_58 : decode cX4_look 58 = .ok (.ireturn, 1) := by decide +kernel
theorem dX4_look_59 : decode cX4_look 59 = .ok (.aload_n 0, 1) := by decide +kernel
theorem dX4_look_60 : decode cX4_look 60 = .ok (.getfield 55, 3) := by decide +kernel
theorem dX4_look_63 : decode cX4_look 63 = .ok (.ireturn, 1) := by decide +kernel
theorem dX4_look_64 : decode cX4_look 64 = .ok (.aload_n 0, 1) := by decide +kernel
theorem dX4_look_65 : decode cX4_look 65 = .ok (.getfield 52, 3) := by decide +kernel
theorem dX4_look_68 : decode cX4_look 68 = .ok (.ireturn, 1) := by decide +kernel
theorem dX4_look_69 : decode cX4_look 69 = .ok (.aload_n 0, 1) := by decide +kernel
theorem dX4_look_70 : decode cX4_look 70 = .ok (.getfield 58, 3) := by decide +kernel
theorem dX4_look_73 : decode cX4_look 73 = .ok (.ifCond .eq 15, 3) := by decide +kernel
theorem dX4_look_76 : decode cX4_look 76 = .ok (.aload_n 0, 1) := by decide +kernel
theorem dX4_look_77 : decode cX4_look 77 = .ok (.getfield 92, 3) := by decide +kernel
theorem dX4_look_80 : decode cX4_look 80 = .ok (.aload_n 0, 1) := by decide +kernel
theorem dX4_look_81 : decode cX4_look 81 = .ok (.getfield 95, 3) := by decide +kernel
theorem dX4_look_84 : decode cX4_look 84 = .ok (.isub, 1) := by decide +kernel
theorem dX4_look_85 : decode cX4_look 85 = .ok (.goto 4, 3) := by decide +kernel
theorem dX4_look_88 : decode cX4_look 88 = .ok (.iconst (-1), 1) := by decide +kernel
theorem dX4_look_89 : decode cX4_look 89 = .ok (.ireturn, 1) := by decide +kernel
theorem dX4_look_90 : decode cX4_look 90 = .ok (.iconst (-1), 1) := by decide +kernel
theorem dX4_look_91 : decode cX4_look 91 = .ok (.ireturn, 1) := by decide +kernel
end
section
theorem dJ6_numberOfLeadingZeros_0f7a4_0 : decode cJ6_numberOfLeadingZeros_0f7a4 0 = .ok (.iload_n 0, 1) := by decide +kernel
theorem dJ6_numberOfLeadingZeros_0f7a4_1 : decode cJ6_numberOfLeadingZeros_0f7a4 1 = .ok (.ifCond .gt 14, 3) := by decide +kernel
theorem dJ6_numberOfLeadingZeros_0f7a4_4 : decode cJ6_numberOfLeadingZeros_0f7a4 4 = .ok (.iload_n 0, 1) := by decide +kernel
theorem dJ6_numberOfLeadingZeros_0f7a4_5 : decode cJ6_numberOfLeadingZeros_0f7a4 5 = .ok (.ifCond .ne 8, 3) := by decide +kernel
theorem dJ6_numberOfLeadingZeros_0f7a4_8 : decode cJ6_numberOfLeadingZeros_0f7a4 8 = .ok (.bipush 32, 2) := by decide +kernel
theorem dJ6_numberOfLeadingZeros_0f7a4_10 : decode cJ6_numberOfLeadingZeros_0f7a4 10 = .ok (.goto 4, 3) := by decide +kernel
theorem dJ6_numberOfLeadingZeros_0f7a4_13 : decode cJ6_numberOfLeadingZeros_0f7a4 13 = .ok (.iconst 0, 1) := by decide +kernel
theorem dJ6_numberOfLeadingZeros_0f7a4_14 : decode cJ6_numberOfLeadingZeros_0f7a4 14 = .ok (.ireturn, 1) := by decide +kernel
theorem dJ6_numberOfLeadingZeros_0f7a4_15 : decode cJ6_numberOfLeadingZeros_0f7a4 15 = .ok (.bipush 31, 2) := by decide +kernel
theorem dJ6_numberOfLeadingZeros_0f7a4_17 : decode cJ6_numberOfLeadingZeros_0f7a4 17 = .ok (.istore_n 1, 1) := by decide +kernel
theorem dJ6_numberOfLeadingZeros_0f7a4_18 : decode cJ6_numberOfLeadingZeros_0f7a4 18 = .ok (.iload_n 0, 1) := by decide +kernel
theorem dJ6_numberOfLeadingZeros_0f7a4_19 : decode cJ6_numberOfLeadingZeros_0f7a4 19 = .ok (.ldc_w 264, 3) := by decide +kernel
theorem dJ6_numberOfLeadingZeros_0f7a4_22 : decode cJ6_numberOfLeadingZeros_0f7a4 22 = .ok (.if_icmp .lt 11, 3) := by decide +kernel
theorem dJ6_numberOfLeadingZeros_0f7a4_25 : decode cJ6_numberOfLeadingZeros_0f7a4 25 = .ok (.iinc 1 (-16), 3) := by decide +kernel
theorem dJ6_numberOfLeadingZeros_0f7a4_28 : decode cJ6_numberOfLeadingZeros_0f7a4 28 = .ok (.iload_n 0, 1) := by decide +kernel
theorem dJ6_numberOfLeadingZeros_0f7a4_29 : decode cJ6_numberOfLeadingZeros_0f7a4 29 = .ok (.bipush 16, 2) := by decide +kernel
theorem dJ6_numberOfLeadingZeros_0f7a4_31 : decode cJ6_numberOfLeadingZeros_0f7a4 31 = .ok (.iushr, 1) := by decide +kernel
theorem dJ6_numberOfLeadingZeros_0f7a4_32 : decode cJ6_numberOfLeadingZeros_0f7a4 32 = .ok (.istore_n 0, 1) := by decide +kernel
theorem dJ6_numberOfLeadingZeros_0f7a4_33 : decode cJ6_numberOfLeadingZeros_0f7a4 33 = .ok (.iload_n 0, 1) := by decide +kernel
theorem dJ6_numberOfLeadingZeros_0f7a4_34 : decode cJ6_numberOfLeadingZeros_0f7a4 34 = .ok (.sipush 256, 3) := by decide +kernel
theorem dJ6_numberOfLeadingZeros_0f7a4_37 : decode cJ6_numberOfLeadingZeros_0f7a4 37 = .ok (.if_icmp .lt 11, 3) := by decide +kernel
theorem dJ6_numberOfLeadingZeros_0f7a4_40 : decode cJ6_numberOfLeadingZeros_0f7a4 40 = .ok (.iinc 1 (-8), 3) := by decide +kernel
theorem dJ6_numberOfLeadingZeros_0f7a4_43 : decode cJ6_numberOfLeadingZeros_0f7a4 43 = .ok (.iload_n 0, 1) := by decide +kernel
theorem dJ6_numberOfLeadingZeros_0f7a4_44 : decode cJ6_numberOfLeadingZeros_0f7a4 44 = .ok (.bipush 8, 2) := by decide +kernel
theorem dJ6_numberOfLeadingZeros_0f7a4_46 : decode cJ6_numberOfLeadingZeros_0f7a4 46 = .ok (.iushr, 1) := by decide +kernel
theorem dJ6_numberOfLeadingZeros_0f7a4_47 : decode cJ6_numberOfLeadingZeros_0f7a4 47 = .ok (.istore_n 0, 1) := by decide +kernel
theorem dJ6_numberOfLeadingZeros_0f7a4_48 : decode cJ6_numberOfLeadingZeros_0f7a4 48 = .ok (.iload_n 0, 1) := by decide +kernel
theorem dJ6_numberOfLeadingZeros_0f7a4_49 : decode cJ6_numberOfLeadingZeros_0f7a4 49 = .ok (.bipush 16, 2) := by decide +kernel
theorem dJ6_numberOfLeadingZeros_0f7a4_51 : decode cJ6_numberOfLeadingZeros_0f7a4 51 = .ok (.if_icmp .lt 10, 3) := by decide +kernel
theorem dJ6_numberOfLeadingZeros_0f7a4_54 : decode cJ6_numberOfLeadingZeros_0f7a4 54 = .ok (.iinc 1 (-4), 3) := by decide +kernel
theorem dJ6_numberOfLeadingZeros_0f7a4_57 : decode cJ6_numberOfLeadingZeros_0f7a4 57 = .ok (.iload_n 0, 1) := by decide +kernel
theorem dJ6_numberOfLeadingZeros_0f7a4_58 : decode cJ6_numberOfLeadingZeros_0f7a4 58 = .ok (.iconst 4, 1) := by decide +kernel
theorem dJ6_numberOfLeadingZeros_0f7a4_59 : decode cJ6_numberOfLeadingZeros_0f7a4 59 = .ok (.iushr, 1) := by decide +kernel
theorem dJ6_numberOfLeadingZeros_0f7a4_60 : decode cJ6_numberOfLeadingZeros_0f7a4 60 = .ok (.istore_n 0, 1) := by decide +kernel
theorem dJ6_numberOfLeadingZeros_0f7a4_61 : decode cJ6_numberOfLeadingZeros_0f7a4 61 = .ok (.iload_n 0, 1) := by decide +kernel
theorem dJ6_numberOfLeadingZeros_0f7a4_62 : decode cJ6_numberOfLeadingZeros_0f7a4 62 = .ok (.iconst 4, 1) := by decide +kernel
theorem dJ6_numberOfLeadingZeros_0f7a4_63 : decode cJ6_numberOfLeadingZeros_0f7a4 63 = .ok (.if_icmp .lt 10, 3) := by decide +kernel
theorem dJ6_numberOfLeadingZeros_0f7a4_66 : decode cJ6_numberOfLeadingZeros_0f7a4 66 = .ok (.iinc 1 (-2), 3) := by decide +kernel
theorem dJ6_numberOfLeadingZeros_0f7a4_69 : decode cJ6_numberOfLeadingZeros_0f7a4 69 = .ok (.iload_n 0, 1) := by decide +kernel
theorem dJ6_numberOfLeadingZeros_0f7a4_70 : decode cJ6_numberOfLeadingZeros_0f7a4 70 = .ok (.iconst 2, 1) := by decide +kernel
theorem dJ6_numberOfLeadingZeros_0f7a4_71 : decode cJ6_numberOfLeadingZeros_0f7a4 71 = .ok (.iushr, 1) := by decide +kernel
theorem dJ6_numberOfLeadingZeros_0f7a4_72 : decode cJ6_numberOfLeadingZeros_0f7a4 72 = .ok (.istore_n 0, 1) := by decide +kernel
theorem dJ6_numberOfLeadingZeros_0f7a4_73 : decode cJ6_numberOfLeadingZeros_0f7a4 73 = .ok (.iload_n 1, 1) := by decide +kernel
theorem dJ6_numberOfLeadingZeros_0f7a4_74 : decode cJ6_numberOfLeadingZeros_0f7a4 74 = .ok (.iload_n 0, 1) := by decide +kernel
theorem dJ6_numberOfLeadingZeros_0f7a4_75 : decode cJ6_numberOfLeadingZeros_0f7a4 75 = .ok (.iconst 1, 1) := by decide +kernel
theorem dJ6_numberOfLeadingZeros_0f7a4_76 : decode cJ6_numberOfLeadingZeros_0f7a4 76 = .ok (.iushr, 1) := by decide +kernel
theorem dJ6_numberOfLeadingZeros_0f7a4_77 : decode cJ6_numberOfLeadingZeros_0f7a4 77 = .ok (.isub, 1) := by decide +kernel
theorem dJ6_numberOfLeadingZeros_0f7a4_78 : decode cJ6_numberOfLeadingZeros_0f7a4 78 = .ok (.ireturn, 1) := by decide +kernel
theorem dJ13_bitCount_95d88_0 : decode cJ13_bitCount_95d88 0 = .ok (.lload_n 0, 1) := by decide +kernel
theorem dJ13_bitCount_95d88_1 : decode cJ13_bitCount_95d88 1 = .ok (.lload_n 0, 1) := by decide +kernel
theorem dJ13_bitCount_95d88_2 : decode cJ13_bitCount_95d88 2 = .ok (.iconst 1, 1) := by decide +kernel
theorem dJ13_bitCount_95d88_3 : decode cJ13_bitCount_95d88 3 = .ok (.lushr, 1) := by decide +kernel
theorem dJ13_bitCount_95d88_4 : decode cJ13_bitCount_95d88 4 = .ok (.ldc2_w 314, 3) := by decide +kernel
theorem dJ13_bitCount_95d88_7 : decode cJ13_bitCount_95d88 7 = .ok (.land, 1) := by decide +kernel
theorem dJ13_bitCount_95d88_8 : decode cJ13_bitCount_95d88 8 = .ok (.lsub, 1) := by decide +kernel
theorem dJ13_bitCount_95d88_9 : decode cJ13_bitCount_95d88 9 = .ok (.lstore_n 0, 1) := by decide +kernel
theorem dJ13_bitCount_95d88_10 : decode cJ13_bitCount_95d88 10 = .ok (.lload_n 0, 1) := by decide +kernel
theorem dJ13_bitCount_95d88_11 : decode cJ13_bitCount_95d88 11 = .ok (.ldc2_w 316, 3) := by decide +kernel
theorem dJ13_bitCount_95d88_14 : decode cJ13_bitCount_95d88 14 = .ok (.land, 1) := by decide +kernel
theorem dJ13_bitCount_95d88_15 : decode cJ13_bitCount_95d88 15 = .ok (.lload_n 0, 1) := by decide +kernel
theorem dJ13_bitCount_95d88_16 : decode cJ13_bitCount_95d88 16 = .ok (.iconst 2, 1) := by decide +kernel
theorem dJ13_bitCount_95d88_17 : decode cJ13_bitCount_95d88 17 = .ok (.lushr, 1) := by decide +kernel
theorem dJ13_bitCount_95d88_18 : decode cJ13_bitCount_95d88 18 = .ok (.ldc2_w 316, 3) := by decide +kernel
theorem dJ13_bitCount_95d88_21 : decode cJ13_bitCount_95d88 21 = .ok (.land, 1) := by decide +kernel
theorem dJ13_bitCount_95d88_22 : decode cJ13_bitCount_95d88 22 = .ok (.ladd, 1) := by decide +kernel
theorem dJ13_bitCount_95d88_23 : decode cJ13_bitCount_95d88 23 = .ok (.lstore_n 0, 1) := by decide +kernel
theorem dJ13_bitCount_95d88_24 : decode cJ13_bitCount_95d88 24 = .ok (.lload_n 0, 1) := by decide +kernel
theorem dJ13_bitCount_95d88_25 : decode cJ13_bitCount_95d88 25 = .ok (.lload_n 0, 1) := by decide +kernel
theorem dJ13_bitCount_95d88_26 : decode cJ13_bitCount_95d88 26 = .ok (.iconst 4, 1) := by decide +kernel
theorem dJ13_bitCount_95d88_27 : decode cJ13_bitCount_95d88 27 = .ok (.lushr, 1) := by decide +kernel
theorem dJ13_bitCount_95d88_28 : decode cJ13_bitCount_95d88 28 = .ok (.ladd, 1) := by decide +kernel
theorem dJ13_bitCount_95d88_29 : decode cJ13_bitCount_95d88 29 = .ok (.ldc2_w 318, 3) := by decide +kernel
theorem dJ13_bitCount_95d88_32 : decode cJ13_bitCount_95d88 32 = .ok (.land, 1) := by decide +kernel
theorem dJ13_bitCount_95d88_33 : decode cJ13_bitCount_95d88 33 = .ok (.lstore_n 0, 1) := by decide +kernel
theorem dJ13_bitCount_95d88_34 : decode cJ13_bitCount_95d88 34 = .ok (.lload_n 0, 1) := by decide +kernel
theorem dJ13_bitCount_95d88_35 : decode cJ13_bitCount_95d88 35 = .ok (.lload_n 0, 1) := by decide +kernel
theorem dJ13_bitCount_95d88_36 : decode cJ13_bitCount_95d88 36 = .ok (.bipush 8, 2) := by decide +kernel
theorem dJ13_bitCount_95d88_38 : decode cJ13_bitCount_95d88 38 = .ok (.lushr, 1) := by decide +kernel
theorem dJ13_bitCount_95d88_39 : decode cJ13_bitCount_95d88 39 = .ok (.ladd, 1) := by decide +kernel
theorem dJ13_bitCount_95d88_40 : decode cJ13_bitCount_95d88 40 = .ok (.lstore_n 0, 1) := by decide +kernel
theorem dJ13_bitCount_95d88_41 : decode cJ13_bitCount_95d88 41 = .ok (.lload_n 0, 1) := by decide +kernel
theorem dJ13_bitCount_95d88_42 : decode cJ13_bitCount_95d88 42 = .ok (.lload_n 0, 1) := by decide +kernel
theorem dJ13_bitCount_95d88_43 : decode cJ13_bitCount_95d88 43 = .ok (.bipush 16, 2) := by decide +kernel
theorem dJ13_bitCount_95d88_45 : decode cJ13_bitCount_95d88 45 = .ok (.lushr, 1) := by decide +kernel
theorem dJ13_bitCount_95d88_46 : decode cJ13_bitCount_95d88 46 = .ok (.ladd, 1) := by decide +kernel
theorem dJ13_bitCount_95d88_47 : decode cJ13_bitCount_95d88 47 = .ok (.lstore_n 0, 1) := by decide +kernel
theorem dJ13_bitCount_95d88_48 : decode cJ13_bitCount_95d88 48 = .ok (.lload_n 0, 1) := by decide +kernel
theorem dJ13_bitCount_95d88_49 : decode cJ13_bitCount_95d88 49 = .ok (.lload_n 0, 1) := by decide +kernel
theorem dJ13_bitCount_95d88_50 : decode cJ13_bitCount_95d88 50 = .ok (.bipush 32, 2) := by decide +kernel
theorem dJ13_bitCount_95d88_52 : decode cJ13_bitCount_95d88 52 = .ok (.lushr, 1) := by decide +kernel
theorem dJ13_bitCount_95d88_53 : decode cJ13_bitCount_95d88 53 = .ok (.ladd, 1) := by decide +kernel
theorem dJ13_bitCount_95d88_54 : decode cJ13_bitCount_95d88 54 = .ok (.lstore_n 0, 1) := by decide +kernel
theorem dJ13_bitCount_95d88_55 : decode cJ13_bitCount_95d88 55 = .ok (.lload_n 0, 1) := by decide +kernel
theorem dJ13_bitCount_95d88_56 : decode cJ13_bitCount_95d88 56 = .ok (.l2i, 1) := by decide +kernel
theorem dJ13_bitCount_95d88_57 : decode cJ13_bitCount_95d88 57 = .ok (.bipush 127, 2) := by decide +kernel
theorem dJ13_bitCount_95d88_59 : decode cJ13_bitCount_95d88 59 = .ok (.iand, 1) := by decide +kernel
theorem dJ13_bitCount_95d88_60 : decode cJ13_bitCount_95d88 60 = .ok (.ireturn, 1) := by decide +kernel
theorem dJ9_max_7cf53_0 : decode cJ9_max_7cf53 0 = .ok (.iload_n 0, 1) := by decide +kernel
theorem dJ9_max_7cf53_1 : decode cJ9_max_7cf53 1 = .ok (.iload_n 1, 1) := by decide +kernel
theorem dJ9_max_7cf53_2 : decode cJ9_max_7cf53 2 = .ok (.if_icmp .lt 7, 3) := by decide +kernel
theorem dJ9_max_7cf53_5 : decode cJ9_max_7cf53 5 = .ok (.iload_n 0, 1) := by decide +kernel
theorem dJ9_max_7cf53_6 : decode cJ9_max_7cf53 6 = .ok (.goto 4, 3) := by decide +kernel
theorem dJ9_max_7cf53_9 : decode cJ9_max_7cf53 9 = .ok (.iload_n 1, 1) := by decide +kernel
theorem dJ9_max_7cf53_10 : decode cJ9_max_7cf53 10 = .ok (.ireturn, 1) := by decide +kernel
theorem dJ9_min_7cf53_0 : decode cJ9_min_7cf53 0 = .ok (.iload_n 0, 1) := by decide +kernel
theorem dJ9_min_7cf53_1 : decode cJ9_min_7cf53 1 = .ok (.iload_n 1, 1) := by decide +kernel
theorem dJ9_min_7cf53_2 : decode cJ9_min_7cf53 2 = .ok (.if_icmp .gt 7, 3) := by decide +kernel
theorem dJ9_min_7cf53_5 : decode cJ9_min_7cf53 5 = .ok (.iload_n 0, 1) := by decide +kernel
theorem dJ9_min_7cf53_6 : decode cJ9_min_7cf53 6 = .ok (.goto 4, 3) := by decide +kernel
theorem dJ9_min_7cf53_9 : decode cJ9_min_7cf53 9 = .ok (.iload_n 1, 1) := by decide +kernel
theorem dJ9_min_7cf53_10 : decode cJ9_min_7cf53 10 = .ok (.ireturn, 1) := by decide +kernel
theorem dJxa1e45_init_da8c8_0 : decode cJxa1e45_init_da8c8 0 = .ok (.aload_n 0, 1) := by decide +kernel
theorem dJxa1e45_init_da8c8_1 : decode cJxa1e45_init_da8c8 1 = .ok (.invokespecial 1, 3) := by decide +kernel
theorem dJxa1e45_init_da8c8_4 : decode cJxa1e45_init_da8c8 4 = .ok (.return_, 1) := by decide +kernel
theorem dJxc12de_init_da8c8_0 : decode cJxc12de_init_da8c8 0 = .ok (.aload_n 0, 1) := by decide +kernel
theorem dJxc12de_init_da8c8_1 : decode cJxc12de_init_da8c8 1 = .ok (.invokespecial 1, 3) := by decide +kernel
theorem dJxc12de_init_da8c8_4 : decode cJxc12de_init_da8c8 4 = .ok (.aload_n 0, 1) := by decide +kernel
theorem dJxc12de_init_da8c8_5 : decode cJxc12de_init_da8c8 5 = .ok (.iconst 0, 1) := by decide +kernel
theorem dJxc12de_init_da8c8_6 : decode cJxc12de_init_da8c8 6 = .ok (.putfield 7, 3) := by decide +kernel
theorem dJxc12de_init_da8c8_9 : decode cJxc12de_init_da8c8 9 = .ok (.return_, 1) := by decide +kernel
theorem dJx4a65c_init_da8c8_0 : decode cJx4a65c_init_da8c8 0 = .ok (.aload_n 0, 1) := by decide +kernel
theorem dJx4a65c_init_da8c8_1 : decode cJx4a65c_init_da8c8 1 = .ok (.invokespecial 1, 3) := by decide +kernel
theorem dJx4a65c_init_da8c8_4 : decode cJx4a65c_init_da8c8 4 = .ok (.aload_n 0, 1) := by decide +kernel
theorem dJx4a65c_init_da8c8_5 : decode cJx4a65c_init_da8c8 5 = .ok (.getstatic 39, 3) := by decide +kernel
theorem dJx4a65c_init_da8c8_8 : decode cJx4a65c_init_da8c8 8 = .ok (.putfield 9, 3) := by decide +kernel
theorem dJx4a65c_init_da8c8_11 : decode cJx4a65c_init_da8c8 11 = .ok (.return_, 1) := by decide +kernel
theorem dJx4a65c_grow_92f84_0 : decode cJx4a65c_grow_92f84 0 = .ok (.aload_n 0, 1) := by decide +kernel
theorem dJx4a65c_grow_92f84_1 : decode cJx4a65c_grow_92f84 1 = .ok (.getfield 9, 3) := by decide +kernel
theorem dJx4a65c_grow_92f84_4 : decode cJx4a65c_grow_92f84 4 = .ok (.arraylength, 1) := by decide +kernel
theorem dJx4a65c_grow_92f84_5 : decode cJx4a65c_grow_92f84 5 = .ok (.istore_n 2, 1) := by decide +kernel
theorem dJx4a65c_grow_92f84_6 : decode cJx4a65c_grow_92f84 6 = .ok (.iload_n 2, 1) := by decide +kernel
theorem dJx4a65c_grow_92f84_7 : decode cJx4a65c_grow_92f84 7 = .ok (.ifCond .gt 13, 3) := by decide +kernel
theorem dJx4a65c_grow_92f84_10 : decode cJx4a65c_grow_92f84 10 = .ok (.aload_n 0, 1) := by decide +kernel
theorem dJx4a65c_grow_92f84_11 : decode cJx4a65c_grow_92f84 11 = .ok (.getfield 9, 3) := by decide +kernel
theorem dJx4a65c_grow_92f84_14 : decode cJx4a65c_grow_92f84 14 = .ok (.getstatic 39, 3) := by decide +kernel
theorem dJx4a65c_grow_92f84_17 : decode cJx4a65c_grow_92f84 17 = .ok (.if_acmp .eq 28, 3) := by decide +kernel
theorem dJx4a65c_grow_92f84_20 : decode cJx4a65c_grow_92f84 20 = .ok (.iload_n 2, 1) := by decide +kernel
theorem dJx4a65c_grow_92f84_21 : decode cJx4a65c_grow_92f84 21 = .ok (.iload_n 1, 1) := by decide +kernel
theorem dJx4a65c_grow_92f84_22 : decode cJx4a65c_grow_92f84 22 = .ok (.iload_n 2, 1) := by decide +kernel
theorem dJx4a65c_grow_92f84_23 : decode cJx4a65c_grow_92f84 23 = .ok (.isub, 1) := by decide +kernel
theorem dJx4a65c_grow_92f84_24 : decode cJx4a65c_grow_92f84 24 = .ok (.iload_n 2, 1) := by decide +kernel
theorem dJx4a65c_grow_92f84_25 : decode cJx4a65c_grow_92f84 25 = .ok (.iconst 1, 1) := by decide +kernel
theorem dJx4a65c_grow_92f84_26 : decode cJx4a65c_grow_92f84 26 = .ok (.ishr, 1) := by decide +kernel
theorem dJx4a65c_grow_92f84_27 : decode cJx4a65c_grow_92f84 27 = .ok (.invokestatic 73, 3) := by decide +kernel
theorem dJx4a65c_grow_92f84_30 : decode cJx4a65c_grow_92f84 30 = .ok (.istore_n 3, 1) := by decide +kernel
theorem dJx4a65c_grow_92f84_31 : decode cJx4a65c_grow_92f84 31 = .ok (.aload_n 0, 1) := by decide +kernel
theorem dJx4a65c_grow_92f84_32 : decode cJx4a65c_grow_92f84 32 = .ok (.aload_n 0, 1) := by decide +kernel
theorem dJx4a65c_grow_92f84_33 : decode cJx4a65c_grow_92f84 33 = .ok (.getfield 9, 3) := by decide +kernel
theorem dJx4a65c_grow_92f84_36 : decode cJx4a65c_grow_92f84 36 = .ok (.iload_n 3, 1) := by decide +kernel
theorem dJx4a65c_grow_92f84_37 : decode cJx4a65c_grow_92f84 37 = .ok (.invokestatic 66, 3) := by decide +kernel
theorem dJx4a65c_grow_92f84_40 : decode cJx4a65c_grow_92f84 40 = .ok (.dup_x1, 1) := by decide +kernel
theorem dJx4a65c_grow_92f84_41 : decode cJx4a65c_grow_92f84 41 = .ok (.putfield 9, 3) := by decide +kernel
theorem dJx4a65c_grow_92f84_44 : decode cJx4a65c_grow_92f84 44 = .ok (.areturn, 1) := by decide +kernel
theorem dJx4a65c_grow_92f84_45 : decode cJx4a65c_grow_92f84 45 = .ok (.aload_n 0, 1) := by decide +kernel
theorem dJx4a65c_grow_92f84_46 : decode cJx4a65c_grow_92f84 46 = .ok (.bipush 10, 2) := by decide +kernel
theorem dJx4a65c_grow_92f84_48 : decode cJx4a65c_grow_92f84 48 = .ok (.iload_n 1, 1) := by decide +kernel
theorem dJx4a65c_grow_92f84_49 : decode cJx4a65c_grow_92f84 49 = .ok (.invokestatic 79, 3) := by decide +kernel
theorem dJx4a65c_grow_92f84_52 : decode cJx4a65c_grow_92f84 52 = .ok (.anewarray 7, 3) := by decide +kernel
theorem dJx4a65c_grow_92f84_55 : decode cJx4a65c_grow_92f84 55 = .ok (.dup_x1, 1) := by decide +kernel
theorem dJx4a65c_grow_92f84_56 : decode cJx4a65c_grow_92f84 56 = .ok (.putfield 9, 3) := by decide +kernel
theorem dJx4a65c_grow_92f84_59 : decode cJx4a65c_grow_92f84 59 = .ok (.areturn, 1) := by decide +kernel
theorem dJx4a65c_grow_d5877_0 : decode cJx4a65c_grow_d5877 0 = .ok (.aload_n 0, 1) := by decide +kernel
theorem dJx4a65c_grow_d5877_1 : decode cJx4a65c_grow_d5877 1 = .ok (.aload_n 0, 1) := by decide +kernel
theorem dJx4a65c_grow_d5877_2 : decode cJx4a65c_grow_d5877 2 = .ok (.getfield 48, 3) := by decide +kernel
theorem dJx4a65c_grow_d5877_5 : decode cJx4a65c_grow_d5877 5 = .ok (.iconst 1, 1) := by decide +kernel
theorem dJx4a65c_grow_d5877_6 : decode cJx4a65c_grow_d5877 6 = .ok (.iadd, 1) := by decide +kernel
theorem dJx4a65c_grow_d5877_7 : decode cJx4a65c_grow_d5877 7 = .ok (.invokevirtual 69, 3) := by decide +kernel
theorem dJx4a65c_grow_d5877_10 : decode cJx4a65c_grow_d5877 10 = .ok (.areturn, 1) := by decide +kernel
theorem dJx4a65c_size_8abf5_0 : decode cJx4a65c_size_8abf5 0 = .ok (.aload_n 0, 1) := by decide +kernel
theorem dJx4a65c_size_8abf5_1 : decode cJx4a65c_size_8abf5 1 = .ok (.getfield 48, 3) := by decide +kernel
theorem dJx4a65c_size_8abf5_4 : decode cJx4a65c_size_8abf5 4 = .ok (.ireturn, 1) := by decide +kernel
theorem dJx4a65c_elementData_915e3_0 : decode cJx4a65c_elementData_915e3 0 = .ok (.aload_n 0, 1) := by decide +kernel
theorem dJx4a65c_elementData_915e3_1 : decode cJx4a65c_elementData_915e3 1 = .ok (.getfield 9, 3) := by decide +kernel
theorem dJx4a65c_elementData_915e3_4 : decode cJx4a65c_elementData_915e3 4 = .ok (.iload_n 1, 1) := by decide +kernel
theorem dJx4a65c_elementData_915e3_5 : decode cJx4a65c_elementData_915e3 5 = .ok (.aaload, 1) := by decide +kernel
theorem dJx4a65c_elementData_915e3_6 : decode cJx4a65c_elementData_915e3 6 = .ok (.areturn, 1) := by decide +kernel
theorem dJx4a65c_get_915e3_0 : decode cJx4a65c_get_915e3 0 = .ok (.iload_n 1, 1) := by decide +kernel
theorem dJx4a65c_get_915e3_1 : decode cJx4a65c_get_915e3 1 = .ok (.aload_n 0, 1) := by decide +kernel
theorem dJx4a65c_get_915e3_2 : decode cJx4a65c_get_915e3 2 = .ok (.getfield 48, 3) := by decide +kernel
theorem dJx4a65c_get_915e3_5 : decode cJx4a65c_get_915e3 5 = .ok (.invokestatic 118, 3) := by decide +kernel
theorem dJx4a65c_get_915e3_8 : decode cJx4a65c_get_915e3 8 = .ok (.pop, 1) := by decide +kernel
theorem dJx4a65c_get_915e3_9 : decode cJx4a65c_get_915e3 9 = .ok (.aload_n 0, 1) := by decide +kernel
theorem dJx4a65c_get_915e3_10 : decode cJx4a65c_get_915e3 10 = .ok (.iload_n 1, 1) := by decide +kernel
theorem dJx4a65c_get_915e3_11 : decode cJx4a65c_get_915e3 11 = .ok (.invokevirtual 123, 3) := by decide +kernel
theorem dJx4a65c_get_915e3_14 : decode cJx4a65c_get_915e3 14 = .ok (.areturn, 1) := by decide +kernel
theorem dJx4a65c_add_72be8_0 : decode cJx4a65c_add_72be8 0 = .ok (.iload_n 3, 1) := by decide +kernel
theorem dJx4a65c_add_72be8_1 : decode cJx4a65c_add_72be8 1 = .ok (.aload_n 2, 1) := by decide +kernel
theorem dJx4a65c_add_72be8_2 : decode cJx4a65c_add_72be8 2 = .ok (.arraylength, 1) := by decide +kernel
theorem dJx4a65c_add_72be8_3 : decode cJx4a65c_add_72be8 3 = .ok (.if_icmp .ne 8, 3) := by decide +kernel
theorem dJx4a65c_add_72be8_6 : decode cJx4a65c_add_72be8 6 = .ok (.aload_n 0, 1) := by decide +kernel
theorem dJx4a65c_add_72be8_7 : decode cJx4a65c_add_72be8 7 = .ok (.invokevirtual 129, 3) := by decide +kernel
theorem dJx4a65c_add_72be8_10 : decode cJx4a65c_add_72be8 10 = .ok (.astore_n 2, 1) := by decide +kernel
theorem dJx4a65c_add_72be8_11 : decode cJx4a65c_add_72be8 11 = .ok (.aload_n 2, 1) := by decide +kernel
theorem dJx4a65c_add_72be8_12 : decode cJx4a65c_add_72be8 12 = .ok (.iload_n 3, 1) := by decide +kernel
theorem dJx4a65c_add_72be8_13 : decode cJx4a65c_add_72be8 13 = .ok (.aload_n 1, 1) := by decide +kernel
theorem dJx4a65c_add_72be8_14 : decode cJx4a65c_add_72be8 14 = .ok (.aastore, 1) := by decide +kernel
theorem dJx4a65c_add_72be8_15 : decode cJx4a65c_add_72be8 15 = .ok (.aload_n 0, 1) := by decide +kernel
theorem dJx4a65c_add_72be8_16 : decode cJx4a65c_add_72be8 16 = .ok (.iload_n 3, 1) := by decide +kernel
theorem dJx4a65c_add_72be8_17 : decode cJx4a65c_add_72be8 17 = .ok (.iconst 1, 1) := by decide +kernel
theorem dJx4a65c_add_72be8_18 : decode cJx4a65c_add_72be8 18 = .ok (.iadd, 1) := by decide +kernel
theorem dJx4a65c_add_72be8_19 : decode cJx4a65c_add_72be8 19 = .ok (.putfield 48, 3) := by decide +kernel
theorem dJx4a65c_add_72be8_22 : decode cJx4a65c_add_72be8 22 = .ok (.return_, 1) := by decide +kernel
theorem dJx4a65c_add_9ea2d_0 : decode cJx4a65c_add_9ea2d 0 = .ok (.aload_n 0, 1) := by decide +kernel
theorem dJx4a65c_add_9ea2d_1 : decode cJx4a65c_add_9ea2d 1 = .ok (.dup, 1) := by decide +kernel
theorem dJx4a65c_add_9ea2d_2 : decode cJx4a65c_add_9ea2d 2 = .ok (.getfield 63, 3) := by decide +kernel
theorem dJx4a65c_add_9ea2d_5 : decode cJx4a65c_add_9ea2d 5 = .ok (.iconst 1, 1) := by decide +kernel
theorem dJx4a65c_add_9ea2d_6 : decode cJx4a65c_add_9ea2d 6 = .ok (.iadd, 1) := by decide +kernel
theorem dJx4a65c_add_9ea2d_7 : decode cJx4a65c_add_9ea2d 7 = .ok (.putfield 63, 3) := by decide +kernel
theorem dJx4a65c_add_9ea2d_10 : decode cJx4a65c_add_9ea2d 10 = .ok (.aload_n 0, 1) := by decide +kernel
theorem dJx4a65c_add_9ea2d_11 : decode cJx4a65c_add_9ea2d 11 = .ok (.aload_n 1, 1) := by decide +kernel
theorem dJx4a65c_add_9ea2d_12 : decode cJx4a65c_add_9ea2d 12 = .ok (.aload_n 0, 1) := by decide +kernel
theorem dJx4a65c_add_9ea2d_13 : decode cJx4a65c_add_9ea2d 13 = .ok (.getfield 9, 3) := by decide +kernel
theorem dJx4a65c_add_9ea2d_16 : decode cJx4a65c_add_9ea2d 16 = .ok (.aload_n 0, 1) := by decide +kernel
theorem dJx4a65c_add_9ea2d_17 : decode cJx4a65c_add_9ea2d 17 = .ok (.getfield 48, 3) := by decide +kernel
theorem dJx4a65c_add_9ea2d_20 : decode cJx4a65c_add_9ea2d 20 = .ok (.invokevirtual 131, 3) := by decide +kernel
theorem dJx4a65c_add_9ea2d_23 : decode cJx4a65c_add_9ea2d 23 = .ok (.iconst 1, 1) := by decide +kernel
theorem dJx4a65c_add_9ea2d_24 : decode cJx4a65c_add_9ea2d 24 = .ok (.ireturn, 1) := by decide +kernel
theorem dJx4a65c_remove_915e3_0 : decode cJx4a65c_remove_915e3 0 = .ok (.iload_n 1, 1) := by decide +kernel
theorem dJx4a65c_remove_915e3_1 : decode cJx4a65c_remove_915e3 1 = .ok (.aload_n 0, 1) := by decide +kernel
theorem dJx4a65c_remove_915e3_2 : decode cJx4a65c_remove_915e3 2 = .ok (.getfield 48, 3) := by decide +kernel
theorem dJx4a65c_remove_915e3_5 : decode cJx4a65c_remove_915e3 5 = .ok (.invokestatic 118, 3) := by decide +kernel
theorem dJx4a65c_remove_915e3_8 : decode cJx4a65c_remove_915e3 8 = .ok (.pop, 1) := by decide +kernel
theorem dJx4a65c_remove_915e3_9 : decode cJx4a65c_remove_915e3 9 = .ok (.aload_n 0, 1) := by decide +kernel
theorem dJx4a65c_remove_915e3_10 : decode cJx4a65c_remove_915e3 10 = .ok (.getfield 9, 3) := by decide +kernel
theorem dJx4a65c_remove_915e3_13 : decode cJx4a65c_remove_915e3 13 = .ok (.astore_n 2, 1) := by decide +kernel
theorem dJx4a65c_remove_915e3_14 : decode cJx4a65c_remove_915e3 14 = .ok (.aload_n 2, 1) := by decide +kernel
theorem dJx4a65c_remove_915e3_15 : decode cJx4a65c_remove_915e3 15 = .ok (.iload_n 1, 1) := by decide +kernel
theorem dJx4a65c_remove_915e3_16 : decode cJx4a65c_remove_915e3 16 = .ok (.aaload, 1) := by decide +kernel
theorem dJx4a65c_remove_915e3_17 : decode cJx4a65c_remove_915e3 17 = .ok (.astore_n 3, 1) := by decide +kernel
theorem dJx4a65c_remove_915e3_18 : decode cJx4a65c_remove_915e3 18 = .ok (.aload_n 0, 1) := by decide +kernel
theorem dJx4a65c_remove_915e3_19 : decode cJx4a65c_remove_915e3 19 = .ok (.aload_n 2, 1) := by decide +kernel
theorem dJx4a65c_remove_915e3_20 : decode cJx4a65c_remove_915e3 20 = .ok (.iload_n 1, 1) := by decide +kernel
theorem dJx4a65c_remove_915e3_21 : decode cJx4a65c_remove_915e3 21 = .ok (.invokevirtual 144, 3) := by decide +kernel
theorem dJx4a65c_remove_915e3_24 : decode cJx4a65c_remove_915e3 24 = .ok (.aload_n 3, 1) := by decide +kernel
theorem dJx4a65c_remove_915e3_25 : decode cJx4a65c_remove_915e3 25 = .ok (.areturn, 1) := by decide +kernel
theorem dJx4a65c_fastRemove_b59b0_0 : decode cJx4a65c_fastRemove_b59b0 0 = .ok (.aload_n 0, 1) := by decide +kernel
theorem dJx4a65c_fastRemove_b59b0_1 : decode cJx4a65c_fastRemove_b59b0 1 = .ok (.dup, 1) := by decide +kernel
theorem dJx4a65c_fastRemove_b59b0_2 : decode cJx4a65c_fastRemove_b59b0 2 = .ok (.getfield 63, 3) := by decide +kernel
theorem dJx4a65c_fastRemove_b59b0_5 : decode cJx4a65c_fastRemove_b59b0 5 = .ok (.iconst 1, 1) := by decide +kernel
theorem dJx4a65c_fastRemove_b59b0_6 : decode cJx4a65c_fastRemove_b59b0 6 = .ok (.iadd, 1) := by decide +kernel
theorem dJx4a65c_fastRemove_b59b0_7 : decode cJx4a65c_fastRemove_b59b0 7 = .ok (.putfield 63, 3) := by decide +kernel
theorem dJx4a65c_fastRemove_b59b0_10 : decode cJx4a65c_fastRemove_b59b0 10 = .ok (.aload_n 0, 1) := by decide +kernel
theorem dJx4a65c_fastRemove_b59b0_11 : decode cJx4a65c_fastRemove_b59b0 11 = .ok (.getfield 48, 3) := by decide +kernel
theorem dJx4a65c_fastRemove_b59b0_14 : decode cJx4a65c_fastRemove_b59b0 14 = .ok (.iconst 1, 1) := by decide +kernel
theorem dJx4a65c_fastRemove_b59b0_15 : decode cJx4a65c_fastRemove_b59b0 15 = .ok (.isub, 1) := by decide +kernel
theorem dJx4a65c_fastRemove_b59b0_16 : decode cJx4a65c_fastRemove_b59b0 16 = .ok (.dup, 1) := by decide +kernel
theorem dJx4a65c_fastRemove_b59b0_17 : decode cJx4a65c_fastRemove_b59b0 17 = .ok (.istore_n 3, 1) := by decide +kernel
theorem dJx4a65c_fastRemove_b59b0_18 : decode cJx4a65c_fastRemove_b59b0 18 = .ok (.iload_n 2, 1) := by decide +kernel
theorem dJx4a65c_fastRemove_b59b0_19 : decode cJx4a65c_fastRemove_b59b0 19 = .ok (.if_icmp .le 15, 3) := by decide +kernel
theorem dJx4a65c_fastRemove_b59b0_22 : decode cJx4a65c_fastRemove_b59b0 22 = .ok (.aload_n 1, 1) := by decide +kernel
theorem dJx4a65c_fastRemove_b59b0_23 : decode cJx4a65c_fastRemove_b59b0 23 = .ok (.iload_n 2, 1) := by decide +kernel
theorem dJx4a65c_fastRemove_b59b0_24 : decode cJx4a65c_fastRemove_b59b0 24 = .ok (.iconst 1, 1) := by decide +kernel
theorem dJx4a65c_fastRemove_b59b0_25 : decode cJx4a65c_fastRemove_b59b0 25 = .ok (.iadd, 1) := by decide +kernel
theorem dJx4a65c_fastRemove_b59b0_26 : decode cJx4a65c_fastRemove_b59b0 26 = .ok (.aload_n 1, 1) := by decide +kernel
theorem dJx4a65c_fastRemove_b59b0_27 : decode cJx4a65c_fastRemove_b59b0 27 = .ok (.iload_n 2, 1) := by decide +kernel
theorem dJx4a65c_fastRemove_b59b0_28 : decode cJx4a65c_fastRemove_b59b0 28 = .ok (.iload_n 3, 1) := by decide +kernel
theorem dJx4a65c_fastRemove_b59b0_29 : decode cJx4a65c_fastRemove_b59b0 29 = .ok (.iload_n 2, 1) := by decide +kernel
theorem dJx4a65c_fastRemove_b59b0_30 : decode cJx4a65c_fastRemove_b59b0 30 = .ok (.isub, 1) := by decide +kernel
theorem dJx4a65c_fastRemove_b59b0_31 : decode cJx4a65c_fastRemove_b59b0 31 = .ok (.invokestatic 112, 3) := by decide +kernel
theorem dJx4a65c_fastRemove_b59b0_34 : decode cJx4a65c_fastRemove_b59b0 34 = .ok (.aload_n 1, 1) := by decide +kernel
theorem dJx4a65c_fastRemove_b59b0_35 : decode cJx4a65c_fastRemove_b59b0 35 = .ok (.aload_n 0, 1) := by decide +kernel
theorem dJx4a65c_fastRemove_b59b0_36 : decode cJx4a65c_fastRemove_b59b0 36 = .ok (.iload_n 3, 1) := by decide +kernel
theorem dJx4a65c_fastRemove_b59b0_37 : decode cJx4a65c_fastRemove_b59b0 37 = .ok (.dup_x1, 1) := by decide +kernel
theorem dJx4a65c_fastRemove_b59b0_38 : decode cJx4a65c_fastRemove_b59b0 38 = .ok (.putfield 48, 3) := by decide +kernel
theorem dJx4a65c_fastRemove_b59b0_41 : decode cJx4a65c_fastRemove_b59b0 41 = .ok (.aconst_null, 1) := by decide +kernel
theorem dJx4a65c_fastRemove_b59b0_42 : decode cJx4a65c_fastRemove_b59b0 42 = .ok (.aastore, 1) := by decide +kernel
theorem dJx4a65c_fastRemove_b59b0_43 : decode cJx4a65c_fastRemove_b59b0 43 = .ok (.return_, 1) := by decide +kernel
theorem dJx4a65c_clear_da8c8_0 : decode cJx4a65c_clear_da8c8 0 = .ok (.aload_n 0, 1) := by decide +kernel
theorem dJx4a65c_clear_da8c8_1 : decode cJx4a65c_clear_da8c8 1 = .ok (.dup, 1) := by decide +kernel
theorem dJx4a65c_clear_da8c8_2 : decode cJx4a65c_clear_da8c8 2 = .ok (.getfield 63, 3) := by decide +kernel
theorem dJx4a65c_clear_da8c8_5 : decode cJx4a65c_clear_da8c8 5 = .ok (.iconst 1, 1) := by decide +kernel
theorem dJx4a65c_clear_da8c8_6 : decode cJx4a65c_clear_da8c8 6 = .ok (.iadd, 1) := by decide +kernel
theorem dJx4a65c_clear_da8c8_7 : decode cJx4a65c_clear_da8c8 7 = .ok (.putfield 63, 3) := by decide +kernel
theorem dJx4a65c_clear_da8c8_10 : decode cJx4a65c_clear_da8c8 10 = .ok (.aload_n 0, 1) := by decide +kernel
theorem dJx4a65c_clear_da8c8_11 : decode cJx4a65c_clear_da8c8 11 = .ok (.getfield 9, 3) := by decide +kernel
theorem dJx4a65c_clear_da8c8_14 : decode cJx4a65c_clear_da8c8 14 = .ok (.astore_n 1, 1) := by decide +kernel
theorem dJx4a65c_clear_da8c8_15 : decode cJx4a65c_clear_da8c8 15 = .ok (.aload_n 0, 1) := by decide +kernel
theorem dJx4a65c_clear_da8c8_16 : decode cJx4a65c_clear_da8c8 16 = .ok (.getfield 48, 3) := by decide +kernel
theorem dJx4a65c_clear_da8c8_19 : decode cJx4a65c_clear_da8c8 19 = .ok (.istore_n 2, 1) := by decide +kernel
theorem dJx4a65c_clear_da8c8_20 : decode cJx4a65c_clear_da8c8 20 = .ok (.aload_n 0, 1) := by decide +kernel
theorem dJx4a65c_clear_da8c8_21 : decode cJx4a65c_clear_da8c8 21 = .ok (.iconst 0, 1) := by decide +kernel
theorem dJx4a65c_clear_da8c8_22 : decode cJx4a65c_clear_da8c8 22 = .ok (.dup_x1, 1) := by decide +kernel
theorem dJx4a65c_clear_da8c8_23 : decode cJx4a65c_clear_da8c8 23 = .ok (.putfield 48, 3) := by decide +kernel
theorem dJx4a65c_clear_da8c8_26 : decode cJx4a65c_clear_da8c8 26 = .ok (.istore_n 3, 1) := by decide +kernel
theorem dJx4a65c_clear_da8c8_27 : decode cJx4a65c_clear_da8c8 27 = .ok (.iload_n 3, 1) := by decide +kernel
theorem dJx4a65c_clear_da8c8_28 : decode cJx4a65c_clear_da8c8 28 = .ok (.iload_n 2, 1) := by decide +kernel
theorem dJx4a65c_clear_da8c8_29 : decode cJx4a65c_clear_da8c8 29 = .ok (.if_icmp .ge 13, 3) := by decide +kernel
theorem dJx4a65c_clear_da8c8_32 : decode cJx4a65c_clear_da8c8 32 = .ok (.aload_n 1, 1) := by decide +kernel
theorem dJx4a65c_clear_da8c8_33 : decode cJx4a65c_clear_da8c8 33 = .ok (.iload_n 3, 1) := by decide +kernel
theorem dJx4a65c_clear_da8c8_34 : decode cJx4a65c_clear_da8c8 34 = .ok (.aconst_null, 1) := by decide +kernel
theorem dJx4a65c_clear_da8c8_35 : decode cJx4a65c_clear_da8c8 35 = .ok (.aastore, 1) := by decide +kernel
theorem dJx4a65c_clear_da8c8_36 : decode cJx4a65c_clear_da8c8 36 = .ok (.iinc 3 1, 3) := by decide +kernel
theorem dJx4a65c_clear_da8c8_39 : decode cJx4a65c_clear_da8c8 39 = .ok (.goto (-12), 3) := by decide +kernel
theorem dJx4a65c_clear_da8c8_42 : decode cJx4a65c_clear_da8c8 42 = .ok (.return_, 1) := by decide +kernel
theorem dJ7_copyOf_1904c_0 : decode cJ7_copyOf_1904c 0 = .ok (.aload_n 0, 1) := by decide +kernel
theorem dJ7_copyOf_1904c_1 : decode cJ7_copyOf_1904c 1 = .ok (.iload_n 1, 1) := by decide +kernel
theorem dJ7_copyOf_1904c_2 : decode cJ7_copyOf_1904c 2 = .ok (.aload_n 0, 1) := by decide +kernel
theorem dJ7_copyOf_1904c_3 : decode cJ7_copyOf_1904c 3 = .ok (.invokevirtual 86, 3) := by decide +kernel
theorem dJ7_copyOf_1904c_6 : decode cJ7_copyOf_1904c 6 = .ok (.invokestatic 300, 3) := by decide +kernel
theorem dJ7_copyOf_1904c_9 : decode cJ7_copyOf_1904c 9 = .ok (.areturn, 1) := by decide +kernel
theorem dJ7_copyOf_6403c_0 : decode cJ7_copyOf_6403c 0 = .ok (.aload_n 2, 1) := by decide +kernel
theorem dJ7_copyOf_6403c_1 : decode cJ7_copyOf_6403c 1 = .ok (.ldc 110, 2) := by decide +kernel
theorem dJ7_copyOf_6403c_3 : decode cJ7_copyOf_6403c 3 = .ok (.if_acmp .ne 10, 3) := by decide +kernel
theorem dJ7_copyOf_6403c_6 : decode cJ7_copyOf_6403c 6 = .ok (.iload_n 1, 1) := by decide +kernel
theorem dJ7_copyOf_6403c_7 : decode cJ7_copyOf_6403c 7 = .ok (.anewarray 2, 3) := by decide +kernel
theorem dJ7_copyOf_6403c_10 : decode cJ7_copyOf_6403c 10 = .ok (.goto 14, 3) := by decide +kernel
theorem dJ7_copyOf_6403c_13 : decode cJ7_copyOf_6403c 13 = .ok (.aload_n 2, 1) := by decide +kernel
theorem dJ7_copyOf_6403c_14 : decode cJ7_copyOf_6403c 14 = .ok (.invokevirtual 90, 3) := by decide +kernel
theorem dJ7_copyOf_6403c_17 : decode cJ7_copyOf_6403c 17 = .ok (.iload_n 1, 1) := by decide +kernel
theorem dJ7_copyOf_6403c_18 : decode cJ7_copyOf_6403c 18 = .ok (.invokestatic 95, 3) := by decide +kernel
theorem dJ7_copyOf_6403c_21 : decode cJ7_copyOf_6403c 21 = .ok (.checkcast 110, 3) := by decide +kernel
theorem dJ7_copyOf_6403c_24 : decode cJ7_copyOf_6403c 24 = .ok (.astore_n 3, 1) := by decide +kernel
theorem dJ7_copyOf_6403c_25 : decode cJ7_copyOf_6403c 25 = .ok (.aload_n 0, 1) := by decide +kernel
theorem dJ7_copyOf_6403c_26 : decode cJ7_copyOf_6403c 26 = .ok (.iconst 0, 1) := by decide +kernel
theorem dJ7_copyOf_6403c_27 : decode cJ7_copyOf_6403c 27 = .ok (.aload_n 3, 1) := by decide +kernel
theorem dJ7_copyOf_6403c_28 : decode cJ7_copyOf_6403c 28 = .ok (.iconst 0, 1) := by decide +kernel
theorem dJ7_copyOf_6403c_29 : decode cJ7_copyOf_6403c 29 = .ok (.aload_n 0, 1) := by decide +kernel
theorem dJ7_copyOf_6403c_30 : decode cJ7_copyOf_6403c 30 = .ok (.arraylength, 1) := by decide +kernel
theorem dJ7_copyOf_6403c_31 : decode cJ7_copyOf_6403c 31 = .ok (.iload_n 1, 1) := by decide +kernel
theorem dJ7_copyOf_6403c_32 : decode cJ7_copyOf_6403c 32 = .ok (.invokestatic 304, 3) := by decide +kernel
theorem dJ7_copyOf_6403c_35 : decode cJ7_copyOf_6403c 35 = .ok (.invokestatic 150, 3) := by decide +kernel
theorem dJ7_copyOf_6403c_38 : decode cJ7_copyOf_6403c 38 = .ok (.aload_n 3, 1) := by decide +kernel
theorem dJ7_copyOf_6403c_39 : decode cJ7_copyOf_6403c 39 = .ok (.areturn, 1) := by decide +kernel
theorem dJ15_checkIndex_7cf53_0 : decode cJ15_checkIndex_7cf53 0 = .ok (.iload_n 0, 1) := by decide +kernel
theorem dJ15_checkIndex_7cf53_1 : decode cJ15_checkIndex_7cf53 1 = .ok (.iload_n 1, 1) := by decide +kernel
theorem dJ15_checkIndex_7cf53_2 : decode cJ15_checkIndex_7cf53 2 = .ok (.aconst_null, 1) := by decide +kernel
theorem dJ15_checkIndex_7cf53_3 : decode cJ15_checkIndex_7cf53 3 = .ok (.invokestatic 105, 3) := by decide +kernel
theorem dJ15_checkIndex_7cf53_6 : decode cJ15_checkIndex_7cf53 6 = .ok (.ireturn, 1) := by decide +kernel
theorem dJ8_newLength_cabcc_0 : decode cJ8_newLength_cabcc 0 = .ok (.iload_n 0, 1) := by decide +kernel
theorem dJ8_newLength_cabcc_1 : decode cJ8_newLength_cabcc 1 = .ok (.iload_n 1, 1) := by decide +kernel
theorem dJ8_newLength_cabcc_2 : decode cJ8_newLength_cabcc 2 = .ok (.iload_n 2, 1) := by decide +kernel
theorem dJ8_newLength_cabcc_3 : decode cJ8_newLength_cabcc 3 = .ok (.invokestatic 194, 3) := by decide +kernel
theorem dJ8_newLength_cabcc_6 : decode cJ8_newLength_cabcc 6 = .ok (.iadd, 1) := by decide +kernel
theorem dJ8_newLength_cabcc_7 : decode cJ8_newLength_cabcc 7 = .ok (.istore_n 3, 1) := by decide +kernel
theorem dJ8_newLength_cabcc_8 : decode cJ8_newLength_cabcc 8 = .ok (.iconst 0, 1) := by decide +kernel
theorem dJ8_newLength_cabcc_9 : decode cJ8_newLength_cabcc 9 = .ok (.iload_n 3, 1) := by decide +kernel
theorem dJ8_newLength_cabcc_10 : decode cJ8_newLength_cabcc 10 = .ok (.if_icmp .ge 11, 3) := by decide +kernel
theorem dJ8_newLength_cabcc_13 : decode cJ8_newLength_cabcc 13 = .ok (.iload_n 3, 1) := by decide +kernel
theorem dJ8_newLength_cabcc_14 : decode cJ8_newLength_cabcc 14 = .ok (.ldc 200, 2) := by decide +kernel
theorem dJ8_newLength_cabcc_16 : decode cJ8_newLength_cabcc 16 = .ok (.if_icmp .gt 5, 3) := by decide +kernel
theorem dJ8_newLength_cabcc_19 : decode cJ8_newLength_cabcc 19 = .ok (.iload_n 3, 1) := by decide +kernel
theorem dJ8_newLength_cabcc_20 : decode cJ8_newLength_cabcc 20 = .ok (.ireturn, 1) := by decide +kernel
theorem dJ8_newLength_cabcc_21 : decode cJ8_newLength_cabcc 21 = .ok (.iload_n 0, 1) := by decide +kernel
theorem dJ8_newLength_cabcc_22 : decode cJ8_newLength_cabcc 22 = .ok (.iload_n 1, 1) := by decide +kernel
theorem dJ8_newLength_cabcc_23 : decode cJ8_newLength_cabcc 23 = .ok (.invokestatic 201, 3) := by decide +kernel
theorem dJ8_newLength_cabcc_26 : decode cJ8_newLength_cabcc 26 = .ok (.ireturn, 1) := by decide +kernel
theorem dJ8_hugeLength_7cf53_0 : decode cJ8_hugeLength_7cf53 0 = .ok (.iload_n 0, 1) := by decide +kernel
theorem dJ8_hugeLength_7cf53_1 : decode cJ8_hugeLength_7cf53 1 = .ok (.iload_n 1, 1) := by decide +kernel
theorem dJ8_hugeLength_7cf53_2 : decode cJ8_hugeLength_7cf53 2 = .ok (.iadd, 1) := by decide +kernel
theorem dJ8_hugeLength_7cf53_3 : decode cJ8_hugeLength_7cf53 3 = .ok (.istore_n 2, 1) := by decide +kernel
theorem dJ8_hugeLength_7cf53_4 : decode cJ8_hugeLength_7cf53 4 = .ok (.iload_n 2, 1) := by decide +kernel
theorem dJ8_hugeLength_7cf53_5 : decode cJ8_hugeLength_7cf53 5 = .ok (.ifCond .ge 44, 3) := by decide +kernel
theorem dJ8_hugeLength_7cf53_8 : decode cJ8_hugeLength_7cf53 8 = .ok (.new 204, 3) := by decide +kernel
theorem dJ8_hugeLength_7cf53_11 : decode cJ8_hugeLength_7cf53 11 = .ok (.dup, 1) := by decide +kernel
theorem dJ8_hugeLength_7cf53_12 : decode cJ8_hugeLength_7cf53 12 = .ok (.new 89, 3) := by decide +kernel
theorem dJ8_hugeLength_7cf53_15 : decode cJ8_hugeLength_7cf53 15 = .ok (.dup, 1) := by decide +kernel
theorem dJ8_hugeLength_7cf53_16 : decode cJ8_hugeLength_7cf53 16 = .ok (.invokespecial 91, 3) := by decide +kernel
theorem dJ8_hugeLength_7cf53_19 : decode cJ8_hugeLength_7cf53 19 = .ok (.ldc 206, 2) := by decide +kernel
theorem dJ8_hugeLength_7cf53_21 : decode cJ8_hugeLength_7cf53 21 = .ok (.invokevirtual 94, 3) := by decide +kernel
theorem dJ8_hugeLength_7cf53_24 : decode cJ8_hugeLength_7cf53 24 = .ok (.iload_n 0, 1) := by decide +kernel
theorem dJ8_hugeLength_7cf53_25 : decode cJ8_hugeLength_7cf53 25 = .ok (.invokevirtual 98, 3) := by decide +kernel
theorem dJ8_hugeLength_7cf53_28 : decode cJ8_hugeLength_7cf53 28 = .ok (.ldc 208, 2) := by decide +kernel
theorem dJ8_hugeLength_7cf53_30 : decode cJ8_hugeLength_7cf53 30 = .ok (.invokevirtual 94, 3) := by decide +kernel
theorem dJ8_hugeLength_7cf53_33 : decode cJ8_hugeLength_7cf53 33 = .ok (.iload_n 1, 1) := by decide +kernel
theorem dJ8_hugeLength_7cf53_34 : decode cJ8_hugeLength_7cf53 34 = .ok (.invokevirtual 98, 3) := by decide +kernel
theorem dJ8_hugeLength_7cf53_37 : decode cJ8_hugeLength_7cf53 37 = .ok (.ldc 210, 2) := by decide +kernel
theorem dJ8_hugeLength_7cf53_39 : decode cJ8_hugeLength_7cf53 39 = .ok (.invokevirtual 94, 3) := by decide +kernel
theorem dJ8_hugeLength_7cf53_42 : decode cJ8_hugeLength_7cf53 42 = .ok (.invokevirtual 101, 3) := by decide +kernel
theorem dJ8_hugeLength_7cf53_45 : decode cJ8_hugeLength_7cf53 45 = .ok (.invokespecial 212, 3) := by decide +kernel
theorem dJ8_hugeLength_7cf53_48 : decode cJ8_hugeLength_7cf53 48 = .ok (.athrow, 1) := by decide +kernel
theorem dJ8_hugeLength_7cf53_49 : decode cJ8_hugeLength_7cf53 49 = .ok (.iload_n 2, 1) := by decide +kernel
theorem dJ8_hugeLength_7cf53_50 : decode cJ8_hugeLength_7cf53 50 = .ok (.ldc 200, 2) := by decide +kernel
theorem dJ8_hugeLength_7cf53_52 : decode cJ8_hugeLength_7cf53 52 = .ok (.if_icmp .gt 6, 3) := by decide +kernel
theorem dJ8_hugeLength_7cf53_55 : decode cJ8_hugeLength_7cf53 55 = .ok (.ldc 200, 2) := by decide +kernel
theorem dJ8_hugeLength_7cf53_57 : decode cJ8_hugeLength_7cf53 57 = .ok (.ireturn, 1) := by decide +kernel
theorem dJ8_hugeLength_7cf53_58 : decode cJ8_hugeLength_7cf53 58 = .ok (.iload_n 2, 1) := by decide +kernel
theorem dJ8_hugeLength_7cf53_59 : decode cJ8_hugeLength_7cf53 59 = .ok (.ireturn, 1) := by decide +kernel
theorem dJ3_checkIndex_8e157_0 : decode cJ3_checkIndex_8e157 0 = .ok (.iload_n 0, 1) := by decide +kernel
theorem dJ3_checkIndex_8e157_1 : decode cJ3_checkIndex_8e157 1 = .ok (.ifCond .lt 8, 3) := by decide +kernel
theorem dJ3_checkIndex_8e157_4 : decode cJ3_checkIndex_8e157 4 = .ok (.iload_n 0, 1) := by decide +kernel
theorem dJ3_checkIndex_8e157_5 : decode cJ3_checkIndex_8e157 5 = .ok (.iload_n 1, 1) := by decide +kernel
theorem dJ3_checkIndex_8e157_6 : decode cJ3_checkIndex_8e157 6 = .ok (.if_icmp .lt 10, 3) := by decide +kernel
theorem dJ3_checkIndex_8e157_9 : decode cJ3_checkIndex_8e157 9 = .ok (.aload_n 2, 1) := by decide +kernel
theorem dJ3_checkIndex_8e157_10 : decode cJ3_checkIndex_8e157 10 = .ok (.iload_n 0, 1) := by decide +kernel
theorem dJ3_checkIndex_8e157_11 : decode cJ3_checkIndex_8e157 11 = .ok (.iload_n 1, 1) := by decide +kernel
theorem dJ3_checkIndex_8e157_12 : decode cJ3_checkIndex_8e157 12 = .ok (.invokestatic 95, 3) := by decide +kernel
theorem dJ3_checkIndex_8e157_15 : decode cJ3_checkIndex_8e157 15 = .ok (.athrow, 1) := by decide +kernel
theorem dJ3_checkIndex_8e157_16 : decode cJ3_checkIndex_8e157 16 = .ok (.iload_n 0, 1) := by decide +kernel
theorem dJ3_checkIndex_8e157_17 : decode cJ3_checkIndex_8e157 17 = .ok (.ireturn, 1) := by decide +kernel
end
section
theorem dL_header_0 : decode cL_header 0 = .ok (.aload_n 1, 1) := by decide +kernel
theorem dL_header_1 : decode cL_header 1 = .ok (.iconst 0, 1) := by decide +kernel
theorem dL_header_2 : decode cL_header 2 = .ok (.aload_n 0, 1) := by decide +kernel
theorem dL_header_3 : decode cL_header 3 = .ok (.invokevirtual 7, 3) := by decide +kernel
theorem dL_header_6 : decode cL_header 6 = .ok (.i2l, 1) := by decide +kernel
theorem dL_header_7 : decode cL_header 7 = .ok (.lastore, 1) := by decide +kernel
theorem dL_header_8 : decode cL_header 8 = .ok (.goto 6, 3) := by decide +kernel
theorem dL_header_11 : decode cL_header 11 = .ok (.astore_n 2, 1) := by decide +kernel
theorem dL_header_12 : decode cL_header 12 = .ok (.iconst 1, 1) := by decide +kernel
theorem dL_header_13 : decode cL_header 13 = .ok (.ireturn, 1) := by decide +kernel
theorem dL_header_14 : decode cL_header 14 = .ok (.iconst 0, 1) := by decide +kernel
theorem dL_header_15 : decode cL_header 15 = .ok (.ireturn, 1) := by decide +kernel
theorem dL_glyph_0 : decode cL_glyph 0 = .ok (.aload 6, 2) := by decide +kernel
theorem dL_glyph_2 : decode cL_glyph 2 = .ok (.iconst 0, 1) := by decide +kernel
theorem dL_glyph_3 : decode cL_glyph 3 = .ok (.aload_n 0, 1) := by decide +kernel
theorem dL_glyph_4 : decode cL_glyph 4 = .ok (.iload_n 1, 1) := by decide +kernel
theorem dL_glyph_5 : decode cL_glyph 5 = .ok (.iload_n 2, 1) := by decide +kernel
theorem dL_glyph_6 : decode cL_glyph 6 = .ok (.iload_n 3, 1) := by decide +kernel
theorem dL_glyph_7 : decode cL_glyph 7 = .ok (.iload 4, 2) := by decide +kernel
theorem dL_glyph_9 : decode cL_glyph 9 = .ok (.iload 5, 2) := by decide +kernel
theorem dL_glyph_11 : decode cL_glyph 11 = .ok (.invokevirtual 15, 3) := by decide +kernel
theorem dL_glyph_14 : decode cL_glyph 14 = .ok (.i2l, 1) := by decide +kernel
theorem dL_glyph_15 : decode cL_glyph 15 = .ok (.lastore, 1) := by decide +kernel
theorem dL_glyph_16 : decode cL_glyph 16 = .ok (.goto 11, 3) := by decide +kernel
theorem dL_glyph_19 : decode cL_glyph 19 = .ok (.astore 7, 2) := by decide +kernel
theorem dL_glyph_21 : decode cL_glyph 21 = .ok (.iconst 1, 1) := by decide +kernel
theorem dL_glyph_22 : decode cL_glyph 22 = .ok (.ireturn, 1) := by decide +kernel
theorem dL_glyph_23 : decode cL_glyph 23 = .ok (.astore 7, 2) := by decide +kernel
theorem dL_glyph_25 : decode cL_glyph 25 = .ok (.iconst 2, 1) := by decide +kernel
theorem dL_glyph_26 : decode cL_glyph 26 = .ok (.ireturn, 1) := by decide +kernel
theorem dL_glyph_27 : decode cL_glyph 27 = .ok (.iconst 0, 1) := by decide +kernel
theorem dL_glyph_28 : decode cL_glyph 28 = .ok (.ireturn, 1) := by decide +kernel
theorem dL_load_0 : decode cL_load 0 = .ok (.aload_n 1, 1) := by decide +kernel
theorem dL_load_1 : decode cL_load 1 = .ok (.iconst 0, 1) := by decide +kernel
theorem dL_load_2 : decode cL_load 2 = .ok (.aload_n 0, 1) := by decide +kernel
theorem dL_load_3 : decode cL_load 3 = .ok (.invokevirtual 21, 3) := by decide +kernel
theorem dL_load_6 : decode cL_load 6 = .ok (.i2l, 1) := by decide +kernel
theorem dL_load_7 : decode cL_load 7 = .ok (.lastore, 1) := by decide +kernel
theorem dL_load_8 : decode cL_load 8 = .ok (.goto 9, 3) := by decide +kernel
theorem dL_load_11 : decode cL_load 11 = .ok (.astore_n 2, 1) := by decide +kernel
theorem dL_load_12 : decode cL_load 12 = .ok (.iconst 1, 1) := by decide +kernel
theorem dL_load_13 : decode cL_load 13 = .ok (.ireturn, 1) := by decide +kernel
theorem dL_load_14 : decode cL_load 14 = .ok (.astore_n 2, 1) := by decide +kernel
theorem dL_load_15 : decode cL_load 15 = .ok (.iconst 2, 1) := by decide +kernel
theorem dL_load_16 : decode cL_load 16 = .ok (.ireturn, 1) := by decide +kernel
theorem dL_load_17 : decode cL_load 17 = .ok (.iconst 0, 1) := by decide +kernel
theorem dL_load_18 : decode cL_load 18 = .ok (.ireturn, 1) := by decide +kernel
theorem dL_drop_0 : decode cL_drop 0 = .ok (.aload_n 2, 1) := by decide +kernel
theorem dL_drop_1 : decode cL_drop 1 = .ok (.iconst 0, 1) := by decide +kernel
theorem dL_drop_2 : decode cL_drop 2 = .ok (.aload_n 0, 1) := by decide +kernel
theorem dL_drop_3 : decode cL_drop 3 = .ok (.iload_n 1, 1) := by decide +kernel
theorem dL_drop_4 : decode cL_drop 4 = .ok (.invokevirtual 26, 3) := by decide +kernel
theorem dL_drop_7 : decode cL_drop 7 = .ok (.i2l, 1) := by decide +kernel
theorem dL_drop_8 : decode cL_drop 8 = .ok (.lastore, 1) := by decide +kernel
theorem dL_drop_9 : decode cL_drop 9 = .ok (.goto 6, 3) := by decide +kernel
theorem dL_drop_12 : decode cL_drop 12 = .ok (.astore_n 3, 1) := by decide +kernel
theorem dL_drop_13 : decode cL_drop 13 = .ok (.iconst 1, 1) := by decide +kernel
theorem dL_drop_14 : decode cL_drop 14 = .ok (.ireturn, 1) := by decide +kernel
theorem dL_drop_15 : decode cL_drop 15 = .ok (.iconst 0, 1) := by decide +kernel
theorem dL_drop_16 : decode cL_drop 16 = .ok (.ireturn, 1) := by decide +kernel
theorem dL_font_0 : decode cL_font 0 = .ok (.aload_n 3, 1) := by decide +kernel
theorem dL_font_1 : decode cL_font 1 = .ok (.iconst 0, 1) := by decide +kernel
theorem dL_font_2 : decode cL_font 2 = .ok (.aload_n 0, 1) := by decide +kernel
theorem dL_font_3 : decode cL_font 3 = .ok (.iload_n 1, 1) := by decide +kernel
theorem dL_font_4 : decode cL_font 4 = .ok (.iload_n 2, 1) := by decide +kernel
theorem dL_font_5 : decode cL_font 5 = .ok (.invokevirtual 30, 3) := by decide +kernel
theorem dL_font_8 : decode cL_font 8 = .ok (.i2l, 1) := by decide +kernel
theorem dL_font_9 : decode cL_font 9 = .ok (.lastore, 1) := by decide +kernel
theorem dL_font_10 : decode cL_font 10 = .ok (.goto 7, 3) := by decide +kernel
theorem dL_font_13 : decode cL_font 13 = .ok (.astore 4, 2) := by decide +kernel
theorem dL_font_15 : decode cL_font 15 = .ok (.iconst 1, 1) := by decide +kernel
theorem dL_font_16 : decode cL_font 16 = .ok (.ireturn, 1) := by decide +kernel
theorem dL_font_17 : decode cL_font 17 = .ok (.iconst 0, 1) := by decide +kernel
theorem dL_font_18 : decode cL_font 18 = .ok (.ireturn, 1) := by decide +kernel
theorem dL_of_0 : decode cL_of 0 = .ok (.aload 4, 2) := by decide +kernel
theorem dL_of_2 : decode cL_of 2 = .ok (.iconst 0, 1) := by decide +kernel
theorem dL_of_3 : decode cL_of 3 = .ok (.aload_n 0, 1) := by decide +kernel
theorem dL_of_4 : decode cL_of 4 = .ok (.iload_n 1, 1) := by decide +kernel
theorem dL_of_5 : decode cL_of 5 = .ok (.iload_n 2, 1) := by decide +kernel
theorem dL_of_6 : decode cL_of 6 = .ok (.iload_n 3, 1) := by decide +kernel
theorem dL_of_7 : decode cL_of 7 = .ok (.invokevirtual 36, 3) := by decide +kernel
theorem dL_of_10 : decode cL_of 10 = .ok (.i2l, 1) := by decide +kernel
theorem dL_of_11 : decode cL_of 11 = .ok (.lastore, 1) := by decide +kernel
theorem dL_of_12 : decode cL_of 12 = .ok (.goto 11, 3) := by decide +kernel
theorem dL_of_15 : decode cL_of 15 = .ok (.astore 5, 2) := by decide +kernel
theorem dL_of_17 : decode cL_of 17 = .ok (.iconst 1, 1) := by decide +kernel
theorem dL_of_18 : decode cL_of 18 = .ok (.ireturn, 1) := by decide +kernel
theorem dL_of_19 : decode cL_of 19 = .ok (.astore 5, 2) := by decide +kernel
theorem dL_of_21 : decode cL_of 21 = .ok (.iconst 2, 1) := by decide +kernel
theorem dL_of_22 : decode cL_of 22 = .ok (.ireturn, 1) := by decide +kernel
theorem dL_of_23 : decode cL_of 23 = .ok (.iconst 0, 1) := by decide +kernel
theorem dL_of_24 : decode cL_of 24 = .ok (.ireturn, 1) := by decide +kernel
theorem dL_wish_0 : decode cL_wish 0 = .ok (.aload_n 3, 1) := by decide +kernel
theorem dL_wish_1 : decode cL_wish 1 = .ok (.iconst 0, 1) := by decide +kernel
theorem dL_wish_2 : decode cL_wish 2 = .ok (.aload_n 0, 1) := by decide +kernel
theorem dL_wish_3 : decode cL_wish 3 = .ok (.iload_n 1, 1) := by decide +kernel
theorem dL_wish_4 : decode cL_wish 4 = .ok (.iload_n 2, 1) := by decide +kernel
theorem dL_wish_5 : decode cL_wish 5 = .ok (.invokevirtual 40, 3) := by decide +kernel
theorem dL_wish_8 : decode cL_wish 8 = .ok (.i2l, 1) := by decide +kernel
theorem dL_wish_9 : decode cL_wish 9 = .ok (.lastore, 1) := by decide +kernel
theorem dL_wish_10 : decode cL_wish 10 = .ok (.goto 7, 3) := by decide +kernel
theorem dL_wish_13 : decode cL_wish 13 = .ok (.astore 4, 2) := by decide +kernel
theorem dL_wish_15 : decode cL_wish 15 = .ok (.iconst 1, 1) := by decide +kernel
theorem dL_wish_16 : decode cL_wish 16 = .ok (.ireturn, 1) := by decide +kernel
theorem dL_wish_17 : decode cL_wish 17 = .ok (.iconst 0, 1) := by decide +kernel
theorem dL_wish_18 : decode cL_wish 18 = .ok (.ireturn, 1) := by decide +kernel
theorem dL_law_0 : decode cL_law 0 = .ok (.new 8, 3) := by decide +kernel
theorem dL_law_3 : decode cL_law 3 = .ok (.dup, 1) := by decide +kernel
theorem dL_law_4 : decode cL_law 4 = .ok (.invokespecial 43, 3) := by decide +kernel
theorem dL_law_7 : decode cL_law 7 = .ok (.astore_n 1, 1) := by decide +kernel
theorem dL_law_8 : decode cL_law 8 = .ok (.new 44, 3) := by decide +kernel
theorem dL_law_11 : decode cL_law 11 = .ok (.dup, 1) := by decide +kernel
theorem dL_law_12 : decode cL_law 12 = .ok (.invokespecial 46, 3) := by decide +kernel
theorem dL_law_15 : decode cL_law 15 = .ok (.astore_n 2, 1) := by decide +kernel
theorem dL_law_16 : decode cL_law 16 = .ok (.iconst 1, 1) := by decide +kernel
theorem dL_law_17 : decode cL_law 17 = .ok (.newarray .long, 2) := by decide +kernel
theorem dL_law_19 : decode cL_law 19 = .ok (.astore_n 3, 1) := by decide +kernel
theorem dL_law_20 : decode cL_law 20 = .ok (.iconst 0, 1) := by decide +kernel
theorem dL_law_21 : decode cL_law 21 = .ok (.istore 4, 2) := by decide +kernel
theorem dL_law_23 : decode cL_law 23 = .ok (.iload 4, 2) := by decide +kernel
theorem dL_law_25 : decode cL_law 25 = .ok (.aload_n 0, 1) := by decide +kernel
theorem dL_law_26 : decode cL_law 26 = .ok (.arraylength, 1) := by decide +kernel
theorem dL_law_27 : decode cL_law 27 = .ok (.bipush 6, 2) := by decide +kernel
theorem dL_law_29 : decode cL_law 29 = .ok (.isub, 1) := by decide +kernel
theorem dL_law_30 : decode cL_law 30 = .ok (.if_icmp .gt 945, 3) := by decide +kernel
theorem dL_law_33 : decode cL_law 33 = .ok (.aload_n 0, 1) := by decide +kernel
theorem dL_law_34 : decode cL_law 34 = .ok (.iload 4, 2) := by decide +kernel
theorem dL_law_36 : decode cL_law 36 = .ok (.iaload, 1) := by decide +kernel
theorem dL_law_37 : decode cL_law 37 = .ok (.bipush 15, 2) := by decide +kernel
theorem dL_law_39 : decode cL_law 39 = .ok (.iand, 1) := by decide +kernel
theorem dL_law_40 : decode cL_law 40 = .ok (.tableswitch 929 0 14 #[76, 129, 206, 250, 354, 423, 467, 508, 564, 601, 626, 694, 774, 836, 904], 76) := by decide +kernel
theorem dL_law_116 : decode cL_law 116 = .ok (.aload_n 1, 1) := by decide +kernel
theorem dL_law_117 : decode cL_law 117 = .ok (.aload_n 0, 1) := by decide +kernel
theorem dL_law_118 : decode cL_law 118 = .ok (.iload 4, 2) := by decide +kernel
theorem dL_law_120 : decode cL_law 120 = .ok (.iconst 1, 1) := by decide +kernel
theorem dL_law_121 : decode cL_law 121 = .ok (.iadd, 1) := by decide +kernel
theorem dL_law_122 : decode cL_law 122 = .ok (.iaload, 1) := by decide +kernel
theorem dL_law_123 : decode cL_law 123 = .ok (.ifCond .eq 7, 3) := by decide +kernel
theorem dL_law_126 : decode cL_law 126 = .ok (.iconst 1, 1) := by decide +kernel
theorem dL_law_127 : decode cL_law 127 = .ok (.goto 4, 3) := by decide +kernel
theorem dL_law_130 : decode cL_law 130 = .ok (.iconst 0, 1) := by decide +kernel
theorem dL_law_131 : decode cL_law 131 = .ok (.aload_n 0, 1) := by decide +kernel
theorem dL_law_132 : decode cL_law 132 = .ok (.iload 4, 2) := by decide +kernel
theorem dL_law_134 : decode cL_law 134 = .ok (.iconst 2, 1) := by decide +kernel
theorem dL_law_135 : decode cL_law 135 = .ok (.iadd, 1) := by decide +kernel
theorem dL_law_136 : decode cL_law 136 = .ok (.iaload, 1) := by decide +kernel
theorem dL_law_137 : decode cL_law 137 = .ok (.invokevirtual 47, 3) := by decide +kernel
theorem dL_law_140 : decode cL_law 140 = .ok (.aload_n 2, 1) := by decide +kernel
theorem dL_law_141 : decode cL_law 141 = .ok (.aload_n 0, 1) := by decide +kernel
theorem dL_law_142 : decode cL_law 142 = .ok (.iload 4, 2) := by decide +kernel
theorem dL_law_144 : decode cL_law 144 = .ok (.iconst 1, 1) := by decide +kernel
theorem dL_law_145 : decode cL_law 145 = .ok (.iadd, 1) := by decide +kernel
theorem dL_law_146 : decode cL_law 146 = .ok (.iaload, 1) := by decide +kernel
theorem dL_law_147 : decode cL_law 147 = .ok (.ifCond .eq 7, 3) := by decide +kernel
theorem dL_law_150 : decode cL_law 150 = .ok (.iconst 1, 1) := by decide +kernel
theorem dL_law_151 : decode cL_law 151 = .ok (.goto 4, 3) := by decide +kernel
theorem dL_law_154 : decode cL_law 154 = .ok (.iconst 0, 1) := by decide +kernel
theorem dL_law_155 : decode cL_law 155 = .ok (.aload_n 0, 1) := by decide +kernel
theorem dL_law_156 : decode cL_law 156 = .ok (.iload 4, 2) := by decide +kernel
theorem dL_law_158 : decode cL_law 158 = .ok (.iconst 2, 1) := by decide +kernel
theorem dL_law_159 : decode cL_law 159 = .ok (.iadd, 1) := by decide +kernel
theorem dL_law_160 : decode cL_law 160 = .ok (.iaload, 1) := by decide +kernel
theorem dL_law_161 : decode cL_law 161 = .ok (.invokevirtual 51, 3) := by decide +kernel
theorem dL_law_164 : decode cL_law 164 = .ok (.if_icmp .eq 805, 3) := by decide +kernel
theorem dL_law_167 : decode cL_law 167 = .ok (.iconst 0, 1) := by decide +kernel
theorem dL_law_168 : decode cL_law 168 = .ok (.ireturn, 1) := by decide +kernel
theorem dL_law_169 : decode cL_law 169 = .ok (.aload_n 1, 1) := by decide +kernel
theorem dL_law_170 : decode cL_law 170 = .ok (.aload_n 0, 1) := by decide +kernel
theorem dL_law_171 : decode cL_law 171 = .ok (.iload 4, 2) := by decide +kernel
theorem dL_law_173 : decode cL_law 173 = .ok (.iconst 1, 1) := by decide +kernel
theorem dL_law_174 : decode cL_law 174 = .ok (.iadd, 1) := by decide +kernel
theorem dL_law_175 : decode cL_law 175 = .ok (.iaload, 1) := by decide +kernel
theorem dL_law_176 : decode cL_law 176 = .ok (.ifCond .eq 7, 3) := by decide +kernel
theorem dL_law_179 : decode cL_law 179 = .ok (.iconst 1, 1) := by decide +kernel
theorem dL_law_180 : decode cL_law 180 = .ok (.goto 4, 3) := by decide +kernel
theorem dL_law_183 : decode cL_law 183 = .ok (.iconst 0, 1) := by decide +kernel
theorem dL_law_184 : decode cL_law 184 = .ok (.aload_n 0, 1) := by decide +kernel
theorem dL_law_185 : decode cL_law 185 = .ok (.iload 4, 2) := by decide +kernel
theorem dL_law_187 : decode cL_law 187 = .ok (.iconst 2, 1) := by decide +kernel
theorem dL_law_188 : decode cL_law 188 = .ok (.iadd, 1) := by decide +kernel
theorem dL_law_189 : decode cL_law 189 = .ok (.iaload, 1) := by decide +kernel
theorem dL_law_190 : decode cL_law 190 = .ok (.aload_n 0, 1) := by decide +kernel
theorem dL_law_191 : decode cL_law 191 = .ok (.iload 4, 2) := by decide +kernel
theorem dL_law_193 : decode cL_law 193 = .ok (.iconst 3, 1) := by decide +kernel
theorem dL_law_194 : decode cL_law 194 = .ok (.iadd, 1) := by decide +kernel
theorem dL_law_195 : decode cL_law 195 = .ok (.iaload, 1) := by decide +kernel
theorem dL_law_196 : decode cL_law 196 = .ok (.aload_n 0, 1) := by decide +kernel
theorem dL_law_197 : decode cL_law 197 = .ok (.iload 4, 2) := by decide +kernel
theorem dL_law_199 : decode cL_law 199 = .ok (.iconst 4, 1) := by decide +kernel
theorem dL_law_200 : decode cL_law 200 = .ok (.iadd, 1) := by decide +kernel
theorem dL_law_201 : decode cL_law 201 = .ok (.iaload, 1) := by decide +kernel
theorem dL_law_202 : decode cL_law 202 = .ok (.invokevirtual 52, 3) := by decide +kernel
theorem dL_law_205 : decode cL_law 205 = .ok (.aload_n 2, 1) := by decide +kernel
theorem dL_law_206 : decode cL_law 206 = .ok (.aload_n 0, 1) := by decide +kernel
theorem dL_law_207 : decode cL_law 207 = .ok (.iload 4, 2) := by decide +kernel
theorem dL_law_209 : decode cL_law 209 = .ok (.iconst 1, 1) := by decide +kernel
theorem dL_law_210 : decode cL_law 210 = .ok (.iadd, 1) := by decide +kernel
theorem dL_law_211 : decode cL_law 211 = .ok (.iaload, 1) := by decide +kernel
theorem dL_law_212 : decode cL_law 212 = .ok (.ifCond .eq 7, 3) := by decide +kernel
theorem dL_law_215 : decode cL_law 215 = .ok (.iconst 1, 1) := by decide +kernel
theorem dL_law_216 : decode cL_law 216 = .ok (.goto 4, 3) := by decide +kernel
theorem dL_law_219 : decode cL_law 219 = .ok (.iconst 0, 1) := by decide +kernel
theorem dL_law_220 : decode cL_law 220 = .ok (.aload_n 0, 1) := by decide +kernel
theorem dL_law_221 : decode cL_law 221 = .ok (.iload 4, 2) := by decide +kernel
theorem dL_law_223 : decode cL_law 223 = .ok (.iconst 2, 1) := by decide +kernel
theorem dL_law_224 : decode cL_law 224 = .ok (.iadd, 1) := by decide +kernel
theorem dL_law_225 : decode cL_law 225 = .ok (.iaload, 1) := by decide +kernel
theorem dL_law_226 : decode cL_law 226 = .ok (.aload_n 0, 1) := by decide +kernel
theorem dL_law_227 : decode cL_law 227 = .ok (.iload 4, 2) := by decide +kernel
theorem dL_law_229 : decode cL_law 229 = .ok (.iconst 3, 1) := by decide +kernel
theorem dL_law_230 : decode cL_law 230 = .ok (.iadd, 1) := by decide +kernel
theorem dL_law_231 : decode cL_law 231 = .ok (.iaload, 1) := by decide +kernel
theorem dL_law_232 : decode cL_law 232 = .ok (.aload_n 0, 1) := by decide +kernel
theorem dL_law_233 : decode cL_law 233 = .ok (.iload 4, 2) := by decide +kernel
theorem dL_law_235 : decode cL_law 235 = .ok (.iconst 4, 1) := by decide +kernel
theorem dL_law_236 : decode cL_law 236 = .ok (.iadd, 1) := by decide +kernel
theorem dL_law_237 : decode cL_law 237 = .ok (.iaload, 1) := by decide +kernel
theorem dL_law_238 : decode cL_law 238 = .ok (.invokevirtual 56, 3) := by decide +kernel
theorem dL_law_241 : decode cL_law 241 = .ok (.if_icmp .eq 728, 3) := by decide +kernel
theorem dL_law_244 : decode cL_law 244 = .ok (.iconst 0, 1) := by decide +kernel
theorem dL_law_245 : decode cL_law 245 = .ok (.ireturn, 1) := by decide +kernel
theorem dL_law_246 : decode cL_law 246 = .ok (.aload_n 1, 1) := by decide +kernel
theorem dL_law_247 : decode cL_law 247 = .ok (.aload_n 3, 1) := by decide +kernel
theorem dL_law_248 : decode cL_law 248 = .ok (.invokestatic 57, 3) := by decide +kernel
theorem dL_law_251 : decode cL_law 251 = .ok (.istore 5, 2) := by decide +kernel
theorem dL_law_253 : decode cL_law 253 = .ok (.aload_n 2, 1) := by decide +kernel
theorem dL_law_254 : decode cL_law 254 = .ok (.invokevirtual 62, 3) := by decide +kernel
theorem dL_law_257 : decode cL_law 257 = .ok (.istore 6, 2) := by decide +kernel
theorem dL_law_259 : decode cL_law 259 = .ok (.aload_n 2, 1) := by decide +kernel
theorem dL_law_260 : decode cL_law 260 = .ok (.invokevirtual 63, 3) := by decide +kernel
theorem dL_law_263 : decode cL_law 263 = .ok (.iload 5, 2) := by decide +kernel
theorem dL_law_265 : decode cL_law 265 = .ok (.if_icmp .eq 5, 3) := by decide +kernel
theorem dL_law_268 : decode cL_law 268 = .ok (.iconst 0, 1) := by decide +kernel
theorem dL_law_269 : decode cL_law 269 = .ok (.ireturn, 1) := by decide +kernel
theorem dL_law_270 : decode cL_law 270 = .ok (.iload 5, 2) := by decide +kernel
theorem dL_law_272 : decode cL_law 272 = .ok (.ifCond .ne 15, 3) := by decide +kernel
theorem dL_law_275 : decode cL_law 275 = .ok (.aload_n 3, 1) := by decide +kernel
theorem dL_law_276 : decode cL_law 276 = .ok (.iconst 0, 1) := by decide +kernel
theorem dL_law_277 : decode cL_law 277 = .ok (.laload, 1) := by decide +kernel
theorem dL_law_278 : decode cL_law 278 = .ok (.iload 6, 2) := by decide +kernel
theorem dL_law_280 : decode cL_law 280 = .ok (.i2l, 1) := by decide +kernel
theorem dL_law_281 : decode cL_law 281 = .ok (.lcmp, 1) := by decide +kernel
theorem dL_law_282 : decode cL_law 282 = .ok (.ifCond .eq 5, 3) := by decide +kernel
theorem dL_law_285 : decode cL_law 285 = .ok (.iconst 0, 1) := by decide +kernel
theorem dL_law_286 : decode cL_law 286 = .ok (.ireturn, 1) := by decide +kernel
theorem dL_law_287 : decode cL_law 287 = .ok (.goto 682, 3) := by decide +kernel
theorem dL_law_290 : decode cL_law 290 = .ok (.aload_n 1, 1) := by decide +kernel
theorem dL_law_291 : decode cL_law 291 = .ok (.aload_n 0, 1) := by decide +kernel
theorem dL_law_292 : decode cL_law 292 = .ok (.iload 4, 2) := by decide +kernel
theorem dL_law_294 : decode cL_law 294 = .ok (.iconst 1, 1) := by decide +kernel
theorem dL_law_295 : decode cL_law 295 = .ok (.iadd, 1) := by decide +kernel
theorem dL_law_296 : decode cL_law 296 = .ok (.iaload, 1) := by decide +kernel
theorem dL_law_297 : decode cL_law 297 = .ok (.aload_n 0, 1) := by decide +kernel
theorem dL_law_298 : decode cL_law 298 = .ok (.iload 4, 2) := by decide +kernel
theorem dL_law_300 : decode cL_law 300 = .ok (.iconst 2, 1) := by decide +kernel
theorem dL_law_301 : decode cL_law 301 = .ok (.iadd, 1) := by decide +kernel
theorem dL_law_302 : decode cL_law 302 = .ok (.iaload, 1) := by decide +kernel
theorem dL_law_303 : decode cL_law 303 = .ok (.aload_n 0, 1) := by decide +kernel
theorem dL_law_304 : decode cL_law 304 = .ok (.iload 4, 2) := by decide +kernel
theorem dL_law_306 : decode cL_law 306 = .ok (.iconst 3, 1) := by decide +kernel
theorem dL_law_307 : decode cL_law 307 = .ok (.iadd, 1) := by decide +kernel
theorem dL_law_308 : decode cL_law 308 = .ok (.iaload, 1) := by decide +kernel
theorem dL_law_309 : decode cL_law 309 = .ok (.aload_n 0, 1) := by decide +kernel
theorem dL_law_310 : decode cL_law 310 = .ok (.iload 4, 2) := by decide +kernel
theorem dL_law_312 : decode cL_law 312 = .ok (.iconst 4, 1) := by decide +kernel
theorem dL_law_313 : decode cL_law 313 = .ok (.iadd, 1) := by decide +kernel
theorem dL_law_314 : decode cL_law 314 = .ok (.iaload, 1) := by decide +kernel
theorem dL_law_315 : decode cL_law 315 = .ok (.aload_n 0, 1) := by decide +kernel
theorem dL_law_316 : decode cL_law 316 = .ok (.iload 4, 2) := by decide +kernel
theorem dL_law_318 : decode cL_law 318 = .ok (.iconst 5, 1) := by decide +kernel
theorem dL_law_319 : decode cL_law 319 = .ok (.iadd, 1) := by decide +kernel
theorem dL_law_320 : decode cL_law 320 = .ok (.iaload, 1) := by decide +kernel
theorem dL_law_321 : decode cL_law 321 = .ok (.aload_n 3, 1) := by decide +kernel
theorem dL_law_322 : decode cL_law 322 = .ok (.invokestatic 66, 3) := by decide +kernel
theorem dL_law_325 : decode cL_law 325 = .ok (.istore 5, 2) := by decide +kernel
theorem dL_law_327 : decode cL_law 327 = .ok (.aload_n 2, 1) := by decide +kernel
theorem dL_law_328 : decode cL_law 328 = .ok (.aload_n 0, 1) := by decide +kernel
theorem dL_law_329 : decode cL_law 329 = .ok (.iload 4, 2) := by decide +kernel
theorem dL_law_331 : decode cL_law 331 = .ok (.iconst 1, 1) := by decide +kernel
theorem dL_law_332 : decode cL_law 332 = .ok (.iadd, 1) := by decide +kernel
theorem dL_law_333 : decode cL_law 333 = .ok (.iaload, 1) := by decide +kernel
theorem dL_law_334 : decode cL_law 334 = .ok (.aload_n 0, 1) := by decide +kernel
theorem dL_law_335 : decode cL_law 335 = .ok (.iload 4, 2) := by decide +kernel
theorem dL_law_337 : decode cL_law 337 = .ok (.iconst 2, 1) := by decide +kernel
theorem dL_law_338 : decode cL_law 338 = .ok (.iadd, 1) := by decide +kernel
theorem dL_law_339 : decode cL_law 339 = .ok (.iaload, 1) := by decide +kernel
theorem dL_law_340 : decode cL_law 340 = .ok (.aload_n 0, 1) := by decide +kernel
theorem dL_law_341 : decode cL_law 341 = .ok (.iload 4, 2) := by decide +kernel
theorem dL_law_343 : decode cL_law 343 = .ok (.iconst 3, 1) := by decide +kernel
theorem dL_law_344 : decode cL_law 344 = .ok (.iadd, 1) := by decide +kernel
theorem dL_law_345 : decode cL_law 345 = .ok (.iaload, 1) := by decide +kernel
theorem dL_law_346 : decode cL_law 346 = .ok (.aload_n 0, 1) := by decide +kernel
theorem dL_law_347 : decode cL_law 347 = .ok (.iload 4, 2) := by decide +kernel
theorem dL_law_349 : decode cL_law 349 = .ok (.iconst 4, 1) := by decide +kernel
theorem dL_law_350 : decode cL_law 350 = .ok (.iadd, 1) := by decide +kernel
theorem dL_law_351 : decode cL_law 351 = .ok (.iaload, 1) := by decide +kernel
theorem dL_law_352 : decode cL_law 352 = .ok (.aload_n 0, 1) := by decide +kernel
theorem dL_law_353 : decode cL_law 353 = .ok (.iload 4, 2) := by decide +kernel
theorem dL_law_355 : decode cL_law 355 = .ok (.iconst 5, 1) := by decide +kernel
theorem dL_law_356 : decode cL_law 356 = .ok (.iadd, 1) := by decide +kernel
theorem dL_law_357 : decode cL_law 357 = .ok (.iaload, 1) := by decide +kernel
theorem dL_law_358 : decode cL_law 358 = .ok (.invokevirtual 69, 3) := by decide +kernel
theorem dL_law_361 : decode cL_law 361 = .ok (.istore 6, 2) := by decide +kernel
theorem dL_law_363 : decode cL_law 363 = .ok (.aload_n 2, 1) := by decide +kernel
theorem dL_law_364 : decode cL_law 364 = .ok (.invokevirtual 63, 3) := by decide +kernel
theorem dL_law_367 : decode cL_law 367 = .ok (.iload 5, 2) := by decide +kernel
theorem dL_law_369 : decode cL_law 369 = .ok (.if_icmp .eq 5, 3) := by decide +kernel
theorem dL_law_372 : decode cL_law 372 = .ok (.iconst 0, 1) := by decide +kernel
theorem dL_law_373 : decode cL_law 373 = .ok (.ireturn, 1) := by decide +kernel
theorem dL_law_374 : decode cL_law 374 = .ok (.iload 5, 2) := by decide +kernel
theorem dL_law_376 : decode cL_law 376 = .ok (.ifCond .ne 15, 3) := by decide +kernel
theorem dL_law_379 : decode cL_law 379 = .ok (.aload_n 3, 1) := by decide +kernel
theorem dL_law_380 : decode cL_law 380 = .ok (.iconst 0, 1) := by decide +kernel
theorem dL_law_381 : decode cL_law 381 = .ok (.laload, 1) := by decide +kernel
theorem dL_law_382 : decode cL_law 382 = .ok (.iload 6, 2) := by decide +kernel
theorem dL_law_384 : decode cL_law 384 = .ok (.i2l, 1) := by decide +kernel
theorem dL_law_385 : decode cL_law 385 = .ok (.lcmp, 1) := by decide +kernel
theorem dL_law_386 : decode cL_law 386 = .ok (.ifCond .eq 5, 3) := by decide +kernel
theorem dL_law_389 : decode cL_law 389 = .ok (.iconst 0, 1) := by decide +kernel
theorem dL_law_390 : decode cL_law 390 = .ok (.ireturn, 1) := by decide +kernel
theorem dL_law_391 : decode cL_law 391 = .ok (.goto 578, 3) := by decide +kernel
theorem dL_law_394 : decode cL_law 394 = .ok (.aload_n 1, 1) := by decide +kernel
theorem dL_law_395 : decode cL_law 395 = .ok (.aload_n 0, 1) := by decide +kernel
theorem dL_law_396 : decode cL_law 396 = .ok (.iload 4, 2) := by decide +kernel
theorem dL_law_398 : decode cL_law 398 = .ok (.iconst 1, 1) := by decide +kernel
theorem dL_law_399 : decode cL_law 399 = .ok (.iadd, 1) := by decide +kernel
theorem dL_law_400 : decode cL_law 400 = .ok (.iaload, 1) := by decide +kernel
theorem dL_law_401 : decode cL_law 401 = .ok (.i2l, 1) := by decide +kernel
theorem dL_law_402 : decode cL_law 402 = .ok (.bipush 32, 2) := by decide +kernel
theorem dL_law_404 : decode cL_law 404 = .ok (.lshl, 1) := by decide +kernel
theorem dL_law_405 : decode cL_law 405 = .ok (.aload_n 0, 1) := by decide +kernel
theorem dL_law_406 : decode cL_law 406 = .ok (.iload 4, 2) := by decide +kernel
theorem dL_law_408 : decode cL_law 408 = .ok (.iconst 2, 1) := by decide +kernel
theorem dL_law_409 : decode cL_law 409 = .ok (.iadd, 1) := by decide +kernel
theorem dL_law_410 : decode cL_law 410 = .ok (.iaload, 1) := by decide +kernel
theorem dL_law_411 : decode cL_law 411 = .ok (.i2l, 1) := by decide +kernel
theorem dL_law_412 : decode cL_law 412 = .ok (.ldc2_w 70, 3) := by decide +kernel
theorem dL_law_415 : decode cL_law 415 = .ok (.land, 1) := by decide +kernel
theorem dL_law_416 : decode cL_law 416 = .ok (.lor, 1) := by decide +kernel
theorem dL_law_417 : decode cL_law 417 = .ok (.aload_n 0, 1) := by decide +kernel
theorem dL_law_418 : decode cL_law 418 = .ok (.iload 4, 2) := by decide +kernel
theorem dL_law_420 : decode cL_law 420 = .ok (.iconst 3, 1) := by decide +kernel
theorem dL_law_421 : decode cL_law 421 = .ok (.iadd, 1) := by decide +kernel
theorem dL_law_422 : decode cL_law 422 = .ok (.iaload, 1) := by decide +kernel
theorem dL_law_423 : decode cL_law 423 = .ok (.invokevirtual 72, 3) := by decide +kernel
theorem dL_law_426 : decode cL_law 426 = .ok (.aload_n 2, 1) := by decide +kernel
theorem dL_law_427 : decode cL_law 427 = .ok (.aload_n 0, 1) := by decide +kernel
theorem dL_law_428 : decode cL_law 428 = .ok (.iload 4, 2) := by decide +kernel
theorem dL_law_430 : decode cL_law 430 = .ok (.iconst 1, 1) := by decide +kernel
theorem dL_law_431 : decode cL_law 431 = .ok (.iadd, 1) := by decide +kernel
theorem dL_law_432 : decode cL_law 432 = .ok (.iaload, 1) := by decide +kernel
theorem dL_law_433 : decode cL_law 433 = .ok (.i2l, 1) := by decide +kernel
theorem dL_law_434 : decode cL_law 434 = .ok (.bipush 32, 2) := by decide +kernel
theorem dL_law_436 : decode cL_law 436 = .ok (.lshl, 1) := by decide +kernel
theorem dL_law_437 : decode cL_law 437 = .ok (.aload_n 0, 1) := by decide +kernel
theorem dL_law_438 : decode cL_law 438 = .ok (.iload 4, 2) := by decide +kernel
theorem dL_law_440 : decode cL_law 440 = .ok (.iconst 2, 1) := by decide +kernel
theorem dL_law_441 : decode cL_law 441 = .ok (.iadd, 1) := by decide +kernel
theorem dL_law_442 : decode cL_law 442 = .ok (.iaload, 1) := by decide +kernel
theorem dL_law_443 : decode cL_law 443 = .ok (.i2l, 1) := by decide +kernel
theorem dL_law_444 : decode cL_law 444 = .ok (.ldc2_w 70, 3) := by decide +kernel
theorem dL_law_447 : decode cL_law 447 = .ok (.land, 1) := by decide +kernel
theorem dL_law_448 : decode cL_law 448 = .ok (.lor, 1) := by decide +kernel
theorem dL_law_449 : decode cL_law 449 = .ok (.aload_n 0, 1) := by decide +kernel
theorem dL_law_450 : decode cL_law 450 = .ok (.iload 4, 2) := by decide +kernel
theorem dL_law_452 : decode cL_law 452 = .ok (.iconst 3, 1) := by decide +kernel
theorem dL_law_453 : decode cL_law 453 = .ok (.iadd, 1) := by decide +kernel
theorem dL_law_454 : decode cL_law 454 = .ok (.iaload, 1) := by decide +kernel
theorem dL_law_455 : decode cL_law 455 = .ok (.invokevirtual 76, 3) := by decide +kernel
theorem dL_law_458 : decode cL_law 458 = .ok (.if_icmp .eq 511, 3) := by decide +kernel
theorem dL_law_461 : decode cL_law 461 = .ok (.iconst 0, 1) := by decide +kernel
theorem dL_law_462 : decode cL_law 462 = .ok (.ireturn, 1) := by decide +kernel
theorem dL_law_463 : decode cL_law 463 = .ok (.aload_n 1, 1) := by decide +kernel
theorem dL_law_464 : decode cL_law 464 = .ok (.aload_n 3, 1) := by decide +kernel
theorem dL_law_465 : decode cL_law 465 = .ok (.invokestatic 77, 3) := by decide +kernel
theorem dL_law_468 : decode cL_law 468 = .ok (.istore 5, 2) := by decide +kernel
theorem dL_law_470 : decode cL_law 470 = .ok (.aload_n 2, 1) := by decide +kernel
theorem dL_law_471 : decode cL_law 471 = .ok (.invokevirtual 79, 3) := by decide +kernel
theorem dL_law_474 : decode cL_law 474 = .ok (.istore 6, 2) := by decide +kernel
theorem dL_law_476 : decode cL_law 476 = .ok (.aload_n 2, 1) := by decide +kernel
theorem dL_law_477 : decode cL_law 477 = .ok (.invokevirtual 63, 3) := by decide +kernel
theorem dL_law_480 : decode cL_law 480 = .ok (.iload 5, 2) := by decide +kernel
theorem dL_law_482 : decode cL_law 482 = .ok (.if_icmp .eq 5, 3) := by decide +kernel
theorem dL_law_485 : decode cL_law 485 = .ok (.iconst 0, 1) := by decide +kernel
theorem dL_law_486 : decode cL_law 486 = .ok (.ireturn, 1) := by decide +kernel
theorem dL_law_487 : decode cL_law 487 = .ok (.iload 5, 2) := by decide +kernel
theorem dL_law_489 : decode cL_law 489 = .ok (.ifCond .ne 15, 3) := by decide +kernel
theorem dL_law_492 : decode cL_law 492 = .ok (.aload_n 3, 1) := by decide +kernel
theorem dL_law_493 : decode cL_law 493 = .ok (.iconst 0, 1) := by decide +kernel
theorem dL_law_494 : decode cL_law 494 = .ok (.laload, 1) := by decide +kernel
theorem dL_law_495 : decode cL_law 495 = .ok (.iload 6, 2) := by decide +kernel
theorem dL_law_497 : decode cL_law 497 = .ok (.i2l, 1) := by decide +kernel
theorem dL_law_498 : decode cL_law 498 = .ok (.lcmp, 1) := by decide +kernel
theorem dL_law_499 : decode cL_law 499 = .ok (.ifCond .eq 5, 3) := by decide +kernel
theorem dL_law_502 : decode cL_law 502 = .ok (.iconst 0, 1) := by decide +kernel
theorem dL_law_503 : decode cL_law 503 = .ok (.ireturn, 1) := by decide +kernel
theorem dL_law_504 : decode cL_law 504 = .ok (.goto 465, 3) := by decide +kernel
theorem dL_law_507 : decode cL_law 507 = .ok (.aload_n 1, 1) := by decide +kernel
theorem dL_law_508 : decode cL_law 508 = .ok (.aload_n 0, 1) := by decide +kernel
theorem dL_law_509 : decode cL_law 509 = .ok (.iload 4, 2) := by decide +kernel
theorem dL_law_511 : decode cL_law 511 = .ok (.iconst 1, 1) := by decide +kernel
theorem dL_law_512 : decode cL_law 512 = .ok (.iadd, 1) := by decide +kernel
theorem dL_law_513 : decode cL_law 513 = .ok (.iaload, 1) := by decide +kernel
theorem dL_law_514 : decode cL_law 514 = .ok (.ifCond .eq 7, 3) := by decide +kernel
theorem dL_law_517 : decode cL_law 517 = .ok (.iconst 1, 1) := by decide +kernel
theorem dL_law_518 : decode cL_law 518 = .ok (.goto 4, 3) := by decide +kernel
theorem dL_law_521 : decode cL_law 521 = .ok (.iconst 0, 1) := by decide +kernel
theorem dL_law_522 : decode cL_law 522 = .ok (.invokevirtual 80, 3) := by decide +kernel
theorem dL_law_525 : decode cL_law 525 = .ok (.aload_n 2, 1) := by decide +kernel
theorem dL_law_526 : decode cL_law 526 = .ok (.aload_n 0, 1) := by decide +kernel
theorem dL_law_527 : decode cL_law 527 = .ok (.iload 4, 2) := by decide +kernel
theorem dL_law_529 : decode cL_law 529 = .ok (.iconst 1, 1) := by decide +kernel
theorem dL_law_530 : decode cL_law 530 = .ok (.iadd, 1) := by decide +kernel
theorem dL_law_531 : decode cL_law 531 = .ok (.iaload, 1) := by decide +kernel
theorem dL_law_532 : decode cL_law 532 = .ok (.ifCond .eq 7, 3) := by decide +kernel
theorem dL_law_535 : decode cL_law 535 = .ok (.iconst 1, 1) := by decide +kernel
theorem dL_law_536 : decode cL_law 536 = .ok (.goto 4, 3) := by decide +kernel
theorem dL_law_539 : decode cL_law 539 = .ok (.iconst 0, 1) := by decide +kernel
theorem dL_law_540 : decode cL_law 540 = .ok (.invokevirtual 84, 3) := by decide +kernel
theorem dL_law_543 : decode cL_law 543 = .ok (.if_icmp .eq 426, 3) := by decide +kernel
theorem dL_law_546 : decode cL_law 546 = .ok (.iconst 0, 1) := by decide +kernel
theorem dL_law_547 : decode cL_law 547 = .ok (.ireturn, 1) := by decide +kernel
theorem dL_law_548 : decode cL_law 548 = .ok (.aload_n 1, 1) := by decide +kernel
theorem dL_law_549 : decode cL_law 549 = .ok (.aload_n 0, 1) := by decide +kernel
theorem dL_law_550 : decode cL_law 550 = .ok (.iload 4, 2) := by decide +kernel
theorem dL_law_552 : decode cL_law 552 = .ok (.iconst 1, 1) := by decide +kernel
theorem dL_law_553 : decode cL_law 553 = .ok (.iadd, 1) := by decide +kernel
theorem dL_law_554 : decode cL_law 554 = .ok (.iaload, 1) := by decide +kernel
theorem dL_law_555 : decode cL_law 555 = .ok (.aload_n 3, 1) := by decide +kernel
theorem dL_law_556 : decode cL_law 556 = .ok (.invokestatic 85, 3) := by decide +kernel
theorem dL_law_559 : decode cL_law 559 = .ok (.istore 5, 2) := by decide +kernel
theorem dL_law_561 : decode cL_law 561 = .ok (.aload_n 2, 1) := by decide +kernel
theorem dL_law_562 : decode cL_law 562 = .ok (.aload_n 0, 1) := by decide +kernel
theorem dL_law_563 : decode cL_law 563 = .ok (.iload 4, 2) := by decide +kernel
theorem dL_law_565 : decode cL_law 565 = .ok (.iconst 1, 1) := by decide +kernel
theorem dL_law_566 : decode cL_law 566 = .ok (.iadd, 1) := by decide +kernel
theorem dL_law_567 : decode cL_law 567 = .ok (.iaload, 1) := by decide +kernel
theorem dL_law_568 : decode cL_law 568 = .ok (.invokevirtual 88, 3) := by decide +kernel
theorem dL_law_571 : decode cL_law 571 = .ok (.istore 6, 2) := by decide +kernel
theorem dL_law_573 : decode cL_law 573 = .ok (.aload_n 2, 1) := by decide +kernel
theorem dL_law_574 : decode cL_law 574 = .ok (.invokevirtual 63, 3) := by decide +kernel
theorem dL_law_577 : decode cL_law 577 = .ok (.iload 5, 2) := by decide +kernel
theorem dL_law_579 : decode cL_law 579 = .ok (.if_icmp .eq 5, 3) := by decide +kernel
theorem dL_law_582 : decode cL_law 582 = .ok (.iconst 0, 1) := by decide +kernel
theorem dL_law_583 : decode cL_law 583 = .ok (.ireturn, 1) := by decide +kernel
theorem dL_law_584 : decode cL_law 584 = .ok (.iload 5, 2) := by decide +kernel
theorem dL_law_586 : decode cL_law 586 = .ok (.ifCond .ne 15, 3) := by decide +kernel
theorem dL_law_589 : decode cL_law 589 = .ok (.aload_n 3, 1) := by decide +kernel
theorem dL_law_590 : decode cL_law 590 = .ok (.iconst 0, 1) := by decide +kernel
theorem dL_law_591 : decode cL_law 591 = .ok (.laload, 1) := by decide +kernel
theorem dL_law_592 : decode cL_law 592 = .ok (.iload 6, 2) := by decide +kernel
theorem dL_law_594 : decode cL_law 594 = .ok (.i2l, 1) := by decide +kernel
theorem dL_law_595 : decode cL_law 595 = .ok (.lcmp, 1) := by decide +kernel
theorem dL_law_596 : decode cL_law 596 = .ok (.ifCond .eq 5, 3) := by decide +kernel
theorem dL_law_599 : decode cL_law 599 = .ok (.iconst 0, 1) := by decide +kernel
theorem dL_law_600 : decode cL_law 600 = .ok (.ireturn, 1) := by decide +kernel
theorem dL_law_601 : decode cL_law 601 = .ok (.goto 368, 3) := by decide +kernel
theorem dL_law_604 : decode cL_law 604 = .ok (.aload_n 1, 1) := by decide +kernel
theorem dL_law_605 : decode cL_law 605 = .ok (.aload_n 0, 1) := by decide +kernel
theorem dL_law_606 : decode cL_law 606 = .ok (.iload 4, 2) := by decide +kernel
theorem dL_law_608 : decode cL_law 608 = .ok (.iconst 1, 1) := by decide +kernel
theorem dL_law_609 : decode cL_law 609 = .ok (.iadd, 1) := by decide +kernel
theorem dL_law_610 : decode cL_law 610 = .ok (.iaload, 1) := by decide +kernel
theorem dL_law_611 : decode cL_law 611 = .ok (.aload_n 0, 1) := by decide +kernel
theorem dL_law_612 : decode cL_law 612 = .ok (.iload 4, 2) := by decide +kernel
theorem dL_law_614 : decode cL_law 614 = .ok (.iconst 2, 1) := by decide +kernel
theorem dL_law_615 : decode cL_law 615 = .ok (.iadd, 1) := by decide +kernel
theorem dL_law_616 : decode cL_law 616 = .ok (.iaload, 1) := by decide +kernel
theorem dL_law_617 : decode cL_law 617 = .ok (.invokevirtual 89, 3) := by decide +kernel
theorem dL_law_620 : decode cL_law 620 = .ok (.aload_n 2, 1) := by decide +kernel
theorem dL_law_621 : decode cL_law 621 = .ok (.aload_n 0, 1) := by decide +kernel
theorem dL_law_622 : decode cL_law 622 = .ok (.iload 4, 2) := by decide +kernel
theorem dL_law_624 : decode cL_law 624 = .ok (.iconst 1, 1) := by decide +kernel
theorem dL_law_625 : decode cL_law 625 = .ok (.iadd, 1) := by decide +kernel
theorem dL_law_626 : decode cL_law 626 = .ok (.iaload, 1) := by decide +kernel
theorem dL_law_627 : decode cL_law 627 = .ok (.aload_n 0, 1) := by decide +kernel
theorem dL_law_628 : decode cL_law 628 = .ok (.iload 4, 2) := by decide +kernel
theorem dL_law_630 : decode cL_law 630 = .ok (.iconst 2, 1) := by decide +kernel
theorem dL_law_631 : decode cL_law 631 = .ok (.iadd, 1) := by decide +kernel
theorem dL_law_632 : decode cL_law 632 = .ok (.iaload, 1) := by decide +kernel
theorem dL_law_633 : decode cL_law 633 = .ok (.invokevirtual 93, 3) := by decide +kernel
theorem dL_law_636 : decode cL_law 636 = .ok (.if_icmp .eq 333, 3) := by decide +kernel
theorem dL_law_639 : decode cL_law 639 = .ok (.iconst 0, 1) := by decide +kernel
theorem dL_law_640 : decode cL_law 640 = .ok (.ireturn, 1) := by decide +kernel
theorem dL_law_641 : decode cL_law 641 = .ok (.aload_n 1, 1) := by decide +kernel
theorem dL_law_642 : decode cL_law 642 = .ok (.aload_n 0, 1) := by decide +kernel
theorem dL_law_643 : decode cL_law 643 = .ok (.iload 4, 2) := by decide +kernel
theorem dL_law_645 : decode cL_law 645 = .ok (.iconst 1, 1) := by decide +kernel
theorem dL_law_646 : decode cL_law 646 = .ok (.iadd, 1) := by decide +kernel
theorem dL_law_647 : decode cL_law 647 = .ok (.iaload, 1) := by decide +kernel
theorem dL_law_648 : decode cL_law 648 = .ok (.invokevirtual 94, 3) := by decide +kernel
theorem dL_law_651 : decode cL_law 651 = .ok (.aload_n 2, 1) := by decide +kernel
theorem dL_law_652 : decode cL_law 652 = .ok (.aload_n 0, 1) := by decide +kernel
theorem dL_law_653 : decode cL_law 653 = .ok (.iload 4, 2) := by decide +kernel
theorem dL_law_655 : decode cL_law 655 = .ok (.iconst 1, 1) := by decide +kernel
theorem dL_law_656 : decode cL_law 656 = .ok (.iadd, 1) := by decide +kernel
theorem dL_law_657 : decode cL_law 657 = .ok (.iaload, 1) := by decide +kernel
theorem dL_law_658 : decode cL_law 658 = .ok (.invokevirtual 97, 3) := by decide +kernel
theorem dL_law_661 : decode cL_law 661 = .ok (.if_icmp .eq 308, 3) := by decide +kernel
theorem dL_law_664 : decode cL_law 664 = .ok (.iconst 0, 1) := by decide +kernel
theorem dL_law_665 : decode cL_law 665 = .ok (.ireturn, 1) := by decide +kernel
theorem dL_law_666 : decode cL_law 666 = .ok (.aload_n 1, 1) := by decide +kernel
theorem dL_law_667 : decode cL_law 667 = .ok (.aload_n 0, 1) := by decide +kernel
theorem dL_law_668 : decode cL_law 668 = .ok (.iload 4, 2) := by decide +kernel
theorem dL_law_670 : decode cL_law 670 = .ok (.iconst 1, 1) := by decide +kernel
theorem dL_law_671 : decode cL_law 671 = .ok (.iadd, 1) := by decide +kernel
theorem dL_law_672 : decode cL_law 672 = .ok (.iaload, 1) := by decide +kernel
theorem dL_law_673 : decode cL_law 673 = .ok (.aload_n 0, 1) := by decide +kernel
theorem dL_law_674 : decode cL_law 674 = .ok (.iload 4, 2) := by decide +kernel
theorem dL_law_676 : decode cL_law 676 = .ok (.iconst 2, 1) := by decide +kernel
theorem dL_law_677 : decode cL_law 677 = .ok (.iadd, 1) := by decide +kernel
theorem dL_law_678 : decode cL_law 678 = .ok (.iaload, 1) := by decide +kernel
theorem dL_law_679 : decode cL_law 679 = .ok (.aload_n 3, 1) := by decide +kernel
theorem dL_law_680 : decode cL_law 680 = .ok (.invokestatic 98, 3) := by decide +kernel
theorem dL_law_683 : decode cL_law 683 = .ok (.istore 5, 2) := by decide +kernel
theorem dL_law_685 : decode cL_law 685 = .ok (.aload_n 2, 1) := by decide +kernel
theorem dL_law_686 : decode cL_law 686 = .ok (.aload_n 0, 1) := by decide +kernel
theorem dL_law_687 : decode cL_law 687 = .ok (.iload 4, 2) := by decide +kernel
theorem dL_law_689 : decode cL_law 689 = .ok (.iconst 1, 1) := by decide +kernel
theorem dL_law_690 : decode cL_law 690 = .ok (.iadd, 1) := by decide +kernel
theorem dL_law_691 : decode cL_law 691 = .ok (.iaload, 1) := by decide +kernel
theorem dL_law_692 : decode cL_law 692 = .ok (.aload_n 0, 1) := by decide +kernel
theorem dL_law_693 : decode cL_law 693 = .ok (.iload 4, 2) := by decide +kernel
theorem dL_law_695 : decode cL_law 695 = .ok (.iconst 2, 1) := by decide +kernel
theorem dL_law_696 : decode cL_law 696 = .ok (.iadd, 1) := by decide +kernel
theorem dL_law_697 : decode cL_law 697 = .ok (.iaload, 1) := by decide +kernel
theorem dL_law_698 : decode cL_law 698 = .ok (.invokevirtual 101, 3) := by decide +kernel
theorem dL_law_701 : decode cL_law 701 = .ok (.istore 6, 2) := by decide +kernel
theorem dL_law_703 : decode cL_law 703 = .ok (.aload_n 2, 1) := by decide +kernel
theorem dL_law_704 : decode cL_law 704 = .ok (.invokevirtual 63, 3) := by decide +kernel
theorem dL_law_707 : decode cL_law 707 = .ok (.iload 5, 2) := by decide +kernel
theorem dL_law_709 : decode cL_law 709 = .ok (.if_icmp .eq 5, 3) := by decide +kernel
theorem dL_law_712 : decode cL_law 712 = .ok (.iconst 0, 1) := by decide +kernel
theorem dL_law_713 : decode cL_law 713 = .ok (.ireturn, 1) := by decide +kernel
theorem dL_law_714 : decode cL_law 714 = .ok (.iload 5, 2) := by decide +kernel
theorem dL_law_716 : decode cL_law 716 = .ok (.ifCond .ne 15, 3) := by decide +kernel
theorem dL_law_719 : decode cL_law 719 = .ok (.aload_n 3, 1) := by decide +kernel
theorem dL_law_720 : decode cL_law 720 = .ok (.iconst 0, 1) := by decide +kernel
theorem dL_law_721 : decode cL_law 721 = .ok (.laload, 1) := by decide +kernel
theorem dL_law_722 : decode cL_law 722 = .ok (.iload 6, 2) := by decide +kernel
theorem dL_law_724 : decode cL_law 724 = .ok (.i2l, 1) := by decide +kernel
theorem dL_law_725 : decode cL_law 725 = .ok (.lcmp, 1) := by decide +kernel
theorem dL_law_726 : decode cL_law 726 = .ok (.ifCond .eq 5, 3) := by decide +kernel
theorem dL_law_729 : decode cL_law 729 = .ok (.iconst 0, 1) := by decide +kernel
theorem dL_law_730 : decode cL_law 730 = .ok (.ireturn, 1) := by decide +kernel
theorem dL_law_731 : decode cL_law 731 = .ok (.goto 238, 3) := by decide +kernel
theorem dL_law_734 : decode cL_law 734 = .ok (.aload_n 1, 1) := by decide +kernel
theorem dL_law_735 : decode cL_law 735 = .ok (.aload_n 0, 1) := by decide +kernel
theorem dL_law_736 : decode cL_law 736 = .ok (.iload 4, 2) := by decide +kernel
theorem dL_law_738 : decode cL_law 738 = .ok (.iconst 1, 1) := by decide +kernel
theorem dL_law_739 : decode cL_law 739 = .ok (.iadd, 1) := by decide +kernel
theorem dL_law_740 : decode cL_law 740 = .ok (.iaload, 1) := by decide +kernel
theorem dL_law_741 : decode cL_law 741 = .ok (.aload_n 0, 1) := by decide +kernel
theorem dL_law_742 : decode cL_law 742 = .ok (.iload 4, 2) := by decide +kernel
theorem dL_law_744 : decode cL_law 744 = .ok (.iconst 2, 1) := by decide +kernel
theorem dL_law_745 : decode cL_law 745 = .ok (.iadd, 1) := by decide +kernel
theorem dL_law_746 : decode cL_law 746 = .ok (.iaload, 1) := by decide +kernel
theorem dL_law_747 : decode cL_law 747 = .ok (.aload_n 0, 1) := by decide +kernel
theorem dL_law_748 : decode cL_law 748 = .ok (.iload 4, 2) := by decide +kernel
theorem dL_law_750 : decode cL_law 750 = .ok (.iconst 3, 1) := by decide +kernel
theorem dL_law_751 : decode cL_law 751 = .ok (.iadd, 1) := by decide +kernel
theorem dL_law_752 : decode cL_law 752 = .ok (.iaload, 1) := by decide +kernel
theorem dL_law_753 : decode cL_law 753 = .ok (.aload_n 3, 1) := by decide +kernel
theorem dL_law_754 : decode cL_law 754 = .ok (.invokestatic 102, 3) := by decide +kernel
theorem dL_law_757 : decode cL_law 757 = .ok (.istore 5, 2) := by decide +kernel
theorem dL_law_759 : decode cL_law 759 = .ok (.aload_n 2, 1) := by decide +kernel
theorem dL_law_760 : decode cL_law 760 = .ok (.aload_n 0, 1) := by decide +kernel
theorem dL_law_761 : decode cL_law 761 = .ok (.iload 4, 2) := by decide +kernel
theorem dL_law_763 : decode cL_law 763 = .ok (.iconst 1, 1) := by decide +kernel
theorem dL_law_764 : decode cL_law 764 = .ok (.iadd, 1) := by decide +kernel
theorem dL_law_765 : decode cL_law 765 = .ok (.iaload, 1) := by decide +kernel
theorem dL_law_766 : decode cL_law 766 = .ok (.aload_n 0, 1) := by decide +kernel
theorem dL_law_767 : decode cL_law 767 = .ok (.iload 4, 2) := by decide +kernel
theorem dL_law_769 : decode cL_law 769 = .ok (.iconst 2, 1) := by decide +kernel
theorem dL_law_770 : decode cL_law 770 = .ok (.iadd, 1) := by decide +kernel
theorem dL_law_771 : decode cL_law 771 = .ok (.iaload, 1) := by decide +kernel
theorem dL_law_772 : decode cL_law 772 = .ok (.aload_n 0, 1) := by decide +kernel
theorem dL_law_773 : decode cL_law 773 = .ok (.iload 4, 2) := by decide +kernel
theorem dL_law_775 : decode cL_law 775 = .ok (.iconst 3, 1) := by decide +kernel
theorem dL_law_776 : decode cL_law 776 = .ok (.iadd, 1) := by decide +kernel
theorem dL_law_777 : decode cL_law 777 = .ok (.iaload, 1) := by decide +kernel
theorem dL_law_778 : decode cL_law 778 = .ok (.invokevirtual 105, 3) := by decide +kernel
theorem dL_law_781 : decode cL_law 781 = .ok (.istore 6, 2) := by decide +kernel
theorem dL_law_783 : decode cL_law 783 = .ok (.aload_n 2, 1) := by decide +kernel
theorem dL_law_784 : decode cL_law 784 = .ok (.invokevirtual 63, 3) := by decide +kernel
theorem dL_law_787 : decode cL_law 787 = .ok (.iload 5, 2) := by decide +kernel
theorem dL_law_789 : decode cL_law 789 = .ok (.if_icmp .eq 5, 3) := by decide +kernel
theorem dL_law_792 : decode cL_law 792 = .ok (.iconst 0, 1) := by decide +kernel
theorem dL_law_793 : decode cL_law 793 = .ok (.ireturn, 1) := by decide +kernel
theorem dL_law_794 : decode cL_law 794 = .ok (.iload 5, 2) := by decide +kernel
theorem dL_law_796 : decode cL_law 796 = .ok (.ifCond .ne 15, 3) := by decide +kernel
theorem dL_law_799 : decode cL_law 799 = .ok (.aload_n 3, 1) := by decide +kernel
theorem dL_law_800 : decode cL_law 800 = .ok (.iconst 0, 1) := by decide +kernel
theorem dL_law_801 : decode cL_law 801 = .ok (.laload, 1) := by decide +kernel
theorem dL_law_802 : decode cL_law 802 = .ok (.iload 6, 2) := by decide +kernel
theorem dL_law_804 : decode cL_law 804 = .ok (.i2l, 1) := by decide +kernel
theorem dL_law_805 : decode cL_law 805 = .ok (.lcmp, 1) := by decide +kernel
theorem dL_law_806 : decode cL_law 806 = .ok (.ifCond .eq 5, 3) := by decide +kernel
theorem dL_law_809 : decode cL_law 809 = .ok (.iconst 0, 1) := by decide +kernel
theorem dL_law_810 : decode cL_law 810 = .ok (.ireturn, 1) := by decide +kernel
theorem dL_law_811 : decode cL_law 811 = .ok (.goto 158, 3) := by decide +kernel
theorem dL_law_814 : decode cL_law 814 = .ok (.aload_n 1, 1) := by decide +kernel
theorem dL_law_815 : decode cL_law 815 = .ok (.aload_n 0, 1) := by decide +kernel
theorem dL_law_816 : decode cL_law 816 = .ok (.iload 4, 2) := by decide +kernel
theorem dL_law_818 : decode cL_law 818 = .ok (.iconst 1, 1) := by decide +kernel
theorem dL_law_819 : decode cL_law 819 = .ok (.iadd, 1) := by decide +kernel
theorem dL_law_820 : decode cL_law 820 = .ok (.iaload, 1) := by decide +kernel
theorem dL_law_821 : decode cL_law 821 = .ok (.aload_n 0, 1) := by decide +kernel
theorem dL_law_822 : decode cL_law 822 = .ok (.iload 4, 2) := by decide +kernel
theorem dL_law_824 : decode cL_law 824 = .ok (.iconst 2, 1) := by decide +kernel
theorem dL_law_825 : decode cL_law 825 = .ok (.iadd, 1) := by decide +kernel
theorem dL_law_826 : decode cL_law 826 = .ok (.iaload, 1) := by decide +kernel
theorem dL_law_827 : decode cL_law 827 = .ok (.aload_n 0, 1) := by decide +kernel
theorem dL_law_828 : decode cL_law 828 = .ok (.iload 4, 2) := by decide +kernel
theorem dL_law_830 : decode cL_law 830 = .ok (.iconst 3, 1) := by decide +kernel
theorem dL_law_831 : decode cL_law 831 = .ok (.iadd, 1) := by decide +kernel
theorem dL_law_832 : decode cL_law 832 = .ok (.iaload, 1) := by decide +kernel
theorem dL_law_833 : decode cL_law 833 = .ok (.aload_n 0, 1) := by decide +kernel
theorem dL_law_834 : decode cL_law 834 = .ok (.iload 4, 2) := by decide +kernel
theorem dL_law_836 : decode cL_law 836 = .ok (.iconst 4, 1) := by decide +kernel
theorem dL_law_837 : decode cL_law 837 = .ok (.iadd, 1) := by decide +kernel
theorem dL_law_838 : decode cL_law 838 = .ok (.iaload, 1) := by decide +kernel
theorem dL_law_839 : decode cL_law 839 = .ok (.invokevirtual 106, 3) := by decide +kernel
theorem dL_law_842 : decode cL_law 842 = .ok (.aload_n 2, 1) := by decide +kernel
theorem dL_law_843 : decode cL_law 843 = .ok (.aload_n 0, 1) := by decide +kernel
theorem dL_law_844 : decode cL_law 844 = .ok (.iload 4, 2) := by decide +kernel
theorem dL_law_846 : decode cL_law 846 = .ok (.iconst 1, 1) := by decide +kernel
theorem dL_law_847 : decode cL_law 847 = .ok (.iadd, 1) := by decide +kernel
theorem dL_law_848 : decode cL_law 848 = .ok (.iaload, 1) := by decide +kernel
theorem dL_law_849 : decode cL_law 849 = .ok (.aload_n 0, 1) := by decide +kernel
theorem dL_law_850 : decode cL_law 850 = .ok (.iload 4, 2) := by decide +kernel
theorem dL_law_852 : decode cL_law 852 = .ok (.iconst 2, 1) := by decide +kernel
theorem dL_law_853 : decode cL_law 853 = .ok (.iadd, 1) := by decide +kernel
theorem dL_law_854 : decode cL_law 854 = .ok (.iaload, 1) := by decide +kernel
theorem dL_law_855 : decode cL_law 855 = .ok (.aload_n 0, 1) := by decide +kernel
theorem dL_law_856 : decode cL_law 856 = .ok (.iload 4, 2) := by decide +kernel
theorem dL_law_858 : decode cL_law 858 = .ok (.iconst 3, 1) := by decide +kernel
theorem dL_law_859 : decode cL_law 859 = .ok (.iadd, 1) := by decide +kernel
theorem dL_law_860 : decode cL_law 860 = .ok (.iaload, 1) := by decide +kernel
theorem dL_law_861 : decode cL_law 861 = .ok (.aload_n 0, 1) := by decide +kernel
theorem dL_law_862 : decode cL_law 862 = .ok (.iload 4, 2) := by decide +kernel
theorem dL_law_864 : decode cL_law 864 = .ok (.iconst 4, 1) := by decide +kernel
theorem dL_law_865 : decode cL_law 865 = .ok (.iadd, 1) := by decide +kernel
theorem dL_law_866 : decode cL_law 866 = .ok (.iaload, 1) := by decide +kernel
theorem dL_law_867 : decode cL_law 867 = .ok (.invokevirtual 110, 3) := by decide +kernel
theorem dL_law_870 : decode cL_law 870 = .ok (.lcmp, 1) := by decide +kernel
theorem dL_law_871 : decode cL_law 871 = .ok (.ifCond .eq 98, 3) := by decide +kernel
theorem dL_law_874 : decode cL_law 874 = .ok (.iconst 0, 1) := by decide +kernel
theorem dL_law_875 : decode cL_law 875 = .ok (.ireturn, 1) := by decide +kernel
theorem dL_law_876 : decode cL_law 876 = .ok (.aload_n 1, 1) := by decide +kernel
theorem dL_law_877 : decode cL_law 877 = .ok (.aload_n 0, 1) := by decide +kernel
theorem dL_law_878 : decode cL_law 878 = .ok (.iload 4, 2) := by decide +kernel
theorem dL_law_880 : decode cL_law 880 = .ok (.iconst 1, 1) := by decide +kernel
theorem dL_law_881 : decode cL_law 881 = .ok (.iadd, 1) := by decide +kernel
theorem dL_law_882 : decode cL_law 882 = .ok (.iaload, 1) := by decide +kernel
theorem dL_law_883 : decode cL_law 883 = .ok (.aload_n 0, 1) := by decide +kernel
theorem dL_law_884 : decode cL_law 884 = .ok (.iload 4, 2) := by decide +kernel
theorem dL_law_886 : decode cL_law 886 = .ok (.iconst 2, 1) := by decide +kernel
theorem dL_law_887 : decode cL_law 887 = .ok (.iadd, 1) := by decide +kernel
theorem dL_law_888 : decode cL_law 888 = .ok (.iaload, 1) := by decide +kernel
theorem dL_law_889 : decode cL_law 889 = .ok (.aload_n 3, 1) := by decide +kernel
theorem dL_law_890 : decode cL_law 890 = .ok (.invokestatic 111, 3) := by decide +kernel
theorem dL_law_893 : decode cL_law 893 = .ok (.istore 5, 2) := by decide +kernel
theorem dL_law_895 : decode cL_law 895 = .ok (.aload_n 2, 1) := by decide +kernel
theorem dL_law_896 : decode cL_law 896 = .ok (.aload_n 0, 1) := by decide +kernel
theorem dL_law_897 : decode cL_law 897 = .ok (.iload 4, 2) := by decide +kernel
theorem dL_law_899 : decode cL_law 899 = .ok (.iconst 1, 1) := by decide +kernel
theorem dL_law_900 : decode cL_law 900 = .ok (.iadd, 1) := by decide +kernel
theorem dL_law_901 : decode cL_law 901 = .ok (.iaload, 1) := by decide +kernel
theorem dL_law_902 : decode cL_law 902 = .ok (.aload_n 0, 1) := by decide +kernel
theorem dL_law_903 : decode cL_law 903 = .ok (.iload 4, 2) := by decide +kernel
theorem dL_law_905 : decode cL_law 905 = .ok (.iconst 2, 1) := by decide +kernel
theorem dL_law_906 : decode cL_law 906 = .ok (.iadd, 1) := by decide +kernel
theorem dL_law_907 : decode cL_law 907 = .ok (.iaload, 1) := by decide +kernel
theorem dL_law_908 : decode cL_law 908 = .ok (.invokevirtual 113, 3) := by decide +kernel
theorem dL_law_911 : decode cL_law 911 = .ok (.istore 6, 2) := by decide +kernel
theorem dL_law_913 : decode cL_law 913 = .ok (.aload_n 2, 1) := by decide +kernel
theorem dL_law_914 : decode cL_law 914 = .ok (.invokevirtual 63, 3) := by decide +kernel
theorem dL_law_917 : decode cL_law 917 = .ok (.iload 5, 2) := by decide +kernel
theorem dL_law_919 : decode cL_law 919 = .ok (.if_icmp .eq 5, 3) := by decide +kernel
theorem dL_law_922 : decode cL_law 922 = .ok (.iconst 0, 1) := by decide +kernel
theorem dL_law_923 : decode cL_law 923 = .ok (.ireturn, 1) := by decide +kernel
theorem dL_law_924 : decode cL_law 924 = .ok (.iload 5, 2) := by decide +kernel
theorem dL_law_926 : decode cL_law 926 = .ok (.ifCond .ne 15, 3) := by decide +kernel
theorem dL_law_929 : decode cL_law 929 = .ok (.aload_n 3, 1) := by decide +kernel
theorem dL_law_930 : decode cL_law 930 = .ok (.iconst 0, 1) := by decide +kernel
theorem dL_law_931 : decode cL_law 931 = .ok (.laload, 1) := by decide +kernel
theorem dL_law_932 : decode cL_law 932 = .ok (.iload 6, 2) := by decide +kernel
theorem dL_law_934 : decode cL_law 934 = .ok (.i2l, 1) := by decide +kernel
theorem dL_law_935 : decode cL_law 935 = .ok (.lcmp, 1) := by decide +kernel
theorem dL_law_936 : decode cL_law 936 = .ok (.ifCond .eq 5, 3) := by decide +kernel
theorem dL_law_939 : decode cL_law 939 = .ok (.iconst 0, 1) := by decide +kernel
theorem dL_law_940 : decode cL_law 940 = .ok (.ireturn, 1) := by decide +kernel
theorem dL_law_941 : decode cL_law 941 = .ok (.goto 28, 3) := by decide +kernel
theorem dL_law_944 : decode cL_law 944 = .ok (.aload_n 1, 1) := by decide +kernel
theorem dL_law_945 : decode cL_law 945 = .ok (.aload_n 0, 1) := by decide +kernel
theorem dL_law_946 : decode cL_law 946 = .ok (.iload 4, 2) := by decide +kernel
theorem dL_law_948 : decode cL_law 948 = .ok (.iconst 1, 1) := by decide +kernel
theorem dL_law_949 : decode cL_law 949 = .ok (.iadd, 1) := by decide +kernel
theorem dL_law_950 : decode cL_law 950 = .ok (.iaload, 1) := by decide +kernel
theorem dL_law_951 : decode cL_law 951 = .ok (.invokevirtual 114, 3) := by decide +kernel
theorem dL_law_954 : decode cL_law 954 = .ok (.aload_n 2, 1) := by decide +kernel
theorem dL_law_955 : decode cL_law 955 = .ok (.aload_n 0, 1) := by decide +kernel
theorem dL_law_956 : decode cL_law 956 = .ok (.iload 4, 2) := by decide +kernel
theorem dL_law_958 : decode cL_law 958 = .ok (.iconst 1, 1) := by decide +kernel
theorem dL_law_959 : decode cL_law 959 = .ok (.iadd, 1) := by decide +kernel
theorem dL_law_960 : decode cL_law 960 = .ok (.iaload, 1) := by decide +kernel
theorem dL_law_961 : decode cL_law 961 = .ok (.invokevirtual 117, 3) := by decide +kernel
theorem dL_law_964 : decode cL_law 964 = .ok (.if_icmp .eq 5, 3) := by decide +kernel
theorem dL_law_967 : decode cL_law 967 = .ok (.iconst 0, 1) := by decide +kernel
theorem dL_law_968 : decode cL_law 968 = .ok (.ireturn, 1) := by decide +kernel
theorem dL_law_969 : decode cL_law 969 = .ok (.iinc 4 6, 3) := by decide +kernel
theorem dL_law_972 : decode cL_law 972 = .ok (.goto (-949), 3) := by decide +kernel
theorem dL_law_975 : decode cL_law 975 = .ok (.iconst 1, 1) := by decide +kernel
theorem dL_law_976 : decode cL_law 976 = .ok (.ireturn, 1) := by decide +kernel
end
section
/-! ===== THE ABSTRACT HEAP: what is known of the cells, by their addresses ===== -/
abbrev AE : Type := (FieldType × vp_A) ⊕ (Nat × List Value)
abbrev AH : Type := Nat → Option AE
def hup (h : AH) (a : Nat) (e : AE) : AH := fun q => if q = a then some e else h q
theorem hup_s (h : AH) (a : Nat) (e : AE) : hup h a e a = some e := if_pos rfl
theorem hup_n {h : AH} {a q : Nat} {e : AE} (n : q ≠ a) : hup h a e q = h q := if_neg n
theorem hup_hup (h : AH) (a : Nat) (e e' : AE) : hup (hup h a e) a e' = hup h a e' := by
  funext q; unfold hup; split <;> rfl
theorem hup_id {h : AH} {a : Nat} {e : AE} (he : h a = some e) : hup h a e = h := by
  funext q; unfold hup; split
  · next hq => rw [hq, he]
  · rfl
def hat (D : va_G) (U : State) (a : Nat) (e : AE) (H : Heap) : Prop := match e with
  | .inl x => ∃ cA : ClassId, ArrOfT U cA x.1 ∧ va_RA U cA x.1 ∧ H[a]? = some (vp_cell cA x.2)
  | .inr o => va_at D vwCl (a, .inr o) H
theorem hat.kept {D : va_G} {U : State} {a : Nat} {e : AE} {H H1 : Heap} (h : hat D U a e H) (hq : H1[a]? = H[a]?) : hat D U a e H1 := by
  cases e with
  | inl x => obtain ⟨cA, h1, h2, h3⟩ := h; exact ⟨cA, h1, h2, hq.trans h3⟩
  | inr o => exact va_at.kept (q := (a, .inr o)) h hq
theorem hat.lt {D : va_G} {U : State} {a : Nat} {e : AE} {H : Heap} (h : hat D U a e H) : a < H.size := by
  cases e with
  | inl x => obtain ⟨cA, h1, h2, h3⟩ := h; exact (Array.getElem?_eq_some_iff.mp h3).1
  | inr o => exact va_at.lt (q := (a, .inr o)) h
theorem hat.moved {D : va_G} {u U : State} {a : Nat} {e : AE} {H : Heap} (hvm : u.vm.Alike U.vm) (h : hat D u a e H) : hat D U a e H := by
  cases e with
  | inl x => obtain ⟨cA, h1, h2, h3⟩ := h; exact ⟨cA, arrOfT_moved hvm h1, h2.moved hvm, h3⟩
  | inr o => exact h
def hold (D : va_G) (U : State) (h : AH) (H : Heap) : Prop := ∀ (a : Nat) (e : AE), h a = some e → hat D U a e H
theorem hold.moved {D : va_G} {u U : State} {h : AH} {H : Heap} (hvm : u.vm.Alike U.vm) (hh : hold D u h H) : hold D U h H := fun a e he => (hh a e he).moved hvm
theorem hold.kept {D : va_G} {U : State} {h : AH} {H H1 : Heap} (hh : hold D U h H) (hq : ∀ a : Nat, a < H.size → H1[a]? = H[a]?) : hold D U h H1 := fun a e he => (hh a e he).kept (hq a (hh a e he).lt)
theorem hold.free {D : va_G} {U : State} {h : AH} {H : Heap} (hh : hold D U h H) : h H.size = none := by
  cases he : h H.size with
  | none => rfl
  | some e => exact absurd (hh _ _ he).lt (Nat.lt_irrefl _)
theorem hold.upd {D : va_G} {U : State} {h : AH} {H H1 : Heap} {a : Nat} {e : AE} (hh : hold D U h H) (oq : ∀ q : Nat, q ≠ a → H1[q]? = H[q]?) (he : hat D U a e H1) : hold D U (hup h a e) H1 := by
  intro q e' hq
  by_cases hqa : q = a
  · subst hqa
    rw [hup_s] at hq
    cases hq
    exact he
  · rw [hup_n hqa] at hq
    exact (hh q e' hq).kept (oq q hqa)
/-! ===== THE LOCALS by their places ===== -/
def lvh (ls : Array Slot) (nL : Nat) (lv : List (Option Value)) : Prop := ls.size = nL ∧ lv_wf ls ∧ ∀ (i : Nat) (v : Value), lv[i]? = some (some v) → ls[i]? = some (.val v)
def prs : Nat → List (Option Value) → List (Nat × Value)
  | _, [] => []
  | n, none :: r => prs (n + 1) r
  | n, some v :: r => (n, v) :: prs (n + 1) r
theorem prs_mem : ∀ (lv : List (Option Value)) (n : Nat) (q : Nat × Value), q ∈ prs n lv → ∃ k, lv[k]? = some (some q.2) ∧ q.1 = n + k
  | [], _, _, h => by cases h
  | none :: r, n, q, h => by
    obtain ⟨k, h1, h2⟩ := prs_mem r (n + 1) q h
    exact ⟨k + 1, h1, by omega⟩
  | some v :: r, n, q, h => by
    rcases List.mem_cons.mp h with h | h
    · subst h; exact ⟨0, rfl, rfl⟩
    · obtain ⟨k, h1, h2⟩ := prs_mem r (n + 1) q h
      exact ⟨k + 1, h1, by omega⟩
theorem mem_prs : ∀ (lv : List (Option Value)) (n k : Nat) (v : Value), lv[k]? = some (some v) → (n + k, v) ∈ prs n lv
  | [], _, _, _, h => by simp at h
  | none :: r, n, k, v, h => by
    cases k with
    | zero => simp at h
    | succ k =>
      have := mem_prs r (n + 1) k v (by simpa using h)
      have e : n + (k + 1) = n + 1 + k := by omega
      rw [e]; exact this
  | some w :: r, n, k, v, h => by
    cases k with
    | zero =>
      have hw : w = v := by simpa using h
      subst hw; exact List.mem_cons_self
    | succ k =>
      have := mem_prs r (n + 1) k v (by simpa using h)
      have e : n + (k + 1) = n + 1 + k := by omega
      rw [e]; exact List.mem_cons_of_mem _ this
theorem lvh.has {ls : Array Slot} {nL : Nat} {lv : List (Option Value)} (h : lvh ls nL lv) : lv_has ls nL (prs 0 lv) := by
  refine ⟨h.1, h.2.1, fun q hq => ?_⟩
  obtain ⟨k, h1, h2⟩ := prs_mem lv 0 q hq
  rw [show q.1 = k by omega]
  exact h.2.2 k q.2 h1
/-- the place before i holds nothing of two places -/
def lc1 (lv : List (Option Value)) (i : Nat) : Prop := ∀ (j : Nat) (w : Value), j + 1 = i → lv[j]? = some (some w) → w.category = 1
theorem lvh.st1 {ls' : Array Slot} {nL : Nat} {lv : List (Option Value)} {i : Nat} {v : Value} (hp : lc1 lv i)
    (h' : lv_has ls' nL ((i, v) :: (prs 0 lv).filter (fun q => !(q.1 == i) && !(q.1 + 1 == i && q.2.category == 2)))) : lvh ls' nL (lv.set i (some v)) := by
  refine ⟨h'.1, h'.2.1, fun j w hj => ?_⟩
  by_cases hji : j = i
  · subst hji
    rw [List.getElem?_set] at hj
    have hw : w = v := by
      split at hj
      · split at hj
        · simpa using hj.symm
        · cases hj
      · rename_i hh; exact absurd rfl hh
    subst hw
    exact h'.2.2 _ List.mem_cons_self
  · rw [List.getElem?_set_ne (Ne.symm hji)] at hj
    refine h'.2.2 (j, w) (List.mem_cons_of_mem _ (List.mem_filter.mpr ⟨?_, ?_⟩))
    · have := mem_prs lv 0 j w hj
      rwa [Nat.zero_add] at this
    · by_cases hj1 : j + 1 = i
      · have := hp j w hj1 hj
        simp [hji, this]
      · simp [hji, hj1]
theorem lvh.st2 {ls' : Array Slot} {nL : Nat} {lv : List (Option Value)} {i : Nat} {v : Value} (hp : lc1 lv i)
    (h' : lv_has ls' nL ((i, v) :: (prs 0 lv).filter (fun q => !(q.1 == i) && (!(q.1 == i + 1) && !(q.1 + 1 == i && q.2.category == 2))))) : lvh ls' nL ((lv.set i (some v)).set (i + 1) none) := by
  refine ⟨h'.1, h'.2.1, fun j w hj => ?_⟩
  by_cases hj1 : j = i + 1
  · subst hj1
    rw [List.getElem?_set] at hj
    exfalso
    split at hj
    · split at hj
      · simp at hj
      · cases hj
    · rename_i hh; exact absurd rfl hh
  · rw [List.getElem?_set_ne (Ne.symm hj1)] at hj
    by_cases hji : j = i
    · subst hji
      rw [List.getElem?_set] at hj
      have hw : w = v := by
        split at hj
        · split at hj
          · simpa using hj.symm
          · cases hj
        · rename_i hh; exact absurd rfl hh
      subst hw
      exact h'.2.2 _ List.mem_cons_self
    · rw [List.getElem?_set_ne (Ne.symm hji)] at hj
      refine h'.2.2 (j, w) (List.mem_cons_of_mem _ (List.mem_filter.mpr ⟨?_, ?_⟩))
      · have := mem_prs lv 0 j w hj
        rwa [Nat.zero_add] at this
      · by_cases hj2 : j + 1 = i
        · have := hp j w hj2 hj
          simp [hji, hj1, this]
        · simp [hji, hj1, hj2]
/-- the locals at a method's entry -/
def enl : List Value → List (Option Value)
  | [] => []
  | v :: vs => if v.category = 2 then some v :: none :: enl vs else some v :: enl vs
theorem enl_args : ∀ (vs : List Value) (n k : Nat) (v : Value), (enl vs)[k]? = some (some v) → (n + k, v) ∈ lv_args n vs
  | [], _, _, _, h => by simp [enl] at h
  | w :: vs, n, k, v, h => by
    unfold enl at h
    unfold lv_args
    by_cases hc : w.category = 2
    · rw [if_pos hc] at h ⊢
      match k, h with
      | 0, h =>
        have : w = v := by simpa using h
        subst this; exact List.mem_cons_self
      | 1, h => simp at h
      | k + 2, h =>
        have := enl_args vs (n + 2) k v (by simpa using h)
        have e : n + (k + 2) = n + 2 + k := by omega
        rw [e]; exact List.mem_cons_of_mem _ this
    · rw [if_neg hc] at h ⊢
      match k, h with
      | 0, h =>
        have : w = v := by simpa using h
        subst this; exact List.mem_cons_self
      | k + 1, h =>
        have := enl_args vs (n + 1) k v (by simpa using h)
        have e : n + (k + 1) = n + 1 + k := by omega
        rw [e]; exact List.mem_cons_of_mem _ this
theorem lvh_entry (vs : List Value) {n : Nat} (h : (lg_sl vs).length ≤ n) : lvh ((lg_sl vs ++ List.replicate (n - (lg_sl vs).length) Slot.unset).toArray) n (enl vs ++ List.replicate (n - (enl vs).length) none) := by
  have h0 := lv_entry vs h
  refine ⟨h0.1, h0.2.1, fun i v hi => ?_⟩
  have hi' : (enl vs)[i]? = some (some v) := by
    by_cases hl : i < (enl vs).length
    · rwa [List.getElem?_append_left hl] at hi
    · rw [List.getElem?_append_right (by omega), List.getElem?_replicate] at hi
      split at hi
      · simp at hi
      · cases hi
  have := enl_args vs 0 i v hi'
  rw [Nat.zero_add] at this
  exact h0.2.2 _ this
end
section
/-! ===== THE WORLD that a run keeps: the launch, the classes' numbers, the heap at the law's start ===== -/
def gW : List Cond := lw_tbl.filter goodWord
theorem gW_in {w : Cond} (h : w ∈ lw_tbl) (hg : goodWord w = true) : w ∈ gW := List.mem_filter.mpr ⟨h, hg⟩
abbrev KT : Type := Launch × va_G × Heap × (Nat → Nat)
def kA (K : KT) : Nat → Prop := fun q => K.2.2.1.size ≤ q
def lstV (j : Nat) : Int32 := [0, 0, 1, 1, 0, -7, 0].getD j 0
def grtV (j : Nat) : Int32 := [2047, 1, 57600, 99999, 32767, 7, 65535].getD j 0
def fstV (j : Nat) : Int32 := [277, 0, 1000, 1200, 0, 0, 3].getD j 0
def nwW : List Cond := [.methodLinkNest RX3 30 yX0_init "FontShelf", .methodLinkNest RX2 51 yX3_within "FontShelf", .methodLinkNest RX1 35 yX3_within "FontShelf"]
def ncW : List (String × String) := [("[I", "java/lang/Cloneable"), ("FontShelf$Font", "FontShelf$Font"), ("FontShelf$Font", "java/lang/Object"), ("java/lang/IllegalStateException", "java/lang/IllegalStateException"), ("java/lang/IllegalArgumentException", "java/lang/IllegalArgumentException"), ("java/lang/UnsupportedOperationException", "java/lang/UnsupportedOperationException"), ("java/lang/IndexOutOfBoundsException", "java/lang/IndexOutOfBoundsException")]
def naW : List (String × String) := [("java/lang/IllegalArgumentException", "java/lang/IllegalStateException"), ("java/lang/UnsupportedOperationException", "java/lang/IllegalStateException"), ("java/lang/IllegalStateException", "java/lang/IllegalArgumentException")]
def dcM : List MethodName := [⟨"java/lang/RuntimeException", "<init>", "()V"⟩, ⟨"java/lang/RuntimeException", "<init>", "(Ljava/lang/String;)V"⟩, ⟨"java/lang/Exception", "<init>", "()V"⟩, ⟨"java/lang/Exception", "<init>", "(Ljava/lang/String;)V"⟩, ⟨"java/lang/Throwable", "<init>", "()V"⟩, ⟨"java/lang/Throwable", "<init>", "(Ljava/lang/String;)V"⟩]
/-- the statics, at the law's start -/
def KS (K : KT) (U : State) : Prop :=
  va_Z "FontShelf" "LEAST_VALUE" "[I" (.ref (K.2.2.2 0)) (kA K) U K.2.2.1 ∧ va_T .int (K.2.2.2 0) 7 (fun j => .int (lstV j)) (kA K) U K.2.2.1 ∧
  va_Z "FontShelf" "GREATEST_VALUE" "[I" (.ref (K.2.2.2 1)) (kA K) U K.2.2.1 ∧ va_T .int (K.2.2.2 1) 7 (fun j => .int (grtV j)) (kA K) U K.2.2.1 ∧
  va_Z "FontShelf" "FIRST_DRAFT" "[I" (.ref (K.2.2.2 2)) (kA K) U K.2.2.1 ∧ va_T .int (K.2.2.2 2) 7 (fun j => .int (fstV j)) (kA K) U K.2.2.1 ∧
  va_Z "java/util/ArrayList" "DEFAULTCAPACITY_EMPTY_ELEMENTDATA" "[Ljava/lang/Object;" (.ref (K.2.2.2 3)) (kA K) U K.2.2.1 ∧ va_T (.object "java/lang/Object") (K.2.2.2 3) 0 (fun _ => .null) (kA K) U K.2.2.1 ∧
  vx_Zq Bundle.tN "UNASSIGNED_STACK" Bundle.steD (kA K) U K.2.2.1 ∧ vx_Zq Bundle.tN "SUPPRESSED_SENTINEL" Bundle.listD (kA K) U K.2.2.1
theorem KS.moved {K : KT} {u U : State} (hvm : u.vm.Alike U.vm) (h : KS K u) : KS K U := by
  obtain ⟨a1, b1, a2, b2, a3, b3, a4, b4, h5, h6⟩ := h
  exact ⟨a1.moved hvm, b1.moved hvm, a2.moved hvm, b2.moved hvm, a3.moved hvm, b3.moved hvm, a4.moved hvm, b4.moved hvm, h5.moved hvm, h6.moved hvm⟩
/-- the tables' facts that no reader of steady words carries -/
def KW (K : KT) (U : State) : Prop :=
  K.1.stackTraces = false ∧ va_K K.2.1 vwCl [] U ∧ KS K U ∧ (∀ w ∈ nwW, va_Nw w U) ∧ va_Nw (.fieldLinkNest RX0 9 "FontShelf" "FIRST_DRAFT" "[I" "FontShelf") U ∧ (∀ q ∈ ncW, va_Nw (.castable q.1 q.2) U) ∧ (∀ q ∈ naW, va_Nc q.1 q.2 U) ∧
  (∀ (i : Nat) (tx : String), Cond.stringRef RX3 i tx ∈ tables_1 → ∃ sa : Nat, vk_R RX3 i tx sa U) ∧ (∃ mi : Nat, va_Mi "[Ljava/lang/Object;" mi U) ∧ va_Dc U ∧ va_AO "FontShelf$Choice" U ∧ va_AO "FontShelf$Glyph" U ∧ va_AO "java/lang/Object" U ∧ ∀ y ∈ dcM, va_Nw (.declares y) U
theorem KW.warm {K : KT} {s U : State} (hW : s.WarmedH U.vm) (h : KW K s) : KW K U := by
  obtain ⟨h0, h1, h2, h3, h4, h5, h6, h7, ⟨mi, h8⟩, h9, h10, h11, h12, h13⟩ := h
  refine ⟨h0, va_K.moved hW.alike h1, h2.moved hW.alike, fun w hw => ?_, va_Nw.warmF hW h4, fun q hq => va_Nw.warmC hW (h5 q hq), fun q hq => (h6 q hq).moved hW.alike, fun i tx hm => ?_, ⟨mi, h8.moved hW.alike⟩, h9.moved hW.alike, h10.moved hW.alike, h11.moved hW.alike, h12.moved hW.alike, fun y hy => va_Nw.warmD hW (h13 y hy)⟩
  · have hz := h3 w hw
    simp only [nwW, List.mem_cons, List.not_mem_nil, or_false] at hw
    rcases hw with rfl | rfl | rfl <;> exact va_Nw.warmM hW hz
  · obtain ⟨sa, hs⟩ := h7 i tx hm
    exact ⟨sa, hs.warm hW⟩
def baseOk (K : KT) (H : Heap) : Prop := K.2.2.1.size ≤ H.size ∧ ∀ q : Nat, q < K.2.2.1.size → H[q]? = K.2.2.1[q]?
/-! ===== A METHOD: name, code, locals, what it gives back, its level, its table of handlers ===== -/
abbrev MT : Type := MethodName × ByteArray × Nat × Option FieldType × Nat × List (Nat × Nat × Nat × Nat)
abbrev QR : Type := Option Value → AH → Prop
abbrev QX : Type := String → AH → Prop
def noX : QX := fun _ _ => False
def domOk (K : KT) (h : AH) : Prop := ∀ (a : Nat) (e : AE), h a = some e → kA K a
def pC (K : KT) (As : List Value) (h : AH) : Array Value → State → Prop := va_Pc As (fun U => hold K.2.1 U h U.heap ∧ domOk K h ∧ baseOk K U.heap ∧ KW K U)
def qR (K : KT) (Q : QR) : Array Value → State → Outcome → State → Prop := fun _ st o t => ∃ (r : Option Value) (h' : AH), o = .returned r ∧ Q r h' ∧ hold K.2.1 t h' t.heap ∧ domOk K h' ∧ va_F (kA K) st t
def qX (K : KT) (Q : QX) : String → State → State → Prop := fun E st t => ∃ h' : AH, Q E h' ∧ hold K.2.1 t h' t.heap ∧ domOk K h' ∧ va_F (kA K) st t
def rmM (M : MT) (kc ks : Nat) : Room := { frames := M.2.2.2.2.1, cells := kc, slots := ks, locals := 38 * M.2.2.2.2.1 }
def wsM (M : MT) : List Cond := Cond.code M.1 M.2.1 M.2.2.1 M.2.2.2.1 :: gW
/-- THE CONTRACT: called with As over h, it returns with Q or throws with X; at most kc cells of ks places are new -/
def Ct (K : KT) (M : MT) (kc ks : Nat) (As : List Value) (h : AH) (Q : QR) (X : QX) : Prop :=
  vx_Met K.1 M.1 (wsM M) (rmM M kc ks) (pC K As h) (qR K Q) (qX K X) kc ks (kA K)
/-- what stays through a body -/
def VC (K : KT) (M : MT) (mc ms : Nat) (p : Program) (s : State) (m : MethodId) (args : Array Value) (meth : Method) (c : Code) (R : Room) : Prop :=
  p.tables.exec = Jvm.exec ∧ c.code = M.2.1 ∧ meth.sig.returnType = M.2.2.2.1 ∧ c.maxLocals = M.2.2.1 ∧ s.vm.findClass M.1.cls = some m.cls ∧ meth.locks = false ∧ meth.name = M.1.name ∧ (∀ w ∈ gW, w.before args s = true) ∧ KW K s ∧ baseOk K s.heap ∧
  (M.2.2.2.2.1 ≤ R.frames ∧ 38 * M.2.2.2.2.1 ≤ R.locals ∧ mc ≤ R.cells ∧ ms ≤ R.slots) ∧ c.exceptionTable.toList = tableOf M.2.2.2.2.2
/-- what holds at a point of it -/
def VI (K : KT) (M : MT) (mc ms : Nat) (s : State) (lv : List (Option Value)) (h : AH) (kc ks : Nat) (H : Heap) (locs : List Loc) (cells slots : Nat) (ls : Array Slot) : Prop :=
  hold K.2.1 s h H ∧ domOk K h ∧ va_S (kA K) s.heap H locs ∧ lvh ls M.2.2.1 lv ∧ cells + kc ≤ mc ∧ slots + ks ≤ ms
/-- THE JUDGEMENT: from the program counter pc, with the locals lv, the operand stack st, the heap h, kc cells and ks places still free, the body comes to its end with Q or X -/
def V (K : KT) (M : MT) (pc : Nat) (lv : List (Option Value)) (st : List Value) (h : AH) (kc ks : Nat) (Q : QR) (X : QX) : Prop :=
  ∀ (mc ms : Nat) (p : Program) (e : Env) (s : State) (m : MethodId) (args : Array Value) (below : List Frame) (meth : Method) (c : Code) (R : Room) (H : Heap) (locs : List Loc) (cells slots : Nat) (ls : Array Slot),
    VC K M mc ms p s m args meth c R → VI K M mc ms s lv h kc ks H locs cells slots ls →
    W p K.1 e R s m args below meth c H locs cells slots (vx_MQ below (qR K Q) (qX K X) args s mc ms (kA K)) (F0 m pc ls st)
theorem baseOk.base {K : KT} {s : State} (h : baseOk K s.heap) : ∀ q : Nat, s.heap.size ≤ q → kA K q := fun _ hq => Nat.le_trans h.1 hq
theorem KW.lstZ {K : KT} {s : State} (hb : baseOk K s.heap) {C n d : String} {v : Value} (h : va_Z C n d v (kA K) s K.2.2.1) : va_Z C n d v (kA K) s s.heap := h.kept (fun a ha _ => hb.2 a ha)
theorem KW.lstT {K : KT} {s : State} (hb : baseOk K s.heap) {ty : FieldType} {t N : Nat} {f : Nat → Value} (h : va_T ty t N f (kA K) s K.2.2.1) : va_T ty t N f (kA K) s s.heap := h.kept (fun a ha _ => hb.2 a ha)
/-- a plain method's contract out of its body -/
theorem ct_of {K : KT} {M : MT} {kc ks : Nat} {As : List Value} {h : AH} {Q : QR} {X : QX} {lv : List (Option Value)} (hy : plainName M.1.cls = true) (hh : M.2.2.2.2.2 = []) (hs : (lg_sl As).length ≤ M.2.2.1)
    (hl : enl As ++ List.replicate (M.2.2.1 - (enl As).length) none = lv) (k : V K M 0 lv [] h kc ks Q X) : Ct K M kc ks As h Q X := by
  subst hl
  refine vx_ofW (cc := M.2.1) (maxL := M.2.2.1) (ret := M.2.2.2.1) hy rfl ?_
  intro p e s m args below meth c s₁ B hml hex hv
  obtain ⟨rfl, hP, hD, hB, hK⟩ := hv
  have hts := atoms_spec (ws := wsM M) B.pre
  have hl := lvh_entry As hs
  rw [lg_entry_eq]
  refine k kc ks p e s m As.toArray below meth c _ s.heap [] 0 0 _ ⟨B.exec, B.bytes, B.returns, hml, findClass_of_methodNamed B.named, B.notSynchronized, (name_of_methodNamed B.named B.method).1, fun w hw => hts w (List.mem_cons_of_mem _ hw), hK, hB, ⟨Nat.le_refl _, Nat.le_refl _, Nat.le_refl _, Nat.le_refl _⟩, ?_⟩ ⟨hP, hD, va_S.rf, hl, by omega, by omega⟩
  rw [hh]
  cases hq : c.exceptionTable.toList with
  | nil => rfl
  | cons a r => exact (hex a (by rw [hq]; exact List.mem_cons_self)).elim
theorem Ct.mono {K : KT} {M : MT} {kc ks : Nat} {As : List Value} {h : AH} {Q Q' : QR} {X X' : QX} (hc : Ct K M kc ks As h Q X) (hq : ∀ r h', Q r h' → Q' r h') (hx : ∀ E h', X E h' → X' E h') : Ct K M kc ks As h Q' X' := by
  intro p e ha hcs hk s m args below hf happ hP hK
  obtain ⟨n, o, h1, h2, h3, h4⟩ := hc p e ha hcs hk s m args below hf happ hP hK
  refine ⟨n, o, h1, h2, h3, ?_⟩
  rcases h4 with ⟨⟨r, h', e1, e2, e3⟩, h5⟩ | ⟨q, e1, E, ce, L, ⟨h', e2, e3⟩, h6⟩
  · exact Or.inl ⟨⟨r, h', e1, hq r h' e2, e3⟩, h5⟩
  · exact Or.inr ⟨q, e1, E, ce, L, ⟨h', hx E h' e2, e3⟩, h6⟩
theorem pC.blind {K : KT} {As : List Value} {h : AH} : FrameBlind (pC K As h) := by
  intro a U g mk q
  obtain ⟨q0, qP, qD, qB, qK⟩ := q
  exact ⟨q0, hold.moved (u := U) (U := U.calling g mk a) (Vm.Alike.refl U.vm) qP, qD, qB, KW.warm (s := U) (U := U.calling g mk a) (State.WarmedH.refl U) qK⟩
theorem V.mono {K : KT} {M : MT} {pc : Nat} {lv : List (Option Value)} {st : List Value} {h : AH} {kc ks : Nat} {Q Q' : QR} {X X' : QX} (k : V K M pc lv st h kc ks Q X) (hq : ∀ r h', Q r h' → Q' r h') (hx : ∀ E h', X E h' → X' E h') : V K M pc lv st h kc ks Q' X' := by
  intro mc ms p e s m args below meth c R H locs cells slots ls C I T hT Y
  obtain ⟨t, a1, o, b1, b2, b3⟩ := k mc ms p e s m args below meth c R H locs cells slots ls C I T hT Y
  refine ⟨t, a1, o, b1, b2, ?_⟩
  rcases b3 with ⟨⟨r, h', e1, e2, e3⟩, h5⟩ | ⟨q, e1, E, ce, L, ⟨h', e2, e3⟩, h6⟩
  · exact Or.inl ⟨⟨r, h', e1, hq r h' e2, e3⟩, h5⟩
  · exact Or.inr ⟨q, e1, E, ce, L, ⟨h', hx E h' e2, e3⟩, h6⟩
theorem V.less {K : KT} {M : MT} {pc : Nat} {lv : List (Option Value)} {st : List Value} {h : AH} {kc ks kc' ks' : Nat} {Q : QR} {X : QX} (k : V K M pc lv st h kc' ks' Q X) (h1 : kc' ≤ kc) (h2 : ks' ≤ ks) : V K M pc lv st h kc ks Q X := by
  intro mc ms p e s m args below meth c R H locs cells slots ls C I
  obtain ⟨i1, i2, i3, i4, i5, i6⟩ := I
  exact k mc ms p e s m args below meth c R H locs cells slots ls C ⟨i1, i2, i3, i4, by omega, by omega⟩
/-- the operand stack, the locals and the place written otherwise -/
theorem V.eq {K : KT} {M : MT} {pc pc' : Nat} {lv lv' : List (Option Value)} {st st' : List Value} {h h' : AH} {kc ks : Nat} {Q : QR} {X : QX} (k : V K M pc lv st h kc ks Q X) (e1 : pc = pc' := by rfl) (e2 : lv = lv' := by rfl) (e3 : st = st' := by rfl) (e4 : h = h' := by rfl) : V K M pc' lv' st' h' kc ks Q X := by
  subst e1; subst e2; subst e3; subst e4; exact k
end
section
/-! ===== the rows of one instruction each, over V ===== -/
theorem v_iconst {K : KT} {M : MT} {lv : List (Option Value)} {st : List Value} {h : AH} {kc ks : Nat} {Q : QR} {X : QX} (pc : Nat) {n : Int} {v : Int32} (hdg : decode M.2.1 pc = .ok (.iconst n, 1)) (hv : Int32.ofInt n = v) (k : V K M (pc + 1) lv (.int v :: st) h kc ks Q X) : V K M pc lv (st) h kc ks Q X := fun mc ms p e s m args below meth c R H locs cells slots ls C I => lv_iconst C.1 C.2.1 hdg hv (k mc ms p e s m args below meth c R H locs cells slots ls C I)
theorem v_bipush {K : KT} {M : MT} {lv : List (Option Value)} {st : List Value} {h : AH} {kc ks : Nat} {Q : QR} {X : QX} (pc : Nat) {n : Int} {v : Int32} (hdg : decode M.2.1 pc = .ok (.bipush n, 2)) (hv : (Int8.ofInt n).toInt32 = v) (k : V K M (pc + 2) lv (.int v :: st) h kc ks Q X) : V K M pc lv (st) h kc ks Q X := fun mc ms p e s m args below meth c R H locs cells slots ls C I => lv_bipush C.1 C.2.1 hdg hv (k mc ms p e s m args below meth c R H locs cells slots ls C I)
theorem v_sipush {K : KT} {M : MT} {lv : List (Option Value)} {st : List Value} {h : AH} {kc ks : Nat} {Q : QR} {X : QX} (pc : Nat) {n : Int} {v : Int32} (hdg : decode M.2.1 pc = .ok (.sipush n, 3)) (hv : (Int16.ofInt n).toInt32 = v) (k : V K M (pc + 3) lv (.int v :: st) h kc ks Q X) : V K M pc lv (st) h kc ks Q X := fun mc ms p e s m args below meth c R H locs cells slots ls C I => lv_sipush C.1 C.2.1 hdg hv (k mc ms p e s m args below meth c R H locs cells slots ls C I)
theorem v_lconst {K : KT} {M : MT} {lv : List (Option Value)} {st : List Value} {h : AH} {kc ks : Nat} {Q : QR} {X : QX} (pc : Nat) {n : Fin 2} {v : Int64} (hdg : decode M.2.1 pc = .ok (.lconst n, 1)) (hv : Int64.ofNat (n : Nat) = v) (k : V K M (pc + 1) lv (.long v :: st) h kc ks Q X) : V K M pc lv (st) h kc ks Q X := fun mc ms p e s m args below meth c R H locs cells slots ls C I => lv_lconst C.1 C.2.1 hdg hv (k mc ms p e s m args below meth c R H locs cells slots ls C I)
theorem v_iload_n {K : KT} {M : MT} {lv : List (Option Value)} {st : List Value} {h : AH} {kc ks : Nat} {Q : QR} {X : QX} (pc : Nat) {k : Fin 4} {i : Nat} {x : Int32} (hdg : decode M.2.1 pc = .ok (.iload_n k, 1)) (hi : (k : Nat) = i) (hl : lv[i]? = some (some (.int x))) (k : V K M (pc + 1) lv (.int x :: st) h kc ks Q X) : V K M pc lv (st) h kc ks Q X := fun mc ms p e s m args below meth c R H locs cells slots ls C I => lv_iload_n C.1 C.2.1 hdg hi (I.2.2.2.1.2.2 _ _ hl) (k mc ms p e s m args below meth c R H locs cells slots ls C I)
theorem v_iload {K : KT} {M : MT} {lv : List (Option Value)} {st : List Value} {h : AH} {kc ks : Nat} {Q : QR} {X : QX} (pc : Nat) {i : Nat} {x : Int32} (hdg : decode M.2.1 pc = .ok (.iload i, 2)) (hl : lv[i]? = some (some (.int x))) (k : V K M (pc + 2) lv (.int x :: st) h kc ks Q X) : V K M pc lv (st) h kc ks Q X := fun mc ms p e s m args below meth c R H locs cells slots ls C I => lv_iload C.1 C.2.1 hdg (I.2.2.2.1.2.2 _ _ hl) (k mc ms p e s m args below meth c R H locs cells slots ls C I)
theorem v_lload_n {K : KT} {M : MT} {lv : List (Option Value)} {st : List Value} {h : AH} {kc ks : Nat} {Q : QR} {X : QX} (pc : Nat) {k : Fin 4} {i : Nat} {x : Int64} (hdg : decode M.2.1 pc = .ok (.lload_n k, 1)) (hi : (k : Nat) = i) (hl : lv[i]? = some (some (.long x))) (k : V K M (pc + 1) lv (.long x :: st) h kc ks Q X) : V K M pc lv (st) h kc ks Q X := fun mc ms p e s m args below meth c R H locs cells slots ls C I => lv_lload_n C.1 C.2.1 hdg hi (I.2.2.2.1.2.2 _ _ hl) (k mc ms p e s m args below meth c R H locs cells slots ls C I)
theorem v_lload {K : KT} {M : MT} {lv : List (Option Value)} {st : List Value} {h : AH} {kc ks : Nat} {Q : QR} {X : QX} (pc : Nat) {i : Nat} {x : Int64} (hdg : decode M.2.1 pc = .ok (.lload i, 2)) (hl : lv[i]? = some (some (.long x))) (k : V K M (pc + 2) lv (.long x :: st) h kc ks Q X) : V K M pc lv (st) h kc ks Q X := fun mc ms p e s m args below meth c R H locs cells slots ls C I => lv_lload C.1 C.2.1 hdg (I.2.2.2.1.2.2 _ _ hl) (k mc ms p e s m args below meth c R H locs cells slots ls C I)
theorem v_iadd {K : KT} {M : MT} {lv : List (Option Value)} {st : List Value} {h : AH} {kc ks : Nat} {Q : QR} {X : QX} (pc : Nat) {x y : Int32} (hdg : decode M.2.1 pc = .ok (.iadd, 1)) (k : V K M (pc + 1) lv (.int (x + y) :: st) h kc ks Q X) : V K M pc lv (.int y :: .int x :: st) h kc ks Q X := fun mc ms p e s m args below meth c R H locs cells slots ls C I => lv_iadd C.1 C.2.1 hdg (k mc ms p e s m args below meth c R H locs cells slots ls C I)
theorem v_isub {K : KT} {M : MT} {lv : List (Option Value)} {st : List Value} {h : AH} {kc ks : Nat} {Q : QR} {X : QX} (pc : Nat) {x y : Int32} (hdg : decode M.2.1 pc = .ok (.isub, 1)) (k : V K M (pc + 1) lv (.int (x - y) :: st) h kc ks Q X) : V K M pc lv (.int y :: .int x :: st) h kc ks Q X := fun mc ms p e s m args below meth c R H locs cells slots ls C I => lv_isub C.1 C.2.1 hdg (k mc ms p e s m args below meth c R H locs cells slots ls C I)
theorem v_imul {K : KT} {M : MT} {lv : List (Option Value)} {st : List Value} {h : AH} {kc ks : Nat} {Q : QR} {X : QX} (pc : Nat) {x y : Int32} (hdg : decode M.2.1 pc = .ok (.imul, 1)) (k : V K M (pc + 1) lv (.int (x * y) :: st) h kc ks Q X) : V K M pc lv (.int y :: .int x :: st) h kc ks Q X := fun mc ms p e s m args below meth c R H locs cells slots ls C I => lv_imul C.1 C.2.1 hdg (k mc ms p e s m args below meth c R H locs cells slots ls C I)
theorem v_iand {K : KT} {M : MT} {lv : List (Option Value)} {st : List Value} {h : AH} {kc ks : Nat} {Q : QR} {X : QX} (pc : Nat) {x y : Int32} (hdg : decode M.2.1 pc = .ok (.iand, 1)) (k : V K M (pc + 1) lv (.int (x &&& y) :: st) h kc ks Q X) : V K M pc lv (.int y :: .int x :: st) h kc ks Q X := fun mc ms p e s m args below meth c R H locs cells slots ls C I => lv_iand C.1 C.2.1 hdg (k mc ms p e s m args below meth c R H locs cells slots ls C I)
theorem v_ior {K : KT} {M : MT} {lv : List (Option Value)} {st : List Value} {h : AH} {kc ks : Nat} {Q : QR} {X : QX} (pc : Nat) {x y : Int32} (hdg : decode M.2.1 pc = .ok (.ior, 1)) (k : V K M (pc + 1) lv (.int (x ||| y) :: st) h kc ks Q X) : V K M pc lv (.int y :: .int x :: st) h kc ks Q X := fun mc ms p e s m args below meth c R H locs cells slots ls C I => lv_ior C.1 C.2.1 hdg (k mc ms p e s m args below meth c R H locs cells slots ls C I)
theorem v_ixor {K : KT} {M : MT} {lv : List (Option Value)} {st : List Value} {h : AH} {kc ks : Nat} {Q : QR} {X : QX} (pc : Nat) {x y : Int32} (hdg : decode M.2.1 pc = .ok (.ixor, 1)) (k : V K M (pc + 1) lv (.int (x ^^^ y) :: st) h kc ks Q X) : V K M pc lv (.int y :: .int x :: st) h kc ks Q X := fun mc ms p e s m args below meth c R H locs cells slots ls C I => lv_ixor C.1 C.2.1 hdg (k mc ms p e s m args below meth c R H locs cells slots ls C I)
theorem v_idiv {K : KT} {M : MT} {lv : List (Option Value)} {st : List Value} {h : AH} {kc ks : Nat} {Q : QR} {X : QX} (pc : Nat) {x y : Int32} (hdg : decode M.2.1 pc = .ok (.idiv, 1)) (hne : ¬ y = 0) (k : V K M (pc + 1) lv (.int (x / y) :: st) h kc ks Q X) : V K M pc lv (.int y :: .int x :: st) h kc ks Q X := fun mc ms p e s m args below meth c R H locs cells slots ls C I => lv_idiv C.1 C.2.1 hdg hne (k mc ms p e s m args below meth c R H locs cells slots ls C I)
theorem v_irem {K : KT} {M : MT} {lv : List (Option Value)} {st : List Value} {h : AH} {kc ks : Nat} {Q : QR} {X : QX} (pc : Nat) {x y : Int32} (hdg : decode M.2.1 pc = .ok (.irem, 1)) (hne : ¬ y = 0) (k : V K M (pc + 1) lv (.int (x - x / y * y) :: st) h kc ks Q X) : V K M pc lv (.int y :: .int x :: st) h kc ks Q X := fun mc ms p e s m args below meth c R H locs cells slots ls C I => lv_irem C.1 C.2.1 hdg hne (k mc ms p e s m args below meth c R H locs cells slots ls C I)
theorem v_ineg {K : KT} {M : MT} {lv : List (Option Value)} {st : List Value} {h : AH} {kc ks : Nat} {Q : QR} {X : QX} (pc : Nat) {x : Int32} (hdg : decode M.2.1 pc = .ok (.ineg, 1)) (k : V K M (pc + 1) lv (.int (-x) :: st) h kc ks Q X) : V K M pc lv (.int x :: st) h kc ks Q X := fun mc ms p e s m args below meth c R H locs cells slots ls C I => lv_ineg C.1 C.2.1 hdg (k mc ms p e s m args below meth c R H locs cells slots ls C I)
theorem v_ladd {K : KT} {M : MT} {lv : List (Option Value)} {st : List Value} {h : AH} {kc ks : Nat} {Q : QR} {X : QX} (pc : Nat) {x y : Int64} (hdg : decode M.2.1 pc = .ok (.ladd, 1)) (k : V K M (pc + 1) lv (.long (x + y) :: st) h kc ks Q X) : V K M pc lv (.long y :: .long x :: st) h kc ks Q X := fun mc ms p e s m args below meth c R H locs cells slots ls C I => lv_ladd C.1 C.2.1 hdg (k mc ms p e s m args below meth c R H locs cells slots ls C I)
theorem v_lsub {K : KT} {M : MT} {lv : List (Option Value)} {st : List Value} {h : AH} {kc ks : Nat} {Q : QR} {X : QX} (pc : Nat) {x y : Int64} (hdg : decode M.2.1 pc = .ok (.lsub, 1)) (k : V K M (pc + 1) lv (.long (x - y) :: st) h kc ks Q X) : V K M pc lv (.long y :: .long x :: st) h kc ks Q X := fun mc ms p e s m args below meth c R H locs cells slots ls C I => lv_lsub C.1 C.2.1 hdg (k mc ms p e s m args below meth c R H locs cells slots ls C I)
theorem v_lmul {K : KT} {M : MT} {lv : List (Option Value)} {st : List Value} {h : AH} {kc ks : Nat} {Q : QR} {X : QX} (pc : Nat) {x y : Int64} (hdg : decode M.2.1 pc = .ok (.lmul, 1)) (k : V K M (pc + 1) lv (.long (x * y) :: st) h kc ks Q X) : V K M pc lv (.long y :: .long x :: st) h kc ks Q X := fun mc ms p e s m args below meth c R H locs cells slots ls C I => lv_lmul C.1 C.2.1 hdg (k mc ms p e s m args below meth c R H locs cells slots ls C I)
theorem v_land {K : KT} {M : MT} {lv : List (Option Value)} {st : List Value} {h : AH} {kc ks : Nat} {Q : QR} {X : QX} (pc : Nat) {x y : Int64} (hdg : decode M.2.1 pc = .ok (.land, 1)) (k : V K M (pc + 1) lv (.long (x &&& y) :: st) h kc ks Q X) : V K M pc lv (.long y :: .long x :: st) h kc ks Q X := fun mc ms p e s m args below meth c R H locs cells slots ls C I => lv_land C.1 C.2.1 hdg (k mc ms p e s m args below meth c R H locs cells slots ls C I)
theorem v_lor {K : KT} {M : MT} {lv : List (Option Value)} {st : List Value} {h : AH} {kc ks : Nat} {Q : QR} {X : QX} (pc : Nat) {x y : Int64} (hdg : decode M.2.1 pc = .ok (.lor, 1)) (k : V K M (pc + 1) lv (.long (x ||| y) :: st) h kc ks Q X) : V K M pc lv (.long y :: .long x :: st) h kc ks Q X := fun mc ms p e s m args below meth c R H locs cells slots ls C I => lv_lor C.1 C.2.1 hdg (k mc ms p e s m args below meth c R H locs cells slots ls C I)
theorem v_lxor {K : KT} {M : MT} {lv : List (Option Value)} {st : List Value} {h : AH} {kc ks : Nat} {Q : QR} {X : QX} (pc : Nat) {x y : Int64} (hdg : decode M.2.1 pc = .ok (.lxor, 1)) (k : V K M (pc + 1) lv (.long (x ^^^ y) :: st) h kc ks Q X) : V K M pc lv (.long y :: .long x :: st) h kc ks Q X := fun mc ms p e s m args below meth c R H locs cells slots ls C I => lv_lxor C.1 C.2.1 hdg (k mc ms p e s m args below meth c R H locs cells slots ls C I)
theorem v_ishl {K : KT} {M : MT} {lv : List (Option Value)} {st : List Value} {h : AH} {kc ks : Nat} {Q : QR} {X : QX} (pc : Nat) {x y : Int32} (hdg : decode M.2.1 pc = .ok (.ishl, 1)) (k : V K M (pc + 1) lv (.int (x <<< (y &&& 31)) :: st) h kc ks Q X) : V K M pc lv (.int y :: .int x :: st) h kc ks Q X := fun mc ms p e s m args below meth c R H locs cells slots ls C I => lv_ishl C.1 C.2.1 hdg (k mc ms p e s m args below meth c R H locs cells slots ls C I)
theorem v_ishr {K : KT} {M : MT} {lv : List (Option Value)} {st : List Value} {h : AH} {kc ks : Nat} {Q : QR} {X : QX} (pc : Nat) {x y : Int32} (hdg : decode M.2.1 pc = .ok (.ishr, 1)) (k : V K M (pc + 1) lv (.int (x >>> (y &&& 31)) :: st) h kc ks Q X) : V K M pc lv (.int y :: .int x :: st) h kc ks Q X := fun mc ms p e s m args below meth c R H locs cells slots ls C I => lv_ishr C.1 C.2.1 hdg (k mc ms p e s m args below meth c R H locs cells slots ls C I)
theorem v_i2l {K : KT} {M : MT} {lv : List (Option Value)} {st : List Value} {h : AH} {kc ks : Nat} {Q : QR} {X : QX} (pc : Nat) {x : Int32} {v : Int64} (hdg : decode M.2.1 pc = .ok (.i2l, 1)) (hv : x.toInt64 = v) (k : V K M (pc + 1) lv (.long v :: st) h kc ks Q X) : V K M pc lv (.int x :: st) h kc ks Q X := fun mc ms p e s m args below meth c R H locs cells slots ls C I => lv_i2l C.1 C.2.1 hdg hv (k mc ms p e s m args below meth c R H locs cells slots ls C I)
theorem v_l2i {K : KT} {M : MT} {lv : List (Option Value)} {st : List Value} {h : AH} {kc ks : Nat} {Q : QR} {X : QX} (pc : Nat) {x : Int64} {v : Int32} (hdg : decode M.2.1 pc = .ok (.l2i, 1)) (hv : x.toInt32 = v) (k : V K M (pc + 1) lv (.int v :: st) h kc ks Q X) : V K M pc lv (.long x :: st) h kc ks Q X := fun mc ms p e s m args below meth c R H locs cells slots ls C I => lv_l2i C.1 C.2.1 hdg hv (k mc ms p e s m args below meth c R H locs cells slots ls C I)
theorem v_i2b {K : KT} {M : MT} {lv : List (Option Value)} {st : List Value} {h : AH} {kc ks : Nat} {Q : QR} {X : QX} (pc : Nat) {x : Int32} {v : Int32} (hdg : decode M.2.1 pc = .ok (.i2b, 1)) (hv : x.toInt8.toInt32 = v) (k : V K M (pc + 1) lv (.int v :: st) h kc ks Q X) : V K M pc lv (.int x :: st) h kc ks Q X := fun mc ms p e s m args below meth c R H locs cells slots ls C I => lv_i2b C.1 C.2.1 hdg hv (k mc ms p e s m args below meth c R H locs cells slots ls C I)
theorem v_i2s {K : KT} {M : MT} {lv : List (Option Value)} {st : List Value} {h : AH} {kc ks : Nat} {Q : QR} {X : QX} (pc : Nat) {x : Int32} {v : Int32} (hdg : decode M.2.1 pc = .ok (.i2s, 1)) (hv : x.toInt16.toInt32 = v) (k : V K M (pc + 1) lv (.int v :: st) h kc ks Q X) : V K M pc lv (.int x :: st) h kc ks Q X := fun mc ms p e s m args below meth c R H locs cells slots ls C I => lv_i2s C.1 C.2.1 hdg hv (k mc ms p e s m args below meth c R H locs cells slots ls C I)
theorem v_iushr {K : KT} {M : MT} {lv : List (Option Value)} {st : List Value} {h : AH} {kc ks : Nat} {Q : QR} {X : QX} (pc : Nat) {x y v : Int32} (hdg : decode M.2.1 pc = .ok (.iushr, 1)) (hv : (x.toUInt32 >>> (y.toUInt32 &&& Int32.toUInt32 31)).toInt32 = v) (k : V K M (pc + 1) lv (.int v :: st) h kc ks Q X) : V K M pc lv (.int y :: .int x :: st) h kc ks Q X := fun mc ms p e s m args below meth c R H locs cells slots ls C I => lv_iushr C.1 C.2.1 hdg hv (k mc ms p e s m args below meth c R H locs cells slots ls C I)
theorem v_lushr {K : KT} {M : MT} {lv : List (Option Value)} {st : List Value} {h : AH} {kc ks : Nat} {Q : QR} {X : QX} (pc : Nat) {x v : Int64} {y : Int32} (hdg : decode M.2.1 pc = .ok (.lushr, 1)) (hv : (x.toUInt64 >>> (y.toInt64.toUInt64 &&& Int64.toUInt64 63)).toInt64 = v) (k : V K M (pc + 1) lv (.long v :: st) h kc ks Q X) : V K M pc lv (.int y :: .long x :: st) h kc ks Q X := fun mc ms p e s m args below meth c R H locs cells slots ls C I => lv_lushr C.1 C.2.1 hdg hv (k mc ms p e s m args below meth c R H locs cells slots ls C I)
theorem v_lshl {K : KT} {M : MT} {lv : List (Option Value)} {st : List Value} {h : AH} {kc ks : Nat} {Q : QR} {X : QX} (pc : Nat) {x v : Int64} {y : Int32} (hdg : decode M.2.1 pc = .ok (.lshl, 1)) (hv : x <<< (y.toInt64 &&& 63) = v) (k : V K M (pc + 1) lv (.long v :: st) h kc ks Q X) : V K M pc lv (.int y :: .long x :: st) h kc ks Q X := fun mc ms p e s m args below meth c R H locs cells slots ls C I => lv_lshl C.1 C.2.1 hdg hv (k mc ms p e s m args below meth c R H locs cells slots ls C I)
theorem v_lshr {K : KT} {M : MT} {lv : List (Option Value)} {st : List Value} {h : AH} {kc ks : Nat} {Q : QR} {X : QX} (pc : Nat) {x v : Int64} {y : Int32} (hdg : decode M.2.1 pc = .ok (.lshr, 1)) (hv : x >>> (y.toInt64 &&& 63) = v) (k : V K M (pc + 1) lv (.long v :: st) h kc ks Q X) : V K M pc lv (.int y :: .long x :: st) h kc ks Q X := fun mc ms p e s m args below meth c R H locs cells slots ls C I => lv_lshr C.1 C.2.1 hdg hv (k mc ms p e s m args below meth c R H locs cells slots ls C I)
theorem v_dup {K : KT} {M : MT} {lv : List (Option Value)} {st : List Value} {h : AH} {kc ks : Nat} {Q : QR} {X : QX} (pc : Nat) {va : Value} (hdg : decode M.2.1 pc = .ok (.dup, 1)) (hva : va.category = 1) (k : V K M (pc + 1) lv (va :: va :: st) h kc ks Q X) : V K M pc lv (va :: st) h kc ks Q X := fun mc ms p e s m args below meth c R H locs cells slots ls C I => lv_dup C.1 C.2.1 hdg hva (k mc ms p e s m args below meth c R H locs cells slots ls C I)
theorem v_pop {K : KT} {M : MT} {lv : List (Option Value)} {st : List Value} {h : AH} {kc ks : Nat} {Q : QR} {X : QX} (pc : Nat) {va : Value} (hdg : decode M.2.1 pc = .ok (.pop, 1)) (hva : va.category = 1) (k : V K M (pc + 1) lv (st) h kc ks Q X) : V K M pc lv (va :: st) h kc ks Q X := fun mc ms p e s m args below meth c R H locs cells slots ls C I => lv_pop C.1 C.2.1 hdg hva (k mc ms p e s m args below meth c R H locs cells slots ls C I)
theorem v_dup_x1 {K : KT} {M : MT} {lv : List (Option Value)} {st : List Value} {h : AH} {kc ks : Nat} {Q : QR} {X : QX} (pc : Nat) {va vb : Value} (hdg : decode M.2.1 pc = .ok (.dup_x1, 1)) (hva : va.category = 1) (hvb : vb.category = 1) (k : V K M (pc + 1) lv (va :: vb :: va :: st) h kc ks Q X) : V K M pc lv (va :: vb :: st) h kc ks Q X := fun mc ms p e s m args below meth c R H locs cells slots ls C I => lv_dup_x1 C.1 C.2.1 hdg hva hvb (k mc ms p e s m args below meth c R H locs cells slots ls C I)
theorem v_dup_x2 {K : KT} {M : MT} {lv : List (Option Value)} {st : List Value} {h : AH} {kc ks : Nat} {Q : QR} {X : QX} (pc : Nat) {va vb vd : Value} (hdg : decode M.2.1 pc = .ok (.dup_x2, 1)) (hva : va.category = 1) (hvb : vb.category = 1) (hvd : vd.category = 1) (k : V K M (pc + 1) lv (va :: vb :: vd :: va :: st) h kc ks Q X) : V K M pc lv (va :: vb :: vd :: st) h kc ks Q X := fun mc ms p e s m args below meth c R H locs cells slots ls C I => lv_dup_x2 C.1 C.2.1 hdg hva hvb hvd (k mc ms p e s m args below meth c R H locs cells slots ls C I)
theorem v_dup2_11 {K : KT} {M : MT} {lv : List (Option Value)} {st : List Value} {h : AH} {kc ks : Nat} {Q : QR} {X : QX} (pc : Nat) {va vb : Value} (hdg : decode M.2.1 pc = .ok (.dup2, 1)) (hva : va.category = 1) (hvb : vb.category = 1) (k : V K M (pc + 1) lv (va :: vb :: va :: vb :: st) h kc ks Q X) : V K M pc lv (va :: vb :: st) h kc ks Q X := fun mc ms p e s m args below meth c R H locs cells slots ls C I => lv_dup2_11 C.1 C.2.1 hdg hva hvb (k mc ms p e s m args below meth c R H locs cells slots ls C I)
theorem v_dup2_2 {K : KT} {M : MT} {lv : List (Option Value)} {st : List Value} {h : AH} {kc ks : Nat} {Q : QR} {X : QX} (pc : Nat) {va : Value} (hdg : decode M.2.1 pc = .ok (.dup2, 1)) (hva : va.category = 2) (k : V K M (pc + 1) lv (va :: va :: st) h kc ks Q X) : V K M pc lv (va :: st) h kc ks Q X := fun mc ms p e s m args below meth c R H locs cells slots ls C I => lv_dup2_2 C.1 C.2.1 hdg hva (k mc ms p e s m args below meth c R H locs cells slots ls C I)
theorem v_if_eq {K : KT} {M : MT} {lv : List (Option Value)} {st : List Value} {h : AH} {kc ks : Nat} {Q : QR} {X : QX} (pc : Nat) {x : Int32} {off : Int} {tgt : Nat} (hdg : decode M.2.1 pc = .ok (.ifCond .eq off, 3)) (ht : (pc : Int) + off = (tgt : Int)) (kt : x = 0 → V K M tgt lv (st) h kc ks Q X) (kf : ¬ x = 0 → V K M (pc + 3) lv (st) h kc ks Q X) : V K M pc lv (.int x :: st) h kc ks Q X := fun mc ms p e s m args below meth c R H locs cells slots ls C I => lv_if_eq C.1 C.2.1 hdg ht (fun c9 => kt c9 mc ms p e s m args below meth c R H locs cells slots ls C I) (fun c9 => kf c9 mc ms p e s m args below meth c R H locs cells slots ls C I)
theorem v_if_ne {K : KT} {M : MT} {lv : List (Option Value)} {st : List Value} {h : AH} {kc ks : Nat} {Q : QR} {X : QX} (pc : Nat) {x : Int32} {off : Int} {tgt : Nat} (hdg : decode M.2.1 pc = .ok (.ifCond .ne off, 3)) (ht : (pc : Int) + off = (tgt : Int)) (kt : ¬ x = 0 → V K M tgt lv (st) h kc ks Q X) (kf : x = 0 → V K M (pc + 3) lv (st) h kc ks Q X) : V K M pc lv (.int x :: st) h kc ks Q X := fun mc ms p e s m args below meth c R H locs cells slots ls C I => lv_if_ne C.1 C.2.1 hdg ht (fun c9 => kt c9 mc ms p e s m args below meth c R H locs cells slots ls C I) (fun c9 => kf c9 mc ms p e s m args below meth c R H locs cells slots ls C I)
theorem v_if_lt {K : KT} {M : MT} {lv : List (Option Value)} {st : List Value} {h : AH} {kc ks : Nat} {Q : QR} {X : QX} (pc : Nat) {x : Int32} {off : Int} {tgt : Nat} (hdg : decode M.2.1 pc = .ok (.ifCond .lt off, 3)) (ht : (pc : Int) + off = (tgt : Int)) (kt : x < 0 → V K M tgt lv (st) h kc ks Q X) (kf : ¬ x < 0 → V K M (pc + 3) lv (st) h kc ks Q X) : V K M pc lv (.int x :: st) h kc ks Q X := fun mc ms p e s m args below meth c R H locs cells slots ls C I => lv_if_lt C.1 C.2.1 hdg ht (fun c9 => kt c9 mc ms p e s m args below meth c R H locs cells slots ls C I) (fun c9 => kf c9 mc ms p e s m args below meth c R H locs cells slots ls C I)
theorem v_if_ge {K : KT} {M : MT} {lv : List (Option Value)} {st : List Value} {h : AH} {kc ks : Nat} {Q : QR} {X : QX} (pc : Nat) {x : Int32} {off : Int} {tgt : Nat} (hdg : decode M.2.1 pc = .ok (.ifCond .ge off, 3)) (ht : (pc : Int) + off = (tgt : Int)) (kt : 0 ≤ x → V K M tgt lv (st) h kc ks Q X) (kf : ¬ 0 ≤ x → V K M (pc + 3) lv (st) h kc ks Q X) : V K M pc lv (.int x :: st) h kc ks Q X := fun mc ms p e s m args below meth c R H locs cells slots ls C I => lv_if_ge C.1 C.2.1 hdg ht (fun c9 => kt c9 mc ms p e s m args below meth c R H locs cells slots ls C I) (fun c9 => kf c9 mc ms p e s m args below meth c R H locs cells slots ls C I)
theorem v_if_gt {K : KT} {M : MT} {lv : List (Option Value)} {st : List Value} {h : AH} {kc ks : Nat} {Q : QR} {X : QX} (pc : Nat) {x : Int32} {off : Int} {tgt : Nat} (hdg : decode M.2.1 pc = .ok (.ifCond .gt off, 3)) (ht : (pc : Int) + off = (tgt : Int)) (kt : 0 < x → V K M tgt lv (st) h kc ks Q X) (kf : ¬ 0 < x → V K M (pc + 3) lv (st) h kc ks Q X) : V K M pc lv (.int x :: st) h kc ks Q X := fun mc ms p e s m args below meth c R H locs cells slots ls C I => lv_if_gt C.1 C.2.1 hdg ht (fun c9 => kt c9 mc ms p e s m args below meth c R H locs cells slots ls C I) (fun c9 => kf c9 mc ms p e s m args below meth c R H locs cells slots ls C I)
theorem v_if_le {K : KT} {M : MT} {lv : List (Option Value)} {st : List Value} {h : AH} {kc ks : Nat} {Q : QR} {X : QX} (pc : Nat) {x : Int32} {off : Int} {tgt : Nat} (hdg : decode M.2.1 pc = .ok (.ifCond .le off, 3)) (ht : (pc : Int) + off = (tgt : Int)) (kt : x ≤ 0 → V K M tgt lv (st) h kc ks Q X) (kf : ¬ x ≤ 0 → V K M (pc + 3) lv (st) h kc ks Q X) : V K M pc lv (.int x :: st) h kc ks Q X := fun mc ms p e s m args below meth c R H locs cells slots ls C I => lv_if_le C.1 C.2.1 hdg ht (fun c9 => kt c9 mc ms p e s m args below meth c R H locs cells slots ls C I) (fun c9 => kf c9 mc ms p e s m args below meth c R H locs cells slots ls C I)
theorem v_icmp_eq {K : KT} {M : MT} {lv : List (Option Value)} {st : List Value} {h : AH} {kc ks : Nat} {Q : QR} {X : QX} (pc : Nat) {x y : Int32} {off : Int} {tgt : Nat} (hdg : decode M.2.1 pc = .ok (.if_icmp .eq off, 3)) (ht : (pc : Int) + off = (tgt : Int)) (kt : x = y → V K M tgt lv (st) h kc ks Q X) (kf : ¬ x = y → V K M (pc + 3) lv (st) h kc ks Q X) : V K M pc lv (.int y :: .int x :: st) h kc ks Q X := fun mc ms p e s m args below meth c R H locs cells slots ls C I => lv_icmp_eq C.1 C.2.1 hdg ht (fun c9 => kt c9 mc ms p e s m args below meth c R H locs cells slots ls C I) (fun c9 => kf c9 mc ms p e s m args below meth c R H locs cells slots ls C I)
theorem v_icmp_ne {K : KT} {M : MT} {lv : List (Option Value)} {st : List Value} {h : AH} {kc ks : Nat} {Q : QR} {X : QX} (pc : Nat) {x y : Int32} {off : Int} {tgt : Nat} (hdg : decode M.2.1 pc = .ok (.if_icmp .ne off, 3)) (ht : (pc : Int) + off = (tgt : Int)) (kt : ¬ x = y → V K M tgt lv (st) h kc ks Q X) (kf : x = y → V K M (pc + 3) lv (st) h kc ks Q X) : V K M pc lv (.int y :: .int x :: st) h kc ks Q X := fun mc ms p e s m args below meth c R H locs cells slots ls C I => lv_icmp_ne C.1 C.2.1 hdg ht (fun c9 => kt c9 mc ms p e s m args below meth c R H locs cells slots ls C I) (fun c9 => kf c9 mc ms p e s m args below meth c R H locs cells slots ls C I)
theorem v_icmp_lt {K : KT} {M : MT} {lv : List (Option Value)} {st : List Value} {h : AH} {kc ks : Nat} {Q : QR} {X : QX} (pc : Nat) {x y : Int32} {off : Int} {tgt : Nat} (hdg : decode M.2.1 pc = .ok (.if_icmp .lt off, 3)) (ht : (pc : Int) + off = (tgt : Int)) (kt : x < y → V K M tgt lv (st) h kc ks Q X) (kf : ¬ x < y → V K M (pc + 3) lv (st) h kc ks Q X) : V K M pc lv (.int y :: .int x :: st) h kc ks Q X := fun mc ms p e s m args below meth c R H locs cells slots ls C I => lv_icmp_lt C.1 C.2.1 hdg ht (fun c9 => kt c9 mc ms p e s m args below meth c R H locs cells slots ls C I) (fun c9 => kf c9 mc ms p e s m args below meth c R H locs cells slots ls C I)
theorem v_icmp_ge {K : KT} {M : MT} {lv : List (Option Value)} {st : List Value} {h : AH} {kc ks : Nat} {Q : QR} {X : QX} (pc : Nat) {x y : Int32} {off : Int} {tgt : Nat} (hdg : decode M.2.1 pc = .ok (.if_icmp .ge off, 3)) (ht : (pc : Int) + off = (tgt : Int)) (kt : y ≤ x → V K M tgt lv (st) h kc ks Q X) (kf : ¬ y ≤ x → V K M (pc + 3) lv (st) h kc ks Q X) : V K M pc lv (.int y :: .int x :: st) h kc ks Q X := fun mc ms p e s m args below meth c R H locs cells slots ls C I => lv_icmp_ge C.1 C.2.1 hdg ht (fun c9 => kt c9 mc ms p e s m args below meth c R H locs cells slots ls C I) (fun c9 => kf c9 mc ms p e s m args below meth c R H locs cells slots ls C I)
theorem v_icmp_gt {K : KT} {M : MT} {lv : List (Option Value)} {st : List Value} {h : AH} {kc ks : Nat} {Q : QR} {X : QX} (pc : Nat) {x y : Int32} {off : Int} {tgt : Nat} (hdg : decode M.2.1 pc = .ok (.if_icmp .gt off, 3)) (ht : (pc : Int) + off = (tgt : Int)) (kt : y < x → V K M tgt lv (st) h kc ks Q X) (kf : ¬ y < x → V K M (pc + 3) lv (st) h kc ks Q X) : V K M pc lv (.int y :: .int x :: st) h kc ks Q X := fun mc ms p e s m args below meth c R H locs cells slots ls C I => lv_icmp_gt C.1 C.2.1 hdg ht (fun c9 => kt c9 mc ms p e s m args below meth c R H locs cells slots ls C I) (fun c9 => kf c9 mc ms p e s m args below meth c R H locs cells slots ls C I)
theorem v_icmp_le {K : KT} {M : MT} {lv : List (Option Value)} {st : List Value} {h : AH} {kc ks : Nat} {Q : QR} {X : QX} (pc : Nat) {x y : Int32} {off : Int} {tgt : Nat} (hdg : decode M.2.1 pc = .ok (.if_icmp .le off, 3)) (ht : (pc : Int) + off = (tgt : Int)) (kt : x ≤ y → V K M tgt lv (st) h kc ks Q X) (kf : ¬ x ≤ y → V K M (pc + 3) lv (st) h kc ks Q X) : V K M pc lv (.int y :: .int x :: st) h kc ks Q X := fun mc ms p e s m args below meth c R H locs cells slots ls C I => lv_icmp_le C.1 C.2.1 hdg ht (fun c9 => kt c9 mc ms p e s m args below meth c R H locs cells slots ls C I) (fun c9 => kf c9 mc ms p e s m args below meth c R H locs cells slots ls C I)
theorem v_goto {K : KT} {M : MT} {lv : List (Option Value)} {st : List Value} {h : AH} {kc ks : Nat} {Q : QR} {X : QX} (pc : Nat) {off : Int} {tgt : Nat} (hdg : decode M.2.1 pc = .ok (.goto off, 3)) (ht : (pc : Int) + off = (tgt : Int)) (k : V K M tgt lv (st) h kc ks Q X) : V K M pc lv (st) h kc ks Q X := fun mc ms p e s m args below meth c R H locs cells slots ls C I => lv_goto C.1 C.2.1 hdg ht (k mc ms p e s m args below meth c R H locs cells slots ls C I)
theorem v_null {K : KT} {M : MT} {lv : List (Option Value)} {st : List Value} {h : AH} {kc ks : Nat} {Q : QR} {X : QX} (pc : Nat) (hdg : decode M.2.1 pc = .ok (.aconst_null, 1)) (k : V K M (pc + 1) lv (.null :: st) h kc ks Q X) : V K M pc lv (st) h kc ks Q X := fun mc ms p e s m args below meth c R H locs cells slots ls C I => lv_null C.1 C.2.1 hdg (k mc ms p e s m args below meth c R H locs cells slots ls C I)
theorem v_ifnull {K : KT} {M : MT} {lv : List (Option Value)} {st : List Value} {h : AH} {kc ks : Nat} {Q : QR} {X : QX} (pc : Nat) {x : Nat} {off : Int} (hdg : decode M.2.1 pc = .ok (.ifnull off, 3)) (k : V K M (pc + 3) lv (st) h kc ks Q X) : V K M pc lv (.ref x :: st) h kc ks Q X := fun mc ms p e s m args below meth c R H locs cells slots ls C I => lv_ifnull C.1 C.2.1 hdg (k mc ms p e s m args below meth c R H locs cells slots ls C I)
theorem v_ifnonnull {K : KT} {M : MT} {lv : List (Option Value)} {st : List Value} {h : AH} {kc ks : Nat} {Q : QR} {X : QX} (pc : Nat) {x : Nat} {off : Int} {tgt : Nat} (hdg : decode M.2.1 pc = .ok (.ifnonnull off, 3)) (ht : (pc : Int) + off = (tgt : Int)) (k : V K M tgt lv (st) h kc ks Q X) : V K M pc lv (.ref x :: st) h kc ks Q X := fun mc ms p e s m args below meth c R H locs cells slots ls C I => lv_ifnonnull C.1 C.2.1 hdg ht (k mc ms p e s m args below meth c R H locs cells slots ls C I)
theorem v_ifnullN {K : KT} {M : MT} {lv : List (Option Value)} {st : List Value} {h : AH} {kc ks : Nat} {Q : QR} {X : QX} (pc : Nat) {off : Int} {tgt : Nat} (hdg : decode M.2.1 pc = .ok (.ifnull off, 3)) (ht : (pc : Int) + off = (tgt : Int)) (k : V K M tgt lv (st) h kc ks Q X) : V K M pc lv (.null :: st) h kc ks Q X := fun mc ms p e s m args below meth c R H locs cells slots ls C I => lv_ifnullN C.1 C.2.1 hdg ht (k mc ms p e s m args below meth c R H locs cells slots ls C I)
theorem v_ifnonnullN {K : KT} {M : MT} {lv : List (Option Value)} {st : List Value} {h : AH} {kc ks : Nat} {Q : QR} {X : QX} (pc : Nat) {off : Int} (hdg : decode M.2.1 pc = .ok (.ifnonnull off, 3)) (k : V K M (pc + 3) lv (st) h kc ks Q X) : V K M pc lv (.null :: st) h kc ks Q X := fun mc ms p e s m args below meth c R H locs cells slots ls C I => lv_ifnonnullN C.1 C.2.1 hdg (k mc ms p e s m args below meth c R H locs cells slots ls C I)
theorem v_castN {K : KT} {M : MT} {lv : List (Option Value)} {st : List Value} {h : AH} {kc ks : Nat} {Q : QR} {X : QX} (pc : Nat) {index : Nat} (hdg : decode M.2.1 pc = .ok (.checkcast index, 3)) (k : V K M (pc + 3) lv (.null :: st) h kc ks Q X) : V K M pc lv (.null :: st) h kc ks Q X := fun mc ms p e s m args below meth c R H locs cells slots ls C I => lv_castN C.1 C.2.1 hdg (k mc ms p e s m args below meth c R H locs cells slots ls C I)
theorem v_acmp_eq {K : KT} {M : MT} {lv : List (Option Value)} {st : List Value} {h : AH} {kc ks : Nat} {Q : QR} {X : QX} (pc : Nat) {rx ry : Option Nat} {off : Int} {tgt : Nat} (hdg : decode M.2.1 pc = .ok (.if_acmp .eq off, 3)) (ht : (pc : Int) + off = (tgt : Int)) (kt : rx = ry → V K M tgt lv (st) h kc ks Q X) (kf : ¬ rx = ry → V K M (pc + 3) lv (st) h kc ks Q X) : V K M pc lv (va_rf ry :: va_rf rx :: st) h kc ks Q X := fun mc ms p e s m args below meth c R H locs cells slots ls C I => lv_acmp_eq C.1 C.2.1 hdg ht (fun c9 => kt c9 mc ms p e s m args below meth c R H locs cells slots ls C I) (fun c9 => kf c9 mc ms p e s m args below meth c R H locs cells slots ls C I)
theorem v_acmp_ne {K : KT} {M : MT} {lv : List (Option Value)} {st : List Value} {h : AH} {kc ks : Nat} {Q : QR} {X : QX} (pc : Nat) {rx ry : Option Nat} {off : Int} {tgt : Nat} (hdg : decode M.2.1 pc = .ok (.if_acmp .ne off, 3)) (ht : (pc : Int) + off = (tgt : Int)) (kt : ¬ rx = ry → V K M tgt lv (st) h kc ks Q X) (kf : rx = ry → V K M (pc + 3) lv (st) h kc ks Q X) : V K M pc lv (va_rf ry :: va_rf rx :: st) h kc ks Q X := fun mc ms p e s m args below meth c R H locs cells slots ls C I => lv_acmp_ne C.1 C.2.1 hdg ht (fun c9 => kt c9 mc ms p e s m args below meth c R H locs cells slots ls C I) (fun c9 => kf c9 mc ms p e s m args below meth c R H locs cells slots ls C I)
theorem v_tableIn {K : KT} {M : MT} {lv : List (Option Value)} {st : List Value} {h : AH} {kc ks : Nat} {Q : QR} {X : QX} (pc : Nat) {dflt lo hi : Int} {offs : Array Int} {len : Nat} {x : Int32} {off : Int} {tgt : Nat} (hdg : decode M.2.1 pc = .ok (.tableswitch dflt lo hi offs, len)) (h1 : ¬ x.toInt < lo) (h2 : ¬ hi < x.toInt) (ho : offs[(x.toInt - lo).toNat]? = some off) (ht : (pc : Int) + off = (tgt : Int)) (k : V K M tgt lv (st) h kc ks Q X) : V K M pc lv (.int x :: st) h kc ks Q X := fun mc ms p e s m args below meth c R H locs cells slots ls C I => lv_tableIn C.1 C.2.1 hdg h1 h2 ho ht (k mc ms p e s m args below meth c R H locs cells slots ls C I)
theorem v_tableOut {K : KT} {M : MT} {lv : List (Option Value)} {st : List Value} {h : AH} {kc ks : Nat} {Q : QR} {X : QX} (pc : Nat) {dflt lo hi : Int} {offs : Array Int} {len : Nat} {x : Int32} {tgt : Nat} (hdg : decode M.2.1 pc = .ok (.tableswitch dflt lo hi offs, len)) (hq9 : x.toInt < lo ∨ hi < x.toInt) (ht : (pc : Int) + dflt = (tgt : Int)) (k : V K M tgt lv (st) h kc ks Q X) : V K M pc lv (.int x :: st) h kc ks Q X := fun mc ms p e s m args below meth c R H locs cells slots ls C I => lv_tableOut C.1 C.2.1 hdg hq9 ht (k mc ms p e s m args below meth c R H locs cells slots ls C I)
def isRf (v : Value) : Prop := v = .null ∨ ∃ a, v = .ref a
theorem isRf_n : isRf .null := Or.inl rfl
theorem isRf_r (a : Nat) : isRf (.ref a) := Or.inr ⟨a, rfl⟩
theorem isRf_o (r : Option Nat) : isRf (va_rf r) := va_rf_or r
theorem v_aload_n {K : KT} {M : MT} {lv : List (Option Value)} {st : List Value} {h : AH} {kc ks : Nat} {Q : QR} {X : QX} (pc : Nat) {k : Fin 4} {i : Nat} {v : Value} (hdg : decode M.2.1 pc = .ok (.aload_n k, 1)) (hi : (k : Nat) = i) (hl : lv[i]? = some (some v)) (kk : V K M (pc + 1) lv (v :: st) h kc ks Q X) (hv : isRf v := by first | exact isRf_r _ | exact isRf_n | exact isRf_o _ | assumption) : V K M pc lv st h kc ks Q X := by
  intro mc ms p e s m args below meth c R H locs cells slots ls C I
  rcases hv with rfl | ⟨a, rfl⟩
  · exact lv_aload_nN C.1 C.2.1 hdg hi (I.2.2.2.1.2.2 _ _ hl) (kk mc ms p e s m args below meth c R H locs cells slots ls C I)
  · exact lv_aload_n C.1 C.2.1 hdg hi (I.2.2.2.1.2.2 _ _ hl) (kk mc ms p e s m args below meth c R H locs cells slots ls C I)
theorem v_aload {K : KT} {M : MT} {lv : List (Option Value)} {st : List Value} {h : AH} {kc ks : Nat} {Q : QR} {X : QX} (pc : Nat) {i : Nat} {v : Value} (hdg : decode M.2.1 pc = .ok (.aload i, 2)) (hl : lv[i]? = some (some v)) (kk : V K M (pc + 2) lv (v :: st) h kc ks Q X) (hv : isRf v := by first | exact isRf_r _ | exact isRf_n | exact isRf_o _ | assumption) : V K M pc lv st h kc ks Q X := by
  intro mc ms p e s m args below meth c R H locs cells slots ls C I
  rcases hv with rfl | ⟨a, rfl⟩
  · exact lv_aloadN C.1 C.2.1 hdg (I.2.2.2.1.2.2 _ _ hl) (kk mc ms p e s m args below meth c R H locs cells slots ls C I)
  · exact lv_aload C.1 C.2.1 hdg (I.2.2.2.1.2.2 _ _ hl) (kk mc ms p e s m args below meth c R H locs cells slots ls C I)
theorem v_lcmp {K : KT} {M : MT} {lv : List (Option Value)} {st : List Value} {h : AH} {kc ks : Nat} {Q : QR} {X : QX} (pc : Nat) {x y : Int64} (hdg : decode M.2.1 pc = .ok (.lcmp, 1)) (k : V K M (pc + 1) lv (.int (lg_cmp x y) :: st) h kc ks Q X) : V K M pc lv (.long y :: .long x :: st) h kc ks Q X := fun mc ms p e s m args below meth c R H locs cells slots ls C I => W.lcmp C.1 C.2.1 hdg (k mc ms p e s m args below meth c R H locs cells slots ls C I)
theorem v_istore_n {K : KT} {M : MT} {lv : List (Option Value)} {st : List Value} {h : AH} {kc ks : Nat} {Q : QR} {X : QX} (pc : Nat) {k : Fin 4} {i : Nat} {x : Int32} (hd : decode M.2.1 pc = .ok (.istore_n k, 1)) (hi : (k : Nat) = i) (hn : i < M.2.2.1) (hp : lc1 lv i) (kk : V K M (pc + 1) (lv.set i (some (.int x))) st h kc ks Q X) : V K M pc lv (.int x :: st) h kc ks Q X :=
  fun mc ms p e s m args below meth c R H locs cells slots ls C I => lv_istore_n C.1 C.2.1 hd hi I.2.2.2.1.has hn rfl (fun ls' h' => kk mc ms p e s m args below meth c R H locs cells slots ls' C ⟨I.1, I.2.1, I.2.2.1, lvh.st1 hp h', I.2.2.2.2⟩)
theorem v_istore {K : KT} {M : MT} {lv : List (Option Value)} {st : List Value} {h : AH} {kc ks : Nat} {Q : QR} {X : QX} (pc : Nat) {i : Nat} {x : Int32} (hd : decode M.2.1 pc = .ok (.istore i, 2)) (hn : i < M.2.2.1) (hp : lc1 lv i) (kk : V K M (pc + 2) (lv.set i (some (.int x))) st h kc ks Q X) : V K M pc lv (.int x :: st) h kc ks Q X :=
  fun mc ms p e s m args below meth c R H locs cells slots ls C I => lv_istore C.1 C.2.1 hd I.2.2.2.1.has hn rfl (fun ls' h' => kk mc ms p e s m args below meth c R H locs cells slots ls' C ⟨I.1, I.2.1, I.2.2.1, lvh.st1 hp h', I.2.2.2.2⟩)
theorem v_lstore_n {K : KT} {M : MT} {lv : List (Option Value)} {st : List Value} {h : AH} {kc ks : Nat} {Q : QR} {X : QX} (pc : Nat) {k : Fin 4} {i : Nat} {x : Int64} (hd : decode M.2.1 pc = .ok (.lstore_n k, 1)) (hi : (k : Nat) = i) (hn : i + 1 < M.2.2.1) (hp : lc1 lv i) (kk : V K M (pc + 1) ((lv.set i (some (.long x))).set (i + 1) none) st h kc ks Q X) : V K M pc lv (.long x :: st) h kc ks Q X :=
  fun mc ms p e s m args below meth c R H locs cells slots ls C I => lv_lstore_n C.1 C.2.1 hd hi I.2.2.2.1.has hn rfl (fun ls' h' => kk mc ms p e s m args below meth c R H locs cells slots ls' C ⟨I.1, I.2.1, I.2.2.1, lvh.st2 hp h', I.2.2.2.2⟩)
theorem v_lstore {K : KT} {M : MT} {lv : List (Option Value)} {st : List Value} {h : AH} {kc ks : Nat} {Q : QR} {X : QX} (pc : Nat) {i : Nat} {x : Int64} (hd : decode M.2.1 pc = .ok (.lstore i, 2)) (hn : i + 1 < M.2.2.1) (hp : lc1 lv i) (kk : V K M (pc + 2) ((lv.set i (some (.long x))).set (i + 1) none) st h kc ks Q X) : V K M pc lv (.long x :: st) h kc ks Q X :=
  fun mc ms p e s m args below meth c R H locs cells slots ls C I => lv_lstore C.1 C.2.1 hd I.2.2.2.1.has hn rfl (fun ls' h' => kk mc ms p e s m args below meth c R H locs cells slots ls' C ⟨I.1, I.2.1, I.2.2.1, lvh.st2 hp h', I.2.2.2.2⟩)
theorem v_astore_n {K : KT} {M : MT} {lv : List (Option Value)} {st : List Value} {h : AH} {kc ks : Nat} {Q : QR} {X : QX} (pc : Nat) {k : Fin 4} {i : Nat} {v : Value} (hd : decode M.2.1 pc = .ok (.astore_n k, 1)) (hi : (k : Nat) = i) (hn : i < M.2.2.1) (hp : lc1 lv i) (kk : V K M (pc + 1) (lv.set i (some v)) st h kc ks Q X) (hv : isRf v) : V K M pc lv (v :: st) h kc ks Q X := by
  intro mc ms p e s m args below meth c R H locs cells slots ls C I
  rcases hv with rfl | ⟨a, rfl⟩
  · exact lv_astore_nN C.1 C.2.1 hd hi I.2.2.2.1.has hn rfl (fun ls' h' => kk mc ms p e s m args below meth c R H locs cells slots ls' C ⟨I.1, I.2.1, I.2.2.1, lvh.st1 hp h', I.2.2.2.2⟩)
  · exact lv_astore_n C.1 C.2.1 hd hi I.2.2.2.1.has hn rfl (fun ls' h' => kk mc ms p e s m args below meth c R H locs cells slots ls' C ⟨I.1, I.2.1, I.2.2.1, lvh.st1 hp h', I.2.2.2.2⟩)
theorem v_astore {K : KT} {M : MT} {lv : List (Option Value)} {st : List Value} {h : AH} {kc ks : Nat} {Q : QR} {X : QX} (pc : Nat) {i : Nat} {v : Value} (hd : decode M.2.1 pc = .ok (.astore i, 2)) (hn : i < M.2.2.1) (hp : lc1 lv i) (kk : V K M (pc + 2) (lv.set i (some v)) st h kc ks Q X) (hv : isRf v) : V K M pc lv (v :: st) h kc ks Q X := by
  intro mc ms p e s m args below meth c R H locs cells slots ls C I
  rcases hv with rfl | ⟨a, rfl⟩
  · exact lv_astoreN C.1 C.2.1 hd I.2.2.2.1.has hn rfl (fun ls' h' => kk mc ms p e s m args below meth c R H locs cells slots ls' C ⟨I.1, I.2.1, I.2.2.1, lvh.st1 hp h', I.2.2.2.2⟩)
  · exact lv_astore C.1 C.2.1 hd I.2.2.2.1.has hn rfl (fun ls' h' => kk mc ms p e s m args below meth c R H locs cells slots ls' C ⟨I.1, I.2.1, I.2.2.1, lvh.st1 hp h', I.2.2.2.2⟩)
theorem v_iinc {K : KT} {M : MT} {lv : List (Option Value)} {st : List Value} {h : AH} {kc ks : Nat} {Q : QR} {X : QX} (pc : Nat) {i : Nat} {n : Int} {x y v : Int32} (hd : decode M.2.1 pc = .ok (.iinc i n, 3)) (hl : lv[i]? = some (some (.int x))) (hy : Int32.ofInt n = y) (hv : x + y = v) (hn : i < M.2.2.1) (hp : lc1 lv i) (kk : V K M (pc + 3) (lv.set i (some (.int v))) st h kc ks Q X) : V K M pc lv st h kc ks Q X := by
  intro mc ms p e s m args below meth c R H locs cells slots ls C I
  obtain ⟨k, hk⟩ := List.getElem?_of_mem (mem_prs lv 0 i _ hl)
  rw [Nat.zero_add] at hk
  exact lv_iinc C.1 C.2.1 hd I.2.2.2.1.has hk (by rw [hy]; exact hv) hn rfl (fun ls' h' => kk mc ms p e s m args below meth c R H locs cells slots ls' C ⟨I.1, I.2.1, I.2.2.1, lvh.st1 hp h', I.2.2.2.2⟩)
def oc1 : Option Value → Bool
  | none => true
  | some v => v.category == 1
theorem oc1_lc {a : List (Option Value)} {x : Option Value} {r : List (Option Value)} (h : oc1 x = true) : lc1 (a ++ x :: r) (a.length + 1) := by
  intro j w hj hw
  have : j = a.length := by omega
  subst this
  rw [List.getElem?_append_right (Nat.le_refl _), Nat.sub_self] at hw
  have hx : x = some w := by simpa using hw
  subst hx
  simpa [oc1] using h
theorem lc1_0 {lv : List (Option Value)} : lc1 lv 0 := fun j w hj => by omega
theorem v_ist0 {K : KT} {M : MT} {st : List Value} {h : AH} {kc ks : Nat} {Q : QR} {X : QX} {x0 : Option Value} {r : List (Option Value)} (pc : Nat) {x : Int32} (hd : decode M.2.1 pc = .ok (.istore_n 0, 1)) (kk : V K M (pc + 1) (some (.int x) :: r) st h kc ks Q X) (hn : 0 < M.2.2.1 := by decide) : V K M pc (x0 :: r) (.int x :: st) h kc ks Q X := v_istore_n pc hd rfl hn lc1_0 kk
theorem v_ast0 {K : KT} {M : MT} {st : List Value} {h : AH} {kc ks : Nat} {Q : QR} {X : QX} {x0 : Option Value} {r : List (Option Value)} (pc : Nat) {v : Value} (hd : decode M.2.1 pc = .ok (.astore_n 0, 1)) (kk : V K M (pc + 1) (some (v) :: r) st h kc ks Q X) (hv : isRf v := by first | exact isRf_r _ | exact isRf_n | exact isRf_o _ | assumption) (hn : 0 < M.2.2.1 := by decide) : V K M pc (x0 :: r) (v :: st) h kc ks Q X := v_astore_n pc hd rfl hn lc1_0 kk hv
theorem v_lst0 {K : KT} {M : MT} {st : List Value} {h : AH} {kc ks : Nat} {Q : QR} {X : QX} {x0 x1 : Option Value} {r : List (Option Value)} (pc : Nat) {x : Int64} (hd : decode M.2.1 pc = .ok (.lstore_n 0, 1)) (kk : V K M (pc + 1) (some (.long x) :: none :: r) st h kc ks Q X) (hn : 0 + 1 < M.2.2.1 := by decide) : V K M pc (x0 :: x1 :: r) (.long x :: st) h kc ks Q X := v_lstore_n pc hd rfl hn lc1_0 kk
theorem v_inc0 {K : KT} {M : MT} {st : List Value} {h : AH} {kc ks : Nat} {Q : QR} {X : QX} {r : List (Option Value)} (pc : Nat) {x y : Int32} {n : Int} (hd : decode M.2.1 pc = .ok (.iinc 0 n, 3)) (hy : Int32.ofInt n = y) (kk : V K M (pc + 3) (some (.int (x + y)) :: r) st h kc ks Q X) (hn : 0 < M.2.2.1 := by decide) : V K M pc (some (.int x) :: r) st h kc ks Q X := v_iinc pc hd rfl hy rfl hn lc1_0 kk
theorem v_ist1 {K : KT} {M : MT} {st : List Value} {h : AH} {kc ks : Nat} {Q : QR} {X : QX} {x0 x1 : Option Value} {r : List (Option Value)} (pc : Nat) {x : Int32} (hd : decode M.2.1 pc = .ok (.istore_n 1, 1)) (kk : V K M (pc + 1) (x0 :: some (.int x) :: r) st h kc ks Q X) (hn : 1 < M.2.2.1 := by decide) (hc : oc1 x0 = true := by rfl) : V K M pc (x0 :: x1 :: r) (.int x :: st) h kc ks Q X := v_istore_n pc hd rfl hn (oc1_lc (a := []) hc) kk
theorem v_ast1 {K : KT} {M : MT} {st : List Value} {h : AH} {kc ks : Nat} {Q : QR} {X : QX} {x0 x1 : Option Value} {r : List (Option Value)} (pc : Nat) {v : Value} (hd : decode M.2.1 pc = .ok (.astore_n 1, 1)) (kk : V K M (pc + 1) (x0 :: some (v) :: r) st h kc ks Q X) (hv : isRf v := by first | exact isRf_r _ | exact isRf_n | exact isRf_o _ | assumption) (hn : 1 < M.2.2.1 := by decide) (hc : oc1 x0 = true := by rfl) : V K M pc (x0 :: x1 :: r) (v :: st) h kc ks Q X := v_astore_n pc hd rfl hn (oc1_lc (a := []) hc) kk hv
theorem v_lst1 {K : KT} {M : MT} {st : List Value} {h : AH} {kc ks : Nat} {Q : QR} {X : QX} {x0 x1 x2 : Option Value} {r : List (Option Value)} (pc : Nat) {x : Int64} (hd : decode M.2.1 pc = .ok (.lstore_n 1, 1)) (kk : V K M (pc + 1) (x0 :: some (.long x) :: none :: r) st h kc ks Q X) (hn : 1 + 1 < M.2.2.1 := by decide) (hc : oc1 x0 = true := by rfl) : V K M pc (x0 :: x1 :: x2 :: r) (.long x :: st) h kc ks Q X := v_lstore_n pc hd rfl hn (oc1_lc (a := []) hc) kk
theorem v_inc1 {K : KT} {M : MT} {st : List Value} {h : AH} {kc ks : Nat} {Q : QR} {X : QX} {x0 : Option Value} {r : List (Option Value)} (pc : Nat) {x y : Int32} {n : Int} (hd : decode M.2.1 pc = .ok (.iinc 1 n, 3)) (hy : Int32.ofInt n = y) (kk : V K M (pc + 3) (x0 :: some (.int (x + y)) :: r) st h kc ks Q X) (hn : 1 < M.2.2.1 := by decide) (hc : oc1 x0 = true := by rfl) : V K M pc (x0 :: some (.int x) :: r) st h kc ks Q X := v_iinc pc hd rfl hy rfl hn (oc1_lc (a := []) hc) kk
theorem v_ist2 {K : KT} {M : MT} {st : List Value} {h : AH} {kc ks : Nat} {Q : QR} {X : QX} {x0 x1 x2 : Option Value} {r : List (Option Value)} (pc : Nat) {x : Int32} (hd : decode M.2.1 pc = .ok (.istore_n 2, 1)) (kk : V K M (pc + 1) (x0 :: x1 :: some (.int x) :: r) st h kc ks Q X) (hn : 2 < M.2.2.1 := by decide) (hc : oc1 x1 = true := by rfl) : V K M pc (x0 :: x1 :: x2 :: r) (.int x :: st) h kc ks Q X := v_istore_n pc hd rfl hn (oc1_lc (a := [x0]) hc) kk
theorem v_ast2 {K : KT} {M : MT} {st : List Value} {h : AH} {kc ks : Nat} {Q : QR} {X : QX} {x0 x1 x2 : Option Value} {r : List (Option Value)} (pc : Nat) {v : Value} (hd : decode M.2.1 pc = .ok (.astore_n 2, 1)) (kk : V K M (pc + 1) (x0 :: x1 :: some (v) :: r) st h kc ks Q X) (hv : isRf v := by first | exact isRf_r _ | exact isRf_n | exact isRf_o _ | assumption) (hn : 2 < M.2.2.1 := by decide) (hc : oc1 x1 = true := by rfl) : V K M pc (x0 :: x1 :: x2 :: r) (v :: st) h kc ks Q X := v_astore_n pc hd rfl hn (oc1_lc (a := [x0]) hc) kk hv
theorem v_lst2 {K : KT} {M : MT} {st : List Value} {h : AH} {kc ks : Nat} {Q : QR} {X : QX} {x0 x1 x2 x3 : Option Value} {r : List (Option Value)} (pc : Nat) {x : Int64} (hd : decode M.2.1 pc = .ok (.lstore_n 2, 1)) (kk : V K M (pc + 1) (x0 :: x1 :: some (.long x) :: none :: r) st h kc ks Q X) (hn : 2 + 1 < M.2.2.1 := by decide) (hc : oc1 x1 = true := by rfl) : V K M pc (x0 :: x1 :: x2 :: x3 :: r) (.long x :: st) h kc ks Q X := v_lstore_n pc hd rfl hn (oc1_lc (a := [x0]) hc) kk
theorem v_inc2 {K : KT} {M : MT} {st : List Value} {h : AH} {kc ks : Nat} {Q : QR} {X : QX} {x0 x1 : Option Value} {r : List (Option Value)} (pc : Nat) {x y : Int32} {n : Int} (hd : decode M.2.1 pc = .ok (.iinc 2 n, 3)) (hy : Int32.ofInt n = y) (kk : V K M (pc + 3) (x0 :: x1 :: some (.int (x + y)) :: r) st h kc ks Q X) (hn : 2 < M.2.2.1 := by decide) (hc : oc1 x1 = true := by rfl) : V K M pc (x0 :: x1 :: some (.int x) :: r) st h kc ks Q X := v_iinc pc hd rfl hy rfl hn (oc1_lc (a := [x0]) hc) kk
theorem v_ist3 {K : KT} {M : MT} {st : List Value} {h : AH} {kc ks : Nat} {Q : QR} {X : QX} {x0 x1 x2 x3 : Option Value} {r : List (Option Value)} (pc : Nat) {x : Int32} (hd : decode M.2.1 pc = .ok (.istore_n 3, 1)) (kk : V K M (pc + 1) (x0 :: x1 :: x2 :: some (.int x) :: r) st h kc ks Q X) (hn : 3 < M.2.2.1 := by decide) (hc : oc1 x2 = true := by rfl) : V K M pc (x0 :: x1 :: x2 :: x3 :: r) (.int x :: st) h kc ks Q X := v_istore_n pc hd rfl hn (oc1_lc (a := [x0, x1]) hc) kk
theorem v_ast3 {K : KT} {M : MT} {st : List Value} {h : AH} {kc ks : Nat} {Q : QR} {X : QX} {x0 x1 x2 x3 : Option Value} {r : List (Option Value)} (pc : Nat) {v : Value} (hd : decode M.2.1 pc = .ok (.astore_n 3, 1)) (kk : V K M (pc + 1) (x0 :: x1 :: x2 :: some (v) :: r) st h kc ks Q X) (hv : isRf v := by first | exact isRf_r _ | exact isRf_n | exact isRf_o _ | assumption) (hn : 3 < M.2.2.1 := by decide) (hc : oc1 x2 = true := by rfl) : V K M pc (x0 :: x1 :: x2 :: x3 :: r) (v :: st) h kc ks Q X := v_astore_n pc hd rfl hn (oc1_lc (a := [x0, x1]) hc) kk hv
theorem v_lst3 {K : KT} {M : MT} {st : List Value} {h : AH} {kc ks : Nat} {Q : QR} {X : QX} {x0 x1 x2 x3 x4 : Option Value} {r : List (Option Value)} (pc : Nat) {x : Int64} (hd : decode M.2.1 pc = .ok (.lstore_n 3, 1)) (kk : V K M (pc + 1) (x0 :: x1 :: x2 :: some (.long x) :: none :: r) st h kc ks Q X) (hn : 3 + 1 < M.2.2.1 := by decide) (hc : oc1 x2 = true := by rfl) : V K M pc (x0 :: x1 :: x2 :: x3 :: x4 :: r) (.long x :: st) h kc ks Q X := v_lstore_n pc hd rfl hn (oc1_lc (a := [x0, x1]) hc) kk
theorem v_inc3 {K : KT} {M : MT} {st : List Value} {h : AH} {kc ks : Nat} {Q : QR} {X : QX} {x0 x1 x2 : Option Value} {r : List (Option Value)} (pc : Nat) {x y : Int32} {n : Int} (hd : decode M.2.1 pc = .ok (.iinc 3 n, 3)) (hy : Int32.ofInt n = y) (kk : V K M (pc + 3) (x0 :: x1 :: x2 :: some (.int (x + y)) :: r) st h kc ks Q X) (hn : 3 < M.2.2.1 := by decide) (hc : oc1 x2 = true := by rfl) : V K M pc (x0 :: x1 :: x2 :: some (.int x) :: r) st h kc ks Q X := v_iinc pc hd rfl hy rfl hn (oc1_lc (a := [x0, x1]) hc) kk
theorem v_ist4 {K : KT} {M : MT} {st : List Value} {h : AH} {kc ks : Nat} {Q : QR} {X : QX} {x0 x1 x2 x3 x4 : Option Value} {r : List (Option Value)} (pc : Nat) {x : Int32} (hd : decode M.2.1 pc = .ok (.istore 4, 2)) (kk : V K M (pc + 2) (x0 :: x1 :: x2 :: x3 :: some (.int x) :: r) st h kc ks Q X) (hn : 4 < M.2.2.1 := by decide) (hc : oc1 x3 = true := by rfl) : V K M pc (x0 :: x1 :: x2 :: x3 :: x4 :: r) (.int x :: st) h kc ks Q X := v_istore pc hd hn (oc1_lc (a := [x0, x1, x2]) hc) kk
theorem v_ast4 {K : KT} {M : MT} {st : List Value} {h : AH} {kc ks : Nat} {Q : QR} {X : QX} {x0 x1 x2 x3 x4 : Option Value} {r : List (Option Value)} (pc : Nat) {v : Value} (hd : decode M.2.1 pc = .ok (.astore 4, 2)) (kk : V K M (pc + 2) (x0 :: x1 :: x2 :: x3 :: some (v) :: r) st h kc ks Q X) (hv : isRf v := by first | exact isRf_r _ | exact isRf_n | exact isRf_o _ | assumption) (hn : 4 < M.2.2.1 := by decide) (hc : oc1 x3 = true := by rfl) : V K M pc (x0 :: x1 :: x2 :: x3 :: x4 :: r) (v :: st) h kc ks Q X := v_astore pc hd hn (oc1_lc (a := [x0, x1, x2]) hc) kk hv
theorem v_lst4 {K : KT} {M : MT} {st : List Value} {h : AH} {kc ks : Nat} {Q : QR} {X : QX} {x0 x1 x2 x3 x4 x5 : Option Value} {r : List (Option Value)} (pc : Nat) {x : Int64} (hd : decode M.2.1 pc = .ok (.lstore 4, 2)) (kk : V K M (pc + 2) (x0 :: x1 :: x2 :: x3 :: some (.long x) :: none :: r) st h kc ks Q X) (hn : 4 + 1 < M.2.2.1 := by decide) (hc : oc1 x3 = true := by rfl) : V K M pc (x0 :: x1 :: x2 :: x3 :: x4 :: x5 :: r) (.long x :: st) h kc ks Q X := v_lstore pc hd hn (oc1_lc (a := [x0, x1, x2]) hc) kk
theorem v_inc4 {K : KT} {M : MT} {st : List Value} {h : AH} {kc ks : Nat} {Q : QR} {X : QX} {x0 x1 x2 x3 : Option Value} {r : List (Option Value)} (pc : Nat) {x y : Int32} {n : Int} (hd : decode M.2.1 pc = .ok (.iinc 4 n, 3)) (hy : Int32.ofInt n = y) (kk : V K M (pc + 3) (x0 :: x1 :: x2 :: x3 :: some (.int (x + y)) :: r) st h kc ks Q X) (hn : 4 < M.2.2.1 := by decide) (hc : oc1 x3 = true := by rfl) : V K M pc (x0 :: x1 :: x2 :: x3 :: some (.int x) :: r) st h kc ks Q X := v_iinc pc hd rfl hy rfl hn (oc1_lc (a := [x0, x1, x2]) hc) kk
theorem v_ist5 {K : KT} {M : MT} {st : List Value} {h : AH} {kc ks : Nat} {Q : QR} {X : QX} {x0 x1 x2 x3 x4 x5 : Option Value} {r : List (Option Value)} (pc : Nat) {x : Int32} (hd : decode M.2.1 pc = .ok (.istore 5, 2)) (kk : V K M (pc + 2) (x0 :: x1 :: x2 :: x3 :: x4 :: some (.int x) :: r) st h kc ks Q X) (hn : 5 < M.2.2.1 := by decide) (hc : oc1 x4 = true := by rfl) : V K M pc (x0 :: x1 :: x2 :: x3 :: x4 :: x5 :: r) (.int x :: st) h kc ks Q X := v_istore pc hd hn (oc1_lc (a := [x0, x1, x2, x3]) hc) kk
theorem v_ast5 {K : KT} {M : MT} {st : List Value} {h : AH} {kc ks : Nat} {Q : QR} {X : QX} {x0 x1 x2 x3 x4 x5 : Option Value} {r : List (Option Value)} (pc : Nat) {v : Value} (hd : decode M.2.1 pc = .ok (.astore 5, 2)) (kk : V K M (pc + 2) (x0 :: x1 :: x2 :: x3 :: x4 :: some (v) :: r) st h kc ks Q X) (hv : isRf v := by first | exact isRf_r _ | exact isRf_n | exact isRf_o _ | assumption) (hn : 5 < M.2.2.1 := by decide) (hc : oc1 x4 = true := by rfl) : V K M pc (x0 :: x1 :: x2 :: x3 :: x4 :: x5 :: r) (v :: st) h kc ks Q X := v_astore pc hd hn (oc1_lc (a := [x0, x1, x2, x3]) hc) kk hv
theorem v_lst5 {K : KT} {M : MT} {st : List Value} {h : AH} {kc ks : Nat} {Q : QR} {X : QX} {x0 x1 x2 x3 x4 x5 x6 : Option Value} {r : List (Option Value)} (pc : Nat) {x : Int64} (hd : decode M.2.1 pc = .ok (.lstore 5, 2)) (kk : V K M (pc + 2) (x0 :: x1 :: x2 :: x3 :: x4 :: some (.long x) :: none :: r) st h kc ks Q X) (hn : 5 + 1 < M.2.2.1 := by decide) (hc : oc1 x4 = true := by rfl) : V K M pc (x0 :: x1 :: x2 :: x3 :: x4 :: x5 :: x6 :: r) (.long x :: st) h kc ks Q X := v_lstore pc hd hn (oc1_lc (a := [x0, x1, x2, x3]) hc) kk
theorem v_inc5 {K : KT} {M : MT} {st : List Value} {h : AH} {kc ks : Nat} {Q : QR} {X : QX} {x0 x1 x2 x3 x4 : Option Value} {r : List (Option Value)} (pc : Nat) {x y : Int32} {n : Int} (hd : decode M.2.1 pc = .ok (.iinc 5 n, 3)) (hy : Int32.ofInt n = y) (kk : V K M (pc + 3) (x0 :: x1 :: x2 :: x3 :: x4 :: some (.int (x + y)) :: r) st h kc ks Q X) (hn : 5 < M.2.2.1 := by decide) (hc : oc1 x4 = true := by rfl) : V K M pc (x0 :: x1 :: x2 :: x3 :: x4 :: some (.int x) :: r) st h kc ks Q X := v_iinc pc hd rfl hy rfl hn (oc1_lc (a := [x0, x1, x2, x3]) hc) kk
theorem v_ist6 {K : KT} {M : MT} {st : List Value} {h : AH} {kc ks : Nat} {Q : QR} {X : QX} {x0 x1 x2 x3 x4 x5 x6 : Option Value} {r : List (Option Value)} (pc : Nat) {x : Int32} (hd : decode M.2.1 pc = .ok (.istore 6, 2)) (kk : V K M (pc + 2) (x0 :: x1 :: x2 :: x3 :: x4 :: x5 :: some (.int x) :: r) st h kc ks Q X) (hn : 6 < M.2.2.1 := by decide) (hc : oc1 x5 = true := by rfl) : V K M pc (x0 :: x1 :: x2 :: x3 :: x4 :: x5 :: x6 :: r) (.int x :: st) h kc ks Q X := v_istore pc hd hn (oc1_lc (a := [x0, x1, x2, x3, x4]) hc) kk
theorem v_ast6 {K : KT} {M : MT} {st : List Value} {h : AH} {kc ks : Nat} {Q : QR} {X : QX} {x0 x1 x2 x3 x4 x5 x6 : Option Value} {r : List (Option Value)} (pc : Nat) {v : Value} (hd : decode M.2.1 pc = .ok (.astore 6, 2)) (kk : V K M (pc + 2) (x0 :: x1 :: x2 :: x3 :: x4 :: x5 :: some (v) :: r) st h kc ks Q X) (hv : isRf v := by first | exact isRf_r _ | exact isRf_n | exact isRf_o _ | assumption) (hn : 6 < M.2.2.1 := by decide) (hc : oc1 x5 = true := by rfl) : V K M pc (x0 :: x1 :: x2 :: x3 :: x4 :: x5 :: x6 :: r) (v :: st) h kc ks Q X := v_astore pc hd hn (oc1_lc (a := [x0, x1, x2, x3, x4]) hc) kk hv
theorem v_lst6 {K : KT} {M : MT} {st : List Value} {h : AH} {kc ks : Nat} {Q : QR} {X : QX} {x0 x1 x2 x3 x4 x5 x6 x7 : Option Value} {r : List (Option Value)} (pc : Nat) {x : Int64} (hd : decode M.2.1 pc = .ok (.lstore 6, 2)) (kk : V K M (pc + 2) (x0 :: x1 :: x2 :: x3 :: x4 :: x5 :: some (.long x) :: none :: r) st h kc ks Q X) (hn : 6 + 1 < M.2.2.1 := by decide) (hc : oc1 x5 = true := by rfl) : V K M pc (x0 :: x1 :: x2 :: x3 :: x4 :: x5 :: x6 :: x7 :: r) (.long x :: st) h kc ks Q X := v_lstore pc hd hn (oc1_lc (a := [x0, x1, x2, x3, x4]) hc) kk
theorem v_inc6 {K : KT} {M : MT} {st : List Value} {h : AH} {kc ks : Nat} {Q : QR} {X : QX} {x0 x1 x2 x3 x4 x5 : Option Value} {r : List (Option Value)} (pc : Nat) {x y : Int32} {n : Int} (hd : decode M.2.1 pc = .ok (.iinc 6 n, 3)) (hy : Int32.ofInt n = y) (kk : V K M (pc + 3) (x0 :: x1 :: x2 :: x3 :: x4 :: x5 :: some (.int (x + y)) :: r) st h kc ks Q X) (hn : 6 < M.2.2.1 := by decide) (hc : oc1 x5 = true := by rfl) : V K M pc (x0 :: x1 :: x2 :: x3 :: x4 :: x5 :: some (.int x) :: r) st h kc ks Q X := v_iinc pc hd rfl hy rfl hn (oc1_lc (a := [x0, x1, x2, x3, x4]) hc) kk
theorem v_ist7 {K : KT} {M : MT} {st : List Value} {h : AH} {kc ks : Nat} {Q : QR} {X : QX} {x0 x1 x2 x3 x4 x5 x6 x7 : Option Value} {r : List (Option Value)} (pc : Nat) {x : Int32} (hd : decode M.2.1 pc = .ok (.istore 7, 2)) (kk : V K M (pc + 2) (x0 :: x1 :: x2 :: x3 :: x4 :: x5 :: x6 :: some (.int x) :: r) st h kc ks Q X) (hn : 7 < M.2.2.1 := by decide) (hc : oc1 x6 = true := by rfl) : V K M pc (x0 :: x1 :: x2 :: x3 :: x4 :: x5 :: x6 :: x7 :: r) (.int x :: st) h kc ks Q X := v_istore pc hd hn (oc1_lc (a := [x0, x1, x2, x3, x4, x5]) hc) kk
theorem v_ast7 {K : KT} {M : MT} {st : List Value} {h : AH} {kc ks : Nat} {Q : QR} {X : QX} {x0 x1 x2 x3 x4 x5 x6 x7 : Option Value} {r : List (Option Value)} (pc : Nat) {v : Value} (hd : decode M.2.1 pc = .ok (.astore 7, 2)) (kk : V K M (pc + 2) (x0 :: x1 :: x2 :: x3 :: x4 :: x5 :: x6 :: some (v) :: r) st h kc ks Q X) (hv : isRf v := by first | exact isRf_r _ | exact isRf_n | exact isRf_o _ | assumption) (hn : 7 < M.2.2.1 := by decide) (hc : oc1 x6 = true := by rfl) : V K M pc (x0 :: x1 :: x2 :: x3 :: x4 :: x5 :: x6 :: x7 :: r) (v :: st) h kc ks Q X := v_astore pc hd hn (oc1_lc (a := [x0, x1, x2, x3, x4, x5]) hc) kk hv
theorem v_lst7 {K : KT} {M : MT} {st : List Value} {h : AH} {kc ks : Nat} {Q : QR} {X : QX} {x0 x1 x2 x3 x4 x5 x6 x7 x8 : Option Value} {r : List (Option Value)} (pc : Nat) {x : Int64} (hd : decode M.2.1 pc = .ok (.lstore 7, 2)) (kk : V K M (pc + 2) (x0 :: x1 :: x2 :: x3 :: x4 :: x5 :: x6 :: some (.long x) :: none :: r) st h kc ks Q X) (hn : 7 + 1 < M.2.2.1 := by decide) (hc : oc1 x6 = true := by rfl) : V K M pc (x0 :: x1 :: x2 :: x3 :: x4 :: x5 :: x6 :: x7 :: x8 :: r) (.long x :: st) h kc ks Q X := v_lstore pc hd hn (oc1_lc (a := [x0, x1, x2, x3, x4, x5]) hc) kk
theorem v_inc7 {K : KT} {M : MT} {st : List Value} {h : AH} {kc ks : Nat} {Q : QR} {X : QX} {x0 x1 x2 x3 x4 x5 x6 : Option Value} {r : List (Option Value)} (pc : Nat) {x y : Int32} {n : Int} (hd : decode M.2.1 pc = .ok (.iinc 7 n, 3)) (hy : Int32.ofInt n = y) (kk : V K M (pc + 3) (x0 :: x1 :: x2 :: x3 :: x4 :: x5 :: x6 :: some (.int (x + y)) :: r) st h kc ks Q X) (hn : 7 < M.2.2.1 := by decide) (hc : oc1 x6 = true := by rfl) : V K M pc (x0 :: x1 :: x2 :: x3 :: x4 :: x5 :: x6 :: some (.int x) :: r) st h kc ks Q X := v_iinc pc hd rfl hy rfl hn (oc1_lc (a := [x0, x1, x2, x3, x4, x5]) hc) kk
theorem v_ist8 {K : KT} {M : MT} {st : List Value} {h : AH} {kc ks : Nat} {Q : QR} {X : QX} {x0 x1 x2 x3 x4 x5 x6 x7 x8 : Option Value} {r : List (Option Value)} (pc : Nat) {x : Int32} (hd : decode M.2.1 pc = .ok (.istore 8, 2)) (kk : V K M (pc + 2) (x0 :: x1 :: x2 :: x3 :: x4 :: x5 :: x6 :: x7 :: some (.int x) :: r) st h kc ks Q X) (hn : 8 < M.2.2.1 := by decide) (hc : oc1 x7 = true := by rfl) : V K M pc (x0 :: x1 :: x2 :: x3 :: x4 :: x5 :: x6 :: x7 :: x8 :: r) (.int x :: st) h kc ks Q X := v_istore pc hd hn (oc1_lc (a := [x0, x1, x2, x3, x4, x5, x6]) hc) kk
theorem v_ast8 {K : KT} {M : MT} {st : List Value} {h : AH} {kc ks : Nat} {Q : QR} {X : QX} {x0 x1 x2 x3 x4 x5 x6 x7 x8 : Option Value} {r : List (Option Value)} (pc : Nat) {v : Value} (hd : decode M.2.1 pc = .ok (.astore 8, 2)) (kk : V K M (pc + 2) (x0 :: x1 :: x2 :: x3 :: x4 :: x5 :: x6 :: x7 :: some (v) :: r) st h kc ks Q X) (hv : isRf v := by first | exact isRf_r _ | exact isRf_n | exact isRf_o _ | assumption) (hn : 8 < M.2.2.1 := by decide) (hc : oc1 x7 = true := by rfl) : V K M pc (x0 :: x1 :: x2 :: x3 :: x4 :: x5 :: x6 :: x7 :: x8 :: r) (v :: st) h kc ks Q X := v_astore pc hd hn (oc1_lc (a := [x0, x1, x2, x3, x4, x5, x6]) hc) kk hv
theorem v_lst8 {K : KT} {M : MT} {st : List Value} {h : AH} {kc ks : Nat} {Q : QR} {X : QX} {x0 x1 x2 x3 x4 x5 x6 x7 x8 x9 : Option Value} {r : List (Option Value)} (pc : Nat) {x : Int64} (hd : decode M.2.1 pc = .ok (.lstore 8, 2)) (kk : V K M (pc + 2) (x0 :: x1 :: x2 :: x3 :: x4 :: x5 :: x6 :: x7 :: some (.long x) :: none :: r) st h kc ks Q X) (hn : 8 + 1 < M.2.2.1 := by decide) (hc : oc1 x7 = true := by rfl) : V K M pc (x0 :: x1 :: x2 :: x3 :: x4 :: x5 :: x6 :: x7 :: x8 :: x9 :: r) (.long x :: st) h kc ks Q X := v_lstore pc hd hn (oc1_lc (a := [x0, x1, x2, x3, x4, x5, x6]) hc) kk
theorem v_inc8 {K : KT} {M : MT} {st : List Value} {h : AH} {kc ks : Nat} {Q : QR} {X : QX} {x0 x1 x2 x3 x4 x5 x6 x7 : Option Value} {r : List (Option Value)} (pc : Nat) {x y : Int32} {n : Int} (hd : decode M.2.1 pc = .ok (.iinc 8 n, 3)) (hy : Int32.ofInt n = y) (kk : V K M (pc + 3) (x0 :: x1 :: x2 :: x3 :: x4 :: x5 :: x6 :: x7 :: some (.int (x + y)) :: r) st h kc ks Q X) (hn : 8 < M.2.2.1 := by decide) (hc : oc1 x7 = true := by rfl) : V K M pc (x0 :: x1 :: x2 :: x3 :: x4 :: x5 :: x6 :: x7 :: some (.int x) :: r) st h kc ks Q X := v_iinc pc hd rfl hy rfl hn (oc1_lc (a := [x0, x1, x2, x3, x4, x5, x6]) hc) kk
theorem v_ist9 {K : KT} {M : MT} {st : List Value} {h : AH} {kc ks : Nat} {Q : QR} {X : QX} {x0 x1 x2 x3 x4 x5 x6 x7 x8 x9 : Option Value} {r : List (Option Value)} (pc : Nat) {x : Int32} (hd : decode M.2.1 pc = .ok (.istore 9, 2)) (kk : V K M (pc + 2) (x0 :: x1 :: x2 :: x3 :: x4 :: x5 :: x6 :: x7 :: x8 :: some (.int x) :: r) st h kc ks Q X) (hn : 9 < M.2.2.1 := by decide) (hc : oc1 x8 = true := by rfl) : V K M pc (x0 :: x1 :: x2 :: x3 :: x4 :: x5 :: x6 :: x7 :: x8 :: x9 :: r) (.int x :: st) h kc ks Q X := v_istore pc hd hn (oc1_lc (a := [x0, x1, x2, x3, x4, x5, x6, x7]) hc) kk
theorem v_ast9 {K : KT} {M : MT} {st : List Value} {h : AH} {kc ks : Nat} {Q : QR} {X : QX} {x0 x1 x2 x3 x4 x5 x6 x7 x8 x9 : Option Value} {r : List (Option Value)} (pc : Nat) {v : Value} (hd : decode M.2.1 pc = .ok (.astore 9, 2)) (kk : V K M (pc + 2) (x0 :: x1 :: x2 :: x3 :: x4 :: x5 :: x6 :: x7 :: x8 :: some (v) :: r) st h kc ks Q X) (hv : isRf v := by first | exact isRf_r _ | exact isRf_n | exact isRf_o _ | assumption) (hn : 9 < M.2.2.1 := by decide) (hc : oc1 x8 = true := by rfl) : V K M pc (x0 :: x1 :: x2 :: x3 :: x4 :: x5 :: x6 :: x7 :: x8 :: x9 :: r) (v :: st) h kc ks Q X := v_astore pc hd hn (oc1_lc (a := [x0, x1, x2, x3, x4, x5, x6, x7]) hc) kk hv
theorem v_lst9 {K : KT} {M : MT} {st : List Value} {h : AH} {kc ks : Nat} {Q : QR} {X : QX} {x0 x1 x2 x3 x4 x5 x6 x7 x8 x9 x10 : Option Value} {r : List (Option Value)} (pc : Nat) {x : Int64} (hd : decode M.2.1 pc = .ok (.lstore 9, 2)) (kk : V K M (pc + 2) (x0 :: x1 :: x2 :: x3 :: x4 :: x5 :: x6 :: x7 :: x8 :: some (.long x) :: none :: r) st h kc ks Q X) (hn : 9 + 1 < M.2.2.1 := by decide) (hc : oc1 x8 = true := by rfl) : V K M pc (x0 :: x1 :: x2 :: x3 :: x4 :: x5 :: x6 :: x7 :: x8 :: x9 :: x10 :: r) (.long x :: st) h kc ks Q X := v_lstore pc hd hn (oc1_lc (a := [x0, x1, x2, x3, x4, x5, x6, x7]) hc) kk
theorem v_inc9 {K : KT} {M : MT} {st : List Value} {h : AH} {kc ks : Nat} {Q : QR} {X : QX} {x0 x1 x2 x3 x4 x5 x6 x7 x8 : Option Value} {r : List (Option Value)} (pc : Nat) {x y : Int32} {n : Int} (hd : decode M.2.1 pc = .ok (.iinc 9 n, 3)) (hy : Int32.ofInt n = y) (kk : V K M (pc + 3) (x0 :: x1 :: x2 :: x3 :: x4 :: x5 :: x6 :: x7 :: x8 :: some (.int (x + y)) :: r) st h kc ks Q X) (hn : 9 < M.2.2.1 := by decide) (hc : oc1 x8 = true := by rfl) : V K M pc (x0 :: x1 :: x2 :: x3 :: x4 :: x5 :: x6 :: x7 :: x8 :: some (.int x) :: r) st h kc ks Q X := v_iinc pc hd rfl hy rfl hn (oc1_lc (a := [x0, x1, x2, x3, x4, x5, x6, x7]) hc) kk
theorem v_ist10 {K : KT} {M : MT} {st : List Value} {h : AH} {kc ks : Nat} {Q : QR} {X : QX} {x0 x1 x2 x3 x4 x5 x6 x7 x8 x9 x10 : Option Value} {r : List (Option Value)} (pc : Nat) {x : Int32} (hd : decode M.2.1 pc = .ok (.istore 10, 2)) (kk : V K M (pc + 2) (x0 :: x1 :: x2 :: x3 :: x4 :: x5 :: x6 :: x7 :: x8 :: x9 :: some (.int x) :: r) st h kc ks Q X) (hn : 10 < M.2.2.1 := by decide) (hc : oc1 x9 = true := by rfl) : V K M pc (x0 :: x1 :: x2 :: x3 :: x4 :: x5 :: x6 :: x7 :: x8 :: x9 :: x10 :: r) (.int x :: st) h kc ks Q X := v_istore pc hd hn (oc1_lc (a := [x0, x1, x2, x3, x4, x5, x6, x7, x8]) hc) kk
theorem v_ast10 {K : KT} {M : MT} {st : List Value} {h : AH} {kc ks : Nat} {Q : QR} {X : QX} {x0 x1 x2 x3 x4 x5 x6 x7 x8 x9 x10 : Option Value} {r : List (Option Value)} (pc : Nat) {v : Value} (hd : decode M.2.1 pc = .ok (.astore 10, 2)) (kk : V K M (pc + 2) (x0 :: x1 :: x2 :: x3 :: x4 :: x5 :: x6 :: x7 :: x8 :: x9 :: some (v) :: r) st h kc ks Q X) (hv : isRf v := by first | exact isRf_r _ | exact isRf_n | exact isRf_o _ | assumption) (hn : 10 < M.2.2.1 := by decide) (hc : oc1 x9 = true := by rfl) : V K M pc (x0 :: x1 :: x2 :: x3 :: x4 :: x5 :: x6 :: x7 :: x8 :: x9 :: x10 :: r) (v :: st) h kc ks Q X := v_astore pc hd hn (oc1_lc (a := [x0, x1, x2, x3, x4, x5, x6, x7, x8]) hc) kk hv
theorem v_lst10 {K : KT} {M : MT} {st : List Value} {h : AH} {kc ks : Nat} {Q : QR} {X : QX} {x0 x1 x2 x3 x4 x5 x6 x7 x8 x9 x10 x11 : Option Value} {r : List (Option Value)} (pc : Nat) {x : Int64} (hd : decode M.2.1 pc = .ok (.lstore 10, 2)) (kk : V K M (pc + 2) (x0 :: x1 :: x2 :: x3 :: x4 :: x5 :: x6 :: x7 :: x8 :: x9 :: some (.long x) :: none :: r) st h kc ks Q X) (hn : 10 + 1 < M.2.2.1 := by decide) (hc : oc1 x9 = true := by rfl) : V K M pc (x0 :: x1 :: x2 :: x3 :: x4 :: x5 :: x6 :: x7 :: x8 :: x9 :: x10 :: x11 :: r) (.long x :: st) h kc ks Q X := v_lstore pc hd hn (oc1_lc (a := [x0, x1, x2, x3, x4, x5, x6, x7, x8]) hc) kk
theorem v_inc10 {K : KT} {M : MT} {st : List Value} {h : AH} {kc ks : Nat} {Q : QR} {X : QX} {x0 x1 x2 x3 x4 x5 x6 x7 x8 x9 : Option Value} {r : List (Option Value)} (pc : Nat) {x y : Int32} {n : Int} (hd : decode M.2.1 pc = .ok (.iinc 10 n, 3)) (hy : Int32.ofInt n = y) (kk : V K M (pc + 3) (x0 :: x1 :: x2 :: x3 :: x4 :: x5 :: x6 :: x7 :: x8 :: x9 :: some (.int (x + y)) :: r) st h kc ks Q X) (hn : 10 < M.2.2.1 := by decide) (hc : oc1 x9 = true := by rfl) : V K M pc (x0 :: x1 :: x2 :: x3 :: x4 :: x5 :: x6 :: x7 :: x8 :: x9 :: some (.int x) :: r) st h kc ks Q X := v_iinc pc hd rfl hy rfl hn (oc1_lc (a := [x0, x1, x2, x3, x4, x5, x6, x7, x8]) hc) kk
theorem v_ist11 {K : KT} {M : MT} {st : List Value} {h : AH} {kc ks : Nat} {Q : QR} {X : QX} {x0 x1 x2 x3 x4 x5 x6 x7 x8 x9 x10 x11 : Option Value} {r : List (Option Value)} (pc : Nat) {x : Int32} (hd : decode M.2.1 pc = .ok (.istore 11, 2)) (kk : V K M (pc + 2) (x0 :: x1 :: x2 :: x3 :: x4 :: x5 :: x6 :: x7 :: x8 :: x9 :: x10 :: some (.int x) :: r) st h kc ks Q X) (hn : 11 < M.2.2.1 := by decide) (hc : oc1 x10 = true := by rfl) : V K M pc (x0 :: x1 :: x2 :: x3 :: x4 :: x5 :: x6 :: x7 :: x8 :: x9 :: x10 :: x11 :: r) (.int x :: st) h kc ks Q X := v_istore pc hd hn (oc1_lc (a := [x0, x1, x2, x3, x4, x5, x6, x7, x8, x9]) hc) kk
theorem v_ast11 {K : KT} {M : MT} {st : List Value} {h : AH} {kc ks : Nat} {Q : QR} {X : QX} {x0 x1 x2 x3 x4 x5 x6 x7 x8 x9 x10 x11 : Option Value} {r : List (Option Value)} (pc : Nat) {v : Value} (hd : decode M.2.1 pc = .ok (.astore 11, 2)) (kk : V K M (pc + 2) (x0 :: x1 :: x2 :: x3 :: x4 :: x5 :: x6 :: x7 :: x8 :: x9 :: x10 :: some (v) :: r) st h kc ks Q X) (hv : isRf v := by first | exact isRf_r _ | exact isRf_n | exact isRf_o _ | assumption) (hn : 11 < M.2.2.1 := by decide) (hc : oc1 x10 = true := by rfl) : V K M pc (x0 :: x1 :: x2 :: x3 :: x4 :: x5 :: x6 :: x7 :: x8 :: x9 :: x10 :: x11 :: r) (v :: st) h kc ks Q X := v_astore pc hd hn (oc1_lc (a := [x0, x1, x2, x3, x4, x5, x6, x7, x8, x9]) hc) kk hv
theorem v_lst11 {K : KT} {M : MT} {st : List Value} {h : AH} {kc ks : Nat} {Q : QR} {X : QX} {x0 x1 x2 x3 x4 x5 x6 x7 x8 x9 x10 x11 x12 : Option Value} {r : List (Option Value)} (pc : Nat) {x : Int64} (hd : decode M.2.1 pc = .ok (.lstore 11, 2)) (kk : V K M (pc + 2) (x0 :: x1 :: x2 :: x3 :: x4 :: x5 :: x6 :: x7 :: x8 :: x9 :: x10 :: some (.long x) :: none :: r) st h kc ks Q X) (hn : 11 + 1 < M.2.2.1 := by decide) (hc : oc1 x10 = true := by rfl) : V K M pc (x0 :: x1 :: x2 :: x3 :: x4 :: x5 :: x6 :: x7 :: x8 :: x9 :: x10 :: x11 :: x12 :: r) (.long x :: st) h kc ks Q X := v_lstore pc hd hn (oc1_lc (a := [x0, x1, x2, x3, x4, x5, x6, x7, x8, x9]) hc) kk
theorem v_inc11 {K : KT} {M : MT} {st : List Value} {h : AH} {kc ks : Nat} {Q : QR} {X : QX} {x0 x1 x2 x3 x4 x5 x6 x7 x8 x9 x10 : Option Value} {r : List (Option Value)} (pc : Nat) {x y : Int32} {n : Int} (hd : decode M.2.1 pc = .ok (.iinc 11 n, 3)) (hy : Int32.ofInt n = y) (kk : V K M (pc + 3) (x0 :: x1 :: x2 :: x3 :: x4 :: x5 :: x6 :: x7 :: x8 :: x9 :: x10 :: some (.int (x + y)) :: r) st h kc ks Q X) (hn : 11 < M.2.2.1 := by decide) (hc : oc1 x10 = true := by rfl) : V K M pc (x0 :: x1 :: x2 :: x3 :: x4 :: x5 :: x6 :: x7 :: x8 :: x9 :: x10 :: some (.int x) :: r) st h kc ks Q X := v_iinc pc hd rfl hy rfl hn (oc1_lc (a := [x0, x1, x2, x3, x4, x5, x6, x7, x8, x9]) hc) kk
end
section
/-! ===== rows that ask the tables or the heap ===== -/
/-- the class number ci, its name, its fields -/
def clOk (ci : Nat) (C : String) (T : u_T) (N : Nat) : Prop := vwCl[ci]? = some (C, T, N) ∧ ∀ w ∈ u_ws C T N, w ∈ gW
/-- a field that an instruction of 'own' names by its entry: field k of the class ci, of the type ty -/
def FL (own : String) (index ci k : Nat) (ty : FieldType) (fin : Bool) (decl : String) : Prop :=
  ∃ (C : String) (T : u_T) (N : Nat) (ty0 : Nat → FieldType) (ref : String), clOk ci C T N ∧ k < N ∧ Cond.fieldLink own index ref (T k).2.1 (T k).2.2.1 ∈ gW ∧ (ref = (T k).1 ∨ Cond.sameField ref (T k).1 (T k).2.1 (T k).2.2.1 ∈ gW) ∧
    (∀ j, j < N → parseFieldDescriptor (T j).2.2.1 = some (ty0 j)) ∧ (∀ a, a < N → ∀ b, b < N → a ≠ b → (T a).2.1 ≠ (T b).2.1) ∧ parseFieldDescriptor (T k).2.2.1 = some ty ∧ (T k).2.2.2 = fin ∧ (T k).1 = decl
section HR
variable {K : KT} {M : MT} {lv : List (Option Value)} {st : List Value} {h : AH} {kc ks : Nat} {Q : QR} {X : QX}
theorem v_getf (pc : Nat) {index ci k a : Nat} {ty : FieldType} {fin : Bool} {decl : String} {fs : List Value} {v : Value} (hd : decode M.2.1 pc = .ok (.getfield index, 3)) (hF : FL M.1.cls index ci k ty fin decl) (ha : h a = some (.inr (ci, fs))) (hv : fs[k]? = some v)
    (kk : V K M (pc + 3) lv (v :: st) h kc ks Q X) : V K M pc lv (.ref a :: st) h kc ks Q X := by
  obtain ⟨C, T, N, ty0, ref, ⟨hc, hw⟩, hk, hl, hsm, hty, hnm, hp, -, -⟩ := hF
  intro mc ms p e s m args below meth c R H locs cells slots ls C0 I
  have hts := C0.2.2.2.2.2.2.2.1
  have hP : va_P K.2.1 vwCl [(a, .inr (ci, fs))] H := fun j q hj => by
    have hj0 : j = 0 := by
      have := (List.getElem?_eq_some_iff.mp hj).1
      simpa using this
    subst hj0
    cases hj
    exact I.1 a _ ha
  refine va_get (D := K.2.1) (ci := ci) (v := v) (C := C) (T := T) (N := N) (ref := ref) C0.1 C0.2.1 hts hw C0.2.2.2.2.1 C0.2.2.2.2.2.2.2.2.1.2.1 hP 0 rfl hc k hk (hts _ hl) ?_ hv hd (kk mc ms p e s m args below meth c R H locs cells slots ls C0 I)
  intro x hx
  rcases hsm with rfl | hsm
  · exact hx
  · exact u_same (hts _ hsm) x hx
theorem hat_set {D : va_G} {U : State} {a ci : Nat} {fs : List Value} {k : Nat} {v : Value} {H1 : Heap} {C : String} {T : u_T} {N : Nat} (hc : vwCl[ci]? = some (C, T, N)) (g : t_OB a (D.1 ci) N (D.2 ci) H1 (updV (vp_V fs) k v)) (hl : k < fs.length) : hat D U a (.inr (ci, fs.set k v)) H1 :=
  ⟨_, hc, g.to (fun j _ => vp_updV_set hl v j)⟩
theorem v_putf (pc : Nat) {index ci k a : Nat} {ty : FieldType} {decl : String} {fs : List Value} {v : Value} (hd : decode M.2.1 pc = .ok (.putfield index, 3)) (hF : FL M.1.cls index ci k ty false decl) (ha : h a = some (.inr (ci, fs))) (hl : k < fs.length) (hn : narrow ty v = v) (hf : fits ty v = true)
    (kk : V K M (pc + 3) lv st (hup h a (.inr (ci, fs.set k v))) kc ks Q X) : V K M pc lv (v :: .ref a :: st) h kc ks Q X := by
  obtain ⟨C, T, N, ty0, ref, ⟨hc, hw⟩, hk, hlk, hsm, hty, hnm, hp, hfin, -⟩ := hF
  intro mc ms p e s m args below meth c R H locs cells slots ls C0 I
  have hts := C0.2.2.2.2.2.2.2.1
  have hK := C0.2.2.2.2.2.2.2.2.1.2.1
  have hap := va_apart (own := M.1.cls) hts hw ty0 hty hnm hK hc
  obtain ⟨r, h1, cell, q1, q2, q3, q4⟩ := I.1 a _ ha
  have hr : r = (C, T, N) := Option.some.inj (h1.symm.trans hc)
  subst hr
  obtain ⟨hS, hfc, kC, hkC, hkind⟩ := hK.1 ci _ hc
  obtain ⟨cf, kf, fi, f, hi, hsl⟩ := hS k hk
  have hlay := hts _ (hw _ (u_in_lay hk))
  unfold u_lay at hlay
  rw [if_neg (by rw [hfin]; decide)] at hlay
  have hst := (u_facts hfc hkC (u_lays hts hw hk) hi).1
  have h6 := u_store hfc hkC hkind hlay hi hp hn hf
  have hi' : s.fieldFound? ref (T k).2.1 (T k).2.2.1 = some (cf, kf, fi, f) := by
    rcases hsm with rfl | hsm
    · exact hi
    · exact u_same (hts _ hsm) _ hi
  refine W.putK C0.1 C0.2.1 (f := f) ⟨C0.2.2.2.2.1, hts _ hlk, ⟨_, _, _, hi'⟩, hst⟩ (by rw [q2]; exact h6) q1 q3 (by rw [hsl]; exact k2_hasslot (q4 k hk)) rfl rfl hd fun H' e1 e2 e3 => ?_
  rw [hsl] at e1 ⊢
  refine kk mc ms p e s m args below meth c R H' _ cells slots ls C0 ⟨I.1.upd e3 (hat_set hc ⟨_, e1, q2, q3, t_set q4 hap hk v⟩ hl), fun q e' hq => ?_, I.2.2.1.put e2 e3 (I.2.1 a _ ha), I.2.2.2⟩
  by_cases hqa : q = a
  · rw [hqa]; exact I.2.1 a _ ha
  · rw [hup_n hqa] at hq; exact I.2.1 q e' hq
theorem v_putF (pc : Nat) {index ci k a : Nat} {ty : FieldType} {fs : List Value} {v : Value} (hd : decode M.2.1 pc = .ok (.putfield index, 3)) (hF : FL M.1.cls index ci k ty true M.1.cls) (hin : M.1.name = "<init>") (ha : h a = some (.inr (ci, fs))) (hl : k < fs.length) (hn : narrow ty v = v) (hf : fits ty v = true)
    (kk : V K M (pc + 3) lv st (hup h a (.inr (ci, fs.set k v))) kc ks Q X) : V K M pc lv (v :: .ref a :: st) h kc ks Q X := by
  obtain ⟨C, T, N, ty0, ref, ⟨hc, hw⟩, hk, hlk, hsm, hty, hnm, hp, hfin, hdecl⟩ := hF
  intro mc ms p e s m args below meth c R H locs cells slots ls C0 I
  have hts := C0.2.2.2.2.2.2.2.1
  have hown := C0.2.2.2.2.1
  have hK := C0.2.2.2.2.2.2.2.2.1.2.1
  have hap := va_apart (own := M.1.cls) hts hw ty0 hty hnm hK hc
  obtain ⟨r, h1, cell, q1, q2, q3, q4⟩ := I.1 a _ ha
  have hr : r = (C, T, N) := Option.some.inj (h1.symm.trans hc)
  subst hr
  obtain ⟨hS, hfc, kC, hkC, hkind⟩ := hK.1 ci _ hc
  obtain ⟨cf, kf, fi, f, hi, hsl⟩ := hS k hk
  have hlay := hts _ (hw _ (u_in_lay hk))
  unfold u_lay at hlay
  rw [if_pos hfin] at hlay
  have hst := (u_facts hfc hkC (u_lays hts hw hk) hi).1
  have hcf : m.cls = cf := by
    obtain ⟨_, _, c', _, _, _, -, -, hf', -, -, -, hown2, -⟩ := Cond.laysFinal_spec hlay
    have e1 : c' = cf := by have := hi.symm.trans hf'; simp at this; exact this.1.symm
    rw [hdecl] at hown2
    rw [← e1]; exact Option.some.inj (hown.symm.trans hown2)
  have h6 := u_fits hfc hkC hkind (Or.inr hlay) hi hp hn hf
  have hi' : s.fieldFound? ref (T k).2.1 (T k).2.2.1 = some (cf, kf, fi, f) := by
    rcases hsm with rfl | hsm
    · exact hi
    · exact u_same (hts _ hsm) _ hi
  refine W.putFinK C0.1 C0.2.1 hown (hts _ hlk) hi' hst hcf (by rw [C0.2.2.2.2.2.2.1]; exact hin) (by rw [q2]; exact h6) q1 q3 (by rw [hsl]; exact k2_hasslot (q4 k hk)) rfl rfl hd fun H' e1 e2 e3 => ?_
  rw [hsl] at e1 ⊢
  refine kk mc ms p e s m args below meth c R H' _ cells slots ls C0 ⟨I.1.upd e3 (hat_set hc ⟨_, e1, q2, q3, t_set q4 hap hk v⟩ hl), fun q e' hq => ?_, I.2.2.1.put e2 e3 (I.2.1 a _ ha), I.2.2.2⟩
  by_cases hqa : q = a
  · rw [hqa]; exact I.2.1 a _ ha
  · rw [hup_n hqa] at hq; exact I.2.1 q e' hq
/-- a class that an instruction of 'own' makes -/
def NL (own : String) (index ci N : Nat) (fs : List Value) : Prop :=
  ∃ (C : String) (T : u_T) (ty0 : Nat → FieldType), clOk ci C T N ∧ Cond.classLink own index C ∈ gW ∧ Cond.instantiable C N ∈ gW ∧ Cond.initialized C ∈ gW ∧ (∀ j, j < N → parseFieldDescriptor (T j).2.2.1 = some (ty0 j)) ∧ ∀ j, j < N → defaultValue (ty0 j) = vp_V fs j
theorem v_new (pc : Nat) {index ci N : Nat} {fs : List Value} (hd : decode M.2.1 pc = .ok (.new index, 3)) (hN : NL M.1.cls index ci N fs)
    (kk : ∀ a : Nat, h a = none → kA K a → V K M (pc + 3) lv (.ref a :: st) (hup h a (.inr (ci, fs))) kc ks Q X) : V K M pc lv st h (kc + 1) (ks + N) Q X := by
  obtain ⟨C, T, ty0, ⟨hc, hw⟩, hl, hi, hini, hty, hfs⟩ := hN
  intro mc ms p e s m args below meth c R H locs cells slots ls C0 I
  have hts := C0.2.2.2.2.2.2.2.1
  have hK := C0.2.2.2.2.2.2.2.2.1.2.1
  have hB := C0.2.2.2.2.2.2.2.2.2.1
  obtain ⟨-, -, r3, r4⟩ := C0.2.2.2.2.2.2.2.2.2.2.1
  obtain ⟨i1, i2, i3, i4, i5, i6⟩ := I
  have hKn := hK.1 ci _ hc
  refine W.newcK C0.1 C0.2.1 C0.2.2.2.2.1 (hts _ hl) (hts _ hi) (hts _ hini) rfl hd (by omega) (by omega) hKn.2.1 rfl fun H1 kC hkC e1 z1 o1 => ?_
  have hkA : kA K H.size := hB.base _ i3.1
  refine kk H.size i1.free hkA mc ms p e s m args below meth c R H1 locs (cells + 1) (slots + N) ls C0 ⟨?_, fun q e' hq => ?_, ⟨Nat.le_trans i3.1 (by omega), fun x h1 h2 => (o1 x (Nat.lt_of_lt_of_le h1 i3.1)).trans (i3.2.1 x h1 h2), i3.2.2⟩, i4, by omega, by omega⟩
  · intro q e' hq
    by_cases hqa : q = H.size
    · subst hqa
      rw [hup_s] at hq
      cases hq
      exact ⟨_, hc, (u_born ty0 hts hw hKn hkC e1 hty).to hfs⟩
    · rw [hup_n hqa] at hq
      exact (i1 q e' hq).kept (o1 q (i1 q e' hq).lt)
  · by_cases hqa : q = H.size
    · rw [hqa]; exact hkA
    · rw [hup_n hqa] at hq; exact i2 q e' hq
/-- a row of numbers is made -/
theorem v_newa (pc : Nat) {atype : ArrayType} {ty : FieldType} {n : Int32} {N : Nat} {x : vp_A} (hd : decode M.2.1 pc = .ok (.newarray atype, 2)) (hw : Cond.arrayClass ty ∈ gW) (hty : newarray.typeOf atype = ty) (hx : ∀ cA : ClassId, vp_cell cA x = arrV cA N (fun _ => defaultValue ty)) (hn : ¬ n < 0) (hN : n.toNatClampNeg = N) (hb : N * componentBytes ty ≤ 536870912)
    (kk : ∀ a : Nat, h a = none → kA K a → V K M (pc + 2) lv (.ref a :: st) (hup h a (.inl (ty, x))) kc ks Q X) : V K M pc lv (.int n :: st) h (kc + 1) (ks + N) Q X := by
  subst hty
  intro mc ms p e s m args below meth c R H locs cells slots ls C0 I
  have hts := C0.2.2.2.2.2.2.2.1
  have hB := C0.2.2.2.2.2.2.2.2.2.1
  obtain ⟨-, -, r3, r4⟩ := C0.2.2.2.2.2.2.2.2.2.2.1
  obtain ⟨i1, i2, i3, i4, i5, i6⟩ := I
  refine va_newaK C0.1 C0.2.1 (hts _ hw) rfl hd rfl hn hN hb (by omega) (by omega) rfl fun H1 cA e1 z1 o1 hAr hNm => ?_
  have hkA : kA K H.size := hB.base _ i3.1
  refine kk H.size i1.free hkA mc ms p e s m args below meth c R H1 locs (cells + 1) (slots + N) ls C0 ⟨?_, fun q e' hq => ?_, ⟨Nat.le_trans i3.1 (by omega), fun x h1 h2 => (o1 x (Nat.lt_of_lt_of_le h1 i3.1)).trans (i3.2.1 x h1 h2), i3.2.2⟩, i4, by omega, by omega⟩
  · intro q e' hq
    by_cases hqa : q = H.size
    · subst hqa
      rw [hup_s] at hq
      cases hq
      exact ⟨cA, hAr, by cases atype <;> exact hNm, by rw [hx]; exact e1⟩
    · rw [hup_n hqa] at hq
      exact (i1 q e' hq).kept (o1 q (i1 q e' hq).lt)
  · by_cases hqa : q = H.size
    · rw [hqa]; exact hkA
    · rw [hup_n hqa] at hq; exact i2 q e' hq
theorem dom_up {K : KT} {h : AH} {a : Nat} {e0 e : AE} (hD : domOk K h) (ha : h a = some e0) : domOk K (hup h a e) := fun q e' hq => by
  by_cases hqa : q = a
  · rw [hqa]; exact hD a _ ha
  · rw [hup_n hqa] at hq; exact hD q e' hq
theorem v_iald (pc : Nat) {a n : Nat} {f : Nat → Int32} {i : Int32} (hd : decode M.2.1 pc = .ok (.iaload, 1)) (ha : h a = some (.inl (.int, n, .inl f))) (hin : vp_in i n)
    (kk : V K M (pc + 1) lv (.int (f i.toNatClampNeg) :: st) h kc ks Q X) : V K M pc lv (.int i :: .ref a :: st) h kc ks Q X := by
  intro mc ms p e s m args below meth c R H locs cells slots ls C0 I
  obtain ⟨cA, h1, h2, h3⟩ := I.1 a _ ha
  have hlt : i.toNatClampNeg < n := Nat.not_le.mp fun q => hin (Or.inr q)
  exact W.iald C0.1 C0.2.1 h3 (h1 n _) (fun q => by cases q) (by show ¬ (i < 0 ∨ (arrV _ _ _).slots.size ≤ _); rw [arrV_size]; exact hin) (by show (arrV _ _ _).slots[_]? = _; rw [arrV_read _ _ hlt]) rfl rfl hd (kk mc ms p e s m args below meth c R H locs cells slots ls C0 I)
theorem v_bald (pc : Nat) {a n : Nat} {f : Nat → Int32} {i : Int32} (hd : decode M.2.1 pc = .ok (.baload, 1)) (ha : h a = some (.inl (.byte, n, .inl f))) (hin : vp_in i n)
    (kk : V K M (pc + 1) lv (.int (f i.toNatClampNeg) :: st) h kc ks Q X) : V K M pc lv (.int i :: .ref a :: st) h kc ks Q X := by
  intro mc ms p e s m args below meth c R H locs cells slots ls C0 I
  obtain ⟨cA, h1, h2, h3⟩ := I.1 a _ ha
  have hlt : i.toNatClampNeg < n := Nat.not_le.mp fun q => hin (Or.inr q)
  exact W.bald C0.1 C0.2.1 h3 (h1 n _) (fun q => by cases q) (by show ¬ (i < 0 ∨ (arrV _ _ _).slots.size ≤ _); rw [arrV_size]; exact hin) (by show (arrV _ _ _).slots[_]? = _; rw [arrV_read _ _ hlt]) rfl rfl hd (kk mc ms p e s m args below meth c R H locs cells slots ls C0 I)
theorem v_zald (pc : Nat) {a n : Nat} {f : Nat → Int32} {i : Int32} (hd : decode M.2.1 pc = .ok (.baload, 1)) (ha : h a = some (.inl (.boolean, n, .inl f))) (hin : vp_in i n)
    (kk : V K M (pc + 1) lv (.int (f i.toNatClampNeg) :: st) h kc ks Q X) : V K M pc lv (.int i :: .ref a :: st) h kc ks Q X := by
  intro mc ms p e s m args below meth c R H locs cells slots ls C0 I
  obtain ⟨cA, h1, h2, h3⟩ := I.1 a _ ha
  have hlt : i.toNatClampNeg < n := Nat.not_le.mp fun q => hin (Or.inr q)
  exact W.zald C0.1 C0.2.1 h3 (h1 n _) (fun q => by cases q) (by show ¬ (i < 0 ∨ (arrV _ _ _).slots.size ≤ _); rw [arrV_size]; exact hin) (by show (arrV _ _ _).slots[_]? = _; rw [arrV_read _ _ hlt]) rfl rfl hd (kk mc ms p e s m args below meth c R H locs cells slots ls C0 I)
theorem v_lald (pc : Nat) {a n : Nat} {f : Nat → Int64} {i : Int32} (hd : decode M.2.1 pc = .ok (.laload, 1)) (ha : h a = some (.inl (.long, n, .inr (.inl f)))) (hin : vp_in i n)
    (kk : V K M (pc + 1) lv (.long (f i.toNatClampNeg) :: st) h kc ks Q X) : V K M pc lv (.int i :: .ref a :: st) h kc ks Q X := by
  intro mc ms p e s m args below meth c R H locs cells slots ls C0 I
  obtain ⟨cA, h1, h2, h3⟩ := I.1 a _ ha
  have hlt : i.toNatClampNeg < n := Nat.not_le.mp fun q => hin (Or.inr q)
  exact W.lald C0.1 C0.2.1 h3 (h1 n _) (fun q => by cases q) (by show ¬ (i < 0 ∨ (arrV _ _ _).slots.size ≤ _); rw [arrV_size]; exact hin) (by show (arrV _ _ _).slots[_]? = _; rw [arrV_read _ _ hlt]) rfl rfl hd (kk mc ms p e s m args below meth c R H locs cells slots ls C0 I)
theorem v_iast (pc : Nat) {a n : Nat} {f : Nat → Int32} {i : Int32} {x : Int32} (hd : decode M.2.1 pc = .ok (.iastore, 1)) (ha : h a = some (.inl (.int, n, .inl (f)))) (hin : vp_in i n)
    (kk : V K M (pc + 1) lv st (hup h a (.inl (.int, n, .inl ((upd f i.toNatClampNeg x))))) kc ks Q X) : V K M pc lv (.int x :: .int i :: .ref a :: st) h kc ks Q X := by
  intro mc ms p e s m args below meth c R H locs cells slots ls C0 I
  obtain ⟨cA, h1, h2, h3⟩ := I.1 a _ ha
  refine W.iast C0.1 C0.2.1 h3 (h1 n _) (fun q => by cases q) (by show ¬ (i < 0 ∨ (arrV _ _ _).slots.size ≤ _); rw [arrV_size]; exact hin) rfl rfl hd fun H1 e1 z oq => ?_
  refine kk mc ms p e s m args below meth c R H1 _ cells slots ls C0 ⟨I.1.upd oq ⟨cA, h1, h2, ?_⟩, dom_up I.2.1 ha, I.2.2.1.put z oq (I.2.1 a _ ha), I.2.2.2⟩
  show H1[a]? = some (vp_cell _ _)
  rw [e1]
  rw [vp_cell_i, vp_cell_i, arrV_store]
  congr 2
  funext q
  by_cases hq : q = i.toNatClampNeg
  · subst hq
    simp [updV, upd, vp_updL, vp_nar_byte, vp_nar, narrow]
  · simp [updV, upd, vp_updL, hq]
theorem v_bast (pc : Nat) {a n : Nat} {f : Nat → Int32} {i : Int32} {x : Int32} (hd : decode M.2.1 pc = .ok (.bastore, 1)) (ha : h a = some (.inl (.byte, n, .inl (f)))) (hin : vp_in i n)
    (kk : V K M (pc + 1) lv st (hup h a (.inl (.byte, n, .inl ((upd f i.toNatClampNeg (vp_nar .byte x)))))) kc ks Q X) : V K M pc lv (.int x :: .int i :: .ref a :: st) h kc ks Q X := by
  intro mc ms p e s m args below meth c R H locs cells slots ls C0 I
  obtain ⟨cA, h1, h2, h3⟩ := I.1 a _ ha
  refine W.bast C0.1 C0.2.1 h3 (h1 n _) (fun q => by cases q) (by show ¬ (i < 0 ∨ (arrV _ _ _).slots.size ≤ _); rw [arrV_size]; exact hin) rfl rfl hd fun H1 e1 z oq => ?_
  refine kk mc ms p e s m args below meth c R H1 _ cells slots ls C0 ⟨I.1.upd oq ⟨cA, h1, h2, ?_⟩, dom_up I.2.1 ha, I.2.2.1.put z oq (I.2.1 a _ ha), I.2.2.2⟩
  show H1[a]? = some (vp_cell _ _)
  rw [e1]
  rw [vp_cell_i, vp_cell_i, arrV_store]
  congr 2
  funext q
  by_cases hq : q = i.toNatClampNeg
  · subst hq
    simp [updV, upd, vp_updL, vp_nar_byte, vp_nar, narrow]
  · simp [updV, upd, vp_updL, hq]
theorem v_zast (pc : Nat) {a n : Nat} {f : Nat → Int32} {i : Int32} {x : Int32} (hd : decode M.2.1 pc = .ok (.bastore, 1)) (ha : h a = some (.inl (.boolean, n, .inl (f)))) (hin : vp_in i n)
    (kk : V K M (pc + 1) lv st (hup h a (.inl (.boolean, n, .inl ((upd f i.toNatClampNeg (vp_nar .boolean x)))))) kc ks Q X) : V K M pc lv (.int x :: .int i :: .ref a :: st) h kc ks Q X := by
  intro mc ms p e s m args below meth c R H locs cells slots ls C0 I
  obtain ⟨cA, h1, h2, h3⟩ := I.1 a _ ha
  refine W.zast C0.1 C0.2.1 h3 (h1 n _) (fun q => by cases q) (by show ¬ (i < 0 ∨ (arrV _ _ _).slots.size ≤ _); rw [arrV_size]; exact hin) rfl rfl hd fun H1 e1 z oq => ?_
  refine kk mc ms p e s m args below meth c R H1 _ cells slots ls C0 ⟨I.1.upd oq ⟨cA, h1, h2, ?_⟩, dom_up I.2.1 ha, I.2.2.1.put z oq (I.2.1 a _ ha), I.2.2.2⟩
  show H1[a]? = some (vp_cell _ _)
  rw [e1]
  rw [vp_cell_i, vp_cell_i, arrV_store]
  congr 2
  funext q
  by_cases hq : q = i.toNatClampNeg
  · subst hq
    simp [updV, upd, vp_updL, vp_nar_byte, vp_nar, narrow]
  · simp [updV, upd, vp_updL, hq]
theorem v_last (pc : Nat) {a n : Nat} {f : Nat → Int64} {i : Int32} {x : Int64} (hd : decode M.2.1 pc = .ok (.lastore, 1)) (ha : h a = some (.inl (.long, n, .inr (.inl (f))))) (hin : vp_in i n)
    (kk : V K M (pc + 1) lv st (hup h a (.inl (.long, n, .inr (.inl ((vp_updL f i.toNatClampNeg x)))))) kc ks Q X) : V K M pc lv (.long x :: .int i :: .ref a :: st) h kc ks Q X := by
  intro mc ms p e s m args below meth c R H locs cells slots ls C0 I
  obtain ⟨cA, h1, h2, h3⟩ := I.1 a _ ha
  refine W.last C0.1 C0.2.1 h3 (h1 n _) (fun q => by cases q) (by show ¬ (i < 0 ∨ (arrV _ _ _).slots.size ≤ _); rw [arrV_size]; exact hin) rfl rfl hd fun H1 e1 z oq => ?_
  refine kk mc ms p e s m args below meth c R H1 _ cells slots ls C0 ⟨I.1.upd oq ⟨cA, h1, h2, ?_⟩, dom_up I.2.1 ha, I.2.2.1.put z oq (I.2.1 a _ ha), I.2.2.2⟩
  show H1[a]? = some (vp_cell _ _)
  rw [e1]
  rw [vp_cell_l, vp_cell_l, arrV_store]
  congr 2
  funext q
  by_cases hq : q = i.toNatClampNeg
  · subst hq
    simp [updV, upd, vp_updL, vp_nar_byte, vp_nar, narrow]
  · simp [updV, upd, vp_updL, hq]
end HR
end
section
/-! ===== returns, calls, throws, statics, rows of references ===== -/
section CR
variable {K : KT} {M : MT} {lv : List (Option Value)} {st : List Value} {h : AH} {kc ks : Nat} {Q : QR} {X : QX}
theorem v_iret (pc : Nat) {v : Int32} {ty : FieldType} (hd : decode M.2.1 pc = .ok (.ireturn, 1)) (hr : M.2.2.2.1 = some ty) (hn : narrow ty (.int v) = .int v) (hq : Q (some (.int v)) h) : V K M pc lv [.int v] h kc ks Q X := by
  intro mc ms p e s m args below meth c R H locs cells slots ls C I
  obtain ⟨i1, i2, i3, i4, i5, i6⟩ := I
  refine W.widen (k := mc) (n := ms) (by omega) (by omega) (vx_ret ?_)
  exact W.zret C.1 C.2.1 (C.2.2.1.trans hr) hn (fun t ht hW => ⟨_, h, rfl, hq, by rw [ht]; exact i1.moved hW.alike, i2, i3.F ht⟩) i3.2.2 hd C.2.2.2.2.2.1
theorem v_lret (pc : Nat) {v : Int64} (hd : decode M.2.1 pc = .ok (.lreturn, 1)) (hr : M.2.2.2.1 = some .long) (hq : Q (some (.long v)) h) : V K M pc lv [.long v] h kc ks Q X := by
  intro mc ms p e s m args below meth c R H locs cells slots ls C I
  obtain ⟨i1, i2, i3, i4, i5, i6⟩ := I
  refine W.widen (k := mc) (n := ms) (by omega) (by omega) (vx_ret ?_)
  exact W.lret C.1 C.2.1 (C.2.2.1.trans hr) (fun t ht hW => ⟨_, h, rfl, hq, by rw [ht]; exact i1.moved hW.alike, i2, i3.F ht⟩) i3.2.2 hd C.2.2.2.2.2.1
theorem v_vret (pc : Nat) (hd : decode M.2.1 pc = .ok (.return_, 1)) (hr : M.2.2.2.1 = none) (hq : Q none h) : V K M pc lv [] h kc ks Q X := by
  intro mc ms p e s m args below meth c R H locs cells slots ls C I
  obtain ⟨i1, i2, i3, i4, i5, i6⟩ := I
  refine W.widen (k := mc) (n := ms) (by omega) (by omega) (vx_ret ?_)
  exact W.vret C.1 C.2.1 (C.2.2.1.trans hr) (fun t ht hW => ⟨_, h, rfl, hq, by rw [ht]; exact i1.moved hW.alike, i2, i3.F ht⟩) i3.2.2 hd C.2.2.2.2.2.1
theorem v_aret (pc : Nat) {v : Value} {ty : FieldType} (hd : decode M.2.1 pc = .ok (.areturn, 1)) (hr : M.2.2.2.1 = some ty) (hrt : (∃ n, ty = .object n) ∨ ∃ t, ty = .array t) (hq : Q (some v) h) (hv : isRf v := by first | exact isRf_r _ | exact isRf_n | exact isRf_o _ | assumption) : V K M pc lv [v] h kc ks Q X := by
  intro mc ms p e s m args below meth c R H locs cells slots ls C I
  obtain ⟨i1, i2, i3, i4, i5, i6⟩ := I
  refine W.widen (k := mc) (n := ms) (by omega) (by omega) (vx_ret ?_)
  exact W.aret C.1 C.2.1 (C.2.2.1.trans hr) hrt hv (fun t ht hW => ⟨_, h, rfl, hq, by rw [ht]; exact i1.moved hW.alike, i2, i3.F ht⟩) i3.2.2 hd C.2.2.2.2.2.1
/-- what a call of M' through the entry 'index' of 'own' asks of the tables -/
def CL (own : String) (index : Nat) (M' : MT) (n : Nat) : Prop := Cond.methodLink own index M'.1 ∈ gW ∧ Cond.code M'.1 M'.2.1 M'.2.2.1 M'.2.2.2.1 ∈ gW ∧ Cond.initialized M'.1.cls ∈ gW ∧ (M'.1.cls ≠ "java/lang/invoke/MethodHandle" ∧ M'.1.cls ≠ "java/lang/invoke/VarHandle") ∧ (parseMethodDescriptor M'.1.desc).map (fun d => d.parameters.length) = some n ∧ M'.2.2.1 ≤ 19
def CLv (own : String) (index : Nat) (M' : MT) (n ci : Nat) : Prop := CL own index M' n ∧ Cond.instanceMethod M'.1 ∈ gW ∧ Cond.selects M'.1.cls M'.1 M'.1 ∈ gW ∧ ∃ (T : u_T) (N : Nat), vwCl[ci]? = some (M'.1.cls, T, N)
def CLs (own : String) (index : Nat) (M' : MT) (n : Nat) : Prop := CL own index M' n ∧ Cond.static M'.1 ∈ gW
def CLi (own : String) (index : Nat) (M' : MT) (n : Nat) : Prop := CL own index M' n ∧ Cond.instanceMethod M'.1 ∈ gW ∧ M'.1.name = "<init>" ∧ M'.2.2.2.1 = none
theorem gW_warm {args : Array Value} {s : State} (hts : ∀ w ∈ gW, w.before args s = true) : ∀ w ∈ gW, ∀ (a' : Array Value) (U : State), s.WarmedH U.vm → w.before a' U = true := fun w hw a' U hW => word_at hW (good_of_word (List.mem_filter.mp hw).2) (hts w hw)
theorem CL.callB {own : String} {index : Nat} {M' : MT} {n kc' ks' : Nat} {R : Room} {s : State} {args : Array Value} (hts : ∀ w ∈ gW, w.before args s = true) (hL : CL own index M' n) (hlev : M'.2.2.2.2.1 + 1 ≤ M.2.2.2.2.1) (hR : M.2.2.2.2.1 ≤ R.frames ∧ 38 * M.2.2.2.2.1 ≤ R.locals) :
    CallB R s args own index M'.1 M'.2.1 M'.2.2.1 M'.2.2.2.1 (wsM M') (rmM M' kc' ks') kc' ks' n := by
  obtain ⟨h1, h2, h3, h4, h5, h6⟩ := hL
  refine ⟨rfl, rfl, ?_, ?_, ?_, List.mem_cons_self, hts _ h2, hts _ h3, h4, fun sig hs => ?_, hts _ h1⟩
  · show M'.2.2.2.2.1 + 1 ≤ R.frames
    omega
  · show 8 + (M'.2.2.1 + 11) + 38 * M'.2.2.2.2.1 ≤ R.locals
    omega
  · intro w hw
    rcases List.mem_cons.mp hw with rfl | hw
    · exact gW_warm hts _ h2
    · exact gW_warm hts w hw
  · rw [hs] at h5
    exact (Option.some.inj h5).symm
theorem pC.at {As : List Value} {s : State} {H : Heap} {locs : List Loc} (h1 : hold K.2.1 s h H) (h2 : domOk K h) (h3 : va_S (kA K) s.heap H locs) (hB : baseOk K s.heap) (hK : KW K s) : ∀ U : State, U.heap = H → s.WarmedH U.vm → pC K As h As.toArray U := fun U hU hW =>
  ⟨rfl, by rw [hU]; exact h1.moved hW.alike, h2, by
    rw [hU]
    exact ⟨Nat.le_trans hB.1 h3.1, fun q hq => (h3.2.1 q (Nat.lt_of_lt_of_le hq hB.1) (fun hk => absurd hk (Nat.not_le.mpr hq))).trans (hB.2 q hq)⟩, hK.warm hW⟩
/-- behind a call that can't throw -/
theorem v_run {mc ms : Nat} {p : Program} {e : Env} {s : State} {m : MethodId} {args : Array Value} {below : List Frame} {meth : Method} {c : Code} {R : Room} {H : Heap} {locs : List Loc} {cells slots : Nat} {ls : Array Slot} {pc kc' ks' kc1 ks1 : Nat} {st0 : List Value} {a : Array Value} {Q' : QR} {X' : QX}
    (C : VC K M mc ms p s m args meth c R) (I : VI K M mc ms s lv h kc ks H locs cells slots ls) (hk : kc' + kc1 ≤ kc) (hs : ks' + ks1 ≤ ks)
    (hr : vx_Run p K.1 e R s m args below meth c H locs cells slots kc' ks' (F0 m pc ls st0) st (qR K Q' a) (qX K X') (kA K)) (hx : ∀ E h', X' E h' → False)
    (kk : ∀ r h', Q' r h' → V K M (pc + 3) lv (r.toList ++ st) h' kc1 ks1 Q X) : W p K.1 e R s m args below meth c H locs cells slots (vx_MQ below (qR K Q) (qX K X) args s mc ms (kA K)) (F0 m pc ls st0) := by
  obtain ⟨i1, i2, i3, i4, i5, i6⟩ := I
  intro T hT Y
  rcases hr T hT Y with ⟨v, st₀, t, T', L, h0, Y', hL, e1, e2, ⟨r, h', hv, hq, hP, hD, hF⟩, go⟩ | ⟨q, st₀, t, T', L, E, ce, h0, Y', hL, e1, e2, ⟨h', hq, -⟩, -⟩
  · cases hv
    have hS' : va_S (kA K) s.heap T'.heap (locs ++ L) := by
      obtain ⟨hz, hk9⟩ := hF
      rw [h0] at hz hk9
      refine ⟨Nat.le_trans i3.1 (by rw [e1]; exact hz), fun q h1 h2 => ?_, fun q hq => ?_⟩
      · rw [e1, hk9 q (Nat.lt_of_lt_of_le h1 i3.1) h2]; exact i3.2.1 q h1 h2
      · rcases List.mem_append.mp hq with h | h
        · exact i3.2.2 q h
        · exact hL q h
    have hal : t.vm.Alike s.vm := by rw [← e2]; exact Y'.warmed.alike.symm
    obtain ⟨t2, a1, b1⟩ := kk v h' hq mc ms p e s m args below meth c R T'.heap (locs ++ L) (cells + kc') (slots + ks') ls C ⟨by rw [e1]; exact hP.moved hal, hD, hS', i4, by omega, by omega⟩ T' rfl Y'
    exact ⟨t2, go t2 a1, b1⟩
  · exact (hx E h' hq).elim
theorem v_callV (pc : Nat) {index n ci b kc' ks' : Nat} (kc1 ks1 : Nat) {M' : MT} {fs : List Value} (As : List Value) {Q' : QR} {X' : QX} (hd : decode M.2.1 pc = .ok (.invokevirtual index, 3)) (hL : CLv M.1.cls index M' n ci) (hct : Ct K M' kc' ks' (.ref b :: As) h Q' X') (hb : h b = some (.inr (ci, fs))) (kk : ∀ r h', Q' r h' → V K M (pc + 3) lv (r.toList ++ st) h' kc1 ks1 Q X)
    (hx : ∀ E h', X' E h' → False := by exact fun _ _ z => z) (hn : As.length = n := by rfl) (hlev : M'.2.2.2.2.1 + 1 ≤ M.2.2.2.2.1 := by decide) (hst : (st.map fun v => v.category).sum ≤ 8 := by exact Nat.le_of_ble_eq_true rfl) (hk : kc' + kc1 ≤ kc := by omega) (hs : ks' + ks1 ≤ ks := by omega) : V K M pc lv (As.reverse ++ .ref b :: st) h kc ks Q X := by
  intro mc ms p e s m args below meth c R H locs cells slots ls C I
  obtain ⟨hL0, hL1, hL2, T, N, hci⟩ := hL
  have hts := C.2.2.2.2.2.2.2.1
  have hR := C.2.2.2.2.2.2.2.2.2.2.1
  have hKW := C.2.2.2.2.2.2.2.2.1
  have hI5 := I.2.2.2.2.1
  have hI6 := I.2.2.2.2.2
  have hrc : ∃ cell : Cell, H[b]? = some cell ∧ cell.vm.isStatics = false ∧ s.vm.findClass M'.1.cls = some cell.cls := by
    obtain ⟨r', h1, cell, g1, g2, g3, -⟩ := I.1 b _ hb
    exact ⟨cell, g1, by rw [g3]; rfl, by rw [g2]; exact (hKW.2.1.1 ci _ hci).2.1⟩
  refine v_run C I hk hs (vx_runV (b := b) (As := As) (rest := st) (C := M'.1.cls) (index := index) (n := n) ⟨C.1, C.2.1, C.2.2.2.1, C.2.2.2.2.1, hts⟩ hct ⟨hL0.callB (M := M) hts hlev ⟨hR.1, hR.2.1⟩, hts _ hL1, hts _ hL2⟩ ⟨pC.blind, hrc, pC.at I.1 I.2.1 I.2.2.1 C.2.2.2.2.2.2.2.2.2.1 hKW⟩ rfl hn I.2.2.2.1.1 rfl (lv_room hst) hd ⟨by omega, by omega⟩) hx kk
theorem v_callS (pc : Nat) {index n kc' ks' : Nat} (kc1 ks1 : Nat) {M' : MT} (As : List Value) {Q' : QR} {X' : QX} (hd : decode M.2.1 pc = .ok (.invokestatic index, 3)) (hL : CLs M.1.cls index M' n) (hct : Ct K M' kc' ks' As h Q' X') (kk : ∀ r h', Q' r h' → V K M (pc + 3) lv (r.toList ++ st) h' kc1 ks1 Q X)
    (hx : ∀ E h', X' E h' → False := by exact fun _ _ z => z) (hn : As.length = n := by rfl) (hlev : M'.2.2.2.2.1 + 1 ≤ M.2.2.2.2.1 := by decide) (hst : (st.map fun v => v.category).sum ≤ 8 := by exact Nat.le_of_ble_eq_true rfl) (hk : kc' + kc1 ≤ kc := by omega) (hs : ks' + ks1 ≤ ks := by omega) : V K M pc lv (As.reverse ++ st) h kc ks Q X := by
  intro mc ms p e s m args below meth c R H locs cells slots ls C I
  obtain ⟨hL0, hL1⟩ := hL
  have hts := C.2.2.2.2.2.2.2.1
  have hR := C.2.2.2.2.2.2.2.2.2.2.1
  have hKW := C.2.2.2.2.2.2.2.2.1
  have hI5 := I.2.2.2.2.1
  have hI6 := I.2.2.2.2.2
  refine v_run C I hk hs (vx_runS (As := As) (rest := st) (index := index) (n := n) ⟨C.1, C.2.1, C.2.2.2.1, C.2.2.2.2.1, hts⟩ hct ⟨hL0.callB (M := M) hts hlev ⟨hR.1, hR.2.1⟩, hts _ hL1⟩ ⟨pC.blind, pC.at I.1 I.2.1 I.2.2.1 C.2.2.2.2.2.2.2.2.2.1 hKW⟩ rfl hn I.2.2.2.1.1 rfl (lv_room hst) hd ⟨by omega, by omega⟩) hx kk
end CR
end
section
/-! ===== constructors, nest mates, constants, statics, rows of references, casts ===== -/
section MR
variable {K : KT} {M : MT} {lv : List (Option Value)} {st : List Value} {h : AH} {kc ks : Nat} {Q : QR} {X : QX}
theorem ct_met {M' : MT} {As : List Value} {kc' ks' : Nat} {Q' : QR} {X' : QX} (hc : Ct K M' kc' ks' As h Q' X') (hx : ∀ E h', X' E h' → False) : Met K.1 M'.1 (wsM M') (rmM M' kc' ks') (pC K As h) (qR K Q') kc' ks' (kA K) := by
  intro p e ha hcs hk s m args below hf happ hP hK
  obtain ⟨n, o, h1, h2, h3, h4⟩ := hc p e ha hcs hk s m args below hf happ hP hK
  refine ⟨n, o, h1, h2, h3, ?_⟩
  rcases h4 with h4 | ⟨q, e1, E, ce, L, ⟨h', e2, e3⟩, h6⟩
  · exact h4
  · exact (hx E h' e2).elim
theorem v_run0 {mc ms : Nat} {p : Program} {e : Env} {s : State} {m : MethodId} {args : Array Value} {below : List Frame} {meth : Method} {c : Code} {R : Room} {H : Heap} {locs : List Loc} {cells slots : Nat} {ls : Array Slot} {pc kc' ks' kc1 ks1 : Nat} {st0 : List Value} {a : Array Value} {Q' : QR}
    (C : VC K M mc ms p s m args meth c R) (I : VI K M mc ms s lv h kc ks H locs cells slots ls) (hk : kc' + kc1 ≤ kc) (hs : ks' + ks1 ≤ ks)
    (hr : va_Run p K.1 e R s m args below meth c H locs cells slots kc' ks' (F0 m pc ls st0) st (qR K Q' a) (kA K))
    (kk : ∀ r h', Q' r h' → V K M (pc + 3) lv (r.toList ++ st) h' kc1 ks1 Q X) : W p K.1 e R s m args below meth c H locs cells slots (vx_MQ below (qR K Q) (qX K X) args s mc ms (kA K)) (F0 m pc ls st0) :=
  v_run C I hk hs (X' := noX) (fun T hT Y => Or.inl (hr T hT Y)) (fun _ _ z => z) kk
theorem v_callI (pc : Nat) {index n b kc' ks' : Nat} (kc1 ks1 : Nat) {M' : MT} (As : List Value) {Q' : QR} {X' : QX} (hd : decode M.2.1 pc = .ok (.invokespecial index, 3)) (hL : CLi M.1.cls index M' n) (hct : Ct K M' kc' ks' (.ref b :: As) h Q' X') (kk : ∀ r h', Q' r h' → V K M (pc + 3) lv (r.toList ++ st) h' kc1 ks1 Q X)
    (hx : ∀ E h', X' E h' → False := by exact fun _ _ z => z) (hn : As.length = n := by rfl) (hlev : M'.2.2.2.2.1 + 1 ≤ M.2.2.2.2.1 := by decide) (hst : (st.map fun v => v.category).sum ≤ 8 := by exact Nat.le_of_ble_eq_true rfl) (hk : kc' + kc1 ≤ kc := by omega) (hs : ks' + ks1 ≤ ks := by omega) : V K M pc lv (As.reverse ++ .ref b :: st) h kc ks Q X := by
  intro mc ms p e s m args below meth c R H locs cells slots ls C I
  obtain ⟨hL0, hL1, hL2, hL3⟩ := hL
  have hts := C.2.2.2.2.2.2.2.1
  have hR := C.2.2.2.2.2.2.2.2.2.2.1
  have hKW := C.2.2.2.2.2.2.2.2.1
  have hI5 := I.2.2.2.2.1
  have hI6 := I.2.2.2.2.2
  have hcb := hL0.callB (M := M) (kc' := kc') (ks' := ks') hts hlev ⟨hR.1, hR.2.1⟩
  rw [hL3] at hcb
  exact v_run0 C I hk hs (va_runI (b := b) (As := As) (rest := st) (index := index) (n := n) ⟨C.1, C.2.1, C.2.2.2.1, C.2.2.2.2.1, hts⟩ (ct_met hct hx) ⟨hcb, hL2, hts _ hL1⟩ ⟨pC.blind, pC.at I.1 I.2.1 I.2.2.1 C.2.2.2.2.2.2.2.2.2.1 hKW⟩ rfl hn I.2.2.2.1.1 rfl (lv_room hst) hd ⟨by omega, by omega⟩) kk
/-- a private member of a nest mate -/
def CN (own : String) (index : Nat) (M' : MT) (n : Nat) : Prop := Cond.methodLinkNest own index M'.1 "FontShelf" ∈ nwW ∧ Cond.code M'.1 M'.2.1 M'.2.2.1 M'.2.2.2.1 ∈ gW ∧ Cond.initialized M'.1.cls ∈ gW ∧ (M'.1.cls ≠ "java/lang/invoke/MethodHandle" ∧ M'.1.cls ≠ "java/lang/invoke/VarHandle") ∧ (parseMethodDescriptor M'.1.desc).map (fun d => d.parameters.length) = some n ∧ M'.2.2.1 ≤ 19
theorem CN.callB {own : String} {index : Nat} {M' : MT} {n kc' ks' : Nat} {R : Room} {s : State} {args : Array Value} (hts : ∀ w ∈ gW, w.before args s = true) (hK : KW K s) (hL : CN own index M' n) (hlev : M'.2.2.2.2.1 + 1 ≤ M.2.2.2.2.1) (hR : M.2.2.2.2.1 ≤ R.frames ∧ 38 * M.2.2.2.2.1 ≤ R.locals) :
    va_CN R s args own index M'.1 "FontShelf" M'.2.1 M'.2.2.1 M'.2.2.2.1 (wsM M') (rmM M' kc' ks') kc' ks' n := by
  obtain ⟨h1, h2, h3, h4, h5, h6⟩ := hL
  refine ⟨⟨rfl, rfl, ?_, ?_, ?_, List.mem_cons_self⟩, hts _ h2, hts _ h3, h4, fun sig hs => ?_, va_Nw.use rfl (hK.2.2.2.1 _ h1)⟩
  · show M'.2.2.2.2.1 + 1 ≤ R.frames
    omega
  · show 8 + (M'.2.2.1 + 11) + 38 * M'.2.2.2.2.1 ≤ R.locals
    omega
  · intro w hw
    rcases List.mem_cons.mp hw with rfl | hw
    · exact gW_warm hts _ h2
    · exact gW_warm hts w hw
  · rw [hs] at h5
    exact (Option.some.inj h5).symm
theorem v_callSN (pc : Nat) {index n kc' ks' : Nat} (kc1 ks1 : Nat) {M' : MT} (As : List Value) {Q' : QR} {X' : QX} (hd : decode M.2.1 pc = .ok (.invokestatic index, 3)) (hL : CN M.1.cls index M' n) (hL1 : Cond.static M'.1 ∈ gW) (hct : Ct K M' kc' ks' As h Q' X') (kk : ∀ r h', Q' r h' → V K M (pc + 3) lv (r.toList ++ st) h' kc1 ks1 Q X)
    (hx : ∀ E h', X' E h' → False := by exact fun _ _ z => z) (hn : As.length = n := by rfl) (hlev : M'.2.2.2.2.1 + 1 ≤ M.2.2.2.2.1 := by decide) (hst : (st.map fun v => v.category).sum ≤ 8 := by exact Nat.le_of_ble_eq_true rfl) (hk : kc' + kc1 ≤ kc := by omega) (hs : ks' + ks1 ≤ ks := by omega) : V K M pc lv (As.reverse ++ st) h kc ks Q X := by
  intro mc ms p e s m args below meth c R H locs cells slots ls C I
  have hts := C.2.2.2.2.2.2.2.1
  have hR := C.2.2.2.2.2.2.2.2.2.2.1
  have hKW := C.2.2.2.2.2.2.2.2.1
  have hI5 := I.2.2.2.2.1
  have hI6 := I.2.2.2.2.2
  exact v_run0 C I hk hs (va_runSN (As := As) (rest := st) (index := index) (n := n) ⟨C.1, C.2.1, C.2.2.2.1, C.2.2.2.2.1, hts⟩ (ct_met hct hx) ⟨hL.callB (M := M) hts hKW hlev ⟨hR.1, hR.2.1⟩, hts _ hL1, trivial⟩ ⟨pC.blind, pC.at I.1 I.2.1 I.2.2.1 C.2.2.2.2.2.2.2.2.2.1 hKW⟩ rfl hn I.2.2.2.1.1 rfl (lv_room hst) hd ⟨by omega, by omega⟩) kk
theorem v_callIN (pc : Nat) {index n b kc' ks' : Nat} (kc1 ks1 : Nat) {M' : MT} (As : List Value) {Q' : QR} {X' : QX} (hd : decode M.2.1 pc = .ok (.invokespecial index, 3)) (hL : CN M.1.cls index M' n) (hL1 : Cond.instanceMethod M'.1 ∈ gW) (hL2 : M'.1.name = "<init>") (hL3 : M'.2.2.2.1 = none) (hct : Ct K M' kc' ks' (.ref b :: As) h Q' X') (kk : ∀ r h', Q' r h' → V K M (pc + 3) lv (r.toList ++ st) h' kc1 ks1 Q X)
    (hx : ∀ E h', X' E h' → False := by exact fun _ _ z => z) (hn : As.length = n := by rfl) (hlev : M'.2.2.2.2.1 + 1 ≤ M.2.2.2.2.1 := by decide) (hst : (st.map fun v => v.category).sum ≤ 8 := by exact Nat.le_of_ble_eq_true rfl) (hk : kc' + kc1 ≤ kc := by omega) (hs : ks' + ks1 ≤ ks := by omega) : V K M pc lv (As.reverse ++ .ref b :: st) h kc ks Q X := by
  intro mc ms p e s m args below meth c R H locs cells slots ls C I
  have hts := C.2.2.2.2.2.2.2.1
  have hR := C.2.2.2.2.2.2.2.2.2.2.1
  have hKW := C.2.2.2.2.2.2.2.2.1
  have hI5 := I.2.2.2.2.1
  have hI6 := I.2.2.2.2.2
  have hcb := hL.callB (M := M) (kc' := kc') (ks' := ks') hts hKW hlev ⟨hR.1, hR.2.1⟩
  rw [hL3] at hcb
  exact v_run0 C I hk hs (va_runIN (b := b) (As := As) (rest := st) (index := index) (n := n) ⟨C.1, C.2.1, C.2.2.2.1, C.2.2.2.2.1, hts⟩ (ct_met hct hx) ⟨hcb, hL2, hts _ hL1⟩ ⟨pC.blind, pC.at I.1 I.2.1 I.2.2.1 C.2.2.2.2.2.2.2.2.2.1 hKW⟩ rfl hn I.2.2.2.1.1 rfl (lv_room hst) hd ⟨by omega, by omega⟩) kk
theorem v_objInit (pc : Nat) {index a : Nat} (hd : decode M.2.1 pc = .ok (.invokespecial index, 3)) (h1 : Cond.methodLink M.1.cls index objectInit ∈ gW) (h2 : Cond.instanceMethod objectInit ∈ gW) (h3 : Cond.code objectInit ⟨#[0xb1]⟩ 1 none ∈ gW) (kk : V K M (pc + 3) lv st h kc ks Q X) (hlev : 1 ≤ M.2.2.2.2.1 := by decide) (hst : (st.map fun v => v.category).sum ≤ 8 := by exact Nat.le_of_ble_eq_true rfl) : V K M pc lv (.ref a :: st) h kc ks Q X := by
  intro mc ms p e s m args below meth c R H locs cells slots ls C I
  have hts := C.2.2.2.2.2.2.2.1
  have hR := C.2.2.2.2.2.2.2.2.2.2.1
  refine W.objInit C.1 C.2.1 C.2.2.2.2.1 (hts _ h1) (hts _ h2) (hts _ h3) rfl (by rw [C.2.2.2.1]; exact I.2.2.2.1.1) rfl hd (by omega) ?_ (kk mc ms p e s m args below meth c R H locs cells slots ls C I)
  show 2 * 0 + _ + 12 ≤ _
  omega
theorem v_ldc (pc : Nat) {index : Nat} {v : Int32} (hd : decode M.2.1 pc = .ok (.ldc index, 2)) (hw : Cond.constant M.1.cls index v ∈ gW) (kk : V K M (pc + 2) lv (.int v :: st) h kc ks Q X) : V K M pc lv st h kc ks Q X :=
  fun mc ms p e s m args below meth c R H locs cells slots ls C I => lv_ldc C.1 C.2.1 C.2.2.2.2.1 (C.2.2.2.2.2.2.2.1 _ hw) hd (kk mc ms p e s m args below meth c R H locs cells slots ls C I)
theorem v_ldcw (pc : Nat) {index : Nat} {v : Int32} (hd : decode M.2.1 pc = .ok (.ldc_w index, 3)) (hw : Cond.constant M.1.cls index v ∈ gW) (kk : V K M (pc + 3) lv (.int v :: st) h kc ks Q X) : V K M pc lv st h kc ks Q X :=
  fun mc ms p e s m args below meth c R H locs cells slots ls C I => lv_ldcw C.1 C.2.1 C.2.2.2.2.1 (C.2.2.2.2.2.2.2.1 _ hw) hd (kk mc ms p e s m args below meth c R H locs cells slots ls C I)
theorem v_ldc2 (pc : Nat) {index : Nat} {v : Int64} (hd : decode M.2.1 pc = .ok (.ldc2_w index, 3)) (hw : Cond.constantLong M.1.cls index v ∈ gW) (kk : V K M (pc + 3) lv (.long v :: st) h kc ks Q X) : V K M pc lv st h kc ks Q X :=
  fun mc ms p e s m args below meth c R H locs cells slots ls C I => lv_ldc2 C.1 C.2.1 C.2.2.2.2.1 (C.2.2.2.2.2.2.2.1 _ hw) hd (kk mc ms p e s m args below meth c R H locs cells slots ls C I)
/-- the statics: 0 LEAST_VALUE, 1 GREATEST_VALUE, 2 FIRST_DRAFT, 3 ArrayList's empty row -/
theorem v_gets0 (pc : Nat) {index : Nat} (hd : decode M.2.1 pc = .ok (.getstatic index, 3)) (hw : Cond.fieldLink M.1.cls index "FontShelf" "LEAST_VALUE" "[I" ∈ gW) (kk : V K M (pc + 3) lv (.ref (K.2.2.2 0) :: st) h kc ks Q X) : V K M pc lv st h kc ks Q X :=
  fun mc ms p e s m args below meth c R H locs cells slots ls C I => va_gets C.1 C.2.1 (KW.lstZ C.2.2.2.2.2.2.2.2.2.1 C.2.2.2.2.2.2.2.2.1.2.2.1.1) I.2.2.1 C.2.2.2.2.1 (C.2.2.2.2.2.2.2.1 _ hw) (fun _ z => z) hd (kk mc ms p e s m args below meth c R H locs cells slots ls C I)
theorem v_gets1 (pc : Nat) {index : Nat} (hd : decode M.2.1 pc = .ok (.getstatic index, 3)) (hw : Cond.fieldLink M.1.cls index "FontShelf" "GREATEST_VALUE" "[I" ∈ gW) (kk : V K M (pc + 3) lv (.ref (K.2.2.2 1) :: st) h kc ks Q X) : V K M pc lv st h kc ks Q X :=
  fun mc ms p e s m args below meth c R H locs cells slots ls C I => va_gets C.1 C.2.1 (KW.lstZ C.2.2.2.2.2.2.2.2.2.1 C.2.2.2.2.2.2.2.2.1.2.2.1.2.2.1) I.2.2.1 C.2.2.2.2.1 (C.2.2.2.2.2.2.2.1 _ hw) (fun _ z => z) hd (kk mc ms p e s m args below meth c R H locs cells slots ls C I)
theorem v_gets2 (pc : Nat) {index : Nat} (hd : decode M.2.1 pc = .ok (.getstatic index, 3)) (hw : Cond.fieldLink M.1.cls index "FontShelf" "FIRST_DRAFT" "[I" ∈ gW) (kk : V K M (pc + 3) lv (.ref (K.2.2.2 2) :: st) h kc ks Q X) : V K M pc lv st h kc ks Q X :=
  fun mc ms p e s m args below meth c R H locs cells slots ls C I => va_gets C.1 C.2.1 (KW.lstZ C.2.2.2.2.2.2.2.2.2.1 C.2.2.2.2.2.2.2.2.1.2.2.1.2.2.2.2.1) I.2.2.1 C.2.2.2.2.1 (C.2.2.2.2.2.2.2.1 _ hw) (fun _ z => z) hd (kk mc ms p e s m args below meth c R H locs cells slots ls C I)
theorem v_gets2N (pc : Nat) (hM : M.1.cls = RX0) (hd : decode M.2.1 pc = .ok (.getstatic 9, 3)) (kk : V K M (pc + 3) lv (.ref (K.2.2.2 2) :: st) h kc ks Q X) : V K M pc lv st h kc ks Q X := by
  intro mc ms p e s m args below meth c R H locs cells slots ls C I
  have ho := C.2.2.2.2.1
  rw [hM] at ho
  exact va_getsN C.1 C.2.1 (KW.lstZ C.2.2.2.2.2.2.2.2.2.1 C.2.2.2.2.2.2.2.2.1.2.2.1.2.2.2.2.1) I.2.2.1 ho (va_Nw.use rfl C.2.2.2.2.2.2.2.2.1.2.2.2.2.1) (fun _ z => z) hd (kk mc ms p e s m args below meth c R H locs cells slots ls C I)
theorem v_gets3 (pc : Nat) {index : Nat} (hd : decode M.2.1 pc = .ok (.getstatic index, 3)) (hw : Cond.fieldLink M.1.cls index "java/util/ArrayList" "DEFAULTCAPACITY_EMPTY_ELEMENTDATA" "[Ljava/lang/Object;" ∈ gW) (kk : V K M (pc + 3) lv (.ref (K.2.2.2 3) :: st) h kc ks Q X) : V K M pc lv st h kc ks Q X :=
  fun mc ms p e s m args below meth c R H locs cells slots ls C I => va_gets C.1 C.2.1 (KW.lstZ C.2.2.2.2.2.2.2.2.2.1 C.2.2.2.2.2.2.2.2.1.2.2.1.2.2.2.2.2.2.1) I.2.2.1 C.2.2.2.2.1 (C.2.2.2.2.2.2.2.1 _ hw) (fun _ z => z) hd (kk mc ms p e s m args below meth c R H locs cells slots ls C I)
theorem v_tld0 (pc : Nat) {i : Int32} (hd : decode M.2.1 pc = .ok (.iaload, 1)) (hin : vp_in i 7) (kk : V K M (pc + 1) lv (.int (lstV i.toNatClampNeg) :: st) h kc ks Q X) : V K M pc lv (.int i :: .ref (K.2.2.2 0) :: st) h kc ks Q X :=
  fun mc ms p e s m args below meth c R H locs cells slots ls C I => va_ti C.1 C.2.1 (KW.lstT C.2.2.2.2.2.2.2.2.2.1 C.2.2.2.2.2.2.2.2.1.2.2.1.2.1) I.2.2.1 hin rfl hd (kk mc ms p e s m args below meth c R H locs cells slots ls C I)
theorem v_tld1 (pc : Nat) {i : Int32} (hd : decode M.2.1 pc = .ok (.iaload, 1)) (hin : vp_in i 7) (kk : V K M (pc + 1) lv (.int (grtV i.toNatClampNeg) :: st) h kc ks Q X) : V K M pc lv (.int i :: .ref (K.2.2.2 1) :: st) h kc ks Q X :=
  fun mc ms p e s m args below meth c R H locs cells slots ls C I => va_ti C.1 C.2.1 (KW.lstT C.2.2.2.2.2.2.2.2.2.1 C.2.2.2.2.2.2.2.2.1.2.2.1.2.2.2.1) I.2.2.1 hin rfl hd (kk mc ms p e s m args below meth c R H locs cells slots ls C I)
theorem v_alen (pc : Nat) {a : Nat} {ty : FieldType} {x : vp_A} (hd : decode M.2.1 pc = .ok (.arraylength, 1)) (ha : h a = some (.inl (ty, x))) (kk : V K M (pc + 1) lv (.int (nI x.1) :: st) h kc ks Q X) : V K M pc lv (.ref a :: st) h kc ks Q X := by
  intro mc ms p e s m args below meth c R H locs cells slots ls C I
  obtain ⟨cA, h1, h2, h3⟩ := I.1 a _ ha
  have k9 := kk mc ms p e s m args below meth c R H locs cells slots ls C I
  obtain ⟨n, f | f | f | f | f⟩ := x
  · exact W.alen (n := Int32.ofNat n) C.1 C.2.1 h3 (h1 n (fun j => .int (f j))) (by rw [vp_cell_i, arrV_size] <;> rfl) rfl rfl hd k9
  · exact W.alen (n := Int32.ofNat n) C.1 C.2.1 h3 (h1 n (fun j => .long (f j))) (by rw [vp_cell_l, arrV_size] <;> rfl) rfl rfl hd k9
  · exact W.alen (n := Int32.ofNat n) C.1 C.2.1 h3 (h1 n (fun j => .float (f j))) (by rw [vp_cell_f, arrV_size] <;> rfl) rfl rfl hd k9
  · exact W.alen (n := Int32.ofNat n) C.1 C.2.1 h3 (h1 n (fun j => .double (f j))) (by rw [vp_cell_d, arrV_size] <;> rfl) rfl rfl hd k9
  · exact W.alen (n := Int32.ofNat n) C.1 C.2.1 h3 (h1 n (fun j => va_rf (f j))) (by rw [vp_cell_q, arrV_size] <;> rfl) rfl rfl hd k9
theorem v_aald (pc : Nat) {a n : Nat} {C0 : String} {f : Nat → Option Nat} {i : Int32} (hd : decode M.2.1 pc = .ok (.aaload, 1)) (ha : h a = some (.inl (.object C0, n, .inr (.inr (.inr (.inr f)))))) (hin : vp_in i n) (kk : V K M (pc + 1) lv (va_rf (f i.toNatClampNeg) :: st) h kc ks Q X) : V K M pc lv (.int i :: .ref a :: st) h kc ks Q X := by
  intro mc ms p e s m args below meth c R H locs cells slots ls C I
  obtain ⟨cA, h1, h2, h3⟩ := I.1 a _ ha
  have hlt : i.toNatClampNeg < n := Nat.not_le.mp fun q => hin (Or.inr q)
  exact W.aald (v := va_rf (f i.toNatClampNeg)) (ty := .object C0) C.1 C.2.1 h3 (h1 n (fun j => va_rf (f j))) rfl (fun q => by cases q) (by show ¬ (i < 0 ∨ (arrV _ _ _).slots.size ≤ _); rw [arrV_size]; exact hin) (by show (arrV _ _ _).slots[_]? = _; rw [arrV_read _ _ hlt]) rfl rfl hd (kk mc ms p e s m args below meth c R H locs cells slots ls C I)
theorem v_aastN (pc : Nat) {a n : Nat} {C0 : String} {f : Nat → Option Nat} {i : Int32} (hd : decode M.2.1 pc = .ok (.aastore, 1)) (ha : h a = some (.inl (.object C0, n, .inr (.inr (.inr (.inr f)))))) (hin : vp_in i n) (kk : V K M (pc + 1) lv st (hup h a (.inl (.object C0, n, .inr (.inr (.inr (.inr (va_up f i.toNatClampNeg none))))))) kc ks Q X) : V K M pc lv (.null :: .int i :: .ref a :: st) h kc ks Q X := by
  intro mc ms p e s m args below meth c R H locs cells slots ls C I
  obtain ⟨cA, h1, h2, h3⟩ := I.1 a _ ha
  refine va_WaastN (C := C0) C.1 C.2.1 h3 (h1 n (fun j => va_rf (f j))) (fun h => by cases h) (by show ¬ (i < 0 ∨ (arrV _ _ _).slots.size ≤ _); rw [arrV_size]; exact hin) rfl rfl hd fun H1 e1 z oq => ?_
  refine kk mc ms p e s m args below meth c R H1 _ cells slots ls C ⟨I.1.upd oq ⟨cA, h1, h2, ?_⟩, dom_up I.2.1 ha, I.2.2.1.put z oq (I.2.1 a _ ha), I.2.2.2⟩
  show H1[a]? = some (vp_cell _ _)
  rw [e1]
  rw [vp_cell_q, vp_cell_q, arrV_store]
  congr 2
  funext q
  by_cases hq : q = i.toNatClampNeg
  · subst hq
    simp [updV, va_up, va_rf]
  · simp [updV, va_up, hq]
/-- an object of the class ci may lie in a row of E: of its own class, or a class that the tables say can be cast -/
def asgOk (ci : Nat) (E : String) : Prop := ∃ (C : String) (T : u_T) (N : Nat), vwCl[ci]? = some (C, T, N) ∧ (C = E ∨ (C, E) ∈ ncW)
theorem v_aast (pc : Nat) {a n v ci : Nat} {E : String} {f : Nat → Option Nat} {fs : List Value} {i : Int32} (hd : decode M.2.1 pc = .ok (.aastore, 1)) (ha : h a = some (.inl (.object E, n, .inr (.inr (.inr (.inr f)))))) (hv : h v = some (.inr (ci, fs))) (has : asgOk ci E) (hin : vp_in i n) (kk : V K M (pc + 1) lv st (hup h a (.inl (.object E, n, .inr (.inr (.inr (.inr (va_up f i.toNatClampNeg (some v)))))))) kc ks Q X) : V K M pc lv (.ref v :: .int i :: .ref a :: st) h kc ks Q X := by
  intro mc ms p e s m args below meth c R H locs cells slots ls C I
  obtain ⟨C0, T0, N0, hci, hE⟩ := has
  obtain ⟨cA, h1, h2, h3⟩ := I.1 a _ ha
  obtain ⟨r', h1', cellV, g1, g2, g3, -⟩ := I.1 v _ hv
  have hKW := C.2.2.2.2.2.2.2.2.1
  have hcls := (hKW.2.1.1 ci _ hci).2
  obtain ⟨kAr, comp, k1, k2, k3, k4⟩ := h2
  have hlt : i.toNatClampNeg < n := Nat.not_le.mp fun q => hin (Or.inr q)
  have h0 : ¬ i < 0 := fun q => hin (Or.inl q)
  obtain ⟨kC, hkC, -⟩ := hcls.2
  have hasg : s.vm.assignable (K.2.1.1 ci) comp = true := by
    rcases hE with rfl | hE
    · have hcomp : comp = K.2.1.1 ci := Option.some.inj (k3.symm.trans hcls.1)
      subst hcomp
      exact va_assign hcls
    · obtain ⟨c1, c2, e1, e2, e3⟩ := Cond.castable_spec (va_Nw.use (A := args) rfl (hKW.2.2.2.2.2.1 _ hE))
      cases Option.some.inj (e1.symm.trans hcls.1)
      cases Option.some.inj (e2.symm.trans k3)
      exact e3
  obtain ⟨kcomp, hkcomp, -⟩ := Vm.findClass_spec k3
  refine W.aast C.1 C.2.1 h3 (fun q h => by cases h) (fun h => by cases h) k1 k2 rfl hkcomp ⟨h0, by show _ < (arrV _ _ _).slots.size; rw [arrV_size]; exact hlt⟩ g1 (fun q h => by rw [g3] at h; cases h) (by rw [g2]; exact hkC) (by rw [g2]; exact hasg) rfl rfl hd fun H1 e1 z oq => ?_
  refine kk mc ms p e s m args below meth c R H1 _ cells slots ls C ⟨I.1.upd oq ⟨cA, h1, ⟨kAr, comp, k1, k2, k3, k4⟩, ?_⟩, dom_up I.2.1 ha, I.2.2.1.put z oq (I.2.1 a _ ha), I.2.2.2⟩
  show H1[a]? = some (vp_cell _ _)
  rw [e1]
  rw [vp_cell_q, vp_cell_q, arrV_store]
  congr 2
  funext q
  by_cases hq : q = i.toNatClampNeg
  · subst hq
    simp [updV, va_up, va_rf]
  · simp [updV, va_up, hq]
theorem v_cast (pc : Nat) {index a ci : Nat} {nm : String} {fs : List Value} (hd : decode M.2.1 pc = .ok (.checkcast index, 3)) (hw : Cond.classLink M.1.cls index nm ∈ gW) (hc : ∃ (T : u_T) (N : Nat), vwCl[ci]? = some (nm, T, N)) (ha : h a = some (.inr (ci, fs))) (kk : V K M (pc + 3) lv (.ref a :: st) h kc ks Q X) : V K M pc lv (.ref a :: st) h kc ks Q X := by
  intro mc ms p e s m args below meth c R H locs cells slots ls C I
  obtain ⟨T, N, hci⟩ := hc
  have hKW := C.2.2.2.2.2.2.2.2.1
  have hcls := (hKW.2.1.1 ci _ hci).2
  obtain ⟨r', h1', cellV, g1, g2, g3, -⟩ := I.1 a _ ha
  exact va_castS C.1 C.2.1 C.2.2.2.2.1 (C.2.2.2.2.2.2.2.1 _ hw) hcls ⟨cellV, g1, by rw [g3]; rfl, by rw [g2]; exact hcls.1⟩ hd (kk mc ms p e s m args below meth c R H locs cells slots ls C I)
/-- a row of references is made -/
theorem v_newq (pc : Nat) {index : Nat} {E : String} {n : Int32} {N : Nat} (hd : decode M.2.1 pc = .ok (.anewarray index, 3)) (hw : Cond.classLink M.1.cls index E ∈ gW) (hE : E = "FontShelf$Choice" ∨ E = "FontShelf$Glyph" ∨ E = "java/lang/Object") (hn : ¬ n < 0) (hN : n.toNatClampNeg = N) (hb : N * 4 ≤ 536870912)
    (kk : ∀ a : Nat, h a = none → kA K a → V K M (pc + 3) lv (.ref a :: st) (hup h a (.inl (.object E, N, .inr (.inr (.inr (.inr (fun _ => none))))))) kc ks Q X) : V K M pc lv (.int n :: st) h (kc + 1) (ks + N) Q X := by
  subst hN
  intro mc ms p e s m args below meth c R H locs cells slots ls C I
  have hB := C.2.2.2.2.2.2.2.2.2.1
  have hKW := C.2.2.2.2.2.2.2.2.1
  have hover : va_AO E s := by
    rcases hE with rfl | rfl | rfl
    · exact hKW.2.2.2.2.2.2.2.2.2.2.1
    · exact hKW.2.2.2.2.2.2.2.2.2.2.2.1
    · exact hKW.2.2.2.2.2.2.2.2.2.2.2.2.1
  obtain ⟨-, -, r3, r4⟩ := C.2.2.2.2.2.2.2.2.2.2.1
  obtain ⟨i1, i2, i3, i4, i5, i6⟩ := I
  refine W.anew C.1 C.2.1 C.2.2.2.2.1 (C.2.2.2.2.2.2.2.1 _ hw) (va_AO.use hover) rfl hd rfl hn hb (by omega) (by omega) fun cA kAr comp f1 f2 f3 f4 => ?_
  generalize hH1 : H.push ({ cls := cA, slots := Array.replicate n.toNatClampNeg .null, vm := .none } : Cell) = H1
  have z1 : H1.size = H.size + 1 := by rw [← hH1, Array.size_push]
  have e1 : H1[H.size]? = some (arrV cA n.toNatClampNeg (fun _ => .null)) := by rw [← hH1, Array.getElem?_push_size, ← arrV_new]
  have o1 : ∀ q : Nat, q < H.size → H1[q]? = H[q]? := fun q hq => by rw [← hH1, Array.getElem?_push, if_neg (Nat.ne_of_lt hq)]
  have hAr : ArrOfT s cA (.object E) := fun N z => ⟨(fun k h => by cases h), kAr, f2, comp, f3⟩
  have hkA : kA K H.size := hB.base _ i3.1
  refine kk H.size i1.free hkA mc ms p e s m args below meth c R H1 locs (cells + 1) (slots + n.toNatClampNeg) ls C ⟨?_, fun q e' hq => ?_, ⟨Nat.le_trans i3.1 (by omega), fun x h1 h2 => (o1 x (Nat.lt_of_lt_of_le h1 i3.1)).trans (i3.2.1 x h1 h2), i3.2.2⟩, i4, by omega, by omega⟩
  · intro q e' hq
    by_cases hqa : q = H.size
    · subst hqa
      rw [hup_s] at hq
      cases hq
      exact ⟨cA, hAr, ⟨kAr, comp, f2, f3, f4, f1⟩, by rw [vp_cell_q]; exact e1⟩
    · rw [hup_n hqa] at hq
      exact (i1 q e' hq).kept (o1 q (i1 q e' hq).lt)
  · by_cases hqa : q = H.size
    · rw [hqa]; exact hkA
    · rw [hup_n hqa] at hq; exact i2 q e' hq
end MR
end
section
/-! ===== throw new E("text") ===== -/
def exN : List String := ["java/lang/RuntimeException", "java/lang/Exception"]
def exW (ic : Nat) (E : String) : List Cond := vx_atS RX3 ic E exN
def ngW : List Cond := dcM.map Cond.declares ++ ncW.map (fun q => Cond.castable q.1 q.2)
def exOk (ik is ic : Nat) (text E : String) : Prop := Bundle.fit E = true ∧ Cond.classLink RX3 ik E ∈ gW ∧ Cond.initialized E ∈ gW ∧ Cond.stringRef RX3 is text ∈ tables_1 ∧ (∀ w ∈ (exW ic E).filter goodWord, w ∈ gW) ∧ (∀ w ∈ (exW ic E).filter (fun w => !goodWord w), w ∈ ngW) ∧ ∀ w ∈ Cond.classLink RX3 ik E :: Cond.initialized E :: exW ic E, vx_ot w = true
theorem exN_fit : ∀ n ∈ exN, Bundle.fit n = true := by decide +kernel
theorem ex_79 : exOk 77 79 81 "the shelf is full" "java/lang/IllegalStateException" := ⟨by decide +kernel, by decide +kernel, by decide +kernel, by decide +kernel, by decide +kernel, by decide +kernel, by decide +kernel⟩
theorem ex_96 : exOk 77 96 81 "no font has the ID at hand" "java/lang/IllegalStateException" := ⟨ex_79.1, ex_79.2.1, ex_79.2.2.1, by decide +kernel, ex_79.2.2.2.2⟩
theorem ex_117 : exOk 77 117 81 "no glyph is being loaded" "java/lang/IllegalStateException" := ⟨ex_79.1, ex_79.2.1, ex_79.2.2.1, by decide +kernel, ex_79.2.2.2.2⟩
theorem ex_187 : exOk 77 187 81 "no such glyph in a font chosen" "java/lang/IllegalStateException" := ⟨ex_79.1, ex_79.2.1, ex_79.2.2.1, by decide +kernel, ex_79.2.2.2.2⟩
theorem ex_100 : exOk 98 100 102 "no glyph has such a number" "java/lang/IllegalArgumentException" := ⟨by decide +kernel, by decide +kernel, by decide +kernel, by decide +kernel, by decide +kernel, by decide +kernel, by decide +kernel⟩
theorem ex_146 : exOk 98 146 102 "nothing such can be dropped" "java/lang/IllegalArgumentException" := ⟨ex_100.1, ex_100.2.1, ex_100.2.2.1, by decide +kernel, ex_100.2.2.2.2⟩
theorem ex_181 : exOk 98 181 102 "no such font at hand, or nothing such of a glyph" "java/lang/IllegalArgumentException" := ⟨ex_100.1, ex_100.2.1, ex_100.2.2.1, by decide +kernel, ex_100.2.2.2.2⟩
theorem ex_129 : exOk 127 129 131 "no room for the glyph" "java/lang/UnsupportedOperationException" := ⟨by decide +kernel, by decide +kernel, by decide +kernel, by decide +kernel, by decide +kernel, by decide +kernel, by decide +kernel⟩
theorem ex_174 : exOk 172 174 176 "no such font, or nothing such of it" "java/lang/IndexOutOfBoundsException" := ⟨by decide +kernel, by decide +kernel, by decide +kernel, by decide +kernel, by decide +kernel, by decide +kernel, by decide +kernel⟩
theorem ex_211 : exOk 172 211 176 "no such wish, or nothing such of it" "java/lang/IndexOutOfBoundsException" := ⟨ex_174.1, ex_174.2.1, ex_174.2.2.1, by decide +kernel, ex_174.2.2.2.2⟩
theorem ngW_at {K : KT} {s : State} {args : Array Value} (hK : KW K s) : ∀ w ∈ ngW, w.before args s = true := by
  intro w hw
  rcases List.mem_append.mp hw with hw | hw
  · obtain ⟨y, hy, rfl⟩ := List.mem_map.mp hw
    exact va_Nw.use rfl (hK.2.2.2.2.2.2.2.2.2.2.2.2.2 y hy)
  · obtain ⟨q, hq, rfl⟩ := List.mem_map.mp hw
    exact va_Nw.use rfl (hK.2.2.2.2.2.1 q hq)
theorem v_throw {K : KT} {M : MT} {lv : List (Option Value)} {st : List Value} {h : AH} {kc ks : Nat} {Q : QR} {X : QX} (pc : Nat) {ik is ic : Nat} {text E : String} (hM : M.1.cls = RX3) (hh : M.2.2.2.2.2 = []) (hE : exOk ik is ic text E) (d0 : decode M.2.1 pc = .ok (.new ik, 3)) (d3 : decode M.2.1 (pc + 3) = .ok (.dup, 1)) (d4 : decode M.2.1 (pc + 4) = .ok (.ldc is, 2)) (d6 : decode M.2.1 (pc + 6) = .ok (.invokespecial ic, 3)) (d9 : decode M.2.1 (pc + 9) = .ok (.athrow, 1))
    (hx : X E h) (hlev : 6 ≤ M.2.2.2.2.1 := by decide) (hst : (st.map fun v => v.category).sum ≤ 8 := by exact Nat.le_of_ble_eq_true rfl) : V K M pc lv st h (kc + 1) (ks + 6) Q X := by
  intro mc ms p e s m args below meth c R H locs cells slots ls C I
  obtain ⟨e1, e2, e3, e4, e5, e6, e7⟩ := hE
  have hts := C.2.2.2.2.2.2.2.1
  have hKW := C.2.2.2.2.2.2.2.2.1
  have hB := C.2.2.2.2.2.2.2.2.2.1
  have hR := C.2.2.2.2.2.2.2.2.2.2.1
  have ho := C.2.2.2.2.1
  rw [hM] at ho
  obtain ⟨i1, i2, i3, i4, i5, i6⟩ := I
  obtain ⟨sa, hsa⟩ := hKW.2.2.2.2.2.2.2.1 is text e4
  have hKS := hKW.2.2.1
  refine vx_throwS (own := RX3) (cls := E) (text := text) (names := exN) (ik := ik) (is := is) (ic := ic) (A := kA K) C.1 C.2.1 hKW.1 ho e1 exN_fit (hts _ e2) (hts _ e3) hsa (vx_hat (fun w hw => hts w (e5 w hw)) e6 (ngW_at hKW)) e7 (hKS.2.2.2.2.2.2.2.2.1.kept (fun a ha _ => hB.2 a ha)) (hKS.2.2.2.2.2.2.2.2.2.kept (fun a ha _ => hB.2 a ha)) i3 (by rw [C.2.2.2.1]; exact i4.1) d0 d3 d4 d6 d9 ?_ ?_ ?_ ?_ ?_ C.2.2.2.2.2.1 ?_ i3.2.2 (by omega) (by omega)
  · intro x hx
    rw [C.2.2.2.2.2.2.2.2.2.2.2, hh] at hx
    cases hx
  · show 2 + 3 < _
    omega
  · show _ + (13 * (2 + 1) + 43) ≤ _
    omega
  · omega
  · omega
  · intro t hvm hz hk
    exact ⟨h, hx, (i1.kept hk).moved hvm, i2, ⟨Nat.le_trans i3.1 hz, fun q h1 h2 => (hk q (Nat.lt_of_lt_of_le h1 i3.1)).trans (i3.2.1 q h1 h2)⟩⟩
end
section
theorem mt (i : Nat) {w : Cond} (h : tables_1[i]? = some w) (hg : goodWord w = true) : w ∈ gW := gW_in (List.mem_append_right _ (List.mem_of_getElem? h)) hg
theorem ms (i : Nat) {w : Cond} (h : (k2_sels lw_privs)[i]? = some w) (hg : goodWord w = true) : w ∈ gW := gW_in (List.mem_append_left _ (List.mem_of_getElem? h)) hg
theorem cl_Jx4a65c : clOk 0 RJx4a65c TJx4a65c 3 := ⟨rfl, by decide +kernel⟩
theorem cl_X0 : clOk 1 RX0 TX0 2 := ⟨rfl, by decide +kernel⟩
theorem cl_X1 : clOk 2 RX1 TX1 6 := ⟨rfl, by decide +kernel⟩
theorem cl_X2 : clOk 3 RX2 TX2 9 := ⟨rfl, by decide +kernel⟩
theorem cl_X3 : clOk 4 RX3 TX3 6 := ⟨rfl, by decide +kernel⟩
theorem cl_X4 : clOk 5 RX4 TX4 20 := ⟨rfl, by decide +kernel⟩
theorem fl_Jx4a65c_9 : FL RJx4a65c 9 0 1 (.array (.object "java/lang/Object")) false RJx4a65c := ⟨RJx4a65c, TJx4a65c, 3, tyJx4a65c, "java/util/ArrayList", cl_Jx4a65c, by decide, mt 46 (by decide +kernel) (by decide +kernel), Or.inl rfl, tyJx4a65c_ok, nmJx4a65c, rfl, rfl, rfl⟩
theorem fl_Jx4a65c_48 : FL RJx4a65c 48 0 2 (.int) false RJx4a65c := ⟨RJx4a65c, TJx4a65c, 3, tyJx4a65c, "java/util/ArrayList", cl_Jx4a65c, by decide, mt 47 (by decide +kernel) (by decide +kernel), Or.inl rfl, tyJx4a65c_ok, nmJx4a65c, rfl, rfl, rfl⟩
theorem fl_Jxc12de_7 : FL RJxc12de 7 0 0 (.int) false RJxc12de := ⟨RJx4a65c, TJx4a65c, 3, tyJx4a65c, "java/util/AbstractList", cl_Jx4a65c, by decide, mt 48 (by decide +kernel) (by decide +kernel), Or.inl rfl, tyJx4a65c_ok, nmJx4a65c, rfl, rfl, rfl⟩
theorem fl_Jx4a65c_63 : FL RJx4a65c 63 0 0 (.int) false RJxc12de := ⟨RJx4a65c, TJx4a65c, 3, tyJx4a65c, "java/util/ArrayList", cl_Jx4a65c, by decide, mt 49 (by decide +kernel) (by decide +kernel), Or.inr (mt 50 (by decide +kernel) (by decide +kernel)), tyJx4a65c_ok, nmJx4a65c, rfl, rfl, rfl⟩
theorem fl_X0_18 : FL RX0 18 1 0 (.array .int) true RX0 := ⟨RX0, TX0, 2, tyX0, "FontShelf$Choice", cl_X0, by decide, mt 77 (by decide +kernel) (by decide +kernel), Or.inl rfl, tyX0_ok, nmX0, rfl, rfl, rfl⟩
theorem fl_X3_63 : FL RX3 63 1 0 (.array .int) true RX0 := ⟨RX0, TX0, 2, tyX0, "FontShelf$Choice", cl_X0, by decide, mt 78 (by decide +kernel) (by decide +kernel), Or.inl rfl, tyX0_ok, nmX0, rfl, rfl, rfl⟩
theorem fl_X0_23 : FL RX0 23 1 1 (.int) false RX0 := ⟨RX0, TX0, 2, tyX0, "FontShelf$Choice", cl_X0, by decide, mt 79 (by decide +kernel) (by decide +kernel), Or.inl rfl, tyX0_ok, nmX0, rfl, rfl, rfl⟩
theorem fl_X3_66 : FL RX3 66 1 1 (.int) false RX0 := ⟨RX0, TX0, 2, tyX0, "FontShelf$Choice", cl_X0, by decide, mt 80 (by decide +kernel) (by decide +kernel), Or.inl rfl, tyX0_ok, nmX0, rfl, rfl, rfl⟩
theorem fl_X3_10 : FL RX3 10 4 0 (.object "java/util/ArrayList") true RX3 := ⟨RX3, TX3, 6, tyX3, "FontShelf", cl_X3, by decide, mt 87 (by decide +kernel) (by decide +kernel), Or.inl rfl, tyX3_ok, nmX3, rfl, rfl, rfl⟩
theorem fl_X3_25 : FL RX3 25 4 1 (.array .int) true RX3 := ⟨RX3, TX3, 6, tyX3, "FontShelf", cl_X3, by decide, mt 88 (by decide +kernel) (by decide +kernel), Or.inl rfl, tyX3_ok, nmX3, rfl, rfl, rfl⟩
theorem fl_X3_31 : FL RX3 31 4 2 (.array (.object "FontShelf$Choice")) true RX3 := ⟨RX3, TX3, 6, tyX3, "FontShelf", cl_X3, by decide, mt 89 (by decide +kernel) (by decide +kernel), Or.inl rfl, tyX3_ok, nmX3, rfl, rfl, rfl⟩
theorem fl_X3_35 : FL RX3 35 4 3 (.int) false RX3 := ⟨RX3, TX3, 6, tyX3, "FontShelf", cl_X3, by decide, mt 90 (by decide +kernel) (by decide +kernel), Or.inl rfl, tyX3_ok, nmX3, rfl, rfl, rfl⟩
theorem fl_X3_39 : FL RX3 39 4 4 (.int) false RX3 := ⟨RX3, TX3, 6, tyX3, "FontShelf", cl_X3, by decide, mt 91 (by decide +kernel) (by decide +kernel), Or.inl rfl, tyX3_ok, nmX3, rfl, rfl, rfl⟩
theorem fl_X3_42 : FL RX3 42 4 5 (.object "FontShelf$Glyph") false RX3 := ⟨RX3, TX3, 6, tyX3, "FontShelf", cl_X3, by decide, mt 92 (by decide +kernel) (by decide +kernel), Or.inl rfl, tyX3_ok, nmX3, rfl, rfl, rfl⟩
theorem fl_X1_28 : FL RX1 28 2 0 (.int) true RX1 := ⟨RX1, TX1, 6, tyX1, "FontShelf$Font", cl_X1, by decide, mt 369 (by decide +kernel) (by decide +kernel), Or.inl rfl, tyX1_ok, nmX1, rfl, rfl, rfl⟩
theorem fl_X3_169 : FL RX3 169 2 0 (.int) true RX1 := ⟨RX1, TX1, 6, tyX1, "FontShelf$Font", cl_X1, by decide, mt 370 (by decide +kernel) (by decide +kernel), Or.inl rfl, tyX1_ok, nmX1, rfl, rfl, rfl⟩
theorem fl_X1_31 : FL RX1 31 2 1 (.array .int) true RX1 := ⟨RX1, TX1, 6, tyX1, "FontShelf$Font", cl_X1, by decide, mt 371 (by decide +kernel) (by decide +kernel), Or.inl rfl, tyX1_ok, nmX1, rfl, rfl, rfl⟩
theorem fl_X3_157 : FL RX3 157 2 1 (.array .int) true RX1 := ⟨RX1, TX1, 6, tyX1, "FontShelf$Font", cl_X1, by decide, mt 372 (by decide +kernel) (by decide +kernel), Or.inl rfl, tyX1_ok, nmX1, rfl, rfl, rfl⟩
theorem fl_X1_11 : FL RX1 11 2 2 (.array (.object "FontShelf$Glyph")) true RX1 := ⟨RX1, TX1, 6, tyX1, "FontShelf$Font", cl_X1, by decide, mt 373 (by decide +kernel) (by decide +kernel), Or.inl rfl, tyX1_ok, nmX1, rfl, rfl, rfl⟩
theorem fl_X1_17 : FL RX1 17 2 3 (.boolean) false RX1 := ⟨RX1, TX1, 6, tyX1, "FontShelf$Font", cl_X1, by decide, mt 374 (by decide +kernel) (by decide +kernel), Or.inl rfl, tyX1_ok, nmX1, rfl, rfl, rfl⟩
theorem fl_X3_142 : FL RX3 142 2 3 (.boolean) false RX1 := ⟨RX1, TX1, 6, tyX1, "FontShelf$Font", cl_X1, by decide, mt 375 (by decide +kernel) (by decide +kernel), Or.inl rfl, tyX1_ok, nmX1, rfl, rfl, rfl⟩
theorem fl_X1_21 : FL RX1 21 2 4 (.int) false RX1 := ⟨RX1, TX1, 6, tyX1, "FontShelf$Font", cl_X1, by decide, mt 376 (by decide +kernel) (by decide +kernel), Or.inl rfl, tyX1_ok, nmX1, rfl, rfl, rfl⟩
theorem fl_X3_139 : FL RX3 139 2 4 (.int) false RX1 := ⟨RX1, TX1, 6, tyX1, "FontShelf$Font", cl_X1, by decide, mt 377 (by decide +kernel) (by decide +kernel), Or.inl rfl, tyX1_ok, nmX1, rfl, rfl, rfl⟩
theorem fl_X1_25 : FL RX1 25 2 5 (.int) false RX1 := ⟨RX1, TX1, 6, tyX1, "FontShelf$Font", cl_X1, by decide, mt 378 (by decide +kernel) (by decide +kernel), Or.inl rfl, tyX1_ok, nmX1, rfl, rfl, rfl⟩
theorem fl_X3_227 : FL RX3 227 2 5 (.int) false RX1 := ⟨RX1, TX1, 6, tyX1, "FontShelf$Font", cl_X1, by decide, mt 379 (by decide +kernel) (by decide +kernel), Or.inl rfl, tyX1_ok, nmX1, rfl, rfl, rfl⟩
theorem fl_X2_13 : FL RX2 13 3 0 (.int) true RX2 := ⟨RX2, TX2, 9, tyX2, "FontShelf$Glyph", cl_X2, by decide, mt 477 (by decide +kernel) (by decide +kernel), Or.inl rfl, tyX2_ok, nmX2, rfl, rfl, rfl⟩
theorem fl_X3_189 : FL RX3 189 3 0 (.int) true RX2 := ⟨RX2, TX2, 9, tyX2, "FontShelf$Glyph", cl_X2, by decide, mt 478 (by decide +kernel) (by decide +kernel), Or.inl rfl, tyX2_ok, nmX2, rfl, rfl, rfl⟩
theorem fl_X2_16 : FL RX2 16 3 1 (.int) true RX2 := ⟨RX2, TX2, 9, tyX2, "FontShelf$Glyph", cl_X2, by decide, mt 479 (by decide +kernel) (by decide +kernel), Or.inl rfl, tyX2_ok, nmX2, rfl, rfl, rfl⟩
theorem fl_X3_192 : FL RX3 192 3 1 (.int) true RX2 := ⟨RX2, TX2, 9, tyX2, "FontShelf$Glyph", cl_X2, by decide, mt 480 (by decide +kernel) (by decide +kernel), Or.inl rfl, tyX2_ok, nmX2, rfl, rfl, rfl⟩
theorem fl_X2_19 : FL RX2 19 3 2 (.int) true RX2 := ⟨RX2, TX2, 9, tyX2, "FontShelf$Glyph", cl_X2, by decide, mt 481 (by decide +kernel) (by decide +kernel), Or.inl rfl, tyX2_ok, nmX2, rfl, rfl, rfl⟩
theorem fl_X3_195 : FL RX3 195 3 2 (.int) true RX2 := ⟨RX2, TX2, 9, tyX2, "FontShelf$Glyph", cl_X2, by decide, mt 482 (by decide +kernel) (by decide +kernel), Or.inl rfl, tyX2_ok, nmX2, rfl, rfl, rfl⟩
theorem fl_X2_22 : FL RX2 22 3 3 (.int) true RX2 := ⟨RX2, TX2, 9, tyX2, "FontShelf$Glyph", cl_X2, by decide, mt 483 (by decide +kernel) (by decide +kernel), Or.inl rfl, tyX2_ok, nmX2, rfl, rfl, rfl⟩
theorem fl_X3_198 : FL RX3 198 3 3 (.int) true RX2 := ⟨RX2, TX2, 9, tyX2, "FontShelf$Glyph", cl_X2, by decide, mt 484 (by decide +kernel) (by decide +kernel), Or.inl rfl, tyX2_ok, nmX2, rfl, rfl, rfl⟩
theorem fl_X2_25 : FL RX2 25 3 4 (.int) true RX2 := ⟨RX2, TX2, 9, tyX2, "FontShelf$Glyph", cl_X2, by decide, mt 485 (by decide +kernel) (by decide +kernel), Or.inl rfl, tyX2_ok, nmX2, rfl, rfl, rfl⟩
theorem fl_X3_201 : FL RX3 201 3 4 (.int) true RX2 := ⟨RX2, TX2, 9, tyX2, "FontShelf$Glyph", cl_X2, by decide, mt 486 (by decide +kernel) (by decide +kernel), Or.inl rfl, tyX2_ok, nmX2, rfl, rfl, rfl⟩
theorem fl_X2_28 : FL RX2 28 3 5 (.int) true RX2 := ⟨RX2, TX2, 9, tyX2, "FontShelf$Glyph", cl_X2, by decide, mt 487 (by decide +kernel) (by decide +kernel), Or.inl rfl, tyX2_ok, nmX2, rfl, rfl, rfl⟩
theorem fl_X2_31 : FL RX2 31 3 6 (.int) true RX2 := ⟨RX2, TX2, 9, tyX2, "FontShelf$Glyph", cl_X2, by decide, mt 488 (by decide +kernel) (by decide +kernel), Or.inl rfl, tyX2_ok, nmX2, rfl, rfl, rfl⟩
theorem fl_X2_40 : FL RX2 40 3 7 (.array .long) true RX2 := ⟨RX2, TX2, 9, tyX2, "FontShelf$Glyph", cl_X2, by decide, mt 489 (by decide +kernel) (by decide +kernel), Or.inl rfl, tyX2_ok, nmX2, rfl, rfl, rfl⟩
theorem fl_X2_7 : FL RX2 7 3 8 (.int) false RX2 := ⟨RX2, TX2, 9, tyX2, "FontShelf$Glyph", cl_X2, by decide, mt 490 (by decide +kernel) (by decide +kernel), Or.inl rfl, tyX2_ok, nmX2, rfl, rfl, rfl⟩
theorem fl_X4_45 : FL RX4 45 5 0 (.int) false RX4 := ⟨RX4, TX4, 20, tyX4, "FontShelfModel", cl_X4, by decide, mt 632 (by decide +kernel) (by decide +kernel), Or.inl rfl, tyX4_ok, nmX4, rfl, rfl, rfl⟩
theorem fl_X4_66 : FL RX4 66 5 1 (.int) false RX4 := ⟨RX4, TX4, 20, tyX4, "FontShelfModel", cl_X4, by decide, mt 633 (by decide +kernel) (by decide +kernel), Or.inl rfl, tyX4_ok, nmX4, rfl, rfl, rfl⟩
theorem fl_X4_7 : FL RX4 7 5 2 (.array .int) true RX4 := ⟨RX4, TX4, 20, tyX4, "FontShelfModel", cl_X4, by decide, mt 634 (by decide +kernel) (by decide +kernel), Or.inl rfl, tyX4_ok, nmX4, rfl, rfl, rfl⟩
theorem fl_X4_13 : FL RX4 13 5 3 (.array .int) true RX4 := ⟨RX4, TX4, 20, tyX4, "FontShelfModel", cl_X4, by decide, mt 635 (by decide +kernel) (by decide +kernel), Or.inl rfl, tyX4_ok, nmX4, rfl, rfl, rfl⟩
theorem fl_X4_16 : FL RX4 16 5 4 (.array .boolean) true RX4 := ⟨RX4, TX4, 20, tyX4, "FontShelfModel", cl_X4, by decide, mt 636 (by decide +kernel) (by decide +kernel), Or.inl rfl, tyX4_ok, nmX4, rfl, rfl, rfl⟩
theorem fl_X4_73 : FL RX4 73 5 5 (.int) false RX4 := ⟨RX4, TX4, 20, tyX4, "FontShelfModel", cl_X4, by decide, mt 637 (by decide +kernel) (by decide +kernel), Or.inl rfl, tyX4_ok, nmX4, rfl, rfl, rfl⟩
theorem fl_X4_20 : FL RX4 20 5 6 (.array .int) true RX4 := ⟨RX4, TX4, 20, tyX4, "FontShelfModel", cl_X4, by decide, mt 638 (by decide +kernel) (by decide +kernel), Or.inl rfl, tyX4_ok, nmX4, rfl, rfl, rfl⟩
theorem fl_X4_79 : FL RX4 79 5 7 (.int) false RX4 := ⟨RX4, TX4, 20, tyX4, "FontShelfModel", cl_X4, by decide, mt 639 (by decide +kernel) (by decide +kernel), Or.inl rfl, tyX4_ok, nmX4, rfl, rfl, rfl⟩
theorem fl_X4_23 : FL RX4 23 5 8 (.array .byte) true RX4 := ⟨RX4, TX4, 20, tyX4, "FontShelfModel", cl_X4, by decide, mt 640 (by decide +kernel) (by decide +kernel), Or.inl rfl, tyX4_ok, nmX4, rfl, rfl, rfl⟩
theorem fl_X4_27 : FL RX4 27 5 9 (.array .int) true RX4 := ⟨RX4, TX4, 20, tyX4, "FontShelfModel", cl_X4, by decide, mt 641 (by decide +kernel) (by decide +kernel), Or.inl rfl, tyX4_ok, nmX4, rfl, rfl, rfl⟩
theorem fl_X4_30 : FL RX4 30 5 10 (.array .int) true RX4 := ⟨RX4, TX4, 20, tyX4, "FontShelfModel", cl_X4, by decide, mt 642 (by decide +kernel) (by decide +kernel), Or.inl rfl, tyX4_ok, nmX4, rfl, rfl, rfl⟩
theorem fl_X4_33 : FL RX4 33 5 11 (.array .int) true RX4 := ⟨RX4, TX4, 20, tyX4, "FontShelfModel", cl_X4, by decide, mt 643 (by decide +kernel) (by decide +kernel), Or.inl rfl, tyX4_ok, nmX4, rfl, rfl, rfl⟩
theorem fl_X4_55 : FL RX4 55 5 12 (.int) false RX4 := ⟨RX4, TX4, 20, tyX4, "FontShelfModel", cl_X4, by decide, mt 644 (by decide +kernel) (by decide +kernel), Or.inl rfl, tyX4_ok, nmX4, rfl, rfl, rfl⟩
theorem fl_X4_52 : FL RX4 52 5 13 (.int) false RX4 := ⟨RX4, TX4, 20, tyX4, "FontShelfModel", cl_X4, by decide, mt 645 (by decide +kernel) (by decide +kernel), Or.inl rfl, tyX4_ok, nmX4, rfl, rfl, rfl⟩
theorem fl_X4_58 : FL RX4 58 5 14 (.boolean) false RX4 := ⟨RX4, TX4, 20, tyX4, "FontShelfModel", cl_X4, by decide, mt 646 (by decide +kernel) (by decide +kernel), Or.inl rfl, tyX4_ok, nmX4, rfl, rfl, rfl⟩
theorem fl_X4_36 : FL RX4 36 5 15 (.array .int) true RX4 := ⟨RX4, TX4, 20, tyX4, "FontShelfModel", cl_X4, by decide, mt 647 (by decide +kernel) (by decide +kernel), Or.inl rfl, tyX4_ok, nmX4, rfl, rfl, rfl⟩
theorem fl_X4_92 : FL RX4 92 5 16 (.int) false RX4 := ⟨RX4, TX4, 20, tyX4, "FontShelfModel", cl_X4, by decide, mt 648 (by decide +kernel) (by decide +kernel), Or.inl rfl, tyX4_ok, nmX4, rfl, rfl, rfl⟩
theorem fl_X4_95 : FL RX4 95 5 17 (.int) false RX4 := ⟨RX4, TX4, 20, tyX4, "FontShelfModel", cl_X4, by decide, mt 649 (by decide +kernel) (by decide +kernel), Or.inl rfl, tyX4_ok, nmX4, rfl, rfl, rfl⟩
theorem fl_X4_39 : FL RX4 39 5 18 (.array .byte) true RX4 := ⟨RX4, TX4, 20, tyX4, "FontShelfModel", cl_X4, by decide, mt 650 (by decide +kernel) (by decide +kernel), Or.inl rfl, tyX4_ok, nmX4, rfl, rfl, rfl⟩
theorem fl_X4_42 : FL RX4 42 5 19 (.array .boolean) true RX4 := ⟨RX4, TX4, 20, tyX4, "FontShelfModel", cl_X4, by decide, mt 651 (by decide +kernel) (by decide +kernel), Or.inl rfl, tyX4_ok, nmX4, rfl, rfl, rfl⟩
theorem kc_X3_266 : Cond.constant RX3 266 (1000000) ∈ gW := mt 220 (by decide +kernel) (by decide +kernel)
theorem kc_X3_267 : Cond.constant RX3 267 (-1000000) ∈ gW := mt 225 (by decide +kernel) (by decide +kernel)
theorem kc_J6_264 : Cond.constant RJ6 264 (65536) ∈ gW := mt 241 (by decide +kernel) (by decide +kernel)
theorem kc_J8_200 : Cond.constant RJ8 200 (2147483639) ∈ gW := mt 413 (by decide +kernel) (by decide +kernel)
theorem kc_J13_314 : Cond.constantLong RJ13 314 (6148914691236517205) ∈ gW := mt 615 (by decide +kernel) (by decide +kernel)
theorem kc_J13_316 : Cond.constantLong RJ13 316 (3689348814741910323) ∈ gW := mt 616 (by decide +kernel) (by decide +kernel)
theorem kc_J13_318 : Cond.constantLong RJ13 318 (1085102592571150095) ∈ gW := mt 617 (by decide +kernel) (by decide +kernel)
theorem kc_X4_49 : Cond.constant RX4 49 (57600) ∈ gW := mt 709 (by decide +kernel) (by decide +kernel)
theorem kc_X4_50 : Cond.constant RX4 50 (99999) ∈ gW := mt 710 (by decide +kernel) (by decide +kernel)
theorem kc_X4_51 : Cond.constant RX4 51 (65535) ∈ gW := mt 711 (by decide +kernel) (by decide +kernel)
theorem kc_X4_98 : Cond.constantLong RX4 98 (255) ∈ gW := mt 744 (by decide +kernel) (by decide +kernel)
theorem kc_L_70 : Cond.constantLong RL 70 (4294967295) ∈ gW := mt 829 (by decide +kernel) (by decide +kernel)
end
section
abbrev mX3_init : MT := (yX3_init, cX3_init, 1, none, 5, [])
abbrev mJx4a65c_init_da8c8 : MT := (yJx4a65c_init_da8c8, cJx4a65c_init_da8c8, 1, none, 4, [])
abbrev mJxc12de_init_da8c8 : MT := (yJxc12de_init_da8c8, cJxc12de_init_da8c8, 1, none, 3, [])
abbrev mJxa1e45_init_da8c8 : MT := (yJxa1e45_init_da8c8, cJxa1e45_init_da8c8, 1, none, 2, [])
abbrev mX0_init : MT := (yX0_init, cX0_init, 1, none, 2, [])
abbrev mX3_hand : MT := (yX3_hand, cX3_hand, 3, (some .boolean), 2, [])
abbrev mX3_within : MT := (yX3_within, cX3_within, 3, (some .boolean), 1, [])
abbrev mX3_attribute : MT := (yX3_attribute, cX3_attribute, 5, (some .boolean), 3, [])
abbrev mX3_isAttribute : MT := (yX3_isAttribute, cX3_isAttribute, 1, (some .boolean), 2, [])
abbrev mX3_isAtHand : MT := (yX3_isAtHand, cX3_isAtHand, 1, (some .boolean), 2, [])
abbrev mX3_bytes : MT := (yX3_bytes, cX3_bytes, 5, (some .boolean), 4, [])
abbrev mX2_addByte : MT := (yX2_addByte, cX2_addByte, 8, none, 3, [])
abbrev mX2_missing : MT := (yX2_missing, cX2_missing, 1, (some .int), 2, [])
abbrev mX2_size : MT := (yX2_size, cX2_size, 1, (some .int), 1, [])
abbrev mJ9_max_7cf53 : MT := (yJ9_max_7cf53, cJ9_max_7cf53, 2, (some .int), 1, [])
abbrev mX3_permanent : MT := (yX3_permanent, cX3_permanent, 3, (some .boolean), 7, [])
abbrev mX3_fontWith : MT := (yX3_fontWith, cX3_fontWith, 3, (some (.object "FontShelf$Font")), 6, [])
abbrev mX3_placeOf : MT := (yX3_placeOf, cX3_placeOf, 3, (some .int), 5, [])
abbrev mJx4a65c_size_8abf5 : MT := (yJx4a65c_size_8abf5, cJx4a65c_size_8abf5, 1, (some .int), 1, [])
abbrev mJx4a65c_get_915e3 : MT := (yJx4a65c_get_915e3, cJx4a65c_get_915e3, 2, (some (.object "java/lang/Object")), 4, [])
abbrev mJ15_checkIndex_7cf53 : MT := (yJ15_checkIndex_7cf53, cJ15_checkIndex_7cf53, 2, (some .int), 3, [])
abbrev mJ3_checkIndex_8e157 : MT := (yJ3_checkIndex_8e157, cJ3_checkIndex_8e157, 3, (some .int), 2, [])
abbrev mJx4a65c_elementData_915e3 : MT := (yJx4a65c_elementData_915e3, cJx4a65c_elementData_915e3, 2, (some (.object "java/lang/Object")), 1, [])
abbrev mX3_pin : MT := (yX3_pin, cX3_pin, 4, (some .boolean), 7, [])
abbrev mX3_chosen : MT := (yX3_chosen, cX3_chosen, 3, (some .int), 9, [])
abbrev mX3_chosenFont : MT := (yX3_chosenFont, cX3_chosenFont, 3, (some (.object "FontShelf$Font")), 8, [])
abbrev mX3_bestFor : MT := (yX3_bestFor, cX3_bestFor, 4, (some (.object "FontShelf$Font")), 7, [])
abbrev mX3_allFonts : MT := (yX3_allFonts, cX3_allFonts, 1, (some .int), 2, [])
abbrev mX3_having : MT := (yX3_having, cX3_having, 6, (some .int), 5, [])
abbrev mX3_isIn : MT := (yX3_isIn, cX3_isIn, 2, (some .boolean), 1, [])
abbrev mX3_preferring : MT := (yX3_preferring, cX3_preferring, 5, (some .int), 6, [])
abbrev mX3_nextUp : MT := (yX3_nextUp, cX3_nextUp, 5, (some .int), 6, [])
abbrev mX3_leastFrom : MT := (yX3_leastFrom, cX3_leastFrom, 7, (some .int), 5, [])
abbrev mX3_greatestUpTo : MT := (yX3_greatestUpTo, cX3_greatestUpTo, 7, (some .int), 5, [])
abbrev mX3_nearestHeight : MT := (yX3_nearestHeight, cX3_nearestHeight, 5, (some .int), 6, [])
abbrev mX3_nextDown : MT := (yX3_nextDown, cX3_nextDown, 5, (some .int), 6, [])
abbrev mX3_preferringPassing : MT := (yX3_preferringPassing, cX3_preferringPassing, 4, (some .int), 5, [])
abbrev mJ6_numberOfLeadingZeros_0f7a4 : MT := (yJ6_numberOfLeadingZeros_0f7a4, cJ6_numberOfLeadingZeros_0f7a4, 2, (some .int), 1, [])
abbrev mX3_row : MT := (yX3_row, cX3_row, 6, (some .long), 10, [])
abbrev mX3_chosenGlyph : MT := (yX3_chosenGlyph, cX3_chosenGlyph, 4, (some (.object "FontShelf$Glyph")), 9, [])
abbrev mX1_glyphFor : MT := (yX1_glyphFor, cX1_glyphFor, 2, (some (.object "FontShelf$Glyph")), 2, [])
abbrev mX2_dotsAt : MT := (yX2_dotsAt, cX2_dotsAt, 4, (some .long), 2, [])
abbrev mX3_look : MT := (yX3_look, cX3_look, 2, (some .int), 6, [])
abbrev mX3_glyphsInAll : MT := (yX3_glyphsInAll, cX3_glyphsInAll, 3, (some .int), 5, [])
abbrev mX3_bytesInAll : MT := (yX3_bytesInAll, cX3_bytesInAll, 3, (some .int), 5, [])
abbrev mX3_header : MT := (yX3_header, cX3_header, 2, (some .int), 8, [])
abbrev mX3_takeOut : MT := (yX3_takeOut, cX3_takeOut, 2, (some .int), 5, [])
abbrev mJx4a65c_remove_915e3 : MT := (yJx4a65c_remove_915e3, cJx4a65c_remove_915e3, 4, (some (.object "java/lang/Object")), 4, [])
abbrev mJx4a65c_fastRemove_b59b0 : MT := (yJx4a65c_fastRemove_b59b0, cJx4a65c_fastRemove_b59b0, 4, none, 2, [])
abbrev mX1_init : MT := (yX1_init, cX1_init, 3, none, 2, [])
abbrev mJx4a65c_add_9ea2d : MT := (yJx4a65c_add_9ea2d, cJx4a65c_add_9ea2d, 2, (some .boolean), 7, [])
abbrev mJx4a65c_add_72be8 : MT := (yJx4a65c_add_72be8, cJx4a65c_add_72be8, 4, none, 6, [])
abbrev mJx4a65c_grow_d5877 : MT := (yJx4a65c_grow_d5877, cJx4a65c_grow_d5877, 1, (some (.array (.object "java/lang/Object"))), 5, [])
abbrev mJx4a65c_grow_92f84 : MT := (yJx4a65c_grow_92f84, cJx4a65c_grow_92f84, 4, (some (.array (.object "java/lang/Object"))), 4, [])
abbrev mJ8_newLength_cabcc : MT := (yJ8_newLength_cabcc, cJ8_newLength_cabcc, 4, (some .int), 3, [])
abbrev mJ8_hugeLength_7cf53 : MT := (yJ8_hugeLength_7cf53, cJ8_hugeLength_7cf53, 3, (some .int), 2, [])
abbrev mJ7_copyOf_1904c : MT := (yJ7_copyOf_1904c, cJ7_copyOf_1904c, 2, (some (.array (.object "java/lang/Object"))), 3, [])
abbrev mJ7_copyOf_6403c : MT := (yJ7_copyOf_6403c, cJ7_copyOf_6403c, 4, (some (.array (.object "java/lang/Object"))), 2, [])
abbrev mJ9_min_7cf53 : MT := (yJ9_min_7cf53, cJ9_min_7cf53, 2, (some .int), 1, [])
abbrev mX3_glyph : MT := (yX3_glyph, cX3_glyph, 6, (some .int), 6, [])
abbrev mX2_init : MT := (yX2_init, cX2_init, 6, none, 2, [])
abbrev mX3_load : MT := (yX3_load, cX3_load, 3, (some .int), 7, [])
abbrev mX3_hasRoomFor : MT := (yX3_hasRoomFor, cX3_hasRoomFor, 5, (some .boolean), 6, [])
abbrev mX1_remove : MT := (yX1_remove, cX1_remove, 3, (some .boolean), 3, [])
abbrev mX1_put : MT := (yX1_put, cX1_put, 3, none, 2, [])
abbrev mX3_drop : MT := (yX3_drop, cX3_drop, 2, (some .int), 8, [])
abbrev mX3_dropAll : MT := (yX3_dropAll, cX3_dropAll, 2, (some .int), 2, [])
abbrev mJx4a65c_clear_da8c8 : MT := (yJx4a65c_clear_da8c8, cJx4a65c_clear_da8c8, 4, none, 1, [])
abbrev mX3_dropPassing : MT := (yX3_dropPassing, cX3_dropPassing, 3, (some .int), 6, [])
abbrev mX3_dropGlyph : MT := (yX3_dropGlyph, cX3_dropGlyph, 2, (some .int), 7, [])
abbrev mX3_font : MT := (yX3_font, cX3_font, 4, (some .int), 6, [])
abbrev mX3_of : MT := (yX3_of, cX3_of, 5, (some .int), 10, [])
abbrev mX2_blackDots : MT := (yX2_blackDots, cX2_blackDots, 3, (some .int), 2, [])
abbrev mJ13_bitCount_95d88 : MT := (yJ13_bitCount_95d88, cJ13_bitCount_95d88, 2, (some .int), 1, [])
abbrev mX3_wish : MT := (yX3_wish, cX3_wish, 4, (some .int), 6, [])
abbrev mX4_init : MT := (yX4_init, cX4_init, 1, none, 2, [])
abbrev mX4_thrown : MT := (yX4_thrown, cX4_thrown, 1, (some .int), 1, [])
abbrev mX4_hand : MT := (yX4_hand, cX4_hand, 3, (some .boolean), 1, [])
abbrev mX4_attribute : MT := (yX4_attribute, cX4_attribute, 5, (some .boolean), 2, [])
abbrev mX4_fits : MT := (yX4_fits, cX4_fits, 2, (some .boolean), 1, [])
abbrev mX4_header : MT := (yX4_header, cX4_header, 3, (some .int), 5, [])
abbrev mX4_fontOf : MT := (yX4_fontOf, cX4_fontOf, 4, (some .int), 1, [])
abbrev mX4_goFont : MT := (yX4_goFont, cX4_goFont, 4, none, 4, [])
abbrev mX4_goGlyph : MT := (yX4_goGlyph, cX4_goGlyph, 5, none, 3, [])
abbrev mX4_startOf : MT := (yX4_startOf, cX4_startOf, 4, (some .int), 2, [])
abbrev mX4_bytesOf : MT := (yX4_bytesOf, cX4_bytesOf, 2, (some .int), 1, [])
abbrev mX4_glyph : MT := (yX4_glyph, cX4_glyph, 7, (some .int), 2, [])
abbrev mX4_bytes : MT := (yX4_bytes, cX4_bytes, 5, (some .boolean), 1, [])
abbrev mX4_load : MT := (yX4_load, cX4_load, 6, (some .int), 4, [])
abbrev mX4_glyphOf : MT := (yX4_glyphOf, cX4_glyphOf, 5, (some .int), 1, [])
abbrev mX4_byteOf : MT := (yX4_byteOf, cX4_byteOf, 5, (some .int), 1, [])
abbrev mX4_glyphsOf : MT := (yX4_glyphsOf, cX4_glyphsOf, 4, (some .int), 1, [])
abbrev mX4_permanent : MT := (yX4_permanent, cX4_permanent, 3, (some .boolean), 2, [])
abbrev mX4_drop : MT := (yX4_drop, cX4_drop, 4, (some .int), 5, [])
abbrev mX4_pin : MT := (yX4_pin, cX4_pin, 5, (some .boolean), 2, [])
abbrev mX4_chosen : MT := (yX4_chosen, cX4_chosen, 3, (some .int), 4, [])
abbrev mX4_choose : MT := (yX4_choose, cX4_choose, 8, (some .int), 3, [])
abbrev mX4_strike : MT := (yX4_strike, cX4_strike, 5, (some .boolean), 1, [])
abbrev mX4_byPitch : MT := (yX4_byPitch, cX4_byPitch, 4, none, 2, [])
abbrev mX4_end : MT := (yX4_end, cX4_end, 9, (some .int), 1, [])
abbrev mX4_byHeight : MT := (yX4_byHeight, cX4_byHeight, 6, none, 2, [])
abbrev mX4_byWeight : MT := (yX4_byWeight, cX4_byWeight, 5, none, 2, [])
abbrev mX4_font : MT := (yX4_font, cX4_font, 3, (some .int), 2, [])
abbrev mX4_of : MT := (yX4_of, cX4_of, 8, (some .int), 5, [])
abbrev mX4_chosenGlyph : MT := (yX4_chosenGlyph, cX4_chosenGlyph, 4, (some .int), 4, [])
abbrev mX4_isBlack : MT := (yX4_isBlack, cX4_isBlack, 5, (some .boolean), 3, [])
abbrev mX4_row : MT := (yX4_row, cX4_row, 10, (some .long), 5, [])
abbrev mX4_wish : MT := (yX4_wish, cX4_wish, 3, (some .int), 1, [])
abbrev mX4_look : MT := (yX4_look, cX4_look, 2, (some .int), 1, [])
theorem cc_L_43 : CLi RL 43 mX3_init 0 := ⟨⟨mt 26 (by decide +kernel) (by decide +kernel), mt 28 (by decide +kernel) (by decide +kernel), mt 1 (by decide +kernel) (by decide +kernel), ⟨by decide +kernel, by decide +kernel⟩, by decide +kernel, by decide⟩, mt 27 (by decide +kernel) (by decide +kernel), rfl, rfl⟩
theorem cc_X3_9 : CLi RX3 9 mJx4a65c_init_da8c8 0 := ⟨⟨mt 34 (by decide +kernel) (by decide +kernel), mt 36 (by decide +kernel) (by decide +kernel), mt 4 (by decide +kernel) (by decide +kernel), ⟨by decide +kernel, by decide +kernel⟩, by decide +kernel, by decide⟩, mt 35 (by decide +kernel) (by decide +kernel), rfl, rfl⟩
theorem cc_Jx4a65c_1 : CLi RJx4a65c 1 mJxc12de_init_da8c8 0 := ⟨⟨mt 37 (by decide +kernel) (by decide +kernel), mt 39 (by decide +kernel) (by decide +kernel), mt 3 (by decide +kernel) (by decide +kernel), ⟨by decide +kernel, by decide +kernel⟩, by decide +kernel, by decide⟩, mt 38 (by decide +kernel) (by decide +kernel), rfl, rfl⟩
theorem cc_Jxc12de_1 : CLi RJxc12de 1 mJxa1e45_init_da8c8 0 := ⟨⟨mt 40 (by decide +kernel) (by decide +kernel), mt 42 (by decide +kernel) (by decide +kernel), mt 2 (by decide +kernel) (by decide +kernel), ⟨by decide +kernel, by decide +kernel⟩, by decide +kernel, by decide⟩, mt 41 (by decide +kernel) (by decide +kernel), rfl, rfl⟩
theorem cv_L_47 : CLv RL 47 mX3_hand 2 4 := ⟨⟨mt 106 (by decide +kernel) (by decide +kernel), mt 109 (by decide +kernel) (by decide +kernel), mt 1 (by decide +kernel) (by decide +kernel), ⟨by decide +kernel, by decide +kernel⟩, by decide +kernel, by decide⟩, mt 107 (by decide +kernel) (by decide +kernel), mt 108 (by decide +kernel) (by decide +kernel), TX3, 6, rfl⟩
theorem cs_X3_46 : CLs RX3 46 mX3_within 3 := ⟨⟨mt 110 (by decide +kernel) (by decide +kernel), mt 112 (by decide +kernel) (by decide +kernel), mt 1 (by decide +kernel) (by decide +kernel), ⟨by decide +kernel, by decide +kernel⟩, by decide +kernel, by decide⟩, mt 111 (by decide +kernel) (by decide +kernel)⟩
theorem cv_L_52 : CLv RL 52 mX3_attribute 4 4 := ⟨⟨mt 113 (by decide +kernel) (by decide +kernel), mt 116 (by decide +kernel) (by decide +kernel), mt 1 (by decide +kernel) (by decide +kernel), ⟨by decide +kernel, by decide +kernel⟩, by decide +kernel, by decide⟩, mt 114 (by decide +kernel) (by decide +kernel), mt 115 (by decide +kernel) (by decide +kernel), TX3, 6, rfl⟩
theorem cs_X3_50 : CLs RX3 50 mX3_isAttribute 1 := ⟨⟨mt 117 (by decide +kernel) (by decide +kernel), mt 119 (by decide +kernel) (by decide +kernel), mt 1 (by decide +kernel) (by decide +kernel), ⟨by decide +kernel, by decide +kernel⟩, by decide +kernel, by decide⟩, mt 118 (by decide +kernel) (by decide +kernel)⟩
theorem cs_X3_60 : CLs RX3 60 mX3_isAtHand 1 := ⟨⟨mt 124 (by decide +kernel) (by decide +kernel), mt 126 (by decide +kernel) (by decide +kernel), mt 1 (by decide +kernel) (by decide +kernel), ⟨by decide +kernel, by decide +kernel⟩, by decide +kernel, by decide⟩, mt 125 (by decide +kernel) (by decide +kernel)⟩
theorem cv_L_72 : CLv RL 72 mX3_bytes 2 4 := ⟨⟨mt 127 (by decide +kernel) (by decide +kernel), mt 130 (by decide +kernel) (by decide +kernel), mt 1 (by decide +kernel) (by decide +kernel), ⟨by decide +kernel, by decide +kernel⟩, by decide +kernel, by decide⟩, mt 128 (by decide +kernel) (by decide +kernel), mt 129 (by decide +kernel) (by decide +kernel), TX3, 6, rfl⟩
theorem cv_X3_109 : CLv RX3 109 mX2_addByte 1 3 := ⟨⟨mt 131 (by decide +kernel) (by decide +kernel), mt 134 (by decide +kernel) (by decide +kernel), mt 19 (by decide +kernel) (by decide +kernel), ⟨by decide +kernel, by decide +kernel⟩, by decide +kernel, by decide⟩, mt 132 (by decide +kernel) (by decide +kernel), mt 133 (by decide +kernel) (by decide +kernel), TX2, 9, rfl⟩
theorem cv_X2_48 : CLv RX2 48 mX2_missing 0 3 := ⟨⟨mt 135 (by decide +kernel) (by decide +kernel), mt 138 (by decide +kernel) (by decide +kernel), mt 19 (by decide +kernel) (by decide +kernel), ⟨by decide +kernel, by decide +kernel⟩, by decide +kernel, by decide⟩, mt 136 (by decide +kernel) (by decide +kernel), mt 137 (by decide +kernel) (by decide +kernel), TX2, 9, rfl⟩
theorem cv_X2_44 : CLv RX2 44 mX2_size 0 3 := ⟨⟨mt 139 (by decide +kernel) (by decide +kernel), mt 142 (by decide +kernel) (by decide +kernel), mt 19 (by decide +kernel) (by decide +kernel), ⟨by decide +kernel, by decide +kernel⟩, by decide +kernel, by decide⟩, mt 140 (by decide +kernel) (by decide +kernel), mt 141 (by decide +kernel) (by decide +kernel), TX2, 9, rfl⟩
theorem cs_X2_34 : CLs RX2 34 mJ9_max_7cf53 2 := ⟨⟨mt 143 (by decide +kernel) (by decide +kernel), mt 145 (by decide +kernel) (by decide +kernel), mt 16 (by decide +kernel) (by decide +kernel), ⟨by decide +kernel, by decide +kernel⟩, by decide +kernel, by decide⟩, mt 144 (by decide +kernel) (by decide +kernel)⟩
theorem cv_L_80 : CLv RL 80 mX3_permanent 1 4 := ⟨⟨mt 147 (by decide +kernel) (by decide +kernel), mt 150 (by decide +kernel) (by decide +kernel), mt 1 (by decide +kernel) (by decide +kernel), ⟨by decide +kernel, by decide +kernel⟩, by decide +kernel, by decide⟩, mt 148 (by decide +kernel) (by decide +kernel), mt 149 (by decide +kernel) (by decide +kernel), TX3, 6, rfl⟩
theorem cv_X3_113 : CLv RX3 113 mX3_fontWith 1 4 := ⟨⟨mt 151 (by decide +kernel) (by decide +kernel), mt 154 (by decide +kernel) (by decide +kernel), mt 1 (by decide +kernel) (by decide +kernel), ⟨by decide +kernel, by decide +kernel⟩, by decide +kernel, by decide⟩, mt 153 (by decide +kernel) (by decide +kernel), ms 0 (by decide +kernel) (by decide +kernel), TX3, 6, rfl⟩
theorem cv_X3_69 : CLv RX3 69 mX3_placeOf 1 4 := ⟨⟨mt 155 (by decide +kernel) (by decide +kernel), mt 158 (by decide +kernel) (by decide +kernel), mt 1 (by decide +kernel) (by decide +kernel), ⟨by decide +kernel, by decide +kernel⟩, by decide +kernel, by decide⟩, mt 157 (by decide +kernel) (by decide +kernel), ms 1 (by decide +kernel) (by decide +kernel), TX3, 6, rfl⟩
theorem cv_X3_73 : CLv RX3 73 mJx4a65c_size_8abf5 0 0 := ⟨⟨mt 159 (by decide +kernel) (by decide +kernel), mt 162 (by decide +kernel) (by decide +kernel), mt 4 (by decide +kernel) (by decide +kernel), ⟨by decide +kernel, by decide +kernel⟩, by decide +kernel, by decide⟩, mt 160 (by decide +kernel) (by decide +kernel), mt 161 (by decide +kernel) (by decide +kernel), TJx4a65c, 3, rfl⟩
theorem cv_X3_177 : CLv RX3 177 mJx4a65c_get_915e3 1 0 := ⟨⟨mt 163 (by decide +kernel) (by decide +kernel), mt 166 (by decide +kernel) (by decide +kernel), mt 4 (by decide +kernel) (by decide +kernel), ⟨by decide +kernel, by decide +kernel⟩, by decide +kernel, by decide⟩, mt 164 (by decide +kernel) (by decide +kernel), mt 165 (by decide +kernel) (by decide +kernel), TJx4a65c, 3, rfl⟩
theorem cs_Jx4a65c_118 : CLs RJx4a65c 118 mJ15_checkIndex_7cf53 2 := ⟨⟨mt 167 (by decide +kernel) (by decide +kernel), mt 169 (by decide +kernel) (by decide +kernel), mt 7 (by decide +kernel) (by decide +kernel), ⟨by decide +kernel, by decide +kernel⟩, by decide +kernel, by decide⟩, mt 168 (by decide +kernel) (by decide +kernel)⟩
theorem cs_J15_105 : CLs RJ15 105 mJ3_checkIndex_8e157 3 := ⟨⟨mt 170 (by decide +kernel) (by decide +kernel), mt 172 (by decide +kernel) (by decide +kernel), mt 8 (by decide +kernel) (by decide +kernel), ⟨by decide +kernel, by decide +kernel⟩, by decide +kernel, by decide⟩, mt 171 (by decide +kernel) (by decide +kernel)⟩
theorem cv_Jx4a65c_123 : CLv RJx4a65c 123 mJx4a65c_elementData_915e3 1 0 := ⟨⟨mt 173 (by decide +kernel) (by decide +kernel), mt 176 (by decide +kernel) (by decide +kernel), mt 4 (by decide +kernel) (by decide +kernel), ⟨by decide +kernel, by decide +kernel⟩, by decide +kernel, by decide⟩, mt 174 (by decide +kernel) (by decide +kernel), mt 175 (by decide +kernel) (by decide +kernel), TJx4a65c, 3, rfl⟩
theorem cv_L_89 : CLv RL 89 mX3_pin 2 4 := ⟨⟨mt 178 (by decide +kernel) (by decide +kernel), mt 181 (by decide +kernel) (by decide +kernel), mt 1 (by decide +kernel) (by decide +kernel), ⟨by decide +kernel, by decide +kernel⟩, by decide +kernel, by decide⟩, mt 179 (by decide +kernel) (by decide +kernel), mt 180 (by decide +kernel) (by decide +kernel), TX3, 6, rfl⟩
theorem cv_L_94 : CLv RL 94 mX3_chosen 1 4 := ⟨⟨mt 185 (by decide +kernel) (by decide +kernel), mt 188 (by decide +kernel) (by decide +kernel), mt 1 (by decide +kernel) (by decide +kernel), ⟨by decide +kernel, by decide +kernel⟩, by decide +kernel, by decide⟩, mt 186 (by decide +kernel) (by decide +kernel), mt 187 (by decide +kernel) (by decide +kernel), TX3, 6, rfl⟩
theorem cv_X3_166 : CLv RX3 166 mX3_chosenFont 1 4 := ⟨⟨mt 189 (by decide +kernel) (by decide +kernel), mt 192 (by decide +kernel) (by decide +kernel), mt 1 (by decide +kernel) (by decide +kernel), ⟨by decide +kernel, by decide +kernel⟩, by decide +kernel, by decide⟩, mt 191 (by decide +kernel) (by decide +kernel), ms 2 (by decide +kernel) (by decide +kernel), TX3, 6, rfl⟩
theorem cv_X3_230 : CLv RX3 230 mX3_bestFor 1 4 := ⟨⟨mt 193 (by decide +kernel) (by decide +kernel), mt 196 (by decide +kernel) (by decide +kernel), mt 1 (by decide +kernel) (by decide +kernel), ⟨by decide +kernel, by decide +kernel⟩, by decide +kernel, by decide⟩, mt 195 (by decide +kernel) (by decide +kernel), ms 3 (by decide +kernel) (by decide +kernel), TX3, 6, rfl⟩
theorem cv_X3_234 : CLv RX3 234 mX3_allFonts 0 4 := ⟨⟨mt 197 (by decide +kernel) (by decide +kernel), mt 200 (by decide +kernel) (by decide +kernel), mt 1 (by decide +kernel) (by decide +kernel), ⟨by decide +kernel, by decide +kernel⟩, by decide +kernel, by decide⟩, mt 199 (by decide +kernel) (by decide +kernel), ms 4 (by decide +kernel) (by decide +kernel), TX3, 6, rfl⟩
theorem cv_X3_237 : CLv RX3 237 mX3_having 3 4 := ⟨⟨mt 201 (by decide +kernel) (by decide +kernel), mt 204 (by decide +kernel) (by decide +kernel), mt 1 (by decide +kernel) (by decide +kernel), ⟨by decide +kernel, by decide +kernel⟩, by decide +kernel, by decide⟩, mt 203 (by decide +kernel) (by decide +kernel), ms 5 (by decide +kernel) (by decide +kernel), TX3, 6, rfl⟩
theorem cs_X3_262 : CLs RX3 262 mX3_isIn 2 := ⟨⟨mt 205 (by decide +kernel) (by decide +kernel), mt 207 (by decide +kernel) (by decide +kernel), mt 1 (by decide +kernel) (by decide +kernel), ⟨by decide +kernel, by decide +kernel⟩, by decide +kernel, by decide⟩, mt 206 (by decide +kernel) (by decide +kernel)⟩
theorem cv_X3_241 : CLv RX3 241 mX3_preferring 3 4 := ⟨⟨mt 208 (by decide +kernel) (by decide +kernel), mt 211 (by decide +kernel) (by decide +kernel), mt 1 (by decide +kernel) (by decide +kernel), ⟨by decide +kernel, by decide +kernel⟩, by decide +kernel, by decide⟩, mt 210 (by decide +kernel) (by decide +kernel), ms 6 (by decide +kernel) (by decide +kernel), TX3, 6, rfl⟩
theorem cv_X3_244 : CLv RX3 244 mX3_nextUp 3 4 := ⟨⟨mt 212 (by decide +kernel) (by decide +kernel), mt 215 (by decide +kernel) (by decide +kernel), mt 1 (by decide +kernel) (by decide +kernel), ⟨by decide +kernel, by decide +kernel⟩, by decide +kernel, by decide⟩, mt 214 (by decide +kernel) (by decide +kernel), ms 7 (by decide +kernel) (by decide +kernel), TX3, 6, rfl⟩
theorem cv_X3_268 : CLv RX3 268 mX3_leastFrom 3 4 := ⟨⟨mt 216 (by decide +kernel) (by decide +kernel), mt 219 (by decide +kernel) (by decide +kernel), mt 1 (by decide +kernel) (by decide +kernel), ⟨by decide +kernel, by decide +kernel⟩, by decide +kernel, by decide⟩, mt 218 (by decide +kernel) (by decide +kernel), ms 8 (by decide +kernel) (by decide +kernel), TX3, 6, rfl⟩
theorem cv_X3_271 : CLv RX3 271 mX3_greatestUpTo 3 4 := ⟨⟨mt 221 (by decide +kernel) (by decide +kernel), mt 224 (by decide +kernel) (by decide +kernel), mt 1 (by decide +kernel) (by decide +kernel), ⟨by decide +kernel, by decide +kernel⟩, by decide +kernel, by decide⟩, mt 223 (by decide +kernel) (by decide +kernel), ms 9 (by decide +kernel) (by decide +kernel), TX3, 6, rfl⟩
theorem cv_X3_247 : CLv RX3 247 mX3_nearestHeight 2 4 := ⟨⟨mt 226 (by decide +kernel) (by decide +kernel), mt 229 (by decide +kernel) (by decide +kernel), mt 1 (by decide +kernel) (by decide +kernel), ⟨by decide +kernel, by decide +kernel⟩, by decide +kernel, by decide⟩, mt 228 (by decide +kernel) (by decide +kernel), ms 10 (by decide +kernel) (by decide +kernel), TX3, 6, rfl⟩
theorem cv_X3_251 : CLv RX3 251 mX3_nextDown 3 4 := ⟨⟨mt 230 (by decide +kernel) (by decide +kernel), mt 233 (by decide +kernel) (by decide +kernel), mt 1 (by decide +kernel) (by decide +kernel), ⟨by decide +kernel, by decide +kernel⟩, by decide +kernel, by decide⟩, mt 232 (by decide +kernel) (by decide +kernel), ms 11 (by decide +kernel) (by decide +kernel), TX3, 6, rfl⟩
theorem cv_X3_254 : CLv RX3 254 mX3_preferringPassing 1 4 := ⟨⟨mt 234 (by decide +kernel) (by decide +kernel), mt 237 (by decide +kernel) (by decide +kernel), mt 1 (by decide +kernel) (by decide +kernel), ⟨by decide +kernel, by decide +kernel⟩, by decide +kernel, by decide⟩, mt 236 (by decide +kernel) (by decide +kernel), ms 12 (by decide +kernel) (by decide +kernel), TX3, 6, rfl⟩
theorem cs_X3_257 : CLs RX3 257 mJ6_numberOfLeadingZeros_0f7a4 1 := ⟨⟨mt 238 (by decide +kernel) (by decide +kernel), mt 240 (by decide +kernel) (by decide +kernel), mt 21 (by decide +kernel) (by decide +kernel), ⟨by decide +kernel, by decide +kernel⟩, by decide +kernel, by decide⟩, mt 239 (by decide +kernel) (by decide +kernel)⟩
theorem cv_L_106 : CLv RL 106 mX3_row 4 4 := ⟨⟨mt 242 (by decide +kernel) (by decide +kernel), mt 245 (by decide +kernel) (by decide +kernel), mt 1 (by decide +kernel) (by decide +kernel), ⟨by decide +kernel, by decide +kernel⟩, by decide +kernel, by decide⟩, mt 243 (by decide +kernel) (by decide +kernel), mt 244 (by decide +kernel) (by decide +kernel), TX3, 6, rfl⟩
theorem cv_X3_183 : CLv RX3 183 mX3_chosenGlyph 2 4 := ⟨⟨mt 246 (by decide +kernel) (by decide +kernel), mt 249 (by decide +kernel) (by decide +kernel), mt 1 (by decide +kernel) (by decide +kernel), ⟨by decide +kernel, by decide +kernel⟩, by decide +kernel, by decide⟩, mt 248 (by decide +kernel) (by decide +kernel), ms 13 (by decide +kernel) (by decide +kernel), TX3, 6, rfl⟩
theorem cv_X3_119 : CLv RX3 119 mX1_glyphFor 1 2 := ⟨⟨mt 250 (by decide +kernel) (by decide +kernel), mt 253 (by decide +kernel) (by decide +kernel), mt 14 (by decide +kernel) (by decide +kernel), ⟨by decide +kernel, by decide +kernel⟩, by decide +kernel, by decide⟩, mt 251 (by decide +kernel) (by decide +kernel), mt 252 (by decide +kernel) (by decide +kernel), TX1, 6, rfl⟩
theorem cv_X3_207 : CLv RX3 207 mX2_dotsAt 2 3 := ⟨⟨mt 255 (by decide +kernel) (by decide +kernel), mt 258 (by decide +kernel) (by decide +kernel), mt 19 (by decide +kernel) (by decide +kernel), ⟨by decide +kernel, by decide +kernel⟩, by decide +kernel, by decide⟩, mt 256 (by decide +kernel) (by decide +kernel), mt 257 (by decide +kernel) (by decide +kernel), TX2, 9, rfl⟩
theorem cv_L_114 : CLv RL 114 mX3_look 1 4 := ⟨⟨mt 259 (by decide +kernel) (by decide +kernel), mt 262 (by decide +kernel) (by decide +kernel), mt 1 (by decide +kernel) (by decide +kernel), ⟨by decide +kernel, by decide +kernel⟩, by decide +kernel, by decide⟩, mt 260 (by decide +kernel) (by decide +kernel), mt 261 (by decide +kernel) (by decide +kernel), TX3, 6, rfl⟩
theorem cv_X3_213 : CLv RX3 213 mX3_glyphsInAll 0 4 := ⟨⟨mt 263 (by decide +kernel) (by decide +kernel), mt 266 (by decide +kernel) (by decide +kernel), mt 1 (by decide +kernel) (by decide +kernel), ⟨by decide +kernel, by decide +kernel⟩, by decide +kernel, by decide⟩, mt 265 (by decide +kernel) (by decide +kernel), ms 14 (by decide +kernel) (by decide +kernel), TX3, 6, rfl⟩
theorem cv_X3_216 : CLv RX3 216 mX3_bytesInAll 0 4 := ⟨⟨mt 267 (by decide +kernel) (by decide +kernel), mt 270 (by decide +kernel) (by decide +kernel), mt 1 (by decide +kernel) (by decide +kernel), ⟨by decide +kernel, by decide +kernel⟩, by decide +kernel, by decide⟩, mt 269 (by decide +kernel) (by decide +kernel), ms 15 (by decide +kernel) (by decide +kernel), TX3, 6, rfl⟩
theorem cv_X3_219 : CLv RX3 219 mX2_missing 0 3 := ⟨⟨mt 271 (by decide +kernel) (by decide +kernel), mt 138 (by decide +kernel) (by decide +kernel), mt 19 (by decide +kernel) (by decide +kernel), ⟨by decide +kernel, by decide +kernel⟩, by decide +kernel, by decide⟩, mt 136 (by decide +kernel) (by decide +kernel), mt 137 (by decide +kernel) (by decide +kernel), TX2, 9, rfl⟩
theorem cv_L_7 : CLv RL 7 mX3_header 0 4 := ⟨⟨mt 276 (by decide +kernel) (by decide +kernel), mt 279 (by decide +kernel) (by decide +kernel), mt 1 (by decide +kernel) (by decide +kernel), ⟨by decide +kernel, by decide +kernel⟩, by decide +kernel, by decide⟩, mt 277 (by decide +kernel) (by decide +kernel), mt 278 (by decide +kernel) (by decide +kernel), TX3, 6, rfl⟩
theorem cv_X3_84 : CLv RX3 84 mX3_takeOut 1 4 := ⟨⟨mt 349 (by decide +kernel) (by decide +kernel), mt 352 (by decide +kernel) (by decide +kernel), mt 1 (by decide +kernel) (by decide +kernel), ⟨by decide +kernel, by decide +kernel⟩, by decide +kernel, by decide⟩, mt 351 (by decide +kernel) (by decide +kernel), ms 17 (by decide +kernel) (by decide +kernel), TX3, 6, rfl⟩
theorem cv_X3_222 : CLv RX3 222 mJx4a65c_remove_915e3 1 0 := ⟨⟨mt 353 (by decide +kernel) (by decide +kernel), mt 356 (by decide +kernel) (by decide +kernel), mt 4 (by decide +kernel) (by decide +kernel), ⟨by decide +kernel, by decide +kernel⟩, by decide +kernel, by decide⟩, mt 354 (by decide +kernel) (by decide +kernel), mt 355 (by decide +kernel) (by decide +kernel), TJx4a65c, 3, rfl⟩
theorem cv_Jx4a65c_144 : CLv RJx4a65c 144 mJx4a65c_fastRemove_b59b0 2 0 := ⟨⟨mt 357 (by decide +kernel) (by decide +kernel), mt 360 (by decide +kernel) (by decide +kernel), mt 4 (by decide +kernel) (by decide +kernel), ⟨by decide +kernel, by decide +kernel⟩, by decide +kernel, by decide⟩, mt 359 (by decide +kernel) (by decide +kernel), ms 18 (by decide +kernel) (by decide +kernel), TJx4a65c, 3, rfl⟩
theorem cc_X3_89 : CLi RX3 89 mX1_init 2 := ⟨⟨mt 363 (by decide +kernel) (by decide +kernel), mt 365 (by decide +kernel) (by decide +kernel), mt 14 (by decide +kernel) (by decide +kernel), ⟨by decide +kernel, by decide +kernel⟩, by decide +kernel, by decide⟩, mt 364 (by decide +kernel) (by decide +kernel), rfl, rfl⟩
theorem cv_X3_92 : CLv RX3 92 mJx4a65c_add_9ea2d 1 0 := ⟨⟨mt 393 (by decide +kernel) (by decide +kernel), mt 396 (by decide +kernel) (by decide +kernel), mt 4 (by decide +kernel) (by decide +kernel), ⟨by decide +kernel, by decide +kernel⟩, by decide +kernel, by decide⟩, mt 394 (by decide +kernel) (by decide +kernel), mt 395 (by decide +kernel) (by decide +kernel), TJx4a65c, 3, rfl⟩
theorem cv_Jx4a65c_131 : CLv RJx4a65c 131 mJx4a65c_add_72be8 3 0 := ⟨⟨mt 397 (by decide +kernel) (by decide +kernel), mt 400 (by decide +kernel) (by decide +kernel), mt 4 (by decide +kernel) (by decide +kernel), ⟨by decide +kernel, by decide +kernel⟩, by decide +kernel, by decide⟩, mt 399 (by decide +kernel) (by decide +kernel), ms 19 (by decide +kernel) (by decide +kernel), TJx4a65c, 3, rfl⟩
theorem cv_Jx4a65c_129 : CLv RJx4a65c 129 mJx4a65c_grow_d5877 0 0 := ⟨⟨mt 401 (by decide +kernel) (by decide +kernel), mt 404 (by decide +kernel) (by decide +kernel), mt 4 (by decide +kernel) (by decide +kernel), ⟨by decide +kernel, by decide +kernel⟩, by decide +kernel, by decide⟩, mt 403 (by decide +kernel) (by decide +kernel), ms 20 (by decide +kernel) (by decide +kernel), TJx4a65c, 3, rfl⟩
theorem cv_Jx4a65c_69 : CLv RJx4a65c 69 mJx4a65c_grow_92f84 1 0 := ⟨⟨mt 405 (by decide +kernel) (by decide +kernel), mt 408 (by decide +kernel) (by decide +kernel), mt 4 (by decide +kernel) (by decide +kernel), ⟨by decide +kernel, by decide +kernel⟩, by decide +kernel, by decide⟩, mt 407 (by decide +kernel) (by decide +kernel), ms 21 (by decide +kernel) (by decide +kernel), TJx4a65c, 3, rfl⟩
theorem cs_Jx4a65c_73 : CLs RJx4a65c 73 mJ8_newLength_cabcc 3 := ⟨⟨mt 409 (by decide +kernel) (by decide +kernel), mt 411 (by decide +kernel) (by decide +kernel), mt 15 (by decide +kernel) (by decide +kernel), ⟨by decide +kernel, by decide +kernel⟩, by decide +kernel, by decide⟩, mt 410 (by decide +kernel) (by decide +kernel)⟩
theorem cs_J8_194 : CLs RJ8 194 mJ9_max_7cf53 2 := ⟨⟨mt 412 (by decide +kernel) (by decide +kernel), mt 145 (by decide +kernel) (by decide +kernel), mt 16 (by decide +kernel) (by decide +kernel), ⟨by decide +kernel, by decide +kernel⟩, by decide +kernel, by decide⟩, mt 144 (by decide +kernel) (by decide +kernel)⟩
theorem cs_J8_201 : CLs RJ8 201 mJ8_hugeLength_7cf53 2 := ⟨⟨mt 414 (by decide +kernel) (by decide +kernel), mt 416 (by decide +kernel) (by decide +kernel), mt 15 (by decide +kernel) (by decide +kernel), ⟨by decide +kernel, by decide +kernel⟩, by decide +kernel, by decide⟩, mt 415 (by decide +kernel) (by decide +kernel)⟩
theorem cs_Jx4a65c_66 : CLs RJx4a65c 66 mJ7_copyOf_1904c 2 := ⟨⟨mt 417 (by decide +kernel) (by decide +kernel), mt 419 (by decide +kernel) (by decide +kernel), mt 17 (by decide +kernel) (by decide +kernel), ⟨by decide +kernel, by decide +kernel⟩, by decide +kernel, by decide⟩, mt 418 (by decide +kernel) (by decide +kernel)⟩
theorem cs_J7_300 : CLs RJ7 300 mJ7_copyOf_6403c 3 := ⟨⟨mt 434 (by decide +kernel) (by decide +kernel), mt 436 (by decide +kernel) (by decide +kernel), mt 17 (by decide +kernel) (by decide +kernel), ⟨by decide +kernel, by decide +kernel⟩, by decide +kernel, by decide⟩, mt 435 (by decide +kernel) (by decide +kernel)⟩
theorem cs_J7_304 : CLs RJ7 304 mJ9_min_7cf53 2 := ⟨⟨mt 440 (by decide +kernel) (by decide +kernel), mt 442 (by decide +kernel) (by decide +kernel), mt 16 (by decide +kernel) (by decide +kernel), ⟨by decide +kernel, by decide +kernel⟩, by decide +kernel, by decide⟩, mt 441 (by decide +kernel) (by decide +kernel)⟩
theorem cs_Jx4a65c_79 : CLs RJx4a65c 79 mJ9_max_7cf53 2 := ⟨⟨mt 444 (by decide +kernel) (by decide +kernel), mt 145 (by decide +kernel) (by decide +kernel), mt 16 (by decide +kernel) (by decide +kernel), ⟨by decide +kernel, by decide +kernel⟩, by decide +kernel, by decide⟩, mt 144 (by decide +kernel) (by decide +kernel)⟩
theorem cv_L_15 : CLv RL 15 mX3_glyph 5 4 := ⟨⟨mt 450 (by decide +kernel) (by decide +kernel), mt 453 (by decide +kernel) (by decide +kernel), mt 1 (by decide +kernel) (by decide +kernel), ⟨by decide +kernel, by decide +kernel⟩, by decide +kernel, by decide⟩, mt 451 (by decide +kernel) (by decide +kernel), mt 452 (by decide +kernel) (by decide +kernel), TX3, 6, rfl⟩
theorem cc_X3_105 : CLi RX3 105 mX2_init 5 := ⟨⟨mt 473 (by decide +kernel) (by decide +kernel), mt 475 (by decide +kernel) (by decide +kernel), mt 19 (by decide +kernel) (by decide +kernel), ⟨by decide +kernel, by decide +kernel⟩, by decide +kernel, by decide⟩, mt 474 (by decide +kernel) (by decide +kernel), rfl, rfl⟩
theorem cv_X3_108 : CLv RX3 108 mX2_size 0 3 := ⟨⟨mt 511 (by decide +kernel) (by decide +kernel), mt 142 (by decide +kernel) (by decide +kernel), mt 19 (by decide +kernel) (by decide +kernel), ⟨by decide +kernel, by decide +kernel⟩, by decide +kernel, by decide⟩, mt 140 (by decide +kernel) (by decide +kernel), mt 141 (by decide +kernel) (by decide +kernel), TX2, 9, rfl⟩
theorem cv_L_21 : CLv RL 21 mX3_load 0 4 := ⟨⟨mt 516 (by decide +kernel) (by decide +kernel), mt 519 (by decide +kernel) (by decide +kernel), mt 1 (by decide +kernel) (by decide +kernel), ⟨by decide +kernel, by decide +kernel⟩, by decide +kernel, by decide⟩, mt 517 (by decide +kernel) (by decide +kernel), mt 518 (by decide +kernel) (by decide +kernel), TX3, 6, rfl⟩
theorem cv_X3_123 : CLv RX3 123 mX3_hasRoomFor 2 4 := ⟨⟨mt 521 (by decide +kernel) (by decide +kernel), mt 524 (by decide +kernel) (by decide +kernel), mt 1 (by decide +kernel) (by decide +kernel), ⟨by decide +kernel, by decide +kernel⟩, by decide +kernel, by decide⟩, mt 523 (by decide +kernel) (by decide +kernel), ms 22 (by decide +kernel) (by decide +kernel), TX3, 6, rfl⟩
theorem cv_X3_132 : CLv RX3 132 mX1_remove 1 2 := ⟨⟨mt 541 (by decide +kernel) (by decide +kernel), mt 544 (by decide +kernel) (by decide +kernel), mt 14 (by decide +kernel) (by decide +kernel), ⟨by decide +kernel, by decide +kernel⟩, by decide +kernel, by decide⟩, mt 542 (by decide +kernel) (by decide +kernel), mt 543 (by decide +kernel) (by decide +kernel), TX1, 6, rfl⟩
theorem cv_X1_43 : CLv RX1 43 mX1_glyphFor 1 2 := ⟨⟨mt 545 (by decide +kernel) (by decide +kernel), mt 253 (by decide +kernel) (by decide +kernel), mt 14 (by decide +kernel) (by decide +kernel), ⟨by decide +kernel, by decide +kernel⟩, by decide +kernel, by decide⟩, mt 251 (by decide +kernel) (by decide +kernel), mt 252 (by decide +kernel) (by decide +kernel), TX1, 6, rfl⟩
theorem cv_X1_39 : CLv RX1 39 mX2_size 0 3 := ⟨⟨mt 546 (by decide +kernel) (by decide +kernel), mt 142 (by decide +kernel) (by decide +kernel), mt 19 (by decide +kernel) (by decide +kernel), ⟨by decide +kernel, by decide +kernel⟩, by decide +kernel, by decide⟩, mt 140 (by decide +kernel) (by decide +kernel), mt 141 (by decide +kernel) (by decide +kernel), TX2, 9, rfl⟩
theorem cv_X3_135 : CLv RX3 135 mX1_put 2 2 := ⟨⟨mt 547 (by decide +kernel) (by decide +kernel), mt 550 (by decide +kernel) (by decide +kernel), mt 14 (by decide +kernel) (by decide +kernel), ⟨by decide +kernel, by decide +kernel⟩, by decide +kernel, by decide⟩, mt 548 (by decide +kernel) (by decide +kernel), mt 549 (by decide +kernel) (by decide +kernel), TX1, 6, rfl⟩
theorem cv_L_26 : CLv RL 26 mX3_drop 1 4 := ⟨⟨mt 554 (by decide +kernel) (by decide +kernel), mt 557 (by decide +kernel) (by decide +kernel), mt 1 (by decide +kernel) (by decide +kernel), ⟨by decide +kernel, by decide +kernel⟩, by decide +kernel, by decide⟩, mt 555 (by decide +kernel) (by decide +kernel), mt 556 (by decide +kernel) (by decide +kernel), TX3, 6, rfl⟩
theorem cv_X3_148 : CLv RX3 148 mX3_dropAll 0 4 := ⟨⟨mt 559 (by decide +kernel) (by decide +kernel), mt 562 (by decide +kernel) (by decide +kernel), mt 1 (by decide +kernel) (by decide +kernel), ⟨by decide +kernel, by decide +kernel⟩, by decide +kernel, by decide⟩, mt 561 (by decide +kernel) (by decide +kernel), ms 23 (by decide +kernel) (by decide +kernel), TX3, 6, rfl⟩
theorem cv_X3_224 : CLv RX3 224 mJx4a65c_clear_da8c8 0 0 := ⟨⟨mt 563 (by decide +kernel) (by decide +kernel), mt 566 (by decide +kernel) (by decide +kernel), mt 4 (by decide +kernel) (by decide +kernel), ⟨by decide +kernel, by decide +kernel⟩, by decide +kernel, by decide⟩, mt 564 (by decide +kernel) (by decide +kernel), mt 565 (by decide +kernel) (by decide +kernel), TJx4a65c, 3, rfl⟩
theorem cv_X3_151 : CLv RX3 151 mX3_dropPassing 0 4 := ⟨⟨mt 567 (by decide +kernel) (by decide +kernel), mt 570 (by decide +kernel) (by decide +kernel), mt 1 (by decide +kernel) (by decide +kernel), ⟨by decide +kernel, by decide +kernel⟩, by decide +kernel, by decide⟩, mt 569 (by decide +kernel) (by decide +kernel), ms 24 (by decide +kernel) (by decide +kernel), TX3, 6, rfl⟩
theorem cv_X3_154 : CLv RX3 154 mX3_dropGlyph 0 4 := ⟨⟨mt 571 (by decide +kernel) (by decide +kernel), mt 574 (by decide +kernel) (by decide +kernel), mt 1 (by decide +kernel) (by decide +kernel), ⟨by decide +kernel, by decide +kernel⟩, by decide +kernel, by decide⟩, mt 573 (by decide +kernel) (by decide +kernel), ms 25 (by decide +kernel) (by decide +kernel), TX3, 6, rfl⟩
theorem cv_L_30 : CLv RL 30 mX3_font 2 4 := ⟨⟨mt 579 (by decide +kernel) (by decide +kernel), mt 582 (by decide +kernel) (by decide +kernel), mt 1 (by decide +kernel) (by decide +kernel), ⟨by decide +kernel, by decide +kernel⟩, by decide +kernel, by decide⟩, mt 580 (by decide +kernel) (by decide +kernel), mt 581 (by decide +kernel) (by decide +kernel), TX3, 6, rfl⟩
theorem cv_L_36 : CLv RL 36 mX3_of 3 4 := ⟨⟨mt 602 (by decide +kernel) (by decide +kernel), mt 605 (by decide +kernel) (by decide +kernel), mt 1 (by decide +kernel) (by decide +kernel), ⟨by decide +kernel, by decide +kernel⟩, by decide +kernel, by decide⟩, mt 603 (by decide +kernel) (by decide +kernel), mt 604 (by decide +kernel) (by decide +kernel), TX3, 6, rfl⟩
theorem cv_X3_204 : CLv RX3 204 mX2_blackDots 0 3 := ⟨⟨mt 608 (by decide +kernel) (by decide +kernel), mt 611 (by decide +kernel) (by decide +kernel), mt 19 (by decide +kernel) (by decide +kernel), ⟨by decide +kernel, by decide +kernel⟩, by decide +kernel, by decide⟩, mt 609 (by decide +kernel) (by decide +kernel), mt 610 (by decide +kernel) (by decide +kernel), TX2, 9, rfl⟩
theorem cs_X2_57 : CLs RX2 57 mJ13_bitCount_95d88 1 := ⟨⟨mt 612 (by decide +kernel) (by decide +kernel), mt 614 (by decide +kernel) (by decide +kernel), mt 23 (by decide +kernel) (by decide +kernel), ⟨by decide +kernel, by decide +kernel⟩, by decide +kernel, by decide⟩, mt 613 (by decide +kernel) (by decide +kernel)⟩
theorem cv_L_40 : CLv RL 40 mX3_wish 2 4 := ⟨⟨mt 621 (by decide +kernel) (by decide +kernel), mt 624 (by decide +kernel) (by decide +kernel), mt 1 (by decide +kernel) (by decide +kernel), ⟨by decide +kernel, by decide +kernel⟩, by decide +kernel, by decide⟩, mt 622 (by decide +kernel) (by decide +kernel), mt 623 (by decide +kernel) (by decide +kernel), TX3, 6, rfl⟩
theorem cc_L_46 : CLi RL 46 mX4_init 0 := ⟨⟨mt 628 (by decide +kernel) (by decide +kernel), mt 630 (by decide +kernel) (by decide +kernel), mt 6 (by decide +kernel) (by decide +kernel), ⟨by decide +kernel, by decide +kernel⟩, by decide +kernel, by decide⟩, mt 629 (by decide +kernel) (by decide +kernel), rfl, rfl⟩
theorem cv_L_63 : CLv RL 63 mX4_thrown 0 5 := ⟨⟨mt 694 (by decide +kernel) (by decide +kernel), mt 697 (by decide +kernel) (by decide +kernel), mt 6 (by decide +kernel) (by decide +kernel), ⟨by decide +kernel, by decide +kernel⟩, by decide +kernel, by decide⟩, mt 695 (by decide +kernel) (by decide +kernel), mt 696 (by decide +kernel) (by decide +kernel), TX4, 20, rfl⟩
theorem cv_L_51 : CLv RL 51 mX4_hand 2 5 := ⟨⟨mt 698 (by decide +kernel) (by decide +kernel), mt 701 (by decide +kernel) (by decide +kernel), mt 6 (by decide +kernel) (by decide +kernel), ⟨by decide +kernel, by decide +kernel⟩, by decide +kernel, by decide⟩, mt 699 (by decide +kernel) (by decide +kernel), mt 700 (by decide +kernel) (by decide +kernel), TX4, 20, rfl⟩
theorem cv_L_56 : CLv RL 56 mX4_attribute 4 5 := ⟨⟨mt 702 (by decide +kernel) (by decide +kernel), mt 705 (by decide +kernel) (by decide +kernel), mt 6 (by decide +kernel) (by decide +kernel), ⟨by decide +kernel, by decide +kernel⟩, by decide +kernel, by decide⟩, mt 703 (by decide +kernel) (by decide +kernel), mt 704 (by decide +kernel) (by decide +kernel), TX4, 20, rfl⟩
theorem cs_X4_62 : CLs RX4 62 mX4_fits 2 := ⟨⟨mt 706 (by decide +kernel) (by decide +kernel), mt 708 (by decide +kernel) (by decide +kernel), mt 6 (by decide +kernel) (by decide +kernel), ⟨by decide +kernel, by decide +kernel⟩, by decide +kernel, by decide⟩, mt 707 (by decide +kernel) (by decide +kernel)⟩
theorem cv_L_62 : CLv RL 62 mX4_header 0 5 := ⟨⟨mt 712 (by decide +kernel) (by decide +kernel), mt 715 (by decide +kernel) (by decide +kernel), mt 6 (by decide +kernel) (by decide +kernel), ⟨by decide +kernel, by decide +kernel⟩, by decide +kernel, by decide⟩, mt 713 (by decide +kernel) (by decide +kernel), mt 714 (by decide +kernel) (by decide +kernel), TX4, 20, rfl⟩
theorem cv_X4_86 : CLv RX4 86 mX4_fontOf 1 5 := ⟨⟨mt 716 (by decide +kernel) (by decide +kernel), mt 719 (by decide +kernel) (by decide +kernel), mt 6 (by decide +kernel) (by decide +kernel), ⟨by decide +kernel, by decide +kernel⟩, by decide +kernel, by decide⟩, mt 718 (by decide +kernel) (by decide +kernel), ms 26 (by decide +kernel) (by decide +kernel), TX4, 20, rfl⟩
theorem cv_X4_89 : CLv RX4 89 mX4_goFont 1 5 := ⟨⟨mt 720 (by decide +kernel) (by decide +kernel), mt 723 (by decide +kernel) (by decide +kernel), mt 6 (by decide +kernel) (by decide +kernel), ⟨by decide +kernel, by decide +kernel⟩, by decide +kernel, by decide⟩, mt 722 (by decide +kernel) (by decide +kernel), ms 27 (by decide +kernel) (by decide +kernel), TX4, 20, rfl⟩
theorem cv_X4_82 : CLv RX4 82 mX4_goGlyph 1 5 := ⟨⟨mt 724 (by decide +kernel) (by decide +kernel), mt 727 (by decide +kernel) (by decide +kernel), mt 6 (by decide +kernel) (by decide +kernel), ⟨by decide +kernel, by decide +kernel⟩, by decide +kernel, by decide⟩, mt 726 (by decide +kernel) (by decide +kernel), ms 28 (by decide +kernel) (by decide +kernel), TX4, 20, rfl⟩
theorem cv_X4_76 : CLv RX4 76 mX4_startOf 1 5 := ⟨⟨mt 728 (by decide +kernel) (by decide +kernel), mt 731 (by decide +kernel) (by decide +kernel), mt 6 (by decide +kernel) (by decide +kernel), ⟨by decide +kernel, by decide +kernel⟩, by decide +kernel, by decide⟩, mt 730 (by decide +kernel) (by decide +kernel), ms 29 (by decide +kernel) (by decide +kernel), TX4, 20, rfl⟩
theorem cv_X4_69 : CLv RX4 69 mX4_bytesOf 1 5 := ⟨⟨mt 732 (by decide +kernel) (by decide +kernel), mt 735 (by decide +kernel) (by decide +kernel), mt 6 (by decide +kernel) (by decide +kernel), ⟨by decide +kernel, by decide +kernel⟩, by decide +kernel, by decide⟩, mt 734 (by decide +kernel) (by decide +kernel), ms 30 (by decide +kernel) (by decide +kernel), TX4, 20, rfl⟩
theorem cv_L_69 : CLv RL 69 mX4_glyph 5 5 := ⟨⟨mt 736 (by decide +kernel) (by decide +kernel), mt 739 (by decide +kernel) (by decide +kernel), mt 6 (by decide +kernel) (by decide +kernel), ⟨by decide +kernel, by decide +kernel⟩, by decide +kernel, by decide⟩, mt 737 (by decide +kernel) (by decide +kernel), mt 738 (by decide +kernel) (by decide +kernel), TX4, 20, rfl⟩
theorem cv_L_76 : CLv RL 76 mX4_bytes 2 5 := ⟨⟨mt 740 (by decide +kernel) (by decide +kernel), mt 743 (by decide +kernel) (by decide +kernel), mt 6 (by decide +kernel) (by decide +kernel), ⟨by decide +kernel, by decide +kernel⟩, by decide +kernel, by decide⟩, mt 741 (by decide +kernel) (by decide +kernel), mt 742 (by decide +kernel) (by decide +kernel), TX4, 20, rfl⟩
theorem cv_L_79 : CLv RL 79 mX4_load 0 5 := ⟨⟨mt 745 (by decide +kernel) (by decide +kernel), mt 748 (by decide +kernel) (by decide +kernel), mt 6 (by decide +kernel) (by decide +kernel), ⟨by decide +kernel, by decide +kernel⟩, by decide +kernel, by decide⟩, mt 746 (by decide +kernel) (by decide +kernel), mt 747 (by decide +kernel) (by decide +kernel), TX4, 20, rfl⟩
theorem cv_X4_100 : CLv RX4 100 mX4_glyphOf 2 5 := ⟨⟨mt 749 (by decide +kernel) (by decide +kernel), mt 752 (by decide +kernel) (by decide +kernel), mt 6 (by decide +kernel) (by decide +kernel), ⟨by decide +kernel, by decide +kernel⟩, by decide +kernel, by decide⟩, mt 751 (by decide +kernel) (by decide +kernel), ms 31 (by decide +kernel) (by decide +kernel), TX4, 20, rfl⟩
theorem cv_X4_104 : CLv RX4 104 mX4_byteOf 1 5 := ⟨⟨mt 753 (by decide +kernel) (by decide +kernel), mt 756 (by decide +kernel) (by decide +kernel), mt 6 (by decide +kernel) (by decide +kernel), ⟨by decide +kernel, by decide +kernel⟩, by decide +kernel, by decide⟩, mt 755 (by decide +kernel) (by decide +kernel), ms 32 (by decide +kernel) (by decide +kernel), TX4, 20, rfl⟩
theorem cv_X4_107 : CLv RX4 107 mX4_glyphsOf 1 5 := ⟨⟨mt 757 (by decide +kernel) (by decide +kernel), mt 760 (by decide +kernel) (by decide +kernel), mt 6 (by decide +kernel) (by decide +kernel), ⟨by decide +kernel, by decide +kernel⟩, by decide +kernel, by decide⟩, mt 759 (by decide +kernel) (by decide +kernel), ms 33 (by decide +kernel) (by decide +kernel), TX4, 20, rfl⟩
theorem cv_L_84 : CLv RL 84 mX4_permanent 1 5 := ⟨⟨mt 761 (by decide +kernel) (by decide +kernel), mt 764 (by decide +kernel) (by decide +kernel), mt 6 (by decide +kernel) (by decide +kernel), ⟨by decide +kernel, by decide +kernel⟩, by decide +kernel, by decide⟩, mt 762 (by decide +kernel) (by decide +kernel), mt 763 (by decide +kernel) (by decide +kernel), TX4, 20, rfl⟩
theorem cv_L_88 : CLv RL 88 mX4_drop 1 5 := ⟨⟨mt 765 (by decide +kernel) (by decide +kernel), mt 768 (by decide +kernel) (by decide +kernel), mt 6 (by decide +kernel) (by decide +kernel), ⟨by decide +kernel, by decide +kernel⟩, by decide +kernel, by decide⟩, mt 766 (by decide +kernel) (by decide +kernel), mt 767 (by decide +kernel) (by decide +kernel), TX4, 20, rfl⟩
theorem cv_L_93 : CLv RL 93 mX4_pin 2 5 := ⟨⟨mt 769 (by decide +kernel) (by decide +kernel), mt 772 (by decide +kernel) (by decide +kernel), mt 6 (by decide +kernel) (by decide +kernel), ⟨by decide +kernel, by decide +kernel⟩, by decide +kernel, by decide⟩, mt 770 (by decide +kernel) (by decide +kernel), mt 771 (by decide +kernel) (by decide +kernel), TX4, 20, rfl⟩
theorem cv_L_97 : CLv RL 97 mX4_chosen 1 5 := ⟨⟨mt 773 (by decide +kernel) (by decide +kernel), mt 776 (by decide +kernel) (by decide +kernel), mt 6 (by decide +kernel) (by decide +kernel), ⟨by decide +kernel, by decide +kernel⟩, by decide +kernel, by decide⟩, mt 774 (by decide +kernel) (by decide +kernel), mt 775 (by decide +kernel) (by decide +kernel), TX4, 20, rfl⟩
theorem cv_X4_126 : CLv RX4 126 mX4_choose 1 5 := ⟨⟨mt 777 (by decide +kernel) (by decide +kernel), mt 780 (by decide +kernel) (by decide +kernel), mt 6 (by decide +kernel) (by decide +kernel), ⟨by decide +kernel, by decide +kernel⟩, by decide +kernel, by decide⟩, mt 779 (by decide +kernel) (by decide +kernel), ms 34 (by decide +kernel) (by decide +kernel), TX4, 20, rfl⟩
theorem cv_X4_114 : CLv RX4 114 mX4_strike 2 5 := ⟨⟨mt 781 (by decide +kernel) (by decide +kernel), mt 784 (by decide +kernel) (by decide +kernel), mt 6 (by decide +kernel) (by decide +kernel), ⟨by decide +kernel, by decide +kernel⟩, by decide +kernel, by decide⟩, mt 783 (by decide +kernel) (by decide +kernel), ms 35 (by decide +kernel) (by decide +kernel), TX4, 20, rfl⟩
theorem cv_X4_117 : CLv RX4 117 mX4_byPitch 1 5 := ⟨⟨mt 785 (by decide +kernel) (by decide +kernel), mt 788 (by decide +kernel) (by decide +kernel), mt 6 (by decide +kernel) (by decide +kernel), ⟨by decide +kernel, by decide +kernel⟩, by decide +kernel, by decide⟩, mt 787 (by decide +kernel) (by decide +kernel), ms 36 (by decide +kernel) (by decide +kernel), TX4, 20, rfl⟩
theorem cv_X4_110 : CLv RX4 110 mX4_end 4 5 := ⟨⟨mt 789 (by decide +kernel) (by decide +kernel), mt 792 (by decide +kernel) (by decide +kernel), mt 6 (by decide +kernel) (by decide +kernel), ⟨by decide +kernel, by decide +kernel⟩, by decide +kernel, by decide⟩, mt 791 (by decide +kernel) (by decide +kernel), ms 37 (by decide +kernel) (by decide +kernel), TX4, 20, rfl⟩
theorem cv_X4_120 : CLv RX4 120 mX4_byHeight 1 5 := ⟨⟨mt 793 (by decide +kernel) (by decide +kernel), mt 796 (by decide +kernel) (by decide +kernel), mt 6 (by decide +kernel) (by decide +kernel), ⟨by decide +kernel, by decide +kernel⟩, by decide +kernel, by decide⟩, mt 795 (by decide +kernel) (by decide +kernel), ms 38 (by decide +kernel) (by decide +kernel), TX4, 20, rfl⟩
theorem cv_X4_123 : CLv RX4 123 mX4_byWeight 1 5 := ⟨⟨mt 797 (by decide +kernel) (by decide +kernel), mt 800 (by decide +kernel) (by decide +kernel), mt 6 (by decide +kernel) (by decide +kernel), ⟨by decide +kernel, by decide +kernel⟩, by decide +kernel, by decide⟩, mt 799 (by decide +kernel) (by decide +kernel), ms 39 (by decide +kernel) (by decide +kernel), TX4, 20, rfl⟩
theorem cv_L_101 : CLv RL 101 mX4_font 2 5 := ⟨⟨mt 801 (by decide +kernel) (by decide +kernel), mt 804 (by decide +kernel) (by decide +kernel), mt 6 (by decide +kernel) (by decide +kernel), ⟨by decide +kernel, by decide +kernel⟩, by decide +kernel, by decide⟩, mt 802 (by decide +kernel) (by decide +kernel), mt 803 (by decide +kernel) (by decide +kernel), TX4, 20, rfl⟩
theorem cv_L_105 : CLv RL 105 mX4_of 3 5 := ⟨⟨mt 805 (by decide +kernel) (by decide +kernel), mt 808 (by decide +kernel) (by decide +kernel), mt 6 (by decide +kernel) (by decide +kernel), ⟨by decide +kernel, by decide +kernel⟩, by decide +kernel, by decide⟩, mt 806 (by decide +kernel) (by decide +kernel), mt 807 (by decide +kernel) (by decide +kernel), TX4, 20, rfl⟩
theorem cv_X4_129 : CLv RX4 129 mX4_chosenGlyph 2 5 := ⟨⟨mt 809 (by decide +kernel) (by decide +kernel), mt 812 (by decide +kernel) (by decide +kernel), mt 6 (by decide +kernel) (by decide +kernel), ⟨by decide +kernel, by decide +kernel⟩, by decide +kernel, by decide⟩, mt 811 (by decide +kernel) (by decide +kernel), ms 40 (by decide +kernel) (by decide +kernel), TX4, 20, rfl⟩
theorem cv_X4_132 : CLv RX4 132 mX4_isBlack 3 5 := ⟨⟨mt 813 (by decide +kernel) (by decide +kernel), mt 816 (by decide +kernel) (by decide +kernel), mt 6 (by decide +kernel) (by decide +kernel), ⟨by decide +kernel, by decide +kernel⟩, by decide +kernel, by decide⟩, mt 815 (by decide +kernel) (by decide +kernel), ms 41 (by decide +kernel) (by decide +kernel), TX4, 20, rfl⟩
theorem cv_L_110 : CLv RL 110 mX4_row 4 5 := ⟨⟨mt 817 (by decide +kernel) (by decide +kernel), mt 820 (by decide +kernel) (by decide +kernel), mt 6 (by decide +kernel) (by decide +kernel), ⟨by decide +kernel, by decide +kernel⟩, by decide +kernel, by decide⟩, mt 818 (by decide +kernel) (by decide +kernel), mt 819 (by decide +kernel) (by decide +kernel), TX4, 20, rfl⟩
theorem cv_L_113 : CLv RL 113 mX4_wish 2 5 := ⟨⟨mt 821 (by decide +kernel) (by decide +kernel), mt 824 (by decide +kernel) (by decide +kernel), mt 6 (by decide +kernel) (by decide +kernel), ⟨by decide +kernel, by decide +kernel⟩, by decide +kernel, by decide⟩, mt 822 (by decide +kernel) (by decide +kernel), mt 823 (by decide +kernel) (by decide +kernel), TX4, 20, rfl⟩
theorem cv_L_117 : CLv RL 117 mX4_look 1 5 := ⟨⟨mt 825 (by decide +kernel) (by decide +kernel), mt 828 (by decide +kernel) (by decide +kernel), mt 6 (by decide +kernel) (by decide +kernel), ⟨by decide +kernel, by decide +kernel⟩, by decide +kernel, by decide⟩, mt 826 (by decide +kernel) (by decide +kernel), mt 827 (by decide +kernel) (by decide +kernel), TX4, 20, rfl⟩
theorem cn_X3_30 : CN RX3 30 mX0_init 0 := ⟨by decide +kernel, mt 72 (by decide +kernel) (by decide +kernel), mt 5 (by decide +kernel) (by decide +kernel), ⟨by decide +kernel, by decide +kernel⟩, by decide +kernel, by decide⟩
theorem cnx_X3_30 : Cond.instanceMethod mX0_init.1 ∈ gW := mt 71 (by decide +kernel) (by decide +kernel)
theorem cn_X2_51 : CN RX2 51 mX3_within 3 := ⟨by decide +kernel, mt 112 (by decide +kernel) (by decide +kernel), mt 1 (by decide +kernel) (by decide +kernel), ⟨by decide +kernel, by decide +kernel⟩, by decide +kernel, by decide⟩
theorem cnx_X2_51 : Cond.static mX3_within.1 ∈ gW := mt 111 (by decide +kernel) (by decide +kernel)
theorem cn_X1_35 : CN RX1 35 mX3_within 3 := ⟨by decide +kernel, mt 112 (by decide +kernel) (by decide +kernel), mt 1 (by decide +kernel) (by decide +kernel), ⟨by decide +kernel, by decide +kernel⟩, by decide +kernel, by decide⟩
theorem cnx_X1_35 : Cond.static mX3_within.1 ∈ gW := mt 111 (by decide +kernel) (by decide +kernel)
end
section
/-! ===== THE REFERENCE'S OBJECT: its ints S.1 k and its rows S.2 k, by the numbers of its fields ===== -/
abbrev MS : Type := (Nat → Int32) × (Nat → Nat → Int32)
def mI (S : MS) (k : Nat) (v : Int32) : MS := (fun j => if j = k then v else S.1 j, S.2)
def mA (S : MS) (k : Nat) (f : Nat → Int32) : MS := (S.1, fun j => if j = k then f else S.2 j)
theorem mI_s (S : MS) (k : Nat) (v : Int32) : (mI S k v).1 k = v := if_pos rfl
theorem mI_n {S : MS} {j k : Nat} {v : Int32} (h : j ≠ k) : (mI S k v).1 j = S.1 j := if_neg h
theorem mI_2 (S : MS) (k : Nat) (v : Int32) : (mI S k v).2 = S.2 := rfl
theorem mA_s (S : MS) (k : Nat) (f : Nat → Int32) : (mA S k f).2 k = f := if_pos rfl
theorem mA_n {S : MS} {j k : Nat} {f : Nat → Int32} (h : j ≠ k) : (mA S k f).2 j = S.2 j := if_neg h
theorem mA_1 (S : MS) (k : Nat) (f : Nat → Int32) : (mA S k f).1 = S.1 := rfl
def mF (ad : Nat → Nat) (S : MS) : List Value := [.int (S.1 0), .int (S.1 1), .ref (ad 2), .ref (ad 3), .ref (ad 4), .int (S.1 5), .ref (ad 6), .int (S.1 7), .ref (ad 8), .ref (ad 9), .ref (ad 10), .ref (ad 11), .int (S.1 12), .int (S.1 13), .int (S.1 14), .ref (ad 15), .int (S.1 16), .int (S.1 17), .ref (ad 18), .ref (ad 19)]
def mTy (k : Nat) : FieldType := if k = 4 ∨ k = 19 then .boolean else if k = 8 ∨ k = 18 then .byte else .int
def mLen (k : Nat) : Nat := if k = 2 then 33 else if k = 3 then 231 else if k = 4 then 33 else if k = 6 then 1799 else if k = 8 then 20000 else if k = 9 then 7 else if k = 10 then 14 else if k = 11 then 2 else if k = 15 then 5 else if k = 18 then 2048 else 32
def mKs : List Nat := [2, 3, 4, 6, 8, 9, 10, 11, 15, 18, 19]
def mIs : List Nat := [0, 1, 5, 7, 12, 13, 14, 16, 17]
def mPut (h : AH) (mo : Nat) (ad : Nat → Nat) (S : MS) : AH := fun q => if q = mo then some (.inr (5, mF ad S)) else match mKs.find? (fun k => ad k == q) with
  | some k => some (.inl (mTy k, mLen k, .inl (S.2 k)))
  | none => h q
def mDis (mo : Nat) (ad : Nat → Nat) : Prop := (∀ k ∈ mKs, ad k ≠ mo) ∧ ∀ j ∈ mKs, ∀ k ∈ mKs, ad j = ad k → j = k
theorem mPut_o {h : AH} {mo : Nat} {ad : Nat → Nat} {S : MS} : mPut h mo ad S mo = some (.inr (5, mF ad S)) := if_pos rfl
theorem mfind {mo : Nat} {ad : Nat → Nat} {k : Nat} (hd : mDis mo ad) (hk : k ∈ mKs) : mKs.find? (fun j => ad j == ad k) = some k := by
  cases hf : mKs.find? (fun j => ad j == ad k) with
  | none =>
    have := List.find?_eq_none.mp hf k hk
    simp at this
  | some j =>
    have h1 := List.find?_some hf
    have h2 := List.mem_of_find?_eq_some hf
    rw [hd.2 j h2 k hk (by simpa using h1)]
theorem mPut_a {h : AH} {mo : Nat} {ad : Nat → Nat} {S : MS} {k : Nat} (hd : mDis mo ad) (hk : k ∈ mKs) : mPut h mo ad S (ad k) = some (.inl (mTy k, mLen k, .inl (S.2 k))) := by
  unfold mPut
  rw [if_neg (hd.1 k hk), mfind hd hk]
theorem mF_set {ad : Nat → Nat} {S : MS} {k : Nat} {v : Int32} (hk : k ∈ mIs) : (mF ad S).set k (.int v) = mF ad (mI S k v) := by
  simp only [mIs, List.mem_cons, List.not_mem_nil, or_false] at hk
  rcases hk with rfl | rfl | rfl | rfl | rfl | rfl | rfl | rfl | rfl <;> simp [mF, mI]
theorem mPut_ui {h : AH} {mo : Nat} {ad : Nat → Nat} {S : MS} {k : Nat} {v : Int32} (hk : k ∈ mIs) : hup (mPut h mo ad S) mo (.inr (5, (mF ad S).set k (.int v))) = mPut h mo ad (mI S k v) := by
  funext q
  by_cases hq : q = mo
  · subst hq; rw [hup_s, mPut_o, mF_set hk]
  · rw [hup_n hq]; unfold mPut; rw [if_neg hq, if_neg hq]; rfl
theorem mPut_ua {h : AH} {mo : Nat} {ad : Nat → Nat} {S : MS} {k : Nat} {f : Nat → Int32} (hd : mDis mo ad) (hk : k ∈ mKs) : hup (mPut h mo ad S) (ad k) (.inl (mTy k, mLen k, .inl f)) = mPut h mo ad (mA S k f) := by
  funext q
  by_cases hq : q = ad k
  · subst hq; rw [hup_s, mPut_a hd hk, mA_s]
  · rw [hup_n hq]
    unfold mPut
    by_cases hm : q = mo
    · subst hm; rw [if_pos rfl, if_pos rfl]; rfl
    · rw [if_neg hm, if_neg hm]
      cases hf : mKs.find? (fun j => ad j == q) with
      | none => rfl
      | some j =>
        have h1 : ad j = q := by simpa using List.find?_some hf
        have hjk : j ≠ k := fun e => hq (by rw [← h1, e])
        simp only [mA_n hjk]
theorem mPut_mPut {h : AH} {mo : Nat} {ad : Nat → Nat} {S S' : MS} : mPut (mPut h mo ad S) mo ad S' = mPut h mo ad S' := by
  funext q
  unfold mPut
  by_cases hm : q = mo
  · rw [if_pos hm, if_pos hm]
  · rw [if_neg hm, if_neg hm]
    cases hf : mKs.find? (fun j => ad j == q) with
    | none => simp [hf, hm]
    | some j => simp [hm]
section MO
variable {K : KT} {M : MT} {lv : List (Option Value)} {st : List Value} {h : AH} {mo : Nat} {ad : Nat → Nat} {S : MS} {kc ks : Nat} {Q : QR} {X : QX}
theorem m_put (pc : Nat) {index k : Nat} {ty : FieldType} {decl : String} {v : Int32} (hd : decode M.2.1 pc = .ok (.putfield index, 3)) (hF : FL M.1.cls index 5 k ty false decl) (kk : V K M (pc + 3) lv st (mPut h mo ad (mI S k v)) kc ks Q X) (hk : k ∈ mIs := by decide) (hn : narrow ty (.int v) = .int v := by rfl) (hf : fits ty (.int v) = true := by rfl) : V K M pc lv (.int v :: .ref mo :: st) (mPut h mo ad S) kc ks Q X :=
  v_putf pc hd hF mPut_o (by simp only [mIs, List.mem_cons, List.not_mem_nil, or_false] at hk; rcases hk with rfl | rfl | rfl | rfl | rfl | rfl | rfl | rfl | rfl <;> simp [mF]) hn hf (V.eq kk rfl rfl rfl (mPut_ui hk).symm)
theorem m_ild (pc k : Nat) {i : Int32} (hd : decode M.2.1 pc = .ok (.iaload, 1)) (hds : mDis mo ad) (hin : vp_in i (mLen k)) (kk : V K M (pc + 1) lv (.int (S.2 k i.toNatClampNeg) :: st) (mPut h mo ad S) kc ks Q X) (hk : k ∈ mKs := by decide) (ht : mTy k = .int := by rfl) : V K M pc lv (.int i :: .ref (ad k) :: st) (mPut h mo ad S) kc ks Q X :=
  v_iald pc hd (by rw [mPut_a hds hk, ht]) hin kk
theorem m_bld (pc k : Nat) {i : Int32} (hd : decode M.2.1 pc = .ok (.baload, 1)) (hds : mDis mo ad) (hin : vp_in i (mLen k)) (kk : V K M (pc + 1) lv (.int (S.2 k i.toNatClampNeg) :: st) (mPut h mo ad S) kc ks Q X) (hk : k ∈ mKs := by decide) (ht : mTy k = .byte := by rfl) : V K M pc lv (.int i :: .ref (ad k) :: st) (mPut h mo ad S) kc ks Q X :=
  v_bald pc hd (by rw [mPut_a hds hk, ht]) hin kk
theorem m_zld (pc k : Nat) {i : Int32} (hd : decode M.2.1 pc = .ok (.baload, 1)) (hds : mDis mo ad) (hin : vp_in i (mLen k)) (kk : V K M (pc + 1) lv (.int (S.2 k i.toNatClampNeg) :: st) (mPut h mo ad S) kc ks Q X) (hk : k ∈ mKs := by decide) (ht : mTy k = .boolean := by rfl) : V K M pc lv (.int i :: .ref (ad k) :: st) (mPut h mo ad S) kc ks Q X :=
  v_zald pc hd (by rw [mPut_a hds hk, ht]) hin kk
theorem m_ist (pc k : Nat) {i x : Int32} (hd : decode M.2.1 pc = .ok (.iastore, 1)) (hds : mDis mo ad) (hin : vp_in i (mLen k)) (kk : V K M (pc + 1) lv st (mPut h mo ad (mA S k (upd (S.2 k) i.toNatClampNeg x))) kc ks Q X) (hk : k ∈ mKs := by decide) (ht : mTy k = .int := by rfl) : V K M pc lv (.int x :: .int i :: .ref (ad k) :: st) (mPut h mo ad S) kc ks Q X :=
  v_iast pc hd (by rw [mPut_a hds hk, ht]) hin (V.eq kk rfl rfl rfl (by rw [← mPut_ua hds hk, ht]))
theorem m_bst (pc k : Nat) {i x : Int32} (hd : decode M.2.1 pc = .ok (.bastore, 1)) (hds : mDis mo ad) (hin : vp_in i (mLen k)) (kk : V K M (pc + 1) lv st (mPut h mo ad (mA S k (upd (S.2 k) i.toNatClampNeg (vp_nar .byte x)))) kc ks Q X) (hk : k ∈ mKs := by decide) (ht : mTy k = .byte := by rfl) : V K M pc lv (.int x :: .int i :: .ref (ad k) :: st) (mPut h mo ad S) kc ks Q X :=
  v_bast pc hd (by rw [mPut_a hds hk, ht]) hin (V.eq kk rfl rfl rfl (by rw [← mPut_ua hds hk, ht]))
theorem m_zst (pc k : Nat) {i x : Int32} (hd : decode M.2.1 pc = .ok (.bastore, 1)) (hds : mDis mo ad) (hin : vp_in i (mLen k)) (kk : V K M (pc + 1) lv st (mPut h mo ad (mA S k (upd (S.2 k) i.toNatClampNeg (vp_nar .boolean x)))) kc ks Q X) (hk : k ∈ mKs := by decide) (ht : mTy k = .boolean := by rfl) : V K M pc lv (.int x :: .int i :: .ref (ad k) :: st) (mPut h mo ad S) kc ks Q X :=
  v_zast pc hd (by rw [mPut_a hds hk, ht]) hin (V.eq kk rfl rfl rfl (by rw [← mPut_ua hds hk, ht]))
/-- a call of one of the reference's own methods -/
theorem m_call (pc : Nat) {index n : Nat} {M' : MT} (As : List Value) {Q' : QR} (hd : decode M.2.1 pc = .ok (.invokevirtual index, 3)) (hL : CLv M.1.cls index M' n 5) (hct : Ct K M' 0 0 (.ref mo :: As) (mPut h mo ad S) Q' noX) (kk : ∀ r h', Q' r h' → V K M (pc + 3) lv (r.toList ++ st) h' kc ks Q X)
    (hn : As.length = n := by rfl) (hlev : M'.2.2.2.2.1 + 1 ≤ M.2.2.2.2.1 := by decide) (hst : (st.map fun v => v.category).sum ≤ 8 := by exact Nat.le_of_ble_eq_true rfl) : V K M pc lv (As.reverse ++ .ref mo :: st) (mPut h mo ad S) kc ks Q X :=
  v_callV pc kc ks As hd hL hct mPut_o kk (fun _ _ z => z) hn hlev hst (by omega) (by omega)
end MO
end
section
theorem sw_out {n : Nat} {x : Int32} (h : ∀ j : Nat, j ≤ n → x ≠ nI j) : x.toInt < 0 ∨ (n : Int) < x.toInt := by
  by_cases h0 : x < 0
  · exact Or.inl (by simpa using Int32.lt_iff_toInt_lt.mp h0)
  · obtain ⟨j, hj, rfl⟩ := nI_of h0
    rw [nI_toInt hj]
    by_cases hjn : j ≤ n
    · exact absurd rfl (h j hjn)
    · exact Or.inr (by omega)
/-- what value an attribute may have -/
def fitP (w v : Int32) : Prop := (w = 0 ∧ ¬ v < 0 ∧ ¬ 2047 < v) ∨ (w = 1 ∧ (v = 0 ∨ v = 1)) ∨ (w = 2 ∧ ¬ v < 1 ∧ ¬ 57600 < v) ∨ (w = 3 ∧ ¬ v < 1 ∧ ¬ 99999 < v) ∨ (w = 4 ∧ ¬ v < 0 ∧ ¬ 32767 < v) ∨ (w = 5 ∧ ¬ v < -7 ∧ ¬ 7 < v) ∨ (w = 6 ∧ ¬ v < 0 ∧ ¬ 65535 < v)
set_option maxHeartbeats 4000000 in
set_option maxRecDepth 100000 in
theorem ct_thrown {K : KT} {h : AH} {mo : Nat} {ad : Nat → Nat} {S : MS}  : Ct K mX4_thrown 0 0 [.ref mo] (mPut h mo ad S) (fun r h' => r = some (.int (S.1 0)) ∧ h' = mPut h mo ad S) noX := by
  refine ct_of (by decide +kernel) rfl (Nat.le_of_ble_eq_true rfl) rfl ?_
  refine v_aload_n 0 dX4_thrown_0 rfl rfl ?_
  refine v_getf 1 dX4_thrown_1 fl_X4_45 mPut_o rfl ?_
  refine v_iret 4 dX4_thrown_4 rfl rfl ?_
  exact ⟨rfl, rfl⟩
set_option maxHeartbeats 4000000 in
set_option maxRecDepth 100000 in
theorem ct_bytesOf {K : KT} {h : AH} {mo : Nat} {ad : Nat → Nat} {S : MS} {g : Int32} (hds : mDis mo ad) (h1 : vp_in (7 * g + 5) 1799) (h2 : vp_in (7 * g + 4) 1799) : Ct K mX4_bytesOf 0 0 [.ref mo, .int g] (mPut h mo ad S) (fun r h' => r = some (.int (S.2 6 (7 * g + 5).toNatClampNeg * ((S.2 6 (7 * g + 4).toNatClampNeg + 7) / 8))) ∧ h' = mPut h mo ad S) noX := by
  refine ct_of (by decide +kernel) rfl (Nat.le_of_ble_eq_true rfl) rfl ?_
  refine v_aload_n 0 dX4_bytesOf_0 rfl rfl ?_
  refine v_getf 1 dX4_bytesOf_1 fl_X4_20 mPut_o rfl ?_
  refine v_bipush (v := 7) 4 dX4_bytesOf_4 (by decide) ?_
  refine v_iload_n 6 dX4_bytesOf_6 rfl rfl ?_
  refine v_imul 7 dX4_bytesOf_7 ?_
  refine v_iconst (v := 5) 8 dX4_bytesOf_8 (by decide) ?_
  refine v_iadd 9 dX4_bytesOf_9 ?_
  refine m_ild 10 6 dX4_bytesOf_10 hds h1 ?_
  refine v_aload_n 11 dX4_bytesOf_11 rfl rfl ?_
  refine v_getf 12 dX4_bytesOf_12 fl_X4_20 mPut_o rfl ?_
  refine v_bipush (v := 7) 15 dX4_bytesOf_15 (by decide) ?_
  refine v_iload_n 17 dX4_bytesOf_17 rfl rfl ?_
  refine v_imul 18 dX4_bytesOf_18 ?_
  refine v_iconst (v := 4) 19 dX4_bytesOf_19 (by decide) ?_
  refine v_iadd 20 dX4_bytesOf_20 ?_
  refine m_ild 21 6 dX4_bytesOf_21 hds h2 ?_
  refine v_bipush (v := 7) 22 dX4_bytesOf_22 (by decide) ?_
  refine v_iadd 24 dX4_bytesOf_24 ?_
  refine v_bipush (v := 8) 25 dX4_bytesOf_25 (by decide) ?_
  refine v_idiv 27 dX4_bytesOf_27 (by decide) ?_
  refine v_imul 28 dX4_bytesOf_28 ?_
  refine v_iret 29 dX4_bytesOf_29 rfl rfl ?_
  exact ⟨rfl, rfl⟩
set_option maxHeartbeats 4000000 in
set_option maxRecDepth 100000 in
theorem ct_fits {K : KT} {h : AH} {w v : Int32} : Ct K mX4_fits 0 0 [.int w, .int v] h (fun r h' => ∃ b : Int32, r = some (.int b) ∧ h' = h ∧ ((fitP w v ∧ b = 1) ∨ (¬ fitP w v ∧ b = 0))) noX := by
  refine ct_of (by decide +kernel) rfl (Nat.le_of_ble_eq_true rfl) rfl ?_
  refine v_iload_n 0 dX4_fits_0 rfl rfl ?_
  by_cases w1_0 : w = 0
  · refine v_tableIn (tgt := 40) 1 dX4_fits_1 (by rw [w1_0]; decide) (by rw [w1_0]; decide) (by rw [w1_0]; rfl) (by decide) ?_
    refine v_iload_n 40 dX4_fits_40 rfl rfl ?_
    refine v_if_lt (tgt := 55) 41 dX4_fits_41 (by decide) (fun c41 => ?_) (fun c41 => ?_)
    · refine v_iconst (v := 0) 55 dX4_fits_55 (by decide) ?_
      refine v_iret 56 dX4_fits_56 rfl rfl ?_
      exact ⟨_, rfl, rfl, by simp_all [fitP]⟩
    · refine v_iload_n 44 dX4_fits_44 rfl rfl ?_
      refine v_sipush (v := 2047) 45 dX4_fits_45 (by decide) ?_
      refine v_icmp_gt (tgt := 55) 48 dX4_fits_48 (by decide) (fun c48 => ?_) (fun c48 => ?_)
      · refine v_iconst (v := 0) 55 dX4_fits_55 (by decide) ?_
        refine v_iret 56 dX4_fits_56 rfl rfl ?_
        exact ⟨_, rfl, rfl, by simp_all [fitP]⟩
      · refine v_iconst (v := 1) 51 dX4_fits_51 (by decide) ?_
        refine v_goto (tgt := 56) 52 dX4_fits_52 (by decide) ?_
        refine v_iret 56 dX4_fits_56 rfl rfl ?_
        exact ⟨_, rfl, rfl, by simp_all [fitP]⟩
  by_cases w1_1 : w = 1
  · refine v_tableIn (tgt := 57) 1 dX4_fits_1 (by rw [w1_1]; decide) (by rw [w1_1]; decide) (by rw [w1_1]; rfl) (by decide) ?_
    refine v_iload_n 57 dX4_fits_57 rfl rfl ?_
    refine v_if_eq (tgt := 66) 58 dX4_fits_58 (by decide) (fun c58 => ?_) (fun c58 => ?_)
    · refine v_iconst (v := 1) 66 dX4_fits_66 (by decide) ?_
      refine v_goto (tgt := 71) 67 dX4_fits_67 (by decide) ?_
      refine v_iret 71 dX4_fits_71 rfl rfl ?_
      exact ⟨_, rfl, rfl, by simp_all [fitP]⟩
    · refine v_iload_n 61 dX4_fits_61 rfl rfl ?_
      refine v_iconst (v := 1) 62 dX4_fits_62 (by decide) ?_
      refine v_icmp_ne (tgt := 70) 63 dX4_fits_63 (by decide) (fun c63 => ?_) (fun c63 => ?_)
      · refine v_iconst (v := 0) 70 dX4_fits_70 (by decide) ?_
        refine v_iret 71 dX4_fits_71 rfl rfl ?_
        exact ⟨_, rfl, rfl, by simp_all [fitP]⟩
      · refine v_iconst (v := 1) 66 dX4_fits_66 (by decide) ?_
        refine v_goto (tgt := 71) 67 dX4_fits_67 (by decide) ?_
        refine v_iret 71 dX4_fits_71 rfl rfl ?_
        exact ⟨_, rfl, rfl, by simp_all [fitP]⟩
  by_cases w1_2 : w = 2
  · refine v_tableIn (tgt := 72) 1 dX4_fits_1 (by rw [w1_2]; decide) (by rw [w1_2]; decide) (by rw [w1_2]; rfl) (by decide) ?_
    refine v_iload_n 72 dX4_fits_72 rfl rfl ?_
    refine v_iconst (v := 1) 73 dX4_fits_73 (by decide) ?_
    refine v_icmp_lt (tgt := 87) 74 dX4_fits_74 (by decide) (fun c74 => ?_) (fun c74 => ?_)
    · refine v_iconst (v := 0) 87 dX4_fits_87 (by decide) ?_
      refine v_iret 88 dX4_fits_88 rfl rfl ?_
      exact ⟨_, rfl, rfl, by simp_all [fitP]⟩
    · refine v_iload_n 77 dX4_fits_77 rfl rfl ?_
      refine v_ldc 78 dX4_fits_78 kc_X4_49 ?_
      refine v_icmp_gt (tgt := 87) 80 dX4_fits_80 (by decide) (fun c80 => ?_) (fun c80 => ?_)
      · refine v_iconst (v := 0) 87 dX4_fits_87 (by decide) ?_
        refine v_iret 88 dX4_fits_88 rfl rfl ?_
        exact ⟨_, rfl, rfl, by simp_all [fitP]⟩
      · refine v_iconst (v := 1) 83 dX4_fits_83 (by decide) ?_
        refine v_goto (tgt := 88) 84 dX4_fits_84 (by decide) ?_
        refine v_iret 88 dX4_fits_88 rfl rfl ?_
        exact ⟨_, rfl, rfl, by simp_all [fitP]⟩
  by_cases w1_3 : w = 3
  · refine v_tableIn (tgt := 89) 1 dX4_fits_1 (by rw [w1_3]; decide) (by rw [w1_3]; decide) (by rw [w1_3]; rfl) (by decide) ?_
    refine v_iload_n 89 dX4_fits_89 rfl rfl ?_
    refine v_iconst (v := 1) 90 dX4_fits_90 (by decide) ?_
    refine v_icmp_lt (tgt := 104) 91 dX4_fits_91 (by decide) (fun c91 => ?_) (fun c91 => ?_)
    · refine v_iconst (v := 0) 104 dX4_fits_104 (by decide) ?_
      refine v_iret 105 dX4_fits_105 rfl rfl ?_
      exact ⟨_, rfl, rfl, by simp_all [fitP]⟩
    · refine v_iload_n 94 dX4_fits_94 rfl rfl ?_
      refine v_ldc 95 dX4_fits_95 kc_X4_50 ?_
      refine v_icmp_gt (tgt := 104) 97 dX4_fits_97 (by decide) (fun c97 => ?_) (fun c97 => ?_)
      · refine v_iconst (v := 0) 104 dX4_fits_104 (by decide) ?_
        refine v_iret 105 dX4_fits_105 rfl rfl ?_
        exact ⟨_, rfl, rfl, by simp_all [fitP]⟩
      · refine v_iconst (v := 1) 100 dX4_fits_100 (by decide) ?_
        refine v_goto (tgt := 105) 101 dX4_fits_101 (by decide) ?_
        refine v_iret 105 dX4_fits_105 rfl rfl ?_
        exact ⟨_, rfl, rfl, by simp_all [fitP]⟩
  by_cases w1_4 : w = 4
  · refine v_tableIn (tgt := 106) 1 dX4_fits_1 (by rw [w1_4]; decide) (by rw [w1_4]; decide) (by rw [w1_4]; rfl) (by decide) ?_
    refine v_iload_n 106 dX4_fits_106 rfl rfl ?_
    refine v_if_lt (tgt := 121) 107 dX4_fits_107 (by decide) (fun c107 => ?_) (fun c107 => ?_)
    · refine v_iconst (v := 0) 121 dX4_fits_121 (by decide) ?_
      refine v_iret 122 dX4_fits_122 rfl rfl ?_
      exact ⟨_, rfl, rfl, by simp_all [fitP]⟩
    · refine v_iload_n 110 dX4_fits_110 rfl rfl ?_
      refine v_sipush (v := 32767) 111 dX4_fits_111 (by decide) ?_
      refine v_icmp_gt (tgt := 121) 114 dX4_fits_114 (by decide) (fun c114 => ?_) (fun c114 => ?_)
      · refine v_iconst (v := 0) 121 dX4_fits_121 (by decide) ?_
        refine v_iret 122 dX4_fits_122 rfl rfl ?_
        exact ⟨_, rfl, rfl, by simp_all [fitP]⟩
      · refine v_iconst (v := 1) 117 dX4_fits_117 (by decide) ?_
        refine v_goto (tgt := 122) 118 dX4_fits_118 (by decide) ?_
        refine v_iret 122 dX4_fits_122 rfl rfl ?_
        exact ⟨_, rfl, rfl, by simp_all [fitP]⟩
  by_cases w1_5 : w = 5
  · refine v_tableIn (tgt := 123) 1 dX4_fits_1 (by rw [w1_5]; decide) (by rw [w1_5]; decide) (by rw [w1_5]; rfl) (by decide) ?_
    refine v_iload_n 123 dX4_fits_123 rfl rfl ?_
    refine v_bipush (v := -7) 124 dX4_fits_124 (by decide) ?_
    refine v_icmp_lt (tgt := 139) 126 dX4_fits_126 (by decide) (fun c126 => ?_) (fun c126 => ?_)
    · refine v_iconst (v := 0) 139 dX4_fits_139 (by decide) ?_
      refine v_iret 140 dX4_fits_140 rfl rfl ?_
      exact ⟨_, rfl, rfl, by simp_all [fitP]⟩
    · refine v_iload_n 129 dX4_fits_129 rfl rfl ?_
      refine v_bipush (v := 7) 130 dX4_fits_130 (by decide) ?_
      refine v_icmp_gt (tgt := 139) 132 dX4_fits_132 (by decide) (fun c132 => ?_) (fun c132 => ?_)
      · refine v_iconst (v := 0) 139 dX4_fits_139 (by decide) ?_
        refine v_iret 140 dX4_fits_140 rfl rfl ?_
        exact ⟨_, rfl, rfl, by simp_all [fitP]⟩
      · refine v_iconst (v := 1) 135 dX4_fits_135 (by decide) ?_
        refine v_goto (tgt := 140) 136 dX4_fits_136 (by decide) ?_
        refine v_iret 140 dX4_fits_140 rfl rfl ?_
        exact ⟨_, rfl, rfl, by simp_all [fitP]⟩
  refine v_tableOut (tgt := 141) 1 dX4_fits_1 (sw_out (n := 5) (fun j hj e9 => by
    rcases (show j = 0 ∨ j = 1 ∨ j = 2 ∨ j = 3 ∨ j = 4 ∨ j = 5 by omega) with rfl | rfl | rfl | rfl | rfl | rfl
    · exact w1_0 (e9.trans (by decide))
    · exact w1_1 (e9.trans (by decide))
    · exact w1_2 (e9.trans (by decide))
    · exact w1_3 (e9.trans (by decide))
    · exact w1_4 (e9.trans (by decide))
    · exact w1_5 (e9.trans (by decide))
    )) (by decide) ?_
  refine v_iload_n 141 dX4_fits_141 rfl rfl ?_
  refine v_bipush (v := 6) 142 dX4_fits_142 (by decide) ?_
  refine v_icmp_ne (tgt := 161) 144 dX4_fits_144 (by decide) (fun c144 => ?_) (fun c144 => ?_)
  · refine v_iconst (v := 0) 161 dX4_fits_161 (by decide) ?_
    refine v_iret 162 dX4_fits_162 rfl rfl ?_
    exact ⟨_, rfl, rfl, by simp_all [fitP]⟩
  · refine v_iload_n 147 dX4_fits_147 rfl rfl ?_
    refine v_if_lt (tgt := 161) 148 dX4_fits_148 (by decide) (fun c148 => ?_) (fun c148 => ?_)
    · refine v_iconst (v := 0) 161 dX4_fits_161 (by decide) ?_
      refine v_iret 162 dX4_fits_162 rfl rfl ?_
      exact ⟨_, rfl, rfl, by simp_all [fitP]⟩
    · refine v_iload_n 151 dX4_fits_151 rfl rfl ?_
      refine v_ldc 152 dX4_fits_152 kc_X4_51 ?_
      refine v_icmp_gt (tgt := 161) 154 dX4_fits_154 (by decide) (fun c154 => ?_) (fun c154 => ?_)
      · refine v_iconst (v := 0) 161 dX4_fits_161 (by decide) ?_
        refine v_iret 162 dX4_fits_162 rfl rfl ?_
        exact ⟨_, rfl, rfl, by simp_all [fitP]⟩
      · refine v_iconst (v := 1) 157 dX4_fits_157 (by decide) ?_
        refine v_goto (tgt := 162) 158 dX4_fits_158 (by decide) ?_
        refine v_iret 162 dX4_fits_162 rfl rfl ?_
        exact ⟨_, rfl, rfl, by simp_all [fitP]⟩
end
section
/-- the last place below n at which f is x, or -1 -/
def lastIx (f : Nat → Int32) (x : Int32) : Nat → Int32
  | 0 => -1
  | n + 1 => if f n = x then nI n else lastIx f x n
set_option maxHeartbeats 4000000 in
set_option maxRecDepth 100000 in
theorem lp_fontOf {K : KT} {h : AH} {mo : Nat} {ad : Nat → Nat} {S : MS} {x : Int32} {F : Nat} {Q : QR} {X : QX} (hds : mDis mo ad) (hF : S.1 1 = nI F) (hF2 : F ≤ 33) (hq : Q (some (.int (lastIx (S.2 2) x F))) (mPut h mo ad S)) : ∀ n k : Nat, k + n = F → V K mX4_fontOf 4 [some (.ref mo), some (.int x), some (.int (lastIx (S.2 2) x k)), some (.int (nI k))] [] (mPut h mo ad S) 0 0 Q X := by
  intro n
  induction n with
  | zero =>
    intro k hk
    have hkF : k = F := by omega
    subst hkF
    refine v_iload_n 4 dX4_fontOf_4 rfl rfl ?_
    refine v_aload_n 5 dX4_fontOf_5 rfl rfl ?_
    refine v_getf 6 dX4_fontOf_6 fl_X4_66 mPut_o rfl ?_
    refine v_icmp_ge (tgt := 34) 9 dX4_fontOf_9 (by decide) (fun c9 => ?_) (fun c9 => absurd (by rw [hF]; exact nI_le (Nat.le_refl _) (by omega)) c9)
    refine v_iload_n 34 dX4_fontOf_34 rfl rfl ?_
    refine v_iret 35 dX4_fontOf_35 rfl rfl ?_
    exact hq
  | succ n ih =>
    intro k hk
    refine v_iload_n 4 dX4_fontOf_4 rfl rfl ?_
    refine v_aload_n 5 dX4_fontOf_5 rfl rfl ?_
    refine v_getf 6 dX4_fontOf_6 fl_X4_66 mPut_o rfl ?_
    refine v_icmp_ge (tgt := 34) 9 dX4_fontOf_9 (by decide) (fun c9 => absurd c9 (by rw [hF]; exact nI_ge (by omega) (by omega))) (fun c9 => ?_)
    refine v_aload_n 12 dX4_fontOf_12 rfl rfl ?_
    refine v_getf 13 dX4_fontOf_13 fl_X4_7 mPut_o rfl ?_
    refine v_iload_n 16 dX4_fontOf_16 rfl rfl ?_
    refine m_ild 17 2 dX4_fontOf_17 hds (vp_in_nI (N := 33) (by omega) (by decide)) ?_
    refine v_iload_n 18 dX4_fontOf_18 rfl rfl ?_
    refine v_icmp_ne (tgt := 26) 19 dX4_fontOf_19 (by decide) (fun c19 => ?_) (fun c19 => ?_)
    · refine v_iload_n 26 dX4_fontOf_26 rfl rfl ?_
      refine v_ist2 27 dX4_fontOf_27 ?_
      refine v_inc3 (y := 1) 28 dX4_fontOf_28 (by decide) ?_
      refine v_goto (tgt := 4) 31 dX4_fontOf_31 (by decide) ?_
      refine V.eq (ih (k + 1) (by omega)) rfl ?_ rfl rfl
      rw [nI_clamp (by omega)] at c19
      simp [lastIx, nI_1, c19]
    · refine v_iload_n 22 dX4_fontOf_22 rfl rfl ?_
      refine v_goto (tgt := 27) 23 dX4_fontOf_23 (by decide) ?_
      refine v_ist2 27 dX4_fontOf_27 ?_
      refine v_inc3 (y := 1) 28 dX4_fontOf_28 (by decide) ?_
      refine v_goto (tgt := 4) 31 dX4_fontOf_31 (by decide) ?_
      refine V.eq (ih (k + 1) (by omega)) rfl ?_ rfl rfl
      rw [nI_clamp (by omega)] at c19
      simp [lastIx, nI_1, c19]
set_option maxHeartbeats 4000000 in
set_option maxRecDepth 100000 in
theorem ct_fontOf {K : KT} {h : AH} {mo : Nat} {ad : Nat → Nat} {S : MS} {x : Int32} {F : Nat} (hds : mDis mo ad) (hF : S.1 1 = nI F) (hF2 : F ≤ 33) : Ct K mX4_fontOf 0 0 [.ref mo, .int x] (mPut h mo ad S) (fun r h' => r = some (.int (lastIx (S.2 2) x F)) ∧ h' = mPut h mo ad S) noX := by
  refine ct_of (by decide +kernel) rfl (Nat.le_of_ble_eq_true rfl) rfl ?_
  refine v_iconst (v := -1) 0 dX4_fontOf_0 (by decide) ?_
  refine v_ist2 1 dX4_fontOf_1 ?_
  refine v_iconst (v := 0) 2 dX4_fontOf_2 (by decide) ?_
  refine v_ist3 3 dX4_fontOf_3 ?_
  exact lp_fontOf hds hF hF2 ⟨rfl, rfl⟩ F 0 (by omega)
theorem m7 (k : Nat) : (7 : Int32) * nI k = nI (7 * k) := pk_mul 7 k
theorem m7a (k j : Nat) : nI (7 * k) + nI j = nI (7 * k + j) := nI_add _ _
/-- the bytes of glyph k -/
def gB (S : MS) (k : Nat) : Int32 := S.2 6 (7 * k + 5) * ((S.2 6 (7 * k + 4) + 7) / 8)
/-- .. of the glyphs below n -/
def gSt (S : MS) : Nat → Int32
  | 0 => 0
  | n + 1 => gSt S n + gB S n
def lastG (f : Nat → Int32) (x c : Int32) : Nat → Int32
  | 0 => -1
  | n + 1 => if f (7 * n) = x ∧ f (7 * n + 1) = c then nI n else lastG f x c n
def cntG (f : Nat → Int32) (x : Int32) : Nat → Int32
  | 0 => 0
  | n + 1 => cntG f x n + (if f (7 * n) = x then 1 else 0)
theorem ct_bytesN {K : KT} {h : AH} {mo : Nat} {ad : Nat → Nat} {S : MS} {g : Nat} (hds : mDis mo ad) (hg : g ≤ 256) : Ct K mX4_bytesOf 0 0 [.ref mo, .int (nI g)] (mPut h mo ad S) (fun r h' => r = some (.int (gB S g)) ∧ h' = mPut h mo ad S) noX := by
  have e5 : (7 : Int32) * nI g + 5 = nI (7 * g + 5) := by rw [m7]; exact m7a g 5
  have e4 : (7 : Int32) * nI g + 4 = nI (7 * g + 4) := by rw [m7]; exact m7a g 4
  have hc := ct_bytesOf (K := K) (h := h) (S := S) (g := nI g) hds (by rw [e5]; exact vp_in_nI (by omega) (by decide)) (by rw [e4]; exact vp_in_nI (by omega) (by decide))
  rw [e5, e4, nI_clamp (by omega), nI_clamp (by omega)] at hc
  exact hc
set_option maxHeartbeats 4000000 in
set_option maxRecDepth 100000 in
theorem lp_startOf {K : KT} {h : AH} {mo : Nat} {ad : Nat → Nat} {S : MS} {G : Nat} {Q : QR} {X : QX} (hds : mDis mo ad) (hG : G ≤ 256) (hq : Q (some (.int (gSt S G))) (mPut h mo ad S)) : ∀ n k : Nat, k + n = G → V K mX4_startOf 4 [some (.ref mo), some (.int (nI G)), some (.int (gSt S k)), some (.int (nI k))] [] (mPut h mo ad S) 0 0 Q X := by
  intro n
  induction n with
  | zero =>
    intro k hk
    have hkF : k = G := by omega
    subst hkF
    refine v_iload_n 4 dX4_startOf_4 rfl rfl ?_
    refine v_iload_n 5 dX4_startOf_5 rfl rfl ?_
    refine v_icmp_ge (tgt := 23) 6 dX4_startOf_6 (by decide) (fun c6 => ?_) (fun c6 => absurd (nI_le (Nat.le_refl _) (by omega)) c6)
    refine v_iload_n 23 dX4_startOf_23 rfl rfl ?_
    refine v_iret 24 dX4_startOf_24 rfl rfl ?_
    exact hq
  | succ n ih =>
    intro k hk
    refine v_iload_n 4 dX4_startOf_4 rfl rfl ?_
    refine v_iload_n 5 dX4_startOf_5 rfl rfl ?_
    refine v_icmp_ge (tgt := 23) 6 dX4_startOf_6 (by decide) (fun c6 => absurd c6 (nI_ge (by omega) (by omega))) (fun c6 => ?_)
    refine v_iload_n 9 dX4_startOf_9 rfl rfl ?_
    refine v_aload_n 10 dX4_startOf_10 rfl rfl ?_
    refine v_iload_n 11 dX4_startOf_11 rfl rfl ?_
    refine m_call 12 [.int (nI k)] dX4_startOf_12 cv_X4_69 (ct_bytesN hds (by omega)) (fun r h' hq' => ?_)
    obtain ⟨rfl, rfl⟩ := hq'
    refine v_iadd 15 dX4_startOf_15 ?_
    refine v_ist2 16 dX4_startOf_16 ?_
    refine v_inc3 (y := 1) 17 dX4_startOf_17 (by decide) ?_
    refine v_goto (tgt := 4) 20 dX4_startOf_20 (by decide) ?_
    exact V.eq (ih (k + 1) (by omega)) rfl (by simp [gSt, nI_1]) rfl rfl
set_option maxHeartbeats 4000000 in
set_option maxRecDepth 100000 in
theorem ct_startOf {K : KT} {h : AH} {mo : Nat} {ad : Nat → Nat} {S : MS} {G : Nat} (hds : mDis mo ad) (hG : G ≤ 256) : Ct K mX4_startOf 0 0 [.ref mo, .int (nI G)] (mPut h mo ad S) (fun r h' => r = some (.int (gSt S G)) ∧ h' = mPut h mo ad S) noX := by
  refine ct_of (by decide +kernel) rfl (Nat.le_of_ble_eq_true rfl) rfl ?_
  refine v_iconst (v := 0) 0 dX4_startOf_0 (by decide) ?_
  refine v_ist2 1 dX4_startOf_1 ?_
  refine v_iconst (v := 0) 2 dX4_startOf_2 (by decide) ?_
  refine v_ist3 3 dX4_startOf_3 ?_
  exact lp_startOf hds hG ⟨rfl, rfl⟩ G 0 (by omega)
set_option maxHeartbeats 4000000 in
set_option maxRecDepth 100000 in
theorem lp_glyphOf {K : KT} {h : AH} {mo : Nat} {ad : Nat → Nat} {S : MS} {G : Nat} {x c : Int32} {Q : QR} {X : QX} (hds : mDis mo ad) (hF : S.1 5 = nI G) (hG : G ≤ 256) (hq : Q (some (.int (lastG (S.2 6) x c G))) (mPut h mo ad S)) : ∀ n k : Nat, k + n = G → V K mX4_glyphOf 5 [some (.ref mo), some (.int x), some (.int c), some (.int (lastG (S.2 6) x c k)), some (.int (nI k))] [] (mPut h mo ad S) 0 0 Q X := by
  intro n
  induction n with
  | zero =>
    intro k hk
    have hkF : k = G := by omega
    subst hkF
    refine v_iload 5 dX4_glyphOf_5 rfl ?_
    refine v_aload_n 7 dX4_glyphOf_7 rfl rfl ?_
    refine v_getf 8 dX4_glyphOf_8 fl_X4_73 mPut_o rfl ?_
    refine v_icmp_ge (tgt := 57) 11 dX4_glyphOf_11 (by decide) (fun c11 => ?_) (fun c11 => absurd (by rw [hF]; exact nI_le (Nat.le_refl _) (by omega)) c11)
    refine v_iload_n 57 dX4_glyphOf_57 rfl rfl ?_
    refine v_iret 58 dX4_glyphOf_58 rfl rfl ?_
    exact hq
  | succ n ih =>
    intro k hk
    refine v_iload 5 dX4_glyphOf_5 rfl ?_
    refine v_aload_n 7 dX4_glyphOf_7 rfl rfl ?_
    refine v_getf 8 dX4_glyphOf_8 fl_X4_73 mPut_o rfl ?_
    refine v_icmp_ge (tgt := 57) 11 dX4_glyphOf_11 (by decide) (fun c11 => absurd c11 (by rw [hF]; exact nI_ge (by omega) (by omega))) (fun c11 => ?_)
    refine v_aload_n 14 dX4_glyphOf_14 rfl rfl ?_
    refine v_getf 15 dX4_glyphOf_15 fl_X4_20 mPut_o rfl ?_
    refine v_bipush (v := 7) 18 dX4_glyphOf_18 (by decide) ?_
    refine v_iload 20 dX4_glyphOf_20 rfl ?_
    refine v_imul 22 dX4_glyphOf_22 ?_
    refine m_ild 23 6 dX4_glyphOf_23 hds (by rw [m7]; exact vp_in_nI (N := 1799) (by omega) (by decide)) ?_
    refine v_iload_n 24 dX4_glyphOf_24 rfl rfl ?_
    refine v_icmp_ne (tgt := 49) 25 dX4_glyphOf_25 (by decide) (fun c25 => ?_) (fun c25 => ?_)
    · refine v_iload_n 49 dX4_glyphOf_49 rfl rfl ?_
      refine v_ist3 50 dX4_glyphOf_50 ?_
      refine v_inc4 (y := 1) 51 dX4_glyphOf_51 (by decide) ?_
      refine v_goto (tgt := 5) 54 dX4_glyphOf_54 (by decide) ?_
      have e1 : (7 * nI k + 1 : Int32) = nI (7 * k + 1) := by rw [m7]; exact m7a k 1
      rw [m7, nI_clamp (by omega)] at c25
      try rw [e1, nI_clamp (by omega)] at c41
      refine V.eq (ih (k + 1) (by omega)) rfl ?_ rfl rfl
      simp_all [lastG, nI_1]
    · refine v_aload_n 28 dX4_glyphOf_28 rfl rfl ?_
      refine v_getf 29 dX4_glyphOf_29 fl_X4_20 mPut_o rfl ?_
      refine v_bipush (v := 7) 32 dX4_glyphOf_32 (by decide) ?_
      refine v_iload 34 dX4_glyphOf_34 rfl ?_
      refine v_imul 36 dX4_glyphOf_36 ?_
      refine v_iconst (v := 1) 37 dX4_glyphOf_37 (by decide) ?_
      refine v_iadd 38 dX4_glyphOf_38 ?_
      refine m_ild 39 6 dX4_glyphOf_39 hds (by rw [m7]; exact (m7a k 1).symm ▸ vp_in_nI (N := 1799) (by omega) (by decide)) ?_
      refine v_iload_n 40 dX4_glyphOf_40 rfl rfl ?_
      refine v_icmp_ne (tgt := 49) 41 dX4_glyphOf_41 (by decide) (fun c41 => ?_) (fun c41 => ?_)
      · refine v_iload_n 49 dX4_glyphOf_49 rfl rfl ?_
        refine v_ist3 50 dX4_glyphOf_50 ?_
        refine v_inc4 (y := 1) 51 dX4_glyphOf_51 (by decide) ?_
        refine v_goto (tgt := 5) 54 dX4_glyphOf_54 (by decide) ?_
        have e1 : (7 * nI k + 1 : Int32) = nI (7 * k + 1) := by rw [m7]; exact m7a k 1
        rw [m7, nI_clamp (by omega)] at c25
        try rw [e1, nI_clamp (by omega)] at c41
        refine V.eq (ih (k + 1) (by omega)) rfl ?_ rfl rfl
        simp_all [lastG, nI_1]
      · refine v_iload 44 dX4_glyphOf_44 rfl ?_
        refine v_goto (tgt := 50) 46 dX4_glyphOf_46 (by decide) ?_
        refine v_ist3 50 dX4_glyphOf_50 ?_
        refine v_inc4 (y := 1) 51 dX4_glyphOf_51 (by decide) ?_
        refine v_goto (tgt := 5) 54 dX4_glyphOf_54 (by decide) ?_
        have e1 : (7 * nI k + 1 : Int32) = nI (7 * k + 1) := by rw [m7]; exact m7a k 1
        rw [m7, nI_clamp (by omega)] at c25
        try rw [e1, nI_clamp (by omega)] at c41
        refine V.eq (ih (k + 1) (by omega)) rfl ?_ rfl rfl
        simp_all [lastG, nI_1]
set_option maxHeartbeats 4000000 in
set_option maxRecDepth 100000 in
theorem ct_glyphOf {K : KT} {h : AH} {mo : Nat} {ad : Nat → Nat} {S : MS} {G : Nat} {x c : Int32} (hds : mDis mo ad) (hF : S.1 5 = nI G) (hG : G ≤ 256) : Ct K mX4_glyphOf 0 0 [.ref mo, .int x, .int c] (mPut h mo ad S) (fun r h' => r = some (.int (lastG (S.2 6) x c G)) ∧ h' = mPut h mo ad S) noX := by
  refine ct_of (by decide +kernel) rfl (Nat.le_of_ble_eq_true rfl) rfl ?_
  refine v_iconst (v := -1) 0 dX4_glyphOf_0 (by decide) ?_
  refine v_ist3 1 dX4_glyphOf_1 ?_
  refine v_iconst (v := 0) 2 dX4_glyphOf_2 (by decide) ?_
  refine v_ist4 3 dX4_glyphOf_3 ?_
  exact lp_glyphOf hds hF hG ⟨rfl, rfl⟩ G 0 (by omega)
set_option maxHeartbeats 4000000 in
set_option maxRecDepth 100000 in
theorem lp_glyphsOf {K : KT} {h : AH} {mo : Nat} {ad : Nat → Nat} {S : MS} {G : Nat} {x : Int32} {Q : QR} {X : QX} (hds : mDis mo ad) (hF : S.1 5 = nI G) (hG : G ≤ 256) (hq : Q (some (.int (cntG (S.2 6) x G))) (mPut h mo ad S)) : ∀ n k : Nat, k + n = G → V K mX4_glyphsOf 4 [some (.ref mo), some (.int x), some (.int (cntG (S.2 6) x k)), some (.int (nI k))] [] (mPut h mo ad S) 0 0 Q X := by
  intro n
  induction n with
  | zero =>
    intro k hk
    have hkF : k = G := by omega
    subst hkF
    refine v_iload_n 4 dX4_glyphsOf_4 rfl rfl ?_
    refine v_aload_n 5 dX4_glyphsOf_5 rfl rfl ?_
    refine v_getf 6 dX4_glyphsOf_6 fl_X4_73 mPut_o rfl ?_
    refine v_icmp_ge (tgt := 39) 9 dX4_glyphsOf_9 (by decide) (fun c9 => ?_) (fun c9 => absurd (by rw [hF]; exact nI_le (Nat.le_refl _) (by omega)) c9)
    refine v_iload_n 39 dX4_glyphsOf_39 rfl rfl ?_
    refine v_iret 40 dX4_glyphsOf_40 rfl rfl ?_
    exact hq
  | succ n ih =>
    intro k hk
    refine v_iload_n 4 dX4_glyphsOf_4 rfl rfl ?_
    refine v_aload_n 5 dX4_glyphsOf_5 rfl rfl ?_
    refine v_getf 6 dX4_glyphsOf_6 fl_X4_73 mPut_o rfl ?_
    refine v_icmp_ge (tgt := 39) 9 dX4_glyphsOf_9 (by decide) (fun c9 => absurd c9 (by rw [hF]; exact nI_ge (by omega) (by omega))) (fun c9 => ?_)
    refine v_iload_n 12 dX4_glyphsOf_12 rfl rfl ?_
    refine v_aload_n 13 dX4_glyphsOf_13 rfl rfl ?_
    refine v_getf 14 dX4_glyphsOf_14 fl_X4_20 mPut_o rfl ?_
    refine v_bipush (v := 7) 17 dX4_glyphsOf_17 (by decide) ?_
    refine v_iload_n 19 dX4_glyphsOf_19 rfl rfl ?_
    refine v_imul 20 dX4_glyphsOf_20 ?_
    refine m_ild 21 6 dX4_glyphsOf_21 hds (by rw [m7]; exact vp_in_nI (N := 1799) (by omega) (by decide)) ?_
    refine v_iload_n 22 dX4_glyphsOf_22 rfl rfl ?_
    refine v_icmp_ne (tgt := 30) 23 dX4_glyphsOf_23 (by decide) (fun c23 => ?_) (fun c23 => ?_)
    · refine v_iconst (v := 0) 30 dX4_glyphsOf_30 (by decide) ?_
      refine v_iadd 31 dX4_glyphsOf_31 ?_
      refine v_ist2 32 dX4_glyphsOf_32 ?_
      refine v_inc3 (y := 1) 33 dX4_glyphsOf_33 (by decide) ?_
      refine v_goto (tgt := 4) 36 dX4_glyphsOf_36 (by decide) ?_
      rw [m7, nI_clamp (by omega)] at c23
      refine V.eq (ih (k + 1) (by omega)) rfl ?_ rfl rfl
      simp_all [cntG, nI_1]
    · refine v_iconst (v := 1) 26 dX4_glyphsOf_26 (by decide) ?_
      refine v_goto (tgt := 31) 27 dX4_glyphsOf_27 (by decide) ?_
      refine v_iadd 31 dX4_glyphsOf_31 ?_
      refine v_ist2 32 dX4_glyphsOf_32 ?_
      refine v_inc3 (y := 1) 33 dX4_glyphsOf_33 (by decide) ?_
      refine v_goto (tgt := 4) 36 dX4_glyphsOf_36 (by decide) ?_
      rw [m7, nI_clamp (by omega)] at c23
      refine V.eq (ih (k + 1) (by omega)) rfl ?_ rfl rfl
      simp_all [cntG, nI_1]
set_option maxHeartbeats 4000000 in
set_option maxRecDepth 100000 in
theorem ct_glyphsOf {K : KT} {h : AH} {mo : Nat} {ad : Nat → Nat} {S : MS} {G : Nat} {x : Int32} (hds : mDis mo ad) (hF : S.1 5 = nI G) (hG : G ≤ 256) : Ct K mX4_glyphsOf 0 0 [.ref mo, .int x] (mPut h mo ad S) (fun r h' => r = some (.int (cntG (S.2 6) x G)) ∧ h' = mPut h mo ad S) noX := by
  refine ct_of (by decide +kernel) rfl (Nat.le_of_ble_eq_true rfl) rfl ?_
  refine v_iconst (v := 0) 0 dX4_glyphsOf_0 (by decide) ?_
  refine v_ist2 1 dX4_glyphsOf_1 ?_
  refine v_iconst (v := 0) 2 dX4_glyphsOf_2 (by decide) ?_
  refine v_ist3 3 dX4_glyphsOf_3 ?_
  exact lp_glyphsOf hds hF hG ⟨rfl, rfl⟩ G 0 (by omega)
end
section
def handM (S : MS) (b n : Int32) : MS × Int32 := if n < 0 ∨ ¬ n ≤ (if b = 0 then 32767 else 255) then (mI S 0 0, 0) else (mI (mI (mI (mI S 0 0) 13 (if b = 0 then S.1 13 else n)) 12 (if b = 0 then n else S.1 12)) 14 0, 1)
def lookM (S : MS) (w : Int32) : MS × Int32 := (mI S 0 0, if w = 0 then S.1 1 else if w = 1 then S.1 5 else if w = 2 then S.1 7 else if w = 3 then S.1 12 else if w = 4 then S.1 13 else if w = 5 then (if S.1 14 = 0 then -1 else S.1 16 - S.1 17) else -1)
def bad (c : Prop) : Prop := c
set_option maxHeartbeats 4000000 in
set_option maxRecDepth 100000 in
theorem ct_hand {K : KT} {h : AH} {mo : Nat} {ad : Nat → Nat} {S : MS} {b n : Int32} : Ct K mX4_hand 0 0 [.ref mo, .int b, .int n] (mPut h mo ad S) (fun r h' => r = some (.int (handM S b n).2) ∧ h' = mPut h mo ad (handM S b n).1) noX := by
  refine ct_of (by decide +kernel) rfl (Nat.le_of_ble_eq_true rfl) rfl ?_
  refine v_aload_n 0 dX4_hand_0 rfl rfl ?_
  refine v_iconst (v := 0) 1 dX4_hand_1 (by decide) ?_
  refine m_put 2 dX4_hand_2 fl_X4_45 ?_
  refine v_iload_n 5 dX4_hand_5 rfl rfl ?_
  refine v_if_lt (tgt := 26) 6 dX4_hand_6 (by decide) (fun c6 => ?_) (fun c6 => ?_)
  · refine v_iconst (v := 0) 26 dX4_hand_26 (by decide) ?_
    refine v_iret 27 dX4_hand_27 rfl rfl ?_
    exact ⟨by simp_all [handM, mI_n, mI_s, mI_2, mA_1, mA_n, mA_s, -Int32.not_lt, -Int32.not_le], by simp_all [handM, mI_n, mI_s, mI_2, mA_1, mA_n, mA_s, -Int32.not_lt, -Int32.not_le]⟩
  · refine v_iload_n 9 dX4_hand_9 rfl rfl ?_
    refine v_iload_n 10 dX4_hand_10 rfl rfl ?_
    refine v_if_eq (tgt := 20) 11 dX4_hand_11 (by decide) (fun c11 => ?_) (fun c11 => ?_)
    · refine v_sipush (v := 32767) 20 dX4_hand_20 (by decide) ?_
      refine v_icmp_le (tgt := 28) 23 dX4_hand_23 (by decide) (fun c23 => ?_) (fun c23 => ?_)
      · refine v_aload_n 28 dX4_hand_28 rfl rfl ?_
        refine v_iload_n 29 dX4_hand_29 rfl rfl ?_
        refine v_if_eq (tgt := 37) 30 dX4_hand_30 (by decide) (fun c30 => ?_) (fun c30 => ?_)
        · refine v_aload_n 37 dX4_hand_37 rfl rfl ?_
          refine v_getf 38 dX4_hand_38 fl_X4_52 mPut_o rfl ?_
          refine m_put 41 dX4_hand_41 fl_X4_52 ?_
          refine v_aload_n 44 dX4_hand_44 rfl rfl ?_
          refine v_iload_n 45 dX4_hand_45 rfl rfl ?_
          refine v_if_eq (tgt := 56) 46 dX4_hand_46 (by decide) (fun c46 => ?_) (fun c46 => ?_)
          · refine v_iload_n 56 dX4_hand_56 rfl rfl ?_
            refine m_put 57 dX4_hand_57 fl_X4_55 ?_
            refine v_aload_n 60 dX4_hand_60 rfl rfl ?_
            refine v_iconst (v := 0) 61 dX4_hand_61 (by decide) ?_
            refine m_put 62 dX4_hand_62 fl_X4_58 ?_
            refine v_iconst (v := 1) 65 dX4_hand_65 (by decide) ?_
            refine v_iret 66 dX4_hand_66 rfl rfl ?_
            exact ⟨by simp_all [handM, mI_n, mI_s, mI_2, mA_1, mA_n, mA_s, -Int32.not_lt, -Int32.not_le], by simp_all [handM, mI_n, mI_s, mI_2, mA_1, mA_n, mA_s, -Int32.not_lt, -Int32.not_le]⟩
          · refine v_aload_n 49 dX4_hand_49 rfl rfl ?_
            refine v_getf 50 dX4_hand_50 fl_X4_55 mPut_o rfl ?_
            refine v_goto (tgt := 57) 53 dX4_hand_53 (by decide) ?_
            refine m_put 57 dX4_hand_57 fl_X4_55 ?_
            refine v_aload_n 60 dX4_hand_60 rfl rfl ?_
            refine v_iconst (v := 0) 61 dX4_hand_61 (by decide) ?_
            refine m_put 62 dX4_hand_62 fl_X4_58 ?_
            refine v_iconst (v := 1) 65 dX4_hand_65 (by decide) ?_
            refine v_iret 66 dX4_hand_66 rfl rfl ?_
            exact ⟨by simp_all [handM, mI_n, mI_s, mI_2, mA_1, mA_n, mA_s, -Int32.not_lt, -Int32.not_le], by simp_all [handM, mI_n, mI_s, mI_2, mA_1, mA_n, mA_s, -Int32.not_lt, -Int32.not_le]⟩
        · refine v_iload_n 33 dX4_hand_33 rfl rfl ?_
          refine v_goto (tgt := 41) 34 dX4_hand_34 (by decide) ?_
          refine m_put 41 dX4_hand_41 fl_X4_52 ?_
          refine v_aload_n 44 dX4_hand_44 rfl rfl ?_
          refine v_iload_n 45 dX4_hand_45 rfl rfl ?_
          refine v_if_eq (tgt := 56) 46 dX4_hand_46 (by decide) (fun c46 => ?_) (fun c46 => ?_)
          · refine v_iload_n 56 dX4_hand_56 rfl rfl ?_
            refine m_put 57 dX4_hand_57 fl_X4_55 ?_
            refine v_aload_n 60 dX4_hand_60 rfl rfl ?_
            refine v_iconst (v := 0) 61 dX4_hand_61 (by decide) ?_
            refine m_put 62 dX4_hand_62 fl_X4_58 ?_
            refine v_iconst (v := 1) 65 dX4_hand_65 (by decide) ?_
            refine v_iret 66 dX4_hand_66 rfl rfl ?_
            exact ⟨by simp_all [handM, mI_n, mI_s, mI_2, mA_1, mA_n, mA_s, -Int32.not_lt, -Int32.not_le], by simp_all [handM, mI_n, mI_s, mI_2, mA_1, mA_n, mA_s, -Int32.not_lt, -Int32.not_le]⟩
          · refine v_aload_n 49 dX4_hand_49 rfl rfl ?_
            refine v_getf 50 dX4_hand_50 fl_X4_55 mPut_o rfl ?_
            refine v_goto (tgt := 57) 53 dX4_hand_53 (by decide) ?_
            refine m_put 57 dX4_hand_57 fl_X4_55 ?_
            refine v_aload_n 60 dX4_hand_60 rfl rfl ?_
            refine v_iconst (v := 0) 61 dX4_hand_61 (by decide) ?_
            refine m_put 62 dX4_hand_62 fl_X4_58 ?_
            refine v_iconst (v := 1) 65 dX4_hand_65 (by decide) ?_
            refine v_iret 66 dX4_hand_66 rfl rfl ?_
            exact ⟨by simp_all [handM, mI_n, mI_s, mI_2, mA_1, mA_n, mA_s, -Int32.not_lt, -Int32.not_le], by simp_all [handM, mI_n, mI_s, mI_2, mA_1, mA_n, mA_s, -Int32.not_lt, -Int32.not_le]⟩
      · refine v_iconst (v := 0) 26 dX4_hand_26 (by decide) ?_
        refine v_iret 27 dX4_hand_27 rfl rfl ?_
        exact ⟨by simp_all [handM, mI_n, mI_s, mI_2, mA_1, mA_n, mA_s, -Int32.not_lt, -Int32.not_le], by simp_all [handM, mI_n, mI_s, mI_2, mA_1, mA_n, mA_s, -Int32.not_lt, -Int32.not_le]⟩
    · refine v_sipush (v := 255) 14 dX4_hand_14 (by decide) ?_
      refine v_goto (tgt := 23) 17 dX4_hand_17 (by decide) ?_
      refine v_icmp_le (tgt := 28) 23 dX4_hand_23 (by decide) (fun c23 => ?_) (fun c23 => ?_)
      · refine v_aload_n 28 dX4_hand_28 rfl rfl ?_
        refine v_iload_n 29 dX4_hand_29 rfl rfl ?_
        refine v_if_eq (tgt := 37) 30 dX4_hand_30 (by decide) (fun c30 => ?_) (fun c30 => ?_)
        · refine v_aload_n 37 dX4_hand_37 rfl rfl ?_
          refine v_getf 38 dX4_hand_38 fl_X4_52 mPut_o rfl ?_
          refine m_put 41 dX4_hand_41 fl_X4_52 ?_
          refine v_aload_n 44 dX4_hand_44 rfl rfl ?_
          refine v_iload_n 45 dX4_hand_45 rfl rfl ?_
          refine v_if_eq (tgt := 56) 46 dX4_hand_46 (by decide) (fun c46 => ?_) (fun c46 => ?_)
          · refine v_iload_n 56 dX4_hand_56 rfl rfl ?_
            refine m_put 57 dX4_hand_57 fl_X4_55 ?_
            refine v_aload_n 60 dX4_hand_60 rfl rfl ?_
            refine v_iconst (v := 0) 61 dX4_hand_61 (by decide) ?_
            refine m_put 62 dX4_hand_62 fl_X4_58 ?_
            refine v_iconst (v := 1) 65 dX4_hand_65 (by decide) ?_
            refine v_iret 66 dX4_hand_66 rfl rfl ?_
            exact ⟨by simp_all [handM, mI_n, mI_s, mI_2, mA_1, mA_n, mA_s, -Int32.not_lt, -Int32.not_le], by simp_all [handM, mI_n, mI_s, mI_2, mA_1, mA_n, mA_s, -Int32.not_lt, -Int32.not_le]⟩
          · refine v_aload_n 49 dX4_hand_49 rfl rfl ?_
            refine v_getf 50 dX4_hand_50 fl_X4_55 mPut_o rfl ?_
            refine v_goto (tgt := 57) 53 dX4_hand_53 (by decide) ?_
            refine m_put 57 dX4_hand_57 fl_X4_55 ?_
            refine v_aload_n 60 dX4_hand_60 rfl rfl ?_
            refine v_iconst (v := 0) 61 dX4_hand_61 (by decide) ?_
            refine m_put 62 dX4_hand_62 fl_X4_58 ?_
            refine v_iconst (v := 1) 65 dX4_hand_65 (by decide) ?_
            refine v_iret 66 dX4_hand_66 rfl rfl ?_
            exact ⟨by simp_all [handM, mI_n, mI_s, mI_2, mA_1, mA_n, mA_s, -Int32.not_lt, -Int32.not_le], by simp_all [handM, mI_n, mI_s, mI_2, mA_1, mA_n, mA_s, -Int32.not_lt, -Int32.not_le]⟩
        · refine v_iload_n 33 dX4_hand_33 rfl rfl ?_
          refine v_goto (tgt := 41) 34 dX4_hand_34 (by decide) ?_
          refine m_put 41 dX4_hand_41 fl_X4_52 ?_
          refine v_aload_n 44 dX4_hand_44 rfl rfl ?_
          refine v_iload_n 45 dX4_hand_45 rfl rfl ?_
          refine v_if_eq (tgt := 56) 46 dX4_hand_46 (by decide) (fun c46 => ?_) (fun c46 => ?_)
          · refine v_iload_n 56 dX4_hand_56 rfl rfl ?_
            refine m_put 57 dX4_hand_57 fl_X4_55 ?_
            refine v_aload_n 60 dX4_hand_60 rfl rfl ?_
            refine v_iconst (v := 0) 61 dX4_hand_61 (by decide) ?_
            refine m_put 62 dX4_hand_62 fl_X4_58 ?_
            refine v_iconst (v := 1) 65 dX4_hand_65 (by decide) ?_
            refine v_iret 66 dX4_hand_66 rfl rfl ?_
            exact ⟨by simp_all [handM, mI_n, mI_s, mI_2, mA_1, mA_n, mA_s, -Int32.not_lt, -Int32.not_le], by simp_all [handM, mI_n, mI_s, mI_2, mA_1, mA_n, mA_s, -Int32.not_lt, -Int32.not_le]⟩
          · refine v_aload_n 49 dX4_hand_49 rfl rfl ?_
            refine v_getf 50 dX4_hand_50 fl_X4_55 mPut_o rfl ?_
            refine v_goto (tgt := 57) 53 dX4_hand_53 (by decide) ?_
            refine m_put 57 dX4_hand_57 fl_X4_55 ?_
            refine v_aload_n 60 dX4_hand_60 rfl rfl ?_
            refine v_iconst (v := 0) 61 dX4_hand_61 (by decide) ?_
            refine m_put 62 dX4_hand_62 fl_X4_58 ?_
            refine v_iconst (v := 1) 65 dX4_hand_65 (by decide) ?_
            refine v_iret 66 dX4_hand_66 rfl rfl ?_
            exact ⟨by simp_all [handM, mI_n, mI_s, mI_2, mA_1, mA_n, mA_s, -Int32.not_lt, -Int32.not_le], by simp_all [handM, mI_n, mI_s, mI_2, mA_1, mA_n, mA_s, -Int32.not_lt, -Int32.not_le]⟩
      · refine v_iconst (v := 0) 26 dX4_hand_26 (by decide) ?_
        refine v_iret 27 dX4_hand_27 rfl rfl ?_
        exact ⟨by simp_all [handM, mI_n, mI_s, mI_2, mA_1, mA_n, mA_s, -Int32.not_lt, -Int32.not_le], by simp_all [handM, mI_n, mI_s, mI_2, mA_1, mA_n, mA_s, -Int32.not_lt, -Int32.not_le]⟩
set_option maxHeartbeats 4000000 in
set_option maxRecDepth 100000 in
theorem ct_look {K : KT} {h : AH} {mo : Nat} {ad : Nat → Nat} {S : MS} {w : Int32} : Ct K mX4_look 0 0 [.ref mo, .int w] (mPut h mo ad S) (fun r h' => r = some (.int (lookM S w).2) ∧ h' = mPut h mo ad (lookM S w).1) noX := by
  refine ct_of (by decide +kernel) rfl (Nat.le_of_ble_eq_true rfl) rfl ?_
  refine v_aload_n 0 dX4_look_0 rfl rfl ?_
  refine v_iconst (v := 0) 1 dX4_look_1 (by decide) ?_
  refine m_put 2 dX4_look_2 fl_X4_45 ?_
  refine v_iload_n 5 dX4_look_5 rfl rfl ?_
  by_cases w6_0 : w = 0
  · refine v_tableIn (tgt := 44) 6 dX4_look_6 (by rw [w6_0]; decide) (by rw [w6_0]; decide) (by rw [w6_0]; rfl) (by decide) ?_
    refine v_aload_n 44 dX4_look_44 rfl rfl ?_
    refine v_getf 45 dX4_look_45 fl_X4_66 mPut_o rfl ?_
    refine v_iret 48 dX4_look_48 rfl rfl ?_
    exact ⟨by simp_all [lookM, mI_n, mI_s, mI_2, mA_1, mA_n, mA_s, -Int32.not_lt, -Int32.not_le], by simp_all [lookM, mI_n, mI_s, mI_2, mA_1, mA_n, mA_s, -Int32.not_lt, -Int32.not_le]⟩
  by_cases w6_1 : w = 1
  · refine v_tableIn (tgt := 49) 6 dX4_look_6 (by rw [w6_1]; decide) (by rw [w6_1]; decide) (by rw [w6_1]; rfl) (by decide) ?_
    refine v_aload_n 49 dX4_look_49 rfl rfl ?_
    refine v_getf 50 dX4_look_50 fl_X4_73 mPut_o rfl ?_
    refine v_iret 53 dX4_look_53 rfl rfl ?_
    exact ⟨by simp_all [lookM, mI_n, mI_s, mI_2, mA_1, mA_n, mA_s, -Int32.not_lt, -Int32.not_le], by simp_all [lookM, mI_n, mI_s, mI_2, mA_1, mA_n, mA_s, -Int32.not_lt, -Int32.not_le]⟩
  by_cases w6_2 : w = 2
  · refine v_tableIn (tgt := 54) 6 dX4_look_6 (by rw [w6_2]; decide) (by rw [w6_2]; decide) (by rw [w6_2]; rfl) (by decide) ?_
    refine v_aload_n 54 dX4_look_54 rfl rfl ?_
    refine v_getf 55 dX4_look_55 fl_X4_79 mPut_o rfl ?_
    refine v_iret 58 dX4_look_58 rfl rfl ?_
    exact ⟨by simp_all [lookM, mI_n, mI_s, mI_2, mA_1, mA_n, mA_s, -Int32.not_lt, -Int32.not_le], by simp_all [lookM, mI_n, mI_s, mI_2, mA_1, mA_n, mA_s, -Int32.not_lt, -Int32.not_le]⟩
  by_cases w6_3 : w = 3
  · refine v_tableIn (tgt := 59) 6 dX4_look_6 (by rw [w6_3]; decide) (by rw [w6_3]; decide) (by rw [w6_3]; rfl) (by decide) ?_
    refine v_aload_n 59 dX4_look_59 rfl rfl ?_
    refine v_getf 60 dX4_look_60 fl_X4_55 mPut_o rfl ?_
    refine v_iret 63 dX4_look_63 rfl rfl ?_
    exact ⟨by simp_all [lookM, mI_n, mI_s, mI_2, mA_1, mA_n, mA_s, -Int32.not_lt, -Int32.not_le], by simp_all [lookM, mI_n, mI_s, mI_2, mA_1, mA_n, mA_s, -Int32.not_lt, -Int32.not_le]⟩
  by_cases w6_4 : w = 4
  · refine v_tableIn (tgt := 64) 6 dX4_look_6 (by rw [w6_4]; decide) (by rw [w6_4]; decide) (by rw [w6_4]; rfl) (by decide) ?_
    refine v_aload_n 64 dX4_look_64 rfl rfl ?_
    refine v_getf 65 dX4_look_65 fl_X4_52 mPut_o rfl ?_
    refine v_iret 68 dX4_look_68 rfl rfl ?_
    exact ⟨by simp_all [lookM, mI_n, mI_s, mI_2, mA_1, mA_n, mA_s, -Int32.not_lt, -Int32.not_le], by simp_all [lookM, mI_n, mI_s, mI_2, mA_1, mA_n, mA_s, -Int32.not_lt, -Int32.not_le]⟩
  by_cases w6_5 : w = 5
  · refine v_tableIn (tgt := 69) 6 dX4_look_6 (by rw [w6_5]; decide) (by rw [w6_5]; decide) (by rw [w6_5]; rfl) (by decide) ?_
    refine v_aload_n 69 dX4_look_69 rfl rfl ?_
    refine v_getf 70 dX4_look_70 fl_X4_58 mPut_o rfl ?_
    refine v_if_eq (tgt := 88) 73 dX4_look_73 (by decide) (fun c73 => ?_) (fun c73 => ?_)
    · refine v_iconst (v := -1) 88 dX4_look_88 (by decide) ?_
      refine v_iret 89 dX4_look_89 rfl rfl ?_
      exact ⟨by simp_all [lookM, mI_n, mI_s, mI_2, mA_1, mA_n, mA_s, -Int32.not_lt, -Int32.not_le], by simp_all [lookM, mI_n, mI_s, mI_2, mA_1, mA_n, mA_s, -Int32.not_lt, -Int32.not_le]⟩
    · refine v_aload_n 76 dX4_look_76 rfl rfl ?_
      refine v_getf 77 dX4_look_77 fl_X4_92 mPut_o rfl ?_
      refine v_aload_n 80 dX4_look_80 rfl rfl ?_
      refine v_getf 81 dX4_look_81 fl_X4_95 mPut_o rfl ?_
      refine v_isub 84 dX4_look_84 ?_
      refine v_goto (tgt := 89) 85 dX4_look_85 (by decide) ?_
      refine v_iret 89 dX4_look_89 rfl rfl ?_
      exact ⟨by simp_all [lookM, mI_n, mI_s, mI_2, mA_1, mA_n, mA_s, -Int32.not_lt, -Int32.not_le], by simp_all [lookM, mI_n, mI_s, mI_2, mA_1, mA_n, mA_s, -Int32.not_lt, -Int32.not_le]⟩
  refine v_tableOut (tgt := 90) 6 dX4_look_6 (sw_out (n := 5) (fun j hj e9 => by
    rcases (show j = 0 ∨ j = 1 ∨ j = 2 ∨ j = 3 ∨ j = 4 ∨ j = 5 by omega) with rfl | rfl | rfl | rfl | rfl | rfl
    · exact w6_0 (e9.trans (by decide))
    · exact w6_1 (e9.trans (by decide))
    · exact w6_2 (e9.trans (by decide))
    · exact w6_3 (e9.trans (by decide))
    · exact w6_4 (e9.trans (by decide))
    · exact w6_5 (e9.trans (by decide))
    )) (by decide) ?_
  refine v_iconst (v := -1) 90 dX4_look_90 (by decide) ?_
  refine v_iret 91 dX4_look_91 rfl rfl ?_
  exact ⟨by simp_all [lookM, mI_n, mI_s, mI_2, mA_1, mA_n, mA_s, -Int32.not_lt, -Int32.not_le], by simp_all [lookM, mI_n, mI_s, mI_2, mA_1, mA_n, mA_s, -Int32.not_lt, -Int32.not_le]⟩
def wishM (S : MS) (which w : Int32) : MS × Int32 := if which < 0 ∨ 2 < which ∨ w < 0 ∨ ¬ w ≤ 7 then (mI S 0 1, 0) else (mI S 0 0, if which = 2 then (if w = 7 then S.1 12 else S.2 9 w.toNatClampNeg) else if w = 7 then S.2 11 which.toNatClampNeg else S.2 10 (7 * which + w).toNatClampNeg)
theorem in_of {x : Int32} {n : Nat} (h0 : ¬ x < 0) (h1 : x < nI n) (hn : n < 2 ^ 31) : vp_in x n := by
  obtain ⟨j, hj, rfl⟩ := nI_of h0
  exact vp_in_nI ((nI_ltI hj hn).mp h1) hn
theorem lt_of_le_ne {x y : Int32} (h : x ≤ y) (hn : ¬ x = y) : ¬ y ≤ x := fun h2 => hn (Int32.le_antisymm h h2)
theorem i_lt {x y : Int32} (h : ¬ y ≤ x) : x < y := Int32.not_le.mp h
theorem i_le {x y : Int32} (h : ¬ y < x) : x ≤ y := Int32.not_lt.mp h
/-- an int between 0 and a literal is one of the numbers -/
theorem i_num {x : Int32} {n : Nat} (h0 : ¬ x < 0) (h1 : x ≤ nI n) (hn : n < 2 ^ 31) : ∃ j : Nat, j ≤ n ∧ x = nI j := by
  obtain ⟨j, hj, rfl⟩ := nI_of h0
  exact ⟨j, (nI_leI hj hn).mp h1, rfl⟩
theorem in_2 {x : Int32} (h0 : ¬ x < 0) (h2 : ¬ 2 < x) (hn : ¬ x = 2) : ∃ j : Nat, j < 2 ∧ x = nI j := by
  obtain ⟨j, hj, rfl⟩ := i_num h0 (show x ≤ nI 2 from i_le h2) (by decide)
  exact ⟨j, by rcases (show j = 0 ∨ j = 1 ∨ j = 2 by omega) with rfl | rfl | rfl <;> first | omega | exact absurd rfl hn, rfl⟩
theorem in_7 {x : Int32} (h0 : ¬ x < 0) (h2 : x ≤ 7) (hn : ¬ x = 7) : ∃ j : Nat, j < 7 ∧ x = nI j := by
  obtain ⟨j, hj, rfl⟩ := i_num h0 (show x ≤ nI 7 from h2) (by decide)
  refine ⟨j, ?_, rfl⟩
  by_cases h : j = 7
  · exact absurd (by rw [h]; rfl) hn
  · omega
set_option maxHeartbeats 4000000 in
set_option maxRecDepth 100000 in
theorem ct_wish {K : KT} {h : AH} {mo : Nat} {ad : Nat → Nat} {S : MS} {which w : Int32} (hds : mDis mo ad) : Ct K mX4_wish 0 0 [.ref mo, .int which, .int w] (mPut h mo ad S) (fun r h' => r = some (.int (wishM S which w).2) ∧ h' = mPut h mo ad (wishM S which w).1) noX := by
  refine ct_of (by decide +kernel) rfl (Nat.le_of_ble_eq_true rfl) rfl ?_
  refine v_aload_n 0 dX4_wish_0 rfl rfl ?_
  refine v_iload_n 1 dX4_wish_1 rfl rfl ?_
  refine v_if_lt (tgt := 20) 2 dX4_wish_2 (by decide) (fun c2 => ?_) (fun c2 => ?_)
  · refine v_iconst (v := 1) 20 dX4_wish_20 (by decide) ?_
    refine v_goto (tgt := 25) 21 dX4_wish_21 (by decide) ?_
    refine m_put 25 dX4_wish_25 fl_X4_45 ?_
    refine v_aload_n 28 dX4_wish_28 rfl rfl ?_
    refine v_getf 29 dX4_wish_29 fl_X4_45 mPut_o rfl ?_
    refine v_if_le (tgt := 37) 32 dX4_wish_32 (by decide) (fun c32 => absurd c32 (by show ¬ ((1 : Int32) ≤ 0); decide)) (fun c32 => ?_)
    refine v_iconst (v := 0) 35 dX4_wish_35 (by decide) ?_
    refine v_iret 36 dX4_wish_36 rfl rfl ?_
    exact ⟨by simp_all [wishM, mI_n, mI_s, mI_2, mA_1, mA_n, mA_s, -Int32.not_lt, -Int32.not_le], by simp_all [wishM, mI_n, mI_s, mI_2, mA_1, mA_n, mA_s, -Int32.not_lt, -Int32.not_le]⟩
  · refine v_iload_n 5 dX4_wish_5 rfl rfl ?_
    refine v_iconst (v := 2) 6 dX4_wish_6 (by decide) ?_
    refine v_icmp_gt (tgt := 20) 7 dX4_wish_7 (by decide) (fun c7 => ?_) (fun c7 => ?_)
    · refine v_iconst (v := 1) 20 dX4_wish_20 (by decide) ?_
      refine v_goto (tgt := 25) 21 dX4_wish_21 (by decide) ?_
      refine m_put 25 dX4_wish_25 fl_X4_45 ?_
      refine v_aload_n 28 dX4_wish_28 rfl rfl ?_
      refine v_getf 29 dX4_wish_29 fl_X4_45 mPut_o rfl ?_
      refine v_if_le (tgt := 37) 32 dX4_wish_32 (by decide) (fun c32 => absurd c32 (by show ¬ ((1 : Int32) ≤ 0); decide)) (fun c32 => ?_)
      refine v_iconst (v := 0) 35 dX4_wish_35 (by decide) ?_
      refine v_iret 36 dX4_wish_36 rfl rfl ?_
      exact ⟨by simp_all [wishM, mI_n, mI_s, mI_2, mA_1, mA_n, mA_s, -Int32.not_lt, -Int32.not_le], by simp_all [wishM, mI_n, mI_s, mI_2, mA_1, mA_n, mA_s, -Int32.not_lt, -Int32.not_le]⟩
    · refine v_iload_n 10 dX4_wish_10 rfl rfl ?_
      refine v_if_lt (tgt := 20) 11 dX4_wish_11 (by decide) (fun c11 => ?_) (fun c11 => ?_)
      · refine v_iconst (v := 1) 20 dX4_wish_20 (by decide) ?_
        refine v_goto (tgt := 25) 21 dX4_wish_21 (by decide) ?_
        refine m_put 25 dX4_wish_25 fl_X4_45 ?_
        refine v_aload_n 28 dX4_wish_28 rfl rfl ?_
        refine v_getf 29 dX4_wish_29 fl_X4_45 mPut_o rfl ?_
        refine v_if_le (tgt := 37) 32 dX4_wish_32 (by decide) (fun c32 => absurd c32 (by show ¬ ((1 : Int32) ≤ 0); decide)) (fun c32 => ?_)
        refine v_iconst (v := 0) 35 dX4_wish_35 (by decide) ?_
        refine v_iret 36 dX4_wish_36 rfl rfl ?_
        exact ⟨by simp_all [wishM, mI_n, mI_s, mI_2, mA_1, mA_n, mA_s, -Int32.not_lt, -Int32.not_le], by simp_all [wishM, mI_n, mI_s, mI_2, mA_1, mA_n, mA_s, -Int32.not_lt, -Int32.not_le]⟩
      · refine v_iload_n 14 dX4_wish_14 rfl rfl ?_
        refine v_bipush (v := 7) 15 dX4_wish_15 (by decide) ?_
        refine v_icmp_le (tgt := 24) 17 dX4_wish_17 (by decide) (fun c17 => ?_) (fun c17 => ?_)
        · refine v_iconst (v := 0) 24 dX4_wish_24 (by decide) ?_
          refine m_put 25 dX4_wish_25 fl_X4_45 ?_
          refine v_aload_n 28 dX4_wish_28 rfl rfl ?_
          refine v_getf 29 dX4_wish_29 fl_X4_45 mPut_o rfl ?_
          refine v_if_le (tgt := 37) 32 dX4_wish_32 (by decide) (fun c32 => ?_) (fun c32 => absurd (by show ((0 : Int32) ≤ 0); decide) c32)
          refine v_iload_n 37 dX4_wish_37 rfl rfl ?_
          refine v_iconst (v := 2) 38 dX4_wish_38 (by decide) ?_
          refine v_icmp_ne (tgt := 72) 39 dX4_wish_39 (by decide) (fun c39 => ?_) (fun c39 => ?_)
          · refine v_iload_n 72 dX4_wish_72 rfl rfl ?_
            refine v_bipush (v := 7) 73 dX4_wish_73 (by decide) ?_
            refine v_icmp_ne (tgt := 87) 75 dX4_wish_75 (by decide) (fun c75 => ?_) (fun c75 => ?_)
            · refine v_aload_n 87 dX4_wish_87 rfl rfl ?_
              refine v_getf 88 dX4_wish_88 fl_X4_30 mPut_o rfl ?_
              refine v_bipush (v := 7) 91 dX4_wish_91 (by decide) ?_
              refine v_iload_n 93 dX4_wish_93 rfl rfl ?_
              refine v_imul 94 dX4_wish_94 ?_
              refine v_iload_n 95 dX4_wish_95 rfl rfl ?_
              refine v_bipush (v := 7) 96 dX4_wish_96 (by decide) ?_
              refine v_icmp_ge (tgt := 105) 98 dX4_wish_98 (by decide) (fun c98 => absurd c98 (lt_of_le_ne c17 c75)) (fun c98 => ?_)
              refine v_iload_n 101 dX4_wish_101 rfl rfl ?_
              refine v_goto (tgt := 106) 102 dX4_wish_102 (by decide) ?_
              refine v_iadd 106 dX4_wish_106 ?_
              refine m_ild 107 10 dX4_wish_107 hds (by obtain ⟨i, hi, rfl⟩ := in_2 c2 c7 c39; obtain ⟨j, hj, rfl⟩ := in_7 c11 c17 c75; rw [m7, nI_add]; exact vp_in_nI (N := 14) (by omega) (by decide)) ?_
              refine v_iret 108 dX4_wish_108 rfl rfl ?_
              exact ⟨by simp_all [wishM, mI_n, mI_s, mI_2, mA_1, mA_n, mA_s, -Int32.not_lt, -Int32.not_le], by simp_all [wishM, mI_n, mI_s, mI_2, mA_1, mA_n, mA_s, -Int32.not_lt, -Int32.not_le]⟩
            · refine v_aload_n 78 dX4_wish_78 rfl rfl ?_
              refine v_getf 79 dX4_wish_79 fl_X4_33 mPut_o rfl ?_
              refine v_iload_n 82 dX4_wish_82 rfl rfl ?_
              refine m_ild 83 11 dX4_wish_83 hds (by obtain ⟨j, hj, rfl⟩ := in_2 c2 c7 c39; exact vp_in_nI hj (by decide)) ?_
              refine v_goto (tgt := 108) 84 dX4_wish_84 (by decide) ?_
              refine v_iret 108 dX4_wish_108 rfl rfl ?_
              exact ⟨by simp_all [wishM, mI_n, mI_s, mI_2, mA_1, mA_n, mA_s, -Int32.not_lt, -Int32.not_le], by simp_all [wishM, mI_n, mI_s, mI_2, mA_1, mA_n, mA_s, -Int32.not_lt, -Int32.not_le]⟩
          · refine v_iload_n 42 dX4_wish_42 rfl rfl ?_
            refine v_bipush (v := 7) 43 dX4_wish_43 (by decide) ?_
            refine v_icmp_ne (tgt := 55) 45 dX4_wish_45 (by decide) (fun c45 => ?_) (fun c45 => ?_)
            · refine v_aload_n 55 dX4_wish_55 rfl rfl ?_
              refine v_getf 56 dX4_wish_56 fl_X4_27 mPut_o rfl ?_
              refine v_iload_n 59 dX4_wish_59 rfl rfl ?_
              refine v_bipush (v := 7) 60 dX4_wish_60 (by decide) ?_
              refine v_icmp_ge (tgt := 69) 62 dX4_wish_62 (by decide) (fun c62 => absurd c62 (lt_of_le_ne c17 c45)) (fun c62 => ?_)
              refine v_iload_n 65 dX4_wish_65 rfl rfl ?_
              refine v_goto (tgt := 70) 66 dX4_wish_66 (by decide) ?_
              refine m_ild 70 9 dX4_wish_70 hds (by obtain ⟨j, hj, rfl⟩ := in_7 c11 c17 c45; exact vp_in_nI hj (by decide)) ?_
              refine v_iret 71 dX4_wish_71 rfl rfl ?_
              exact ⟨by simp_all [wishM, mI_n, mI_s, mI_2, mA_1, mA_n, mA_s, -Int32.not_lt, -Int32.not_le], by simp_all [wishM, mI_n, mI_s, mI_2, mA_1, mA_n, mA_s, -Int32.not_lt, -Int32.not_le]⟩
            · refine v_aload_n 48 dX4_wish_48 rfl rfl ?_
              refine v_getf 49 dX4_wish_49 fl_X4_55 mPut_o rfl ?_
              refine v_goto (tgt := 71) 52 dX4_wish_52 (by decide) ?_
              refine v_iret 71 dX4_wish_71 rfl rfl ?_
              exact ⟨by simp_all [wishM, mI_n, mI_s, mI_2, mA_1, mA_n, mA_s, -Int32.not_lt, -Int32.not_le], by simp_all [wishM, mI_n, mI_s, mI_2, mA_1, mA_n, mA_s, -Int32.not_lt, -Int32.not_le]⟩
        · refine v_iconst (v := 1) 20 dX4_wish_20 (by decide) ?_
          refine v_goto (tgt := 25) 21 dX4_wish_21 (by decide) ?_
          refine m_put 25 dX4_wish_25 fl_X4_45 ?_
          refine v_aload_n 28 dX4_wish_28 rfl rfl ?_
          refine v_getf 29 dX4_wish_29 fl_X4_45 mPut_o rfl ?_
          refine v_if_le (tgt := 37) 32 dX4_wish_32 (by decide) (fun c32 => absurd c32 (by show ¬ ((1 : Int32) ≤ 0); decide)) (fun c32 => ?_)
          refine v_iconst (v := 0) 35 dX4_wish_35 (by decide) ?_
          refine v_iret 36 dX4_wish_36 rfl rfl ?_
          exact ⟨by simp_all [wishM, mI_n, mI_s, mI_2, mA_1, mA_n, mA_s, -Int32.not_lt, -Int32.not_le], by simp_all [wishM, mI_n, mI_s, mI_2, mA_1, mA_n, mA_s, -Int32.not_lt, -Int32.not_le]⟩
end
section
theorem lastIx_spec (f : Nat → Int32) (x : Int32) : ∀ n : Nat, (lastIx f x n = -1 ∧ ∀ k, k < n → f k ≠ x) ∨ ∃ k, k < n ∧ lastIx f x n = nI k ∧ f k = x ∧ ∀ j, k < j → j < n → f j ≠ x
  | 0 => Or.inl ⟨rfl, fun k h => absurd h (Nat.not_lt_zero k)⟩
  | n + 1 => by
    by_cases hn : f n = x
    · exact Or.inr ⟨n, Nat.lt_succ_self n, by simp [lastIx, hn], hn, fun j h1 h2 => by omega⟩
    · have e : lastIx f x (n + 1) = lastIx f x n := by simp [lastIx, hn]
      rcases lastIx_spec f x n with ⟨h1, h2⟩ | ⟨k, h1, h2, h3, h4⟩
      · refine Or.inl ⟨e.trans h1, fun k hk => ?_⟩
        by_cases hkn : k = n
        · rw [hkn]; exact hn
        · exact h2 k (by omega)
      · refine Or.inr ⟨k, by omega, e.trans h2, h3, fun j hj1 hj2 => ?_⟩
        by_cases hjn : j = n
        · rw [hjn]; exact hn
        · exact h4 j hj1 (by omega)
theorem lastIx_in {f : Nat → Int32} {x : Int32} {n : Nat} (h : ¬ lastIx f x n < 0) : ∃ k, k < n ∧ lastIx f x n = nI k ∧ f k = x := by
  rcases lastIx_spec f x n with ⟨h1, -⟩ | ⟨k, h1, h2, h3, -⟩
  · exact absurd (by rw [h1]; decide) h
  · exact ⟨k, h1, h2, h3⟩
theorem fit_ix {w v : Int32} (h : fitP w v) : ∃ j : Nat, j < 7 ∧ w = nI j := by
  rcases h with h | h | h | h | h | h | h
  · exact ⟨0, by decide, h.1⟩
  · exact ⟨1, by decide, h.1⟩
  · exact ⟨2, by decide, h.1⟩
  · exact ⟨3, by decide, h.1⟩
  · exact ⟨4, by decide, h.1⟩
  · exact ⟨5, by decide, h.1⟩
  · exact ⟨6, by decide, h.1⟩
theorem below_F {i : Int32} {F : Nat} {c : Int32} (hF : c = nI F) (hF2 : F < 2 ^ 31) (h0 : ¬ i < 0) (h1 : ¬ c ≤ i) : ∃ j, j < F ∧ i = nI j := by
  obtain ⟨j, hj, rfl⟩ := nI_of h0
  refine ⟨j, ?_, rfl⟩
  rw [hF] at h1
  exact Nat.not_le.mp fun h => h1 (nI_le h hj)
def fontM (S : MS) (G : Nat) (i w : Int32) : MS × Int32 := if i < 0 ∨ S.1 1 ≤ i ∨ w < 0 ∨ ¬ w ≤ 9 then (mI S 0 1, 0) else (mI S 0 0, if ¬ 7 ≤ w then S.2 3 (7 * i + w).toNatClampNeg else if w = 7 then S.2 2 i.toNatClampNeg else if w = 8 then (if S.2 4 i.toNatClampNeg = 0 then 0 else 1) else cntG (S.2 6) (S.2 2 i.toNatClampNeg) G)
set_option maxHeartbeats 4000000 in
set_option maxRecDepth 100000 in
theorem ct_font {K : KT} {h : AH} {mo : Nat} {ad : Nat → Nat} {S : MS} {F G : Nat} {i w : Int32} (hds : mDis mo ad) (hF : S.1 1 = nI F) (hF2 : F ≤ 32) (hG : S.1 5 = nI G) (hG2 : G ≤ 256) : Ct K mX4_font 0 0 [.ref mo, .int i, .int w] (mPut h mo ad S) (fun r h' => r = some (.int (fontM S G i w).2) ∧ h' = mPut h mo ad (fontM S G i w).1) noX := by
  refine ct_of (by decide +kernel) rfl (Nat.le_of_ble_eq_true rfl) rfl ?_
  refine v_aload_n 0 dX4_font_0 rfl rfl ?_
  refine v_iload_n 1 dX4_font_1 rfl rfl ?_
  refine v_if_lt (tgt := 23) 2 dX4_font_2 (by decide) (fun c2 => ?_) (fun c2 => ?_)
  · refine v_iconst (v := 1) 23 dX4_font_23 (by decide) ?_
    refine v_goto (tgt := 28) 24 dX4_font_24 (by decide) ?_
    refine m_put 28 dX4_font_28 fl_X4_45 ?_
    refine v_aload_n 31 dX4_font_31 rfl rfl ?_
    refine v_getf 32 dX4_font_32 fl_X4_45 mPut_o rfl ?_
    refine v_if_le (tgt := 40) 35 dX4_font_35 (by decide) (fun c35 => absurd c35 (by show ¬ ((1 : Int32) ≤ 0); decide)) (fun c35 => ?_)
    refine v_iconst (v := 0) 38 dX4_font_38 (by decide) ?_
    refine v_iret 39 dX4_font_39 rfl rfl ?_
    exact ⟨by simp_all [fontM, mI_n, mI_s, mI_2, mA_1, mA_n, mA_s, -Int32.not_lt, -Int32.not_le], by simp_all [fontM, mI_n, mI_s, mI_2, mA_1, mA_n, mA_s, -Int32.not_lt, -Int32.not_le]⟩
  · refine v_iload_n 5 dX4_font_5 rfl rfl ?_
    refine v_aload_n 6 dX4_font_6 rfl rfl ?_
    refine v_getf 7 dX4_font_7 fl_X4_66 mPut_o rfl ?_
    refine v_icmp_ge (tgt := 23) 10 dX4_font_10 (by decide) (fun c10 => ?_) (fun c10 => ?_)
    · refine v_iconst (v := 1) 23 dX4_font_23 (by decide) ?_
      refine v_goto (tgt := 28) 24 dX4_font_24 (by decide) ?_
      refine m_put 28 dX4_font_28 fl_X4_45 ?_
      refine v_aload_n 31 dX4_font_31 rfl rfl ?_
      refine v_getf 32 dX4_font_32 fl_X4_45 mPut_o rfl ?_
      refine v_if_le (tgt := 40) 35 dX4_font_35 (by decide) (fun c35 => absurd c35 (by show ¬ ((1 : Int32) ≤ 0); decide)) (fun c35 => ?_)
      refine v_iconst (v := 0) 38 dX4_font_38 (by decide) ?_
      refine v_iret 39 dX4_font_39 rfl rfl ?_
      exact ⟨by simp_all [fontM, mI_n, mI_s, mI_2, mA_1, mA_n, mA_s, -Int32.not_lt, -Int32.not_le], by simp_all [fontM, mI_n, mI_s, mI_2, mA_1, mA_n, mA_s, -Int32.not_lt, -Int32.not_le]⟩
    · refine v_iload_n 13 dX4_font_13 rfl rfl ?_
      refine v_if_lt (tgt := 23) 14 dX4_font_14 (by decide) (fun c14 => ?_) (fun c14 => ?_)
      · refine v_iconst (v := 1) 23 dX4_font_23 (by decide) ?_
        refine v_goto (tgt := 28) 24 dX4_font_24 (by decide) ?_
        refine m_put 28 dX4_font_28 fl_X4_45 ?_
        refine v_aload_n 31 dX4_font_31 rfl rfl ?_
        refine v_getf 32 dX4_font_32 fl_X4_45 mPut_o rfl ?_
        refine v_if_le (tgt := 40) 35 dX4_font_35 (by decide) (fun c35 => absurd c35 (by show ¬ ((1 : Int32) ≤ 0); decide)) (fun c35 => ?_)
        refine v_iconst (v := 0) 38 dX4_font_38 (by decide) ?_
        refine v_iret 39 dX4_font_39 rfl rfl ?_
        exact ⟨by simp_all [fontM, mI_n, mI_s, mI_2, mA_1, mA_n, mA_s, -Int32.not_lt, -Int32.not_le], by simp_all [fontM, mI_n, mI_s, mI_2, mA_1, mA_n, mA_s, -Int32.not_lt, -Int32.not_le]⟩
      · refine v_iload_n 17 dX4_font_17 rfl rfl ?_
        refine v_bipush (v := 9) 18 dX4_font_18 (by decide) ?_
        refine v_icmp_le (tgt := 27) 20 dX4_font_20 (by decide) (fun c20 => ?_) (fun c20 => ?_)
        · refine v_iconst (v := 0) 27 dX4_font_27 (by decide) ?_
          refine m_put 28 dX4_font_28 fl_X4_45 ?_
          refine v_aload_n 31 dX4_font_31 rfl rfl ?_
          refine v_getf 32 dX4_font_32 fl_X4_45 mPut_o rfl ?_
          refine v_if_le (tgt := 40) 35 dX4_font_35 (by decide) (fun c35 => ?_) (fun c35 => absurd (by show ((0 : Int32) ≤ 0); decide) c35)
          refine v_iload_n 40 dX4_font_40 rfl rfl ?_
          refine v_bipush (v := 7) 41 dX4_font_41 (by decide) ?_
          refine v_icmp_ge (tgt := 60) 43 dX4_font_43 (by decide) (fun c43 => ?_) (fun c43 => ?_)
          · refine v_iload_n 60 dX4_font_60 rfl rfl ?_
            refine v_bipush (v := 7) 61 dX4_font_61 (by decide) ?_
            refine v_icmp_ne (tgt := 75) 63 dX4_font_63 (by decide) (fun c63 => ?_) (fun c63 => ?_)
            · refine v_iload_n 75 dX4_font_75 rfl rfl ?_
              refine v_bipush (v := 8) 76 dX4_font_76 (by decide) ?_
              refine v_icmp_ne (tgt := 98) 78 dX4_font_78 (by decide) (fun c78 => ?_) (fun c78 => ?_)
              · refine v_aload_n 98 dX4_font_98 rfl rfl ?_
                refine v_aload_n 99 dX4_font_99 rfl rfl ?_
                refine v_getf 100 dX4_font_100 fl_X4_7 mPut_o rfl ?_
                refine v_iload_n 103 dX4_font_103 rfl rfl ?_
                refine m_ild 104 2 dX4_font_104 hds (by obtain ⟨j, hj, rfl⟩ := below_F hF (by omega) c2 c10; exact vp_in_nI (N := 33) (by omega) (by decide)) ?_
                refine m_call 105 [.int (S.2 2 i.toNatClampNeg)] dX4_font_105 cv_X4_107 (ct_glyphsOf (G := G) hds (by rw [mI_n (by decide)]; exact hG) hG2) (fun r h' hq' => ?_)
                obtain ⟨rfl, rfl⟩ := hq'
                refine v_iret 108 dX4_font_108 rfl rfl ?_
                exact ⟨by simp_all [fontM, mI_n, mI_s, mI_2, mA_1, mA_n, mA_s, -Int32.not_lt, -Int32.not_le], by simp_all [fontM, mI_n, mI_s, mI_2, mA_1, mA_n, mA_s, -Int32.not_lt, -Int32.not_le]⟩
              · refine v_aload_n 81 dX4_font_81 rfl rfl ?_
                refine v_getf 82 dX4_font_82 fl_X4_16 mPut_o rfl ?_
                refine v_iload_n 85 dX4_font_85 rfl rfl ?_
                refine m_zld 86 4 dX4_font_86 hds (by obtain ⟨j, hj, rfl⟩ := below_F hF (by omega) c2 c10; exact vp_in_nI (N := 33) (by omega) (by decide)) ?_
                refine v_if_eq (tgt := 94) 87 dX4_font_87 (by decide) (fun c87 => ?_) (fun c87 => ?_)
                · refine v_iconst (v := 0) 94 dX4_font_94 (by decide) ?_
                  refine v_goto (tgt := 108) 95 dX4_font_95 (by decide) ?_
                  refine v_iret 108 dX4_font_108 rfl rfl ?_
                  exact ⟨by simp_all [fontM, mI_n, mI_s, mI_2, mA_1, mA_n, mA_s, -Int32.not_lt, -Int32.not_le], by simp_all [fontM, mI_n, mI_s, mI_2, mA_1, mA_n, mA_s, -Int32.not_lt, -Int32.not_le]⟩
                · refine v_iconst (v := 1) 90 dX4_font_90 (by decide) ?_
                  refine v_goto (tgt := 108) 91 dX4_font_91 (by decide) ?_
                  refine v_iret 108 dX4_font_108 rfl rfl ?_
                  exact ⟨by simp_all [fontM, mI_n, mI_s, mI_2, mA_1, mA_n, mA_s, -Int32.not_lt, -Int32.not_le], by simp_all [fontM, mI_n, mI_s, mI_2, mA_1, mA_n, mA_s, -Int32.not_lt, -Int32.not_le]⟩
            · refine v_aload_n 66 dX4_font_66 rfl rfl ?_
              refine v_getf 67 dX4_font_67 fl_X4_7 mPut_o rfl ?_
              refine v_iload_n 70 dX4_font_70 rfl rfl ?_
              refine m_ild 71 2 dX4_font_71 hds (by obtain ⟨j, hj, rfl⟩ := below_F hF (by omega) c2 c10; exact vp_in_nI (N := 33) (by omega) (by decide)) ?_
              refine v_goto (tgt := 108) 72 dX4_font_72 (by decide) ?_
              refine v_iret 108 dX4_font_108 rfl rfl ?_
              exact ⟨by simp_all [fontM, mI_n, mI_s, mI_2, mA_1, mA_n, mA_s, -Int32.not_lt, -Int32.not_le], by simp_all [fontM, mI_n, mI_s, mI_2, mA_1, mA_n, mA_s, -Int32.not_lt, -Int32.not_le]⟩
          · refine v_aload_n 46 dX4_font_46 rfl rfl ?_
            refine v_getf 47 dX4_font_47 fl_X4_13 mPut_o rfl ?_
            refine v_bipush (v := 7) 50 dX4_font_50 (by decide) ?_
            refine v_iload_n 52 dX4_font_52 rfl rfl ?_
            refine v_imul 53 dX4_font_53 ?_
            refine v_iload_n 54 dX4_font_54 rfl rfl ?_
            refine v_iadd 55 dX4_font_55 ?_
            refine m_ild 56 3 dX4_font_56 hds (by obtain ⟨j, hj, rfl⟩ := below_F hF (by omega) c2 c10; obtain ⟨l, hl, rfl⟩ := nI_of c14; have hl7 : l < 7 := Nat.not_le.mp fun z => c43 (nI_le (a := 7) z hl); rw [m7, nI_add]; exact vp_in_nI (N := 231) (by omega) (by decide)) ?_
            refine v_goto (tgt := 108) 57 dX4_font_57 (by decide) ?_
            refine v_iret 108 dX4_font_108 rfl rfl ?_
            exact ⟨by simp_all [fontM, mI_n, mI_s, mI_2, mA_1, mA_n, mA_s, -Int32.not_lt, -Int32.not_le], by simp_all [fontM, mI_n, mI_s, mI_2, mA_1, mA_n, mA_s, -Int32.not_lt, -Int32.not_le]⟩
        · refine v_iconst (v := 1) 23 dX4_font_23 (by decide) ?_
          refine v_goto (tgt := 28) 24 dX4_font_24 (by decide) ?_
          refine m_put 28 dX4_font_28 fl_X4_45 ?_
          refine v_aload_n 31 dX4_font_31 rfl rfl ?_
          refine v_getf 32 dX4_font_32 fl_X4_45 mPut_o rfl ?_
          refine v_if_le (tgt := 40) 35 dX4_font_35 (by decide) (fun c35 => absurd c35 (by show ¬ ((1 : Int32) ≤ 0); decide)) (fun c35 => ?_)
          refine v_iconst (v := 0) 38 dX4_font_38 (by decide) ?_
          refine v_iret 39 dX4_font_39 rfl rfl ?_
          exact ⟨by simp_all [fontM, mI_n, mI_s, mI_2, mA_1, mA_n, mA_s, -Int32.not_lt, -Int32.not_le], by simp_all [fontM, mI_n, mI_s, mI_2, mA_1, mA_n, mA_s, -Int32.not_lt, -Int32.not_le]⟩
theorem fits_1 {P : Prop} {b : Int32} (h : (P ∧ b = 1) ∨ (¬ P ∧ b = 0)) (z : ¬ b = 0) : P := by
  rcases h with ⟨y, -⟩ | ⟨-, y⟩
  · exact y
  · exact absurd y z
def attrR (S : MS) (wish which w v : Int32) (S' : MS) (r : Int32) : Prop :=
  ((¬ fitP w v ∨ (¬ wish = 0 ∧ ¬ which = 0 ∧ ¬ which = 1)) ∧ r = 0 ∧ S' = mI S 0 0) ∨
  (fitP w v ∧ wish = 0 ∧ r = 1 ∧ S' = mA (mI S 0 0) 9 (upd (S.2 9) w.toNatClampNeg v)) ∨
  (fitP w v ∧ ¬ wish = 0 ∧ (which = 0 ∨ which = 1) ∧ r = 1 ∧ S' = mA (mA (mI S 0 0) 10 (upd (S.2 10) (7 * which + w).toNatClampNeg v)) 11 (upd (S.2 11) which.toNatClampNeg (-1)))
set_option maxHeartbeats 4000000 in
set_option maxRecDepth 100000 in
theorem ct_attribute {K : KT} {h : AH} {mo : Nat} {ad : Nat → Nat} {S : MS} {wish which w v : Int32} (hds : mDis mo ad) : Ct K mX4_attribute 0 0 [.ref mo, .int wish, .int which, .int w, .int v] (mPut h mo ad S) (fun r h' => ∃ (b : Int32) (S' : MS), r = some (.int b) ∧ h' = mPut h mo ad S' ∧ attrR S wish which w v S' b) noX := by
  refine ct_of (by decide +kernel) rfl (Nat.le_of_ble_eq_true rfl) rfl ?_
  refine v_aload_n 0 dX4_attribute_0 rfl rfl ?_
  refine v_iconst (v := 0) 1 dX4_attribute_1 (by decide) ?_
  refine m_put 2 dX4_attribute_2 fl_X4_45 ?_
  refine v_iload_n 5 dX4_attribute_5 rfl rfl ?_
  refine v_iload 6 dX4_attribute_6 rfl ?_
  refine v_callS 8 0 0 [.int w, .int v] dX4_attribute_8 cs_X4_62 ct_fits (fun r h' hq' => ?_)
  obtain ⟨fb, rfl, rfl, hfb⟩ := hq'
  have hfb1 : ¬ fb = 0 → fitP w v := fits_1 hfb
  refine v_if_eq (tgt := 27) 11 dX4_attribute_11 (by decide) (fun c11 => ?_) (fun c11 => ?_)
  · refine v_iconst (v := 0) 27 dX4_attribute_27 (by decide) ?_
    refine v_iret 28 dX4_attribute_28 rfl rfl ?_
    exact ⟨_, _, rfl, rfl, by simp_all [attrR, mA_n, mI_2]⟩
  · refine v_iload_n 14 dX4_attribute_14 rfl rfl ?_
    refine v_if_eq (tgt := 29) 15 dX4_attribute_15 (by decide) (fun c15 => ?_) (fun c15 => ?_)
    · refine v_iload_n 29 dX4_attribute_29 rfl rfl ?_
      refine v_if_eq (tgt := 56) 30 dX4_attribute_30 (by decide) (fun c30 => ?_) (fun c30 => ?_)
      · refine v_aload_n 56 dX4_attribute_56 rfl rfl ?_
        refine v_getf 57 dX4_attribute_57 fl_X4_27 mPut_o rfl ?_
        refine v_iload_n 60 dX4_attribute_60 rfl rfl ?_
        refine v_iload 61 dX4_attribute_61 rfl ?_
        refine m_ist 63 9 dX4_attribute_63 hds (by obtain ⟨l, hl, rfl⟩ := fit_ix (hfb1 c11); exact vp_in_nI (N := 7) hl (by decide)) ?_
        refine v_iconst (v := 1) 64 dX4_attribute_64 (by decide) ?_
        refine v_iret 65 dX4_attribute_65 rfl rfl ?_
        exact ⟨_, _, rfl, rfl, by simp_all [attrR, mA_n, mI_2]⟩
      · refine v_aload_n 33 dX4_attribute_33 rfl rfl ?_
        refine v_getf 34 dX4_attribute_34 fl_X4_30 mPut_o rfl ?_
        refine v_bipush (v := 7) 37 dX4_attribute_37 (by decide) ?_
        refine v_iload_n 39 dX4_attribute_39 rfl rfl ?_
        refine v_imul 40 dX4_attribute_40 ?_
        refine v_iload_n 41 dX4_attribute_41 rfl rfl ?_
        refine v_iadd 42 dX4_attribute_42 ?_
        refine v_iload 43 dX4_attribute_43 rfl ?_
        refine m_ist 45 10 dX4_attribute_45 hds (by obtain ⟨l, hl, rfl⟩ := fit_ix (hfb1 c11); rcases (show which = 0 ∨ which = 1 from by first | exact Or.inl (by assumption) | exact Or.inr (by assumption) | contradiction) with rfl | rfl <;> (first | (rw [show (7 : Int32) * 0 = nI 0 by decide, nI_add]; exact vp_in_nI (N := 14) (by omega) (by decide)) | (rw [show (7 : Int32) * 1 = nI 7 by decide, nI_add]; exact vp_in_nI (N := 14) (by omega) (by decide)))) ?_
        refine v_aload_n 46 dX4_attribute_46 rfl rfl ?_
        refine v_getf 47 dX4_attribute_47 fl_X4_33 mPut_o rfl ?_
        refine v_iload_n 50 dX4_attribute_50 rfl rfl ?_
        refine v_iconst (v := -1) 51 dX4_attribute_51 (by decide) ?_
        refine m_ist 52 11 dX4_attribute_52 hds (by rcases (show which = 0 ∨ which = 1 from by first | exact Or.inl (by assumption) | exact Or.inr (by assumption) | contradiction) with rfl | rfl <;> (unfold vp_in; decide)) ?_
        refine v_goto (tgt := 64) 53 dX4_attribute_53 (by decide) ?_
        refine v_iconst (v := 1) 64 dX4_attribute_64 (by decide) ?_
        refine v_iret 65 dX4_attribute_65 rfl rfl ?_
        exact ⟨_, _, rfl, rfl, by simp_all [attrR, mA_n, mI_2]⟩
    · refine v_iload_n 18 dX4_attribute_18 rfl rfl ?_
      refine v_if_eq (tgt := 29) 19 dX4_attribute_19 (by decide) (fun c19 => ?_) (fun c19 => ?_)
      · refine v_iload_n 29 dX4_attribute_29 rfl rfl ?_
        refine v_if_eq (tgt := 56) 30 dX4_attribute_30 (by decide) (fun c30 => ?_) (fun c30 => ?_)
        · refine v_aload_n 56 dX4_attribute_56 rfl rfl ?_
          refine v_getf 57 dX4_attribute_57 fl_X4_27 mPut_o rfl ?_
          refine v_iload_n 60 dX4_attribute_60 rfl rfl ?_
          refine v_iload 61 dX4_attribute_61 rfl ?_
          refine m_ist 63 9 dX4_attribute_63 hds (by obtain ⟨l, hl, rfl⟩ := fit_ix (hfb1 c11); exact vp_in_nI (N := 7) hl (by decide)) ?_
          refine v_iconst (v := 1) 64 dX4_attribute_64 (by decide) ?_
          refine v_iret 65 dX4_attribute_65 rfl rfl ?_
          exact ⟨_, _, rfl, rfl, by simp_all [attrR, mA_n, mI_2]⟩
        · refine v_aload_n 33 dX4_attribute_33 rfl rfl ?_
          refine v_getf 34 dX4_attribute_34 fl_X4_30 mPut_o rfl ?_
          refine v_bipush (v := 7) 37 dX4_attribute_37 (by decide) ?_
          refine v_iload_n 39 dX4_attribute_39 rfl rfl ?_
          refine v_imul 40 dX4_attribute_40 ?_
          refine v_iload_n 41 dX4_attribute_41 rfl rfl ?_
          refine v_iadd 42 dX4_attribute_42 ?_
          refine v_iload 43 dX4_attribute_43 rfl ?_
          refine m_ist 45 10 dX4_attribute_45 hds (by obtain ⟨l, hl, rfl⟩ := fit_ix (hfb1 c11); rcases (show which = 0 ∨ which = 1 from by first | exact Or.inl (by assumption) | exact Or.inr (by assumption) | contradiction) with rfl | rfl <;> (first | (rw [show (7 : Int32) * 0 = nI 0 by decide, nI_add]; exact vp_in_nI (N := 14) (by omega) (by decide)) | (rw [show (7 : Int32) * 1 = nI 7 by decide, nI_add]; exact vp_in_nI (N := 14) (by omega) (by decide)))) ?_
          refine v_aload_n 46 dX4_attribute_46 rfl rfl ?_
          refine v_getf 47 dX4_attribute_47 fl_X4_33 mPut_o rfl ?_
          refine v_iload_n 50 dX4_attribute_50 rfl rfl ?_
          refine v_iconst (v := -1) 51 dX4_attribute_51 (by decide) ?_
          refine m_ist 52 11 dX4_attribute_52 hds (by rcases (show which = 0 ∨ which = 1 from by first | exact Or.inl (by assumption) | exact Or.inr (by assumption) | contradiction) with rfl | rfl <;> (unfold vp_in; decide)) ?_
          refine v_goto (tgt := 64) 53 dX4_attribute_53 (by decide) ?_
          refine v_iconst (v := 1) 64 dX4_attribute_64 (by decide) ?_
          refine v_iret 65 dX4_attribute_65 rfl rfl ?_
          exact ⟨_, _, rfl, rfl, by simp_all [attrR, mA_n, mI_2]⟩
      · refine v_iload_n 22 dX4_attribute_22 rfl rfl ?_
        refine v_iconst (v := 1) 23 dX4_attribute_23 (by decide) ?_
        refine v_icmp_eq (tgt := 29) 24 dX4_attribute_24 (by decide) (fun c24 => ?_) (fun c24 => ?_)
        · refine v_iload_n 29 dX4_attribute_29 rfl rfl ?_
          refine v_if_eq (tgt := 56) 30 dX4_attribute_30 (by decide) (fun c30 => ?_) (fun c30 => ?_)
          · refine v_aload_n 56 dX4_attribute_56 rfl rfl ?_
            refine v_getf 57 dX4_attribute_57 fl_X4_27 mPut_o rfl ?_
            refine v_iload_n 60 dX4_attribute_60 rfl rfl ?_
            refine v_iload 61 dX4_attribute_61 rfl ?_
            refine m_ist 63 9 dX4_attribute_63 hds (by obtain ⟨l, hl, rfl⟩ := fit_ix (hfb1 c11); exact vp_in_nI (N := 7) hl (by decide)) ?_
            refine v_iconst (v := 1) 64 dX4_attribute_64 (by decide) ?_
            refine v_iret 65 dX4_attribute_65 rfl rfl ?_
            exact ⟨_, _, rfl, rfl, by simp_all [attrR, mA_n, mI_2]⟩
          · refine v_aload_n 33 dX4_attribute_33 rfl rfl ?_
            refine v_getf 34 dX4_attribute_34 fl_X4_30 mPut_o rfl ?_
            refine v_bipush (v := 7) 37 dX4_attribute_37 (by decide) ?_
            refine v_iload_n 39 dX4_attribute_39 rfl rfl ?_
            refine v_imul 40 dX4_attribute_40 ?_
            refine v_iload_n 41 dX4_attribute_41 rfl rfl ?_
            refine v_iadd 42 dX4_attribute_42 ?_
            refine v_iload 43 dX4_attribute_43 rfl ?_
            refine m_ist 45 10 dX4_attribute_45 hds (by obtain ⟨l, hl, rfl⟩ := fit_ix (hfb1 c11); rcases (show which = 0 ∨ which = 1 from by first | exact Or.inl (by assumption) | exact Or.inr (by assumption) | contradiction) with rfl | rfl <;> (first | (rw [show (7 : Int32) * 0 = nI 0 by decide, nI_add]; exact vp_in_nI (N := 14) (by omega) (by decide)) | (rw [show (7 : Int32) * 1 = nI 7 by decide, nI_add]; exact vp_in_nI (N := 14) (by omega) (by decide)))) ?_
            refine v_aload_n 46 dX4_attribute_46 rfl rfl ?_
            refine v_getf 47 dX4_attribute_47 fl_X4_33 mPut_o rfl ?_
            refine v_iload_n 50 dX4_attribute_50 rfl rfl ?_
            refine v_iconst (v := -1) 51 dX4_attribute_51 (by decide) ?_
            refine m_ist 52 11 dX4_attribute_52 hds (by rcases (show which = 0 ∨ which = 1 from by first | exact Or.inl (by assumption) | exact Or.inr (by assumption) | contradiction) with rfl | rfl <;> (unfold vp_in; decide)) ?_
            refine v_goto (tgt := 64) 53 dX4_attribute_53 (by decide) ?_
            refine v_iconst (v := 1) 64 dX4_attribute_64 (by decide) ?_
            refine v_iret 65 dX4_attribute_65 rfl rfl ?_
            exact ⟨_, _, rfl, rfl, by simp_all [attrR, mA_n, mI_2]⟩
        · refine v_iconst (v := 0) 27 dX4_attribute_27 (by decide) ?_
          refine v_iret 28 dX4_attribute_28 rfl rfl ?_
          exact ⟨_, _, rfl, rfl, by simp_all [attrR, mA_n, mI_2]⟩
def permR (S : MS) (F : Nat) (on : Int32) (S' : MS) (r : Int32) : Prop :=
  (lastIx (S.2 2) (S.1 12) F < 0 ∧ r = 0 ∧ S' = mI S 0 0) ∨
  (∃ k, k < F ∧ lastIx (S.2 2) (S.1 12) F = nI k ∧ S.2 2 k = S.1 12 ∧ ((S.2 4 k = on ∧ r = 0 ∧ S' = mI S 0 0) ∨ (¬ S.2 4 k = on ∧ r = 1 ∧ S' = mA (mI S 0 0) 4 (upd (S.2 4) k (vp_nar .boolean on)))))
set_option maxHeartbeats 4000000 in
set_option maxRecDepth 100000 in
theorem ct_permanent {K : KT} {h : AH} {mo : Nat} {ad : Nat → Nat} {S : MS} {F : Nat} {on : Int32} (hds : mDis mo ad) (hF : S.1 1 = nI F) (hF2 : F ≤ 32) : Ct K mX4_permanent 0 0 [.ref mo, .int on] (mPut h mo ad S) (fun r h' => ∃ (b : Int32) (S' : MS), r = some (.int b) ∧ h' = mPut h mo ad S' ∧ permR S F on S' b) noX := by
  refine ct_of (by decide +kernel) rfl (Nat.le_of_ble_eq_true rfl) rfl ?_
  refine v_aload_n 0 dX4_permanent_0 rfl rfl ?_
  refine v_iconst (v := 0) 1 dX4_permanent_1 (by decide) ?_
  refine m_put 2 dX4_permanent_2 fl_X4_45 ?_
  refine v_aload_n 5 dX4_permanent_5 rfl rfl ?_
  refine v_aload_n 6 dX4_permanent_6 rfl rfl ?_
  refine v_getf 7 dX4_permanent_7 fl_X4_55 mPut_o rfl ?_
  refine m_call 10 [.int (S.1 12)] dX4_permanent_10 cv_X4_86 (ct_fontOf (F := F) hds (by rw [mI_n (by decide)]; exact hF) (by omega)) (fun r h' hq' => ?_)
  obtain ⟨rfl, rfl⟩ := hq'
  refine v_ist2 13 dX4_permanent_13 ?_
  refine v_iload_n 14 dX4_permanent_14 rfl rfl ?_
  refine v_if_lt (tgt := 36) 15 dX4_permanent_15 (by decide) (fun c15 => ?_) (fun c15 => ?_)
  · try rw [nI_clamp (by omega)] at c33
    refine v_iconst (v := 0) 36 dX4_permanent_36 (by decide) ?_
    refine v_iret 37 dX4_permanent_37 rfl rfl ?_
    first | exact ⟨_, _, rfl, rfl, Or.inl ⟨by assumption, rfl, rfl⟩⟩ | exact ⟨_, _, rfl, rfl, Or.inr ⟨k, hk, ek, ik, Or.inl ⟨by simpa [mI_2] using c33, rfl, rfl⟩⟩⟩
  · obtain ⟨k, hk, ek, ik⟩ := lastIx_in (f := S.2 2) (x := S.1 12) (n := F) (by assumption)
    simp only [mI_2, Option.toList, List.cons_append, List.nil_append]
    rw [ek]
    refine v_aload_n 18 dX4_permanent_18 rfl rfl ?_
    refine v_getf 19 dX4_permanent_19 fl_X4_16 mPut_o rfl ?_
    refine v_iload_n 22 dX4_permanent_22 rfl rfl ?_
    refine v_if_ge (tgt := 30) 23 dX4_permanent_23 (by decide) (fun c23 => ?_) (fun c23 => absurd (nI_pos' (by omega)) c23)
    refine v_iload_n 30 dX4_permanent_30 rfl rfl ?_
    refine m_zld 31 4 dX4_permanent_31 hds (vp_in_nI (N := 33) (by omega) (by decide)) ?_
    refine v_iload_n 32 dX4_permanent_32 rfl rfl ?_
    refine v_icmp_ne (tgt := 38) 33 dX4_permanent_33 (by decide) (fun c33 => ?_) (fun c33 => ?_)
    · try rw [nI_clamp (by omega)] at c33
      refine v_aload_n 38 dX4_permanent_38 rfl rfl ?_
      refine v_getf 39 dX4_permanent_39 fl_X4_16 mPut_o rfl ?_
      refine v_iload_n 42 dX4_permanent_42 rfl rfl ?_
      refine v_iload_n 43 dX4_permanent_43 rfl rfl ?_
      refine m_zst 44 4 dX4_permanent_44 hds (vp_in_nI (N := 33) (by omega) (by decide)) ?_
      refine v_iconst (v := 1) 45 dX4_permanent_45 (by decide) ?_
      refine v_iret 46 dX4_permanent_46 rfl rfl ?_
      exact ⟨_, _, rfl, rfl, Or.inr ⟨k, hk, ek, ik, Or.inr ⟨by simpa [mI_2] using c33, rfl, by rw [nI_clamp (by omega)]; rfl⟩⟩⟩
    · try rw [nI_clamp (by omega)] at c33
      refine v_iconst (v := 0) 36 dX4_permanent_36 (by decide) ?_
      refine v_iret 37 dX4_permanent_37 rfl rfl ?_
      first | exact ⟨_, _, rfl, rfl, Or.inl ⟨by assumption, rfl, rfl⟩⟩ | exact ⟨_, _, rfl, rfl, Or.inr ⟨k, hk, ek, ik, Or.inl ⟨by simpa [mI_2] using c33, rfl, rfl⟩⟩⟩
end
section
theorem mI_mI (S : MS) (k : Nat) (a b : Int32) : mI (mI S k a) k b = mI S k b := by
  refine Prod.ext (funext fun j => ?_) rfl
  show (if j = k then b else if j = k then a else S.1 j) = if j = k then b else S.1 j
  split <;> rfl
theorem mA_mA (S : MS) (k : Nat) (f g : Nat → Int32) : mA (mA S k f) k g = mA S k g := by
  refine Prod.ext rfl (funext fun j => ?_)
  show (if j = k then g else if j = k then f else S.2 j) = if j = k then g else S.2 j
  split <;> rfl
theorem mA_self (S : MS) (k : Nat) : mA S k (S.2 k) = S := by
  refine Prod.ext rfl (funext fun j => ?_)
  show (if j = k then S.2 k else S.2 j) = S.2 j
  split
  · next e => rw [e]
  · rfl
/-- the attributes of font f laid into the wishes of b, the first k -/
def wcopy (wi at_ : Nat → Int32) (b f : Nat) : Nat → Nat → Int32
  | 0 => wi
  | k + 1 => upd (wcopy wi at_ b f k) (7 * b + k) (at_ (7 * f + k))
def pinR (S : MS) (F : Nat) (which x : Int32) (S' : MS) (r : Int32) : Prop :=
  ((lastIx (S.2 2) x F < 0 ∨ (¬ which = 0 ∧ ¬ which = 1)) ∧ r = 0 ∧ S' = mI S 0 0) ∨
  (∃ k b, k < F ∧ lastIx (S.2 2) x F = nI k ∧ S.2 2 k = x ∧ b < 2 ∧ which = nI b ∧ r = 1 ∧ S' = mA (mA (mI S 0 0) 11 (upd (S.2 11) b x)) 10 (wcopy (S.2 10) (S.2 3) b k 7))
set_option maxHeartbeats 4000000 in
set_option maxRecDepth 100000 in
theorem lp_pin {K : KT} {h : AH} {mo : Nat} {ad : Nat → Nat} {S : MS} {x : Int32} {b f : Nat} {Q : QR} {X : QX} (hds : mDis mo ad) (hb : b < 2) (hf : f < 33) (hq : Q (some (.int 1)) (mPut h mo ad (mA S 10 (wcopy (S.2 10) (S.2 3) b f 7)))) : ∀ n k : Nat, k + n = 7 → V K mX4_pin 36 [some (.ref mo), some (.int (nI b)), some (.int x), some (.int (nI f)), some (.int (nI k))] [] (mPut h mo ad (mA S 10 (wcopy (S.2 10) (S.2 3) b f k))) 0 0 Q X := by
  intro n
  induction n with
  | zero =>
    intro k hk
    have hkF : k = 7 := by omega
    subst hkF
    refine v_iload 36 dX4_pin_36 rfl ?_
    refine v_bipush (v := 7) 38 dX4_pin_38 (by decide) ?_
    refine v_icmp_ge (tgt := 73) 40 dX4_pin_40 (by decide) (fun c40 => ?_) (fun c40 => absurd (by decide) c40)
    refine v_iconst (v := 1) 73 dX4_pin_73 (by decide) ?_
    refine v_iret 74 dX4_pin_74 rfl rfl ?_
    exact hq
  | succ n ih =>
    intro k hk
    refine v_iload 36 dX4_pin_36 rfl ?_
    refine v_bipush (v := 7) 38 dX4_pin_38 (by decide) ?_
    refine v_icmp_ge (tgt := 73) 40 dX4_pin_40 (by decide) (fun c40 => absurd c40 (nI_ge (b := 7) (by omega) (by decide))) (fun c40 => ?_)
    refine v_aload_n 43 dX4_pin_43 rfl rfl ?_
    refine v_getf 44 dX4_pin_44 fl_X4_30 mPut_o rfl ?_
    refine v_bipush (v := 7) 47 dX4_pin_47 (by decide) ?_
    refine v_iload_n 49 dX4_pin_49 rfl rfl ?_
    refine v_imul 50 dX4_pin_50 ?_
    refine v_iload 51 dX4_pin_51 rfl ?_
    refine v_iadd 53 dX4_pin_53 ?_
    refine v_aload_n 54 dX4_pin_54 rfl rfl ?_
    refine v_getf 55 dX4_pin_55 fl_X4_13 mPut_o rfl ?_
    refine v_bipush (v := 7) 58 dX4_pin_58 (by decide) ?_
    refine v_iload_n 60 dX4_pin_60 rfl rfl ?_
    refine v_imul 61 dX4_pin_61 ?_
    refine v_iload 62 dX4_pin_62 rfl ?_
    refine v_iadd 64 dX4_pin_64 ?_
    refine m_ild 65 3 dX4_pin_65 hds (by rw [m7, nI_add]; exact vp_in_nI (N := 231) (by omega) (by decide)) ?_
    refine m_ist 66 10 dX4_pin_66 hds (by rw [m7, nI_add]; exact vp_in_nI (N := 14) (by omega) (by decide)) ?_
    refine v_inc4 (y := 1) 67 dX4_pin_67 (by decide) ?_
    refine v_goto (tgt := 36) 70 dX4_pin_70 (by decide) ?_
    refine V.eq (ih (k + 1) (by omega)) rfl (by rw [← nI_1]) rfl (congrArg (mPut h mo ad) ?_)
    rw [mA_mA, mA_s, mA_n (by decide), m7, m7, nI_add, nI_add, nI_clamp (by omega), nI_clamp (by omega)]
    rfl
set_option maxHeartbeats 4000000 in
set_option maxRecDepth 100000 in
theorem ct_pin {K : KT} {h : AH} {mo : Nat} {ad : Nat → Nat} {S : MS} {F : Nat} {which x : Int32} (hds : mDis mo ad) (hF : S.1 1 = nI F) (hF2 : F ≤ 32) : Ct K mX4_pin 0 0 [.ref mo, .int which, .int x] (mPut h mo ad S) (fun r h' => ∃ (b : Int32) (S' : MS), r = some (.int b) ∧ h' = mPut h mo ad S' ∧ pinR S F which x S' b) noX := by
  refine ct_of (by decide +kernel) rfl (Nat.le_of_ble_eq_true rfl) rfl ?_
  refine v_aload_n 0 dX4_pin_0 rfl rfl ?_
  refine v_iconst (v := 0) 1 dX4_pin_1 (by decide) ?_
  refine m_put 2 dX4_pin_2 fl_X4_45 ?_
  refine v_aload_n 5 dX4_pin_5 rfl rfl ?_
  refine v_iload_n 6 dX4_pin_6 rfl rfl ?_
  refine m_call 7 [.int x] dX4_pin_7 cv_X4_86 (ct_fontOf (F := F) hds (by rw [mI_n (by decide)]; exact hF) (by omega)) (fun r h' hq' => ?_)
  obtain ⟨rfl, rfl⟩ := hq'
  refine v_ist3 10 dX4_pin_10 ?_
  refine v_iload_n 11 dX4_pin_11 rfl rfl ?_
  refine v_if_lt (tgt := 24) 12 dX4_pin_12 (by decide) (fun c12 => ?_) (fun c12 => ?_)
  · refine v_iconst (v := 0) 24 dX4_pin_24 (by decide) ?_
    refine v_iret 25 dX4_pin_25 rfl rfl ?_
    first | exact ⟨_, _, rfl, rfl, Or.inl ⟨Or.inl c12, rfl, rfl⟩⟩ | exact ⟨_, _, rfl, rfl, Or.inl ⟨Or.inr ⟨c16, c21⟩, rfl, rfl⟩⟩
  · refine v_iload_n 15 dX4_pin_15 rfl rfl ?_
    refine v_if_eq (tgt := 26) 16 dX4_pin_16 (by decide) (fun c16 => ?_) (fun c16 => ?_)
    · obtain ⟨k, hk, ek, ik⟩ := lastIx_in (f := S.2 2) (x := x) (n := F) (by assumption)
      obtain ⟨b, hb, rfl⟩ : ∃ b : Nat, b < 2 ∧ which = nI b := by first | exact ⟨0, by decide, c16⟩ | exact ⟨1, by decide, c21⟩
      simp only [mI_2]
      rw [ek]
      refine v_aload_n 26 dX4_pin_26 rfl rfl ?_
      refine v_getf 27 dX4_pin_27 fl_X4_33 mPut_o rfl ?_
      refine v_iload_n 30 dX4_pin_30 rfl rfl ?_
      refine v_iload_n 31 dX4_pin_31 rfl rfl ?_
      refine m_ist 32 11 dX4_pin_32 hds (vp_in_nI (N := 2) hb (by decide)) ?_
      refine v_iconst (v := 0) 33 dX4_pin_33 (by decide) ?_
      refine v_ist4 34 dX4_pin_34 ?_
      rw [nI_clamp (by omega)]
      refine V.eq (lp_pin (S := mA (mI S 0 0) 11 (upd (S.2 11) b x)) hds hb (by omega) ?_ 7 0 (by omega)) rfl rfl rfl (congrArg (mPut h mo ad) (mA_self _ 10))
      exact ⟨_, _, rfl, rfl, Or.inr ⟨k, b, hk, ek, ik, hb, rfl, rfl, rfl⟩⟩
    · refine v_iload_n 19 dX4_pin_19 rfl rfl ?_
      refine v_iconst (v := 1) 20 dX4_pin_20 (by decide) ?_
      refine v_icmp_eq (tgt := 26) 21 dX4_pin_21 (by decide) (fun c21 => ?_) (fun c21 => ?_)
      · obtain ⟨k, hk, ek, ik⟩ := lastIx_in (f := S.2 2) (x := x) (n := F) (by assumption)
        obtain ⟨b, hb, rfl⟩ : ∃ b : Nat, b < 2 ∧ which = nI b := by first | exact ⟨0, by decide, c16⟩ | exact ⟨1, by decide, c21⟩
        simp only [mI_2]
        rw [ek]
        refine v_aload_n 26 dX4_pin_26 rfl rfl ?_
        refine v_getf 27 dX4_pin_27 fl_X4_33 mPut_o rfl ?_
        refine v_iload_n 30 dX4_pin_30 rfl rfl ?_
        refine v_iload_n 31 dX4_pin_31 rfl rfl ?_
        refine m_ist 32 11 dX4_pin_32 hds (vp_in_nI (N := 2) hb (by decide)) ?_
        refine v_iconst (v := 0) 33 dX4_pin_33 (by decide) ?_
        refine v_ist4 34 dX4_pin_34 ?_
        rw [nI_clamp (by omega)]
        refine V.eq (lp_pin (S := mA (mI S 0 0) 11 (upd (S.2 11) b x)) hds hb (by omega) ?_ 7 0 (by omega)) rfl rfl rfl (congrArg (mPut h mo ad) (mA_self _ 10))
        exact ⟨_, _, rfl, rfl, Or.inr ⟨k, b, hk, ek, ik, hb, rfl, rfl, rfl⟩⟩
      · refine v_iconst (v := 0) 24 dX4_pin_24 (by decide) ?_
        refine v_iret 25 dX4_pin_25 rfl rfl ?_
        first | exact ⟨_, _, rfl, rfl, Or.inl ⟨Or.inl c12, rfl, rfl⟩⟩ | exact ⟨_, _, rfl, rfl, Or.inl ⟨Or.inr ⟨c16, c21⟩, rfl, rfl⟩⟩
end
section
def goodG (l t w d s : Int32) : Prop := ¬ l < -16384 ∧ ¬ 16383 < l ∧ ¬ t < -16384 ∧ ¬ 16383 < t ∧ ¬ w < 0 ∧ ¬ 128 < w ∧ ¬ d < 0 ∧ ¬ 128 < d ∧ ¬ s < 0 ∧ ¬ 32767 < s
def comG (f : Nat → Int32) (l t w d s : Int32) : Nat → Int32 := upd (upd (upd (upd (upd f 0 l) 1 t) 2 w) 3 d) 4 s
def glyphR (S : MS) (F : Nat) (l t w d s : Int32) (S' : MS) (r : Int32) : Prop :=
  (lastIx (S.2 2) (S.1 12) F < 0 ∧ r = 0 ∧ S' = mI S 0 1) ∨
  (¬ lastIx (S.2 2) (S.1 12) F < 0 ∧ ¬ goodG l t w d s ∧ r = 0 ∧ S' = mI S 0 2) ∨
  (¬ lastIx (S.2 2) (S.1 12) F < 0 ∧ goodG l t w d s ∧ r = d * ((w + 7) / 8) ∧ S' = mI (mI (mI (mA (mI S 0 0) 15 (comG (S.2 15) l t w d s)) 16 (d * ((w + 7) / 8))) 17 0) 14 1)
set_option maxHeartbeats 4000000 in
set_option maxRecDepth 100000 in
theorem ct_glyph {K : KT} {h : AH} {mo : Nat} {ad : Nat → Nat} {S : MS} {F : Nat} {l t w d s : Int32} (hds : mDis mo ad) (hF : S.1 1 = nI F) (hF2 : F ≤ 32) : Ct K mX4_glyph 0 0 [.ref mo, .int l, .int t, .int w, .int d, .int s] (mPut h mo ad S) (fun r h' => ∃ (b : Int32) (S' : MS), r = some (.int b) ∧ h' = mPut h mo ad S' ∧ glyphR S F l t w d s S' b) noX := by
  refine ct_of (by decide +kernel) rfl (Nat.le_of_ble_eq_true rfl) rfl ?_
  refine v_aload_n 0 dX4_glyph_0 rfl rfl ?_
  refine v_aload_n 1 dX4_glyph_1 rfl rfl ?_
  refine v_aload_n 2 dX4_glyph_2 rfl rfl ?_
  refine v_getf 3 dX4_glyph_3 fl_X4_55 mPut_o rfl ?_
  refine m_call 6 [.int (S.1 12)] dX4_glyph_6 cv_X4_86 (ct_fontOf (F := F) hds hF (by omega)) (fun r h' hq' => ?_)
  obtain ⟨rfl, rfl⟩ := hq'
  refine v_if_ge (tgt := 16) 9 dX4_glyph_9 (by decide) (fun c9 => ?_) (fun c9 => ?_)
  · refine v_iconst (v := 0) 16 dX4_glyph_16 (by decide) ?_
    refine m_put 17 dX4_glyph_17 fl_X4_45 ?_
    refine v_aload_n 20 dX4_glyph_20 rfl rfl ?_
    refine v_getf 21 dX4_glyph_21 fl_X4_45 mPut_o rfl ?_
    refine v_if_le (tgt := 29) 24 dX4_glyph_24 (by decide) (fun c24 => ?_) (fun c24 => absurd (by show ((0 : Int32) ≤ 0); decide) c24)
    refine v_iload_n 29 dX4_glyph_29 rfl rfl ?_
    refine v_sipush (v := -16384) 30 dX4_glyph_30 (by decide) ?_
    refine v_icmp_lt (tgt := 98) 33 dX4_glyph_33 (by decide) (fun c33 => ?_) (fun c33 => ?_)
    · refine v_iconst (v := 0) 98 dX4_glyph_98 (by decide) ?_
      refine v_ist6 99 dX4_glyph_99 ?_
      refine v_aload_n 101 dX4_glyph_101 rfl rfl ?_
      refine v_iload 102 dX4_glyph_102 rfl ?_
      refine v_if_eq (tgt := 111) 104 dX4_glyph_104 (by decide) (fun c104 => ?_) (fun c104 => absurd (by decide) c104)
      refine v_iconst (v := 2) 111 dX4_glyph_111 (by decide) ?_
      refine m_put 112 dX4_glyph_112 fl_X4_45 ?_
      refine v_aload_n 115 dX4_glyph_115 rfl rfl ?_
      refine v_getf 116 dX4_glyph_116 fl_X4_45 mPut_o rfl ?_
      refine v_if_le (tgt := 124) 119 dX4_glyph_119 (by decide) (fun c119 => absurd c119 (by show ¬ ((2 : Int32) ≤ 0); decide)) (fun c119 => ?_)
      refine v_iconst (v := 0) 122 dX4_glyph_122 (by decide) ?_
      refine v_iret 123 dX4_glyph_123 rfl rfl ?_
      exact ⟨_, _, rfl, rfl, Or.inr (Or.inl ⟨by simpa using c9, by unfold goodG; simp_all [-Int32.not_lt, -Int32.not_le], rfl, mI_mI S 0 0 2⟩)⟩
    · refine v_iload_n 36 dX4_glyph_36 rfl rfl ?_
      refine v_sipush (v := 16383) 37 dX4_glyph_37 (by decide) ?_
      refine v_icmp_gt (tgt := 98) 40 dX4_glyph_40 (by decide) (fun c40 => ?_) (fun c40 => ?_)
      · refine v_iconst (v := 0) 98 dX4_glyph_98 (by decide) ?_
        refine v_ist6 99 dX4_glyph_99 ?_
        refine v_aload_n 101 dX4_glyph_101 rfl rfl ?_
        refine v_iload 102 dX4_glyph_102 rfl ?_
        refine v_if_eq (tgt := 111) 104 dX4_glyph_104 (by decide) (fun c104 => ?_) (fun c104 => absurd (by decide) c104)
        refine v_iconst (v := 2) 111 dX4_glyph_111 (by decide) ?_
        refine m_put 112 dX4_glyph_112 fl_X4_45 ?_
        refine v_aload_n 115 dX4_glyph_115 rfl rfl ?_
        refine v_getf 116 dX4_glyph_116 fl_X4_45 mPut_o rfl ?_
        refine v_if_le (tgt := 124) 119 dX4_glyph_119 (by decide) (fun c119 => absurd c119 (by show ¬ ((2 : Int32) ≤ 0); decide)) (fun c119 => ?_)
        refine v_iconst (v := 0) 122 dX4_glyph_122 (by decide) ?_
        refine v_iret 123 dX4_glyph_123 rfl rfl ?_
        exact ⟨_, _, rfl, rfl, Or.inr (Or.inl ⟨by simpa using c9, by unfold goodG; simp_all [-Int32.not_lt, -Int32.not_le], rfl, mI_mI S 0 0 2⟩)⟩
      · refine v_iload_n 43 dX4_glyph_43 rfl rfl ?_
        refine v_sipush (v := -16384) 44 dX4_glyph_44 (by decide) ?_
        refine v_icmp_lt (tgt := 98) 47 dX4_glyph_47 (by decide) (fun c47 => ?_) (fun c47 => ?_)
        · refine v_iconst (v := 0) 98 dX4_glyph_98 (by decide) ?_
          refine v_ist6 99 dX4_glyph_99 ?_
          refine v_aload_n 101 dX4_glyph_101 rfl rfl ?_
          refine v_iload 102 dX4_glyph_102 rfl ?_
          refine v_if_eq (tgt := 111) 104 dX4_glyph_104 (by decide) (fun c104 => ?_) (fun c104 => absurd (by decide) c104)
          refine v_iconst (v := 2) 111 dX4_glyph_111 (by decide) ?_
          refine m_put 112 dX4_glyph_112 fl_X4_45 ?_
          refine v_aload_n 115 dX4_glyph_115 rfl rfl ?_
          refine v_getf 116 dX4_glyph_116 fl_X4_45 mPut_o rfl ?_
          refine v_if_le (tgt := 124) 119 dX4_glyph_119 (by decide) (fun c119 => absurd c119 (by show ¬ ((2 : Int32) ≤ 0); decide)) (fun c119 => ?_)
          refine v_iconst (v := 0) 122 dX4_glyph_122 (by decide) ?_
          refine v_iret 123 dX4_glyph_123 rfl rfl ?_
          exact ⟨_, _, rfl, rfl, Or.inr (Or.inl ⟨by simpa using c9, by unfold goodG; simp_all [-Int32.not_lt, -Int32.not_le], rfl, mI_mI S 0 0 2⟩)⟩
        · refine v_iload_n 50 dX4_glyph_50 rfl rfl ?_
          refine v_sipush (v := 16383) 51 dX4_glyph_51 (by decide) ?_
          refine v_icmp_gt (tgt := 98) 54 dX4_glyph_54 (by decide) (fun c54 => ?_) (fun c54 => ?_)
          · refine v_iconst (v := 0) 98 dX4_glyph_98 (by decide) ?_
            refine v_ist6 99 dX4_glyph_99 ?_
            refine v_aload_n 101 dX4_glyph_101 rfl rfl ?_
            refine v_iload 102 dX4_glyph_102 rfl ?_
            refine v_if_eq (tgt := 111) 104 dX4_glyph_104 (by decide) (fun c104 => ?_) (fun c104 => absurd (by decide) c104)
            refine v_iconst (v := 2) 111 dX4_glyph_111 (by decide) ?_
            refine m_put 112 dX4_glyph_112 fl_X4_45 ?_
            refine v_aload_n 115 dX4_glyph_115 rfl rfl ?_
            refine v_getf 116 dX4_glyph_116 fl_X4_45 mPut_o rfl ?_
            refine v_if_le (tgt := 124) 119 dX4_glyph_119 (by decide) (fun c119 => absurd c119 (by show ¬ ((2 : Int32) ≤ 0); decide)) (fun c119 => ?_)
            refine v_iconst (v := 0) 122 dX4_glyph_122 (by decide) ?_
            refine v_iret 123 dX4_glyph_123 rfl rfl ?_
            exact ⟨_, _, rfl, rfl, Or.inr (Or.inl ⟨by simpa using c9, by unfold goodG; simp_all [-Int32.not_lt, -Int32.not_le], rfl, mI_mI S 0 0 2⟩)⟩
          · refine v_iload_n 57 dX4_glyph_57 rfl rfl ?_
            refine v_if_lt (tgt := 98) 58 dX4_glyph_58 (by decide) (fun c58 => ?_) (fun c58 => ?_)
            · refine v_iconst (v := 0) 98 dX4_glyph_98 (by decide) ?_
              refine v_ist6 99 dX4_glyph_99 ?_
              refine v_aload_n 101 dX4_glyph_101 rfl rfl ?_
              refine v_iload 102 dX4_glyph_102 rfl ?_
              refine v_if_eq (tgt := 111) 104 dX4_glyph_104 (by decide) (fun c104 => ?_) (fun c104 => absurd (by decide) c104)
              refine v_iconst (v := 2) 111 dX4_glyph_111 (by decide) ?_
              refine m_put 112 dX4_glyph_112 fl_X4_45 ?_
              refine v_aload_n 115 dX4_glyph_115 rfl rfl ?_
              refine v_getf 116 dX4_glyph_116 fl_X4_45 mPut_o rfl ?_
              refine v_if_le (tgt := 124) 119 dX4_glyph_119 (by decide) (fun c119 => absurd c119 (by show ¬ ((2 : Int32) ≤ 0); decide)) (fun c119 => ?_)
              refine v_iconst (v := 0) 122 dX4_glyph_122 (by decide) ?_
              refine v_iret 123 dX4_glyph_123 rfl rfl ?_
              exact ⟨_, _, rfl, rfl, Or.inr (Or.inl ⟨by simpa using c9, by unfold goodG; simp_all [-Int32.not_lt, -Int32.not_le], rfl, mI_mI S 0 0 2⟩)⟩
            · refine v_iload_n 61 dX4_glyph_61 rfl rfl ?_
              refine v_sipush (v := 128) 62 dX4_glyph_62 (by decide) ?_
              refine v_icmp_gt (tgt := 98) 65 dX4_glyph_65 (by decide) (fun c65 => ?_) (fun c65 => ?_)
              · refine v_iconst (v := 0) 98 dX4_glyph_98 (by decide) ?_
                refine v_ist6 99 dX4_glyph_99 ?_
                refine v_aload_n 101 dX4_glyph_101 rfl rfl ?_
                refine v_iload 102 dX4_glyph_102 rfl ?_
                refine v_if_eq (tgt := 111) 104 dX4_glyph_104 (by decide) (fun c104 => ?_) (fun c104 => absurd (by decide) c104)
                refine v_iconst (v := 2) 111 dX4_glyph_111 (by decide) ?_
                refine m_put 112 dX4_glyph_112 fl_X4_45 ?_
                refine v_aload_n 115 dX4_glyph_115 rfl rfl ?_
                refine v_getf 116 dX4_glyph_116 fl_X4_45 mPut_o rfl ?_
                refine v_if_le (tgt := 124) 119 dX4_glyph_119 (by decide) (fun c119 => absurd c119 (by show ¬ ((2 : Int32) ≤ 0); decide)) (fun c119 => ?_)
                refine v_iconst (v := 0) 122 dX4_glyph_122 (by decide) ?_
                refine v_iret 123 dX4_glyph_123 rfl rfl ?_
                exact ⟨_, _, rfl, rfl, Or.inr (Or.inl ⟨by simpa using c9, by unfold goodG; simp_all [-Int32.not_lt, -Int32.not_le], rfl, mI_mI S 0 0 2⟩)⟩
              · refine v_iload 68 dX4_glyph_68 rfl ?_
                refine v_if_lt (tgt := 98) 70 dX4_glyph_70 (by decide) (fun c70 => ?_) (fun c70 => ?_)
                · refine v_iconst (v := 0) 98 dX4_glyph_98 (by decide) ?_
                  refine v_ist6 99 dX4_glyph_99 ?_
                  refine v_aload_n 101 dX4_glyph_101 rfl rfl ?_
                  refine v_iload 102 dX4_glyph_102 rfl ?_
                  refine v_if_eq (tgt := 111) 104 dX4_glyph_104 (by decide) (fun c104 => ?_) (fun c104 => absurd (by decide) c104)
                  refine v_iconst (v := 2) 111 dX4_glyph_111 (by decide) ?_
                  refine m_put 112 dX4_glyph_112 fl_X4_45 ?_
                  refine v_aload_n 115 dX4_glyph_115 rfl rfl ?_
                  refine v_getf 116 dX4_glyph_116 fl_X4_45 mPut_o rfl ?_
                  refine v_if_le (tgt := 124) 119 dX4_glyph_119 (by decide) (fun c119 => absurd c119 (by show ¬ ((2 : Int32) ≤ 0); decide)) (fun c119 => ?_)
                  refine v_iconst (v := 0) 122 dX4_glyph_122 (by decide) ?_
                  refine v_iret 123 dX4_glyph_123 rfl rfl ?_
                  exact ⟨_, _, rfl, rfl, Or.inr (Or.inl ⟨by simpa using c9, by unfold goodG; simp_all [-Int32.not_lt, -Int32.not_le], rfl, mI_mI S 0 0 2⟩)⟩
                · refine v_iload 73 dX4_glyph_73 rfl ?_
                  refine v_sipush (v := 128) 75 dX4_glyph_75 (by decide) ?_
                  refine v_icmp_gt (tgt := 98) 78 dX4_glyph_78 (by decide) (fun c78 => ?_) (fun c78 => ?_)
                  · refine v_iconst (v := 0) 98 dX4_glyph_98 (by decide) ?_
                    refine v_ist6 99 dX4_glyph_99 ?_
                    refine v_aload_n 101 dX4_glyph_101 rfl rfl ?_
                    refine v_iload 102 dX4_glyph_102 rfl ?_
                    refine v_if_eq (tgt := 111) 104 dX4_glyph_104 (by decide) (fun c104 => ?_) (fun c104 => absurd (by decide) c104)
                    refine v_iconst (v := 2) 111 dX4_glyph_111 (by decide) ?_
                    refine m_put 112 dX4_glyph_112 fl_X4_45 ?_
                    refine v_aload_n 115 dX4_glyph_115 rfl rfl ?_
                    refine v_getf 116 dX4_glyph_116 fl_X4_45 mPut_o rfl ?_
                    refine v_if_le (tgt := 124) 119 dX4_glyph_119 (by decide) (fun c119 => absurd c119 (by show ¬ ((2 : Int32) ≤ 0); decide)) (fun c119 => ?_)
                    refine v_iconst (v := 0) 122 dX4_glyph_122 (by decide) ?_
                    refine v_iret 123 dX4_glyph_123 rfl rfl ?_
                    exact ⟨_, _, rfl, rfl, Or.inr (Or.inl ⟨by simpa using c9, by unfold goodG; simp_all [-Int32.not_lt, -Int32.not_le], rfl, mI_mI S 0 0 2⟩)⟩
                  · refine v_iload 81 dX4_glyph_81 rfl ?_
                    refine v_if_lt (tgt := 98) 83 dX4_glyph_83 (by decide) (fun c83 => ?_) (fun c83 => ?_)
                    · refine v_iconst (v := 0) 98 dX4_glyph_98 (by decide) ?_
                      refine v_ist6 99 dX4_glyph_99 ?_
                      refine v_aload_n 101 dX4_glyph_101 rfl rfl ?_
                      refine v_iload 102 dX4_glyph_102 rfl ?_
                      refine v_if_eq (tgt := 111) 104 dX4_glyph_104 (by decide) (fun c104 => ?_) (fun c104 => absurd (by decide) c104)
                      refine v_iconst (v := 2) 111 dX4_glyph_111 (by decide) ?_
                      refine m_put 112 dX4_glyph_112 fl_X4_45 ?_
                      refine v_aload_n 115 dX4_glyph_115 rfl rfl ?_
                      refine v_getf 116 dX4_glyph_116 fl_X4_45 mPut_o rfl ?_
                      refine v_if_le (tgt := 124) 119 dX4_glyph_119 (by decide) (fun c119 => absurd c119 (by show ¬ ((2 : Int32) ≤ 0); decide)) (fun c119 => ?_)
                      refine v_iconst (v := 0) 122 dX4_glyph_122 (by decide) ?_
                      refine v_iret 123 dX4_glyph_123 rfl rfl ?_
                      exact ⟨_, _, rfl, rfl, Or.inr (Or.inl ⟨by simpa using c9, by unfold goodG; simp_all [-Int32.not_lt, -Int32.not_le], rfl, mI_mI S 0 0 2⟩)⟩
                    · refine v_iload 86 dX4_glyph_86 rfl ?_
                      refine v_sipush (v := 32767) 88 dX4_glyph_88 (by decide) ?_
                      refine v_icmp_gt (tgt := 98) 91 dX4_glyph_91 (by decide) (fun c91 => ?_) (fun c91 => ?_)
                      · refine v_iconst (v := 0) 98 dX4_glyph_98 (by decide) ?_
                        refine v_ist6 99 dX4_glyph_99 ?_
                        refine v_aload_n 101 dX4_glyph_101 rfl rfl ?_
                        refine v_iload 102 dX4_glyph_102 rfl ?_
                        refine v_if_eq (tgt := 111) 104 dX4_glyph_104 (by decide) (fun c104 => ?_) (fun c104 => absurd (by decide) c104)
                        refine v_iconst (v := 2) 111 dX4_glyph_111 (by decide) ?_
                        refine m_put 112 dX4_glyph_112 fl_X4_45 ?_
                        refine v_aload_n 115 dX4_glyph_115 rfl rfl ?_
                        refine v_getf 116 dX4_glyph_116 fl_X4_45 mPut_o rfl ?_
                        refine v_if_le (tgt := 124) 119 dX4_glyph_119 (by decide) (fun c119 => absurd c119 (by show ¬ ((2 : Int32) ≤ 0); decide)) (fun c119 => ?_)
                        refine v_iconst (v := 0) 122 dX4_glyph_122 (by decide) ?_
                        refine v_iret 123 dX4_glyph_123 rfl rfl ?_
                        exact ⟨_, _, rfl, rfl, Or.inr (Or.inl ⟨by simpa using c9, by unfold goodG; simp_all [-Int32.not_lt, -Int32.not_le], rfl, mI_mI S 0 0 2⟩)⟩
                      · refine v_iconst (v := 1) 94 dX4_glyph_94 (by decide) ?_
                        refine v_goto (tgt := 99) 95 dX4_glyph_95 (by decide) ?_
                        refine v_ist6 99 dX4_glyph_99 ?_
                        refine v_aload_n 101 dX4_glyph_101 rfl rfl ?_
                        refine v_iload 102 dX4_glyph_102 rfl ?_
                        refine v_if_eq (tgt := 111) 104 dX4_glyph_104 (by decide) (fun c104 => absurd c104 (by decide)) (fun c104 => ?_)
                        refine v_iconst (v := 0) 107 dX4_glyph_107 (by decide) ?_
                        refine v_goto (tgt := 112) 108 dX4_glyph_108 (by decide) ?_
                        refine m_put 112 dX4_glyph_112 fl_X4_45 ?_
                        refine v_aload_n 115 dX4_glyph_115 rfl rfl ?_
                        refine v_getf 116 dX4_glyph_116 fl_X4_45 mPut_o rfl ?_
                        refine v_if_le (tgt := 124) 119 dX4_glyph_119 (by decide) (fun c119 => ?_) (fun c119 => absurd (by show ((0 : Int32) ≤ 0); decide) c119)
                        refine v_aload_n 124 dX4_glyph_124 rfl rfl ?_
                        refine v_getf 125 dX4_glyph_125 fl_X4_36 mPut_o rfl ?_
                        refine v_iconst (v := 0) 128 dX4_glyph_128 (by decide) ?_
                        refine v_iload_n 129 dX4_glyph_129 rfl rfl ?_
                        refine m_ist 130 15 dX4_glyph_130 hds (by unfold vp_in; decide) ?_
                        refine v_aload_n 131 dX4_glyph_131 rfl rfl ?_
                        refine v_getf 132 dX4_glyph_132 fl_X4_36 mPut_o rfl ?_
                        refine v_iconst (v := 1) 135 dX4_glyph_135 (by decide) ?_
                        refine v_iload_n 136 dX4_glyph_136 rfl rfl ?_
                        refine m_ist 137 15 dX4_glyph_137 hds (by unfold vp_in; decide) ?_
                        refine v_aload_n 138 dX4_glyph_138 rfl rfl ?_
                        refine v_getf 139 dX4_glyph_139 fl_X4_36 mPut_o rfl ?_
                        refine v_iconst (v := 2) 142 dX4_glyph_142 (by decide) ?_
                        refine v_iload_n 143 dX4_glyph_143 rfl rfl ?_
                        refine m_ist 144 15 dX4_glyph_144 hds (by unfold vp_in; decide) ?_
                        refine v_aload_n 145 dX4_glyph_145 rfl rfl ?_
                        refine v_getf 146 dX4_glyph_146 fl_X4_36 mPut_o rfl ?_
                        refine v_iconst (v := 3) 149 dX4_glyph_149 (by decide) ?_
                        refine v_iload 150 dX4_glyph_150 rfl ?_
                        refine m_ist 152 15 dX4_glyph_152 hds (by unfold vp_in; decide) ?_
                        refine v_aload_n 153 dX4_glyph_153 rfl rfl ?_
                        refine v_getf 154 dX4_glyph_154 fl_X4_36 mPut_o rfl ?_
                        refine v_iconst (v := 4) 157 dX4_glyph_157 (by decide) ?_
                        refine v_iload 158 dX4_glyph_158 rfl ?_
                        refine m_ist 160 15 dX4_glyph_160 hds (by unfold vp_in; decide) ?_
                        refine v_aload_n 161 dX4_glyph_161 rfl rfl ?_
                        refine v_iload 162 dX4_glyph_162 rfl ?_
                        refine v_iload_n 164 dX4_glyph_164 rfl rfl ?_
                        refine v_bipush (v := 7) 165 dX4_glyph_165 (by decide) ?_
                        refine v_iadd 167 dX4_glyph_167 ?_
                        refine v_bipush (v := 8) 168 dX4_glyph_168 (by decide) ?_
                        refine v_idiv 170 dX4_glyph_170 (by decide) ?_
                        refine v_imul 171 dX4_glyph_171 ?_
                        refine m_put 172 dX4_glyph_172 fl_X4_92 ?_
                        refine v_aload_n 175 dX4_glyph_175 rfl rfl ?_
                        refine v_iconst (v := 0) 176 dX4_glyph_176 (by decide) ?_
                        refine m_put 177 dX4_glyph_177 fl_X4_95 ?_
                        refine v_aload_n 180 dX4_glyph_180 rfl rfl ?_
                        refine v_iconst (v := 1) 181 dX4_glyph_181 (by decide) ?_
                        refine m_put 182 dX4_glyph_182 fl_X4_58 ?_
                        refine v_aload_n 185 dX4_glyph_185 rfl rfl ?_
                        refine v_getf 186 dX4_glyph_186 fl_X4_92 mPut_o rfl ?_
                        refine v_iret 189 dX4_glyph_189 rfl rfl ?_
                        exact ⟨_, _, rfl, rfl, Or.inr (Or.inr ⟨by simpa using c9, by unfold goodG; simp_all [-Int32.not_lt, -Int32.not_le], rfl, by simp only [mI_mI, mA_mA, mA_s, mI_2]; rfl⟩)⟩
  · refine v_iconst (v := 1) 12 dX4_glyph_12 (by decide) ?_
    refine v_goto (tgt := 17) 13 dX4_glyph_13 (by decide) ?_
    refine m_put 17 dX4_glyph_17 fl_X4_45 ?_
    refine v_aload_n 20 dX4_glyph_20 rfl rfl ?_
    refine v_getf 21 dX4_glyph_21 fl_X4_45 mPut_o rfl ?_
    refine v_if_le (tgt := 29) 24 dX4_glyph_24 (by decide) (fun c24 => absurd c24 (by show ¬ ((1 : Int32) ≤ 0); decide)) (fun c24 => ?_)
    refine v_iconst (v := 0) 27 dX4_glyph_27 (by decide) ?_
    refine v_iret 28 dX4_glyph_28 rfl rfl ?_
    exact ⟨_, _, rfl, rfl, Or.inl ⟨by simpa using c9, rfl, rfl⟩⟩
end
section
/-- a counter that runs down: j turns are left -/
def kv : Nat → Int32
  | 0 => -1
  | j + 1 => nI j
theorem kv_dec (j : Nat) : nI j + (-1) = kv j := by
  cases j with
  | zero => decide
  | succ i => exact pk_m1 i
theorem kv_sub (j : Nat) : nI j - 1 = kv j := by
  cases j with
  | zero => decide
  | succ i => exact nI_pred i
/-- byte j of a long, the lowest being 0 -/
def bOf (part : Int64) (j : Nat) : Int32 := ((part >>> ((8 * nI j : Int32).toInt64 &&& 63)) &&& 255).toInt32.toInt8.toInt32
def bStep (part : Int64) (S : MS) (j : Nat) : MS := if S.1 16 ≤ S.1 17 then S else mI (mA S 18 (upd (S.2 18) (S.1 17).toNatClampNeg (vp_nar .byte (bOf part j)))) 17 (S.1 17 + 1)
def bRun (part : Int64) : Nat → MS → MS
  | 0, S => S
  | j + 1, S => bRun part j (bStep part S j)
def bInv (S : MS) : Prop := ∃ c N : Nat, S.1 17 = nI c ∧ S.1 16 = nI N ∧ c ≤ N ∧ N ≤ 2048
theorem bInv_step {part : Int64} {S : MS} {j : Nat} (hI : bInv S) : bInv (bStep part S j) := by
  obtain ⟨c, N, h1, h2, h3, h4⟩ := hI
  unfold bStep
  split
  · exact ⟨c, N, h1, h2, h3, h4⟩
  · next hlt =>
    have hcN : c < N := Nat.not_le.mp fun z => hlt (by rw [h1, h2]; exact nI_le z (by omega))
    exact ⟨c + 1, N, by rw [mI_s, h1, nI_1], by rw [mI_n (by decide), mA_1]; exact h2, hcN, h4⟩
theorem bInv_in {S : MS} (hI : bInv S) (hlt : ¬ S.1 16 ≤ S.1 17) : vp_in (S.1 17) 2048 := by
  obtain ⟨c, N, h1, h2, h3, h4⟩ := hI
  have hcN : c < N := Nat.not_le.mp fun z => hlt (by rw [h1, h2]; exact nI_le z (by omega))
  rw [h1]
  exact vp_in_nI (by omega) (by decide)
set_option maxHeartbeats 4000000 in
set_option maxRecDepth 100000 in
theorem lp_bytes {K : KT} {h : AH} {mo : Nat} {ad : Nat → Nat} {part : Int64} {n : Int32} {Q : QR} {X : QX} (hds : mDis mo ad) : ∀ (j : Nat) (S : MS), j ≤ 8 → bInv S → Q (some (.int 1)) (mPut h mo ad (bRun part j S)) → V K mX4_bytes 30 [some (.ref mo), some (.long part), none, some (.int n), some (.int (kv j))] [] (mPut h mo ad S) 0 0 Q X := by
  intro j
  induction j with
  | zero =>
    intro S hj hI hq
    refine v_iload 30 dX4_bytes_30 rfl ?_
    refine v_if_lt (tgt := 84) 32 dX4_bytes_32 (by decide) (fun c32 => ?_) (fun c32 => absurd (by decide) c32)
    refine v_iconst (v := 1) 84 dX4_bytes_84 (by decide) ?_
    refine v_iret 85 dX4_bytes_85 rfl rfl ?_
    exact hq
  | succ j ih =>
    intro S hj hI hq
    refine v_iload 30 dX4_bytes_30 rfl ?_
    refine v_if_lt (tgt := 84) 32 dX4_bytes_32 (by decide) (fun c32 => absurd c32 (nI_pos (by omega))) (fun c32 => ?_)
    refine v_aload_n 35 dX4_bytes_35 rfl rfl ?_
    refine v_getf 36 dX4_bytes_36 fl_X4_95 mPut_o rfl ?_
    refine v_aload_n 39 dX4_bytes_39 rfl rfl ?_
    refine v_getf 40 dX4_bytes_40 fl_X4_92 mPut_o rfl ?_
    refine v_icmp_ge (tgt := 78) 43 dX4_bytes_43 (by decide) (fun c43 => ?_) (fun c43 => ?_)
    · refine v_inc4 (y := -1) 78 dX4_bytes_78 (by decide) ?_
      refine v_goto (tgt := 30) 81 dX4_bytes_81 (by decide) ?_
      refine V.eq (ih (bStep part S j) (by omega) (bInv_step hI) hq) rfl (by rw [← kv_dec j]; rfl) rfl (congrArg (mPut h mo ad) ?_)
      first
        | (rw [show bStep part S j = S from if_pos c43]; done)
        | (rw [show bStep part S j = _ from if_neg c43]; rfl)
    · refine v_aload_n 46 dX4_bytes_46 rfl rfl ?_
      refine v_getf 47 dX4_bytes_47 fl_X4_39 mPut_o rfl ?_
      refine v_aload_n 50 dX4_bytes_50 rfl rfl ?_
      refine v_getf 51 dX4_bytes_51 fl_X4_95 mPut_o rfl ?_
      refine v_lload_n 54 dX4_bytes_54 rfl rfl ?_
      refine v_bipush (v := 8) 55 dX4_bytes_55 (by decide) ?_
      refine v_iload 57 dX4_bytes_57 rfl ?_
      refine v_imul 59 dX4_bytes_59 ?_
      refine v_lshr 60 dX4_bytes_60 rfl ?_
      refine v_ldc2 61 dX4_bytes_61 kc_X4_98 ?_
      refine v_land 64 dX4_bytes_64 ?_
      refine v_l2i 65 dX4_bytes_65 rfl ?_
      refine v_i2b 66 dX4_bytes_66 rfl ?_
      refine m_bst 67 18 dX4_bytes_67 hds (bInv_in hI c43) ?_
      refine v_aload_n 68 dX4_bytes_68 rfl rfl ?_
      refine v_dup 69 dX4_bytes_69 rfl ?_
      refine v_getf 70 dX4_bytes_70 fl_X4_95 mPut_o rfl ?_
      refine v_iconst (v := 1) 73 dX4_bytes_73 (by decide) ?_
      refine v_iadd 74 dX4_bytes_74 ?_
      refine m_put 75 dX4_bytes_75 fl_X4_95 ?_
      refine v_inc4 (y := -1) 78 dX4_bytes_78 (by decide) ?_
      refine v_goto (tgt := 30) 81 dX4_bytes_81 (by decide) ?_
      refine V.eq (ih (bStep part S j) (by omega) (bInv_step hI) hq) rfl (by rw [← kv_dec j]; rfl) rfl (congrArg (mPut h mo ad) ?_)
      first
        | (rw [show bStep part S j = S from if_pos c43]; done)
        | (rw [show bStep part S j = _ from if_neg c43]; rfl)
def bytesR (S : MS) (part : Int64) (n : Int32) (S' : MS) (r : Int32) : Prop :=
  ((n < 1 ∨ 8 < n ∨ S.1 14 = 0) ∧ r = 0 ∧ S' = mI S 0 0) ∨ (∃ j : Nat, 1 ≤ j ∧ j ≤ 8 ∧ n = nI j ∧ ¬ S.1 14 = 0 ∧ r = 1 ∧ S' = bRun part j (mI S 0 0))
set_option maxHeartbeats 4000000 in
set_option maxRecDepth 100000 in
theorem ct_bytes {K : KT} {h : AH} {mo : Nat} {ad : Nat → Nat} {S : MS} {part : Int64} {n : Int32} (hds : mDis mo ad) (hI : bInv S) : Ct K mX4_bytes 0 0 [.ref mo, .long part, .int n] (mPut h mo ad S) (fun r h' => ∃ (b : Int32) (S' : MS), r = some (.int b) ∧ h' = mPut h mo ad S' ∧ bytesR S part n S' b) noX := by
  refine ct_of (by decide +kernel) rfl (Nat.le_of_ble_eq_true rfl) rfl ?_
  refine v_aload_n 0 dX4_bytes_0 rfl rfl ?_
  refine v_iconst (v := 0) 1 dX4_bytes_1 (by decide) ?_
  refine m_put 2 dX4_bytes_2 fl_X4_45 ?_
  refine v_iload_n 5 dX4_bytes_5 rfl rfl ?_
  refine v_iconst (v := 1) 6 dX4_bytes_6 (by decide) ?_
  refine v_icmp_lt (tgt := 23) 7 dX4_bytes_7 (by decide) (fun c7 => ?_) (fun c7 => ?_)
  · refine v_iconst (v := 0) 23 dX4_bytes_23 (by decide) ?_
    refine v_iret 24 dX4_bytes_24 rfl rfl ?_
    exact ⟨_, _, rfl, rfl, Or.inl ⟨by first | exact Or.inl c7 | exact Or.inr (Or.inl c13) | exact Or.inr (Or.inr (by simpa [mI_n] using c20)), rfl, rfl⟩⟩
  · refine v_iload_n 10 dX4_bytes_10 rfl rfl ?_
    refine v_bipush (v := 8) 11 dX4_bytes_11 (by decide) ?_
    refine v_icmp_gt (tgt := 23) 13 dX4_bytes_13 (by decide) (fun c13 => ?_) (fun c13 => ?_)
    · refine v_iconst (v := 0) 23 dX4_bytes_23 (by decide) ?_
      refine v_iret 24 dX4_bytes_24 rfl rfl ?_
      exact ⟨_, _, rfl, rfl, Or.inl ⟨by first | exact Or.inl c7 | exact Or.inr (Or.inl c13) | exact Or.inr (Or.inr (by simpa [mI_n] using c20)), rfl, rfl⟩⟩
    · refine v_aload_n 16 dX4_bytes_16 rfl rfl ?_
      refine v_getf 17 dX4_bytes_17 fl_X4_58 mPut_o rfl ?_
      refine v_if_ne (tgt := 25) 20 dX4_bytes_20 (by decide) (fun c20 => ?_) (fun c20 => ?_)
      · obtain ⟨j, hj, rfl⟩ : ∃ j : Nat, (1 ≤ j ∧ j ≤ 8) ∧ n = nI j := by
          have h0 : ¬ n < 0 := fun z => c7 (Int32.lt_trans z (by decide))
          obtain ⟨j, hj, rfl⟩ := i_num h0 (show n ≤ nI 8 from i_le c13) (by decide)
          refine ⟨j, ⟨?_, hj⟩, rfl⟩
          by_cases z : j = 0
          · subst z; exact absurd (by decide) c7
          · omega
        refine v_iload_n 25 dX4_bytes_25 rfl rfl ?_
        refine v_iconst (v := 1) 26 dX4_bytes_26 (by decide) ?_
        refine v_isub 27 dX4_bytes_27 ?_
        refine v_ist4 28 dX4_bytes_28 ?_
        refine V.eq (lp_bytes (part := part) (n := nI j) hds j (mI S 0 0) hj.2 hI ?_) rfl (by rw [kv_sub]; rfl) rfl rfl
        exact ⟨_, _, rfl, rfl, Or.inr ⟨j, hj.1, hj.2, rfl, by simpa [mI_n] using c20, rfl, rfl⟩⟩
      · refine v_iconst (v := 0) 23 dX4_bytes_23 (by decide) ?_
        refine v_iret 24 dX4_bytes_24 rfl rfl ?_
        exact ⟨_, _, rfl, rfl, Or.inl ⟨by first | exact Or.inl c7 | exact Or.inr (Or.inl c13) | exact Or.inr (Or.inr (by simpa [mI_n] using c20)), rfl, rfl⟩⟩
/-- byte k of the glyph that comes, under the mask of its place -/
def byM (S : MS) (k : Nat) : Int32 :=
  if S.1 17 ≤ nI k then 0 else S.2 18 k &&& (if S.2 15 2 - 8 * (nI k - nI k / (if (S.2 15 2 + 7) / 8 = 0 then 1 else (S.2 15 2 + 7) / 8) * (if (S.2 15 2 + 7) / 8 = 0 then 1 else (S.2 15 2 + 7) / 8)) < 8 then (255 : Int32) - ((255 : Int32) >>> ((S.2 15 2 - 8 * (nI k - nI k / (if (S.2 15 2 + 7) / 8 = 0 then 1 else (S.2 15 2 + 7) / 8) * (if (S.2 15 2 + 7) / 8 = 0 then 1 else (S.2 15 2 + 7) / 8))) &&& 31)) else (255 : Int32))
set_option maxHeartbeats 4000000 in
set_option maxRecDepth 100000 in
theorem ct_byteOf {K : KT} {h : AH} {mo : Nat} {ad : Nat → Nat} {S : MS} {k : Nat} (hds : mDis mo ad) (hk : k < 2048) : Ct K mX4_byteOf 0 0 [.ref mo, .int (nI k)] (mPut h mo ad S) (fun r h' => r = some (.int (byM S k)) ∧ h' = mPut h mo ad S) noX := by
  refine ct_of (by decide +kernel) rfl (Nat.le_of_ble_eq_true rfl) rfl ?_
  refine v_aload_n 0 dX4_byteOf_0 rfl rfl ?_
  refine v_getf 1 dX4_byteOf_1 fl_X4_36 mPut_o rfl ?_
  refine v_iconst (v := 2) 4 dX4_byteOf_4 (by decide) ?_
  refine m_ild 5 15 dX4_byteOf_5 hds (by unfold vp_in; decide) ?_
  refine v_bipush (v := 7) 6 dX4_byteOf_6 (by decide) ?_
  refine v_iadd 8 dX4_byteOf_8 ?_
  refine v_bipush (v := 8) 9 dX4_byteOf_9 (by decide) ?_
  refine v_idiv 11 dX4_byteOf_11 (by decide) ?_
  refine v_ist2 12 dX4_byteOf_12 ?_
  refine v_aload_n 13 dX4_byteOf_13 rfl rfl ?_
  refine v_getf 14 dX4_byteOf_14 fl_X4_36 mPut_o rfl ?_
  refine v_iconst (v := 2) 17 dX4_byteOf_17 (by decide) ?_
  refine m_ild 18 15 dX4_byteOf_18 hds (by unfold vp_in; decide) ?_
  refine v_bipush (v := 8) 19 dX4_byteOf_19 (by decide) ?_
  refine v_iload_n 21 dX4_byteOf_21 rfl rfl ?_
  refine v_iload_n 22 dX4_byteOf_22 rfl rfl ?_
  refine v_if_ne (tgt := 30) 23 dX4_byteOf_23 (by decide) (fun c23 => ?_) (fun c23 => ?_)
  · refine v_iload_n 30 dX4_byteOf_30 rfl rfl ?_
    refine v_irem 31 dX4_byteOf_31 c23 ?_
    refine v_imul 32 dX4_byteOf_32 ?_
    refine v_isub 33 dX4_byteOf_33 ?_
    refine v_ist3 34 dX4_byteOf_34 ?_
    refine v_iload_n 35 dX4_byteOf_35 rfl rfl ?_
    refine v_bipush (v := 8) 36 dX4_byteOf_36 (by decide) ?_
    refine v_icmp_lt (tgt := 47) 38 dX4_byteOf_38 (by decide) (fun c38 => ?_) (fun c38 => ?_)
    · refine v_sipush (v := 255) 47 dX4_byteOf_47 (by decide) ?_
      refine v_sipush (v := 255) 50 dX4_byteOf_50 (by decide) ?_
      refine v_iload_n 53 dX4_byteOf_53 rfl rfl ?_
      refine v_ishr 54 dX4_byteOf_54 ?_
      refine v_isub 55 dX4_byteOf_55 ?_
      refine v_ist4 56 dX4_byteOf_56 ?_
      refine v_iload_n 58 dX4_byteOf_58 rfl rfl ?_
      refine v_aload_n 59 dX4_byteOf_59 rfl rfl ?_
      refine v_getf 60 dX4_byteOf_60 fl_X4_95 mPut_o rfl ?_
      refine v_icmp_ge (tgt := 78) 63 dX4_byteOf_63 (by decide) (fun c63 => ?_) (fun c63 => ?_)
      · refine v_iconst (v := 0) 78 dX4_byteOf_78 (by decide) ?_
        refine v_iret 79 dX4_byteOf_79 rfl rfl ?_
        have ek : (nI k).toNatClampNeg = k := nI_clamp (by omega)
        have e2 : (2 : Int32).toNatClampNeg = 2 := by decide
        refine ⟨?_, rfl⟩
        simp only [e2] at *
        simp_all [byM, -Int32.not_lt, -Int32.not_le]
      · refine v_aload_n 66 dX4_byteOf_66 rfl rfl ?_
        refine v_getf 67 dX4_byteOf_67 fl_X4_39 mPut_o rfl ?_
        refine v_iload_n 70 dX4_byteOf_70 rfl rfl ?_
        refine m_bld 71 18 dX4_byteOf_71 hds (vp_in_nI (N := 2048) hk (by decide)) ?_
        refine v_iload 72 dX4_byteOf_72 rfl ?_
        refine v_iand 74 dX4_byteOf_74 ?_
        refine v_goto (tgt := 79) 75 dX4_byteOf_75 (by decide) ?_
        refine v_iret 79 dX4_byteOf_79 rfl rfl ?_
        have ek : (nI k).toNatClampNeg = k := nI_clamp (by omega)
        have e2 : (2 : Int32).toNatClampNeg = 2 := by decide
        refine ⟨?_, rfl⟩
        simp only [e2] at *
        simp_all [byM, -Int32.not_lt, -Int32.not_le]
    · refine v_sipush (v := 255) 41 dX4_byteOf_41 (by decide) ?_
      refine v_goto (tgt := 56) 44 dX4_byteOf_44 (by decide) ?_
      refine v_ist4 56 dX4_byteOf_56 ?_
      refine v_iload_n 58 dX4_byteOf_58 rfl rfl ?_
      refine v_aload_n 59 dX4_byteOf_59 rfl rfl ?_
      refine v_getf 60 dX4_byteOf_60 fl_X4_95 mPut_o rfl ?_
      refine v_icmp_ge (tgt := 78) 63 dX4_byteOf_63 (by decide) (fun c63 => ?_) (fun c63 => ?_)
      · refine v_iconst (v := 0) 78 dX4_byteOf_78 (by decide) ?_
        refine v_iret 79 dX4_byteOf_79 rfl rfl ?_
        have ek : (nI k).toNatClampNeg = k := nI_clamp (by omega)
        have e2 : (2 : Int32).toNatClampNeg = 2 := by decide
        refine ⟨?_, rfl⟩
        simp only [e2] at *
        simp_all [byM, -Int32.not_lt, -Int32.not_le]
      · refine v_aload_n 66 dX4_byteOf_66 rfl rfl ?_
        refine v_getf 67 dX4_byteOf_67 fl_X4_39 mPut_o rfl ?_
        refine v_iload_n 70 dX4_byteOf_70 rfl rfl ?_
        refine m_bld 71 18 dX4_byteOf_71 hds (vp_in_nI (N := 2048) hk (by decide)) ?_
        refine v_iload 72 dX4_byteOf_72 rfl ?_
        refine v_iand 74 dX4_byteOf_74 ?_
        refine v_goto (tgt := 79) 75 dX4_byteOf_75 (by decide) ?_
        refine v_iret 79 dX4_byteOf_79 rfl rfl ?_
        have ek : (nI k).toNatClampNeg = k := nI_clamp (by omega)
        have e2 : (2 : Int32).toNatClampNeg = 2 := by decide
        refine ⟨?_, rfl⟩
        simp only [e2] at *
        simp_all [byM, -Int32.not_lt, -Int32.not_le]
  · refine v_iconst (v := 1) 26 dX4_byteOf_26 (by decide) ?_
    refine v_goto (tgt := 31) 27 dX4_byteOf_27 (by decide) ?_
    refine v_irem 31 dX4_byteOf_31 (by decide) ?_
    refine v_imul 32 dX4_byteOf_32 ?_
    refine v_isub 33 dX4_byteOf_33 ?_
    refine v_ist3 34 dX4_byteOf_34 ?_
    refine v_iload_n 35 dX4_byteOf_35 rfl rfl ?_
    refine v_bipush (v := 8) 36 dX4_byteOf_36 (by decide) ?_
    refine v_icmp_lt (tgt := 47) 38 dX4_byteOf_38 (by decide) (fun c38 => ?_) (fun c38 => ?_)
    · refine v_sipush (v := 255) 47 dX4_byteOf_47 (by decide) ?_
      refine v_sipush (v := 255) 50 dX4_byteOf_50 (by decide) ?_
      refine v_iload_n 53 dX4_byteOf_53 rfl rfl ?_
      refine v_ishr 54 dX4_byteOf_54 ?_
      refine v_isub 55 dX4_byteOf_55 ?_
      refine v_ist4 56 dX4_byteOf_56 ?_
      refine v_iload_n 58 dX4_byteOf_58 rfl rfl ?_
      refine v_aload_n 59 dX4_byteOf_59 rfl rfl ?_
      refine v_getf 60 dX4_byteOf_60 fl_X4_95 mPut_o rfl ?_
      refine v_icmp_ge (tgt := 78) 63 dX4_byteOf_63 (by decide) (fun c63 => ?_) (fun c63 => ?_)
      · refine v_iconst (v := 0) 78 dX4_byteOf_78 (by decide) ?_
        refine v_iret 79 dX4_byteOf_79 rfl rfl ?_
        have ek : (nI k).toNatClampNeg = k := nI_clamp (by omega)
        have e2 : (2 : Int32).toNatClampNeg = 2 := by decide
        refine ⟨?_, rfl⟩
        simp only [e2] at *
        simp_all [byM, -Int32.not_lt, -Int32.not_le]
      · refine v_aload_n 66 dX4_byteOf_66 rfl rfl ?_
        refine v_getf 67 dX4_byteOf_67 fl_X4_39 mPut_o rfl ?_
        refine v_iload_n 70 dX4_byteOf_70 rfl rfl ?_
        refine m_bld 71 18 dX4_byteOf_71 hds (vp_in_nI (N := 2048) hk (by decide)) ?_
        refine v_iload 72 dX4_byteOf_72 rfl ?_
        refine v_iand 74 dX4_byteOf_74 ?_
        refine v_goto (tgt := 79) 75 dX4_byteOf_75 (by decide) ?_
        refine v_iret 79 dX4_byteOf_79 rfl rfl ?_
        have ek : (nI k).toNatClampNeg = k := nI_clamp (by omega)
        have e2 : (2 : Int32).toNatClampNeg = 2 := by decide
        refine ⟨?_, rfl⟩
        simp only [e2] at *
        simp_all [byM, -Int32.not_lt, -Int32.not_le]
    · refine v_sipush (v := 255) 41 dX4_byteOf_41 (by decide) ?_
      refine v_goto (tgt := 56) 44 dX4_byteOf_44 (by decide) ?_
      refine v_ist4 56 dX4_byteOf_56 ?_
      refine v_iload_n 58 dX4_byteOf_58 rfl rfl ?_
      refine v_aload_n 59 dX4_byteOf_59 rfl rfl ?_
      refine v_getf 60 dX4_byteOf_60 fl_X4_95 mPut_o rfl ?_
      refine v_icmp_ge (tgt := 78) 63 dX4_byteOf_63 (by decide) (fun c63 => ?_) (fun c63 => ?_)
      · refine v_iconst (v := 0) 78 dX4_byteOf_78 (by decide) ?_
        refine v_iret 79 dX4_byteOf_79 rfl rfl ?_
        have ek : (nI k).toNatClampNeg = k := nI_clamp (by omega)
        have e2 : (2 : Int32).toNatClampNeg = 2 := by decide
        refine ⟨?_, rfl⟩
        simp only [e2] at *
        simp_all [byM, -Int32.not_lt, -Int32.not_le]
      · refine v_aload_n 66 dX4_byteOf_66 rfl rfl ?_
        refine v_getf 67 dX4_byteOf_67 fl_X4_39 mPut_o rfl ?_
        refine v_iload_n 70 dX4_byteOf_70 rfl rfl ?_
        refine m_bld 71 18 dX4_byteOf_71 hds (vp_in_nI (N := 2048) hk (by decide)) ?_
        refine v_iload 72 dX4_byteOf_72 rfl ?_
        refine v_iand 74 dX4_byteOf_74 ?_
        refine v_goto (tgt := 79) 75 dX4_byteOf_75 (by decide) ?_
        refine v_iret 79 dX4_byteOf_79 rfl rfl ?_
        have ek : (nI k).toNatClampNeg = k := nI_clamp (by omega)
        have e2 : (2 : Int32).toNatClampNeg = 2 := by decide
        refine ⟨?_, rfl⟩
        simp only [e2] at *
        simp_all [byM, -Int32.not_lt, -Int32.not_le]
end
section
/-- m values from a + n on have moved down to a -/
def shL (f : Nat → Int32) (a n m : Nat) : Nat → Int32 := fun j => if a ≤ j ∧ j < a + m then f (j + n) else f j
theorem shL_0 (f : Nat → Int32) (a n : Nat) : shL f a n 0 = f := by
  funext j; unfold shL; rw [if_neg (by omega)]
theorem shL_at (f : Nat → Int32) (a n m : Nat) : shL f a n m (a + n + m) = f (a + n + m) := by
  unfold shL; rw [if_neg (by omega)]
theorem shL_s (f : Nat → Int32) (a n m : Nat) : upd (shL f a n m) (a + m) (f (a + n + m)) = shL f a n (m + 1) := by
  funext j
  unfold upd shL
  by_cases hj : j = a + m
  · subst hj; rw [if_pos rfl, if_pos (by omega)]; congr 1; omega
  · rw [if_neg hj]
    by_cases h1 : a ≤ j ∧ j < a + m
    · rw [if_pos h1, if_pos (by omega)]
    · rw [if_neg h1, if_neg (by omega)]
set_option maxHeartbeats 4000000 in
set_option maxRecDepth 100000 in
theorem lp_goG1 {K : KT} {h : AH} {mo : Nat} {ad : Nat → Nat} {S : MS} {g : Nat} {a n U : Nat} {Q : QR} {X : QX} (hds : mDis mo ad) (hU : S.1 7 = nI U) (hU2 : U ≤ 20000) (ha : a + n ≤ U) (hby : ∀ j, j < U → vp_nar .byte (S.2 8 j) = S.2 8 j)
    (kk : V K mX4_goGlyph 48 [some (.ref mo), some (.int (nI g)), some (.int (nI a)), some (.int (nI n)), some (.int (nI U))] [] (mPut h mo ad (mA S 8 (shL (S.2 8) a n (U - a - n)))) 0 0 Q X) : ∀ t i : Nat, i + t = U - a - n → V K mX4_goGlyph 17 [some (.ref mo), some (.int (nI g)), some (.int (nI a)), some (.int (nI n)), some (.int (nI (a + n + i)))] [] (mPut h mo ad (mA S 8 (shL (S.2 8) a n i))) 0 0 Q X := by
  intro t
  induction t with
  | zero =>
    intro i hi
    have hiE : i = U - a - n := by omega
    subst hiE
    have hUe : a + n + (U - a - n) = U := by omega
    rw [hUe]
    refine v_iload 17 dX4_goGlyph_17 rfl ?_
    refine v_aload_n 19 dX4_goGlyph_19 rfl rfl ?_
    refine v_getf 20 dX4_goGlyph_20 fl_X4_79 mPut_o rfl ?_
    refine v_icmp_ge (tgt := 48) 23 dX4_goGlyph_23 (by decide) (fun c23 => ?_) (fun c23 => absurd (by rw [mA_1, hU]; exact nI_le (Nat.le_refl _) (by omega)) c23)
    exact kk
  | succ t ih =>
    intro i hi
    refine v_iload 17 dX4_goGlyph_17 rfl ?_
    refine v_aload_n 19 dX4_goGlyph_19 rfl rfl ?_
    refine v_getf 20 dX4_goGlyph_20 fl_X4_79 mPut_o rfl ?_
    refine v_icmp_ge (tgt := 48) 23 dX4_goGlyph_23 (by decide) (fun c23 => absurd c23 (by rw [mA_1, hU]; exact nI_ge (by omega) (by omega))) (fun c23 => ?_)
    refine v_aload_n 26 dX4_goGlyph_26 rfl rfl ?_
    refine v_getf 27 dX4_goGlyph_27 fl_X4_23 mPut_o rfl ?_
    refine v_iload 30 dX4_goGlyph_30 rfl ?_
    refine v_iload_n 32 dX4_goGlyph_32 rfl rfl ?_
    refine v_isub 33 dX4_goGlyph_33 ?_
    refine v_aload_n 34 dX4_goGlyph_34 rfl rfl ?_
    refine v_getf 35 dX4_goGlyph_35 fl_X4_23 mPut_o rfl ?_
    refine v_iload 38 dX4_goGlyph_38 rfl ?_
    refine m_bld 40 8 dX4_goGlyph_40 hds (vp_in_nI (N := 20000) (by omega) (by decide)) ?_
    refine m_bst 41 8 dX4_goGlyph_41 hds (by rw [pk_sub (by omega)]; exact vp_in_nI (N := 20000) (by omega) (by decide)) ?_
    refine v_inc4 (y := 1) 42 dX4_goGlyph_42 (by decide) ?_
    refine v_goto (tgt := 17) 45 dX4_goGlyph_45 (by decide) ?_
    refine V.eq (ih (i + 1) (by omega)) rfl (by rw [nI_1]; rfl) rfl (congrArg (mPut h mo ad) ?_)
    rw [mA_mA, mA_s, pk_sub (by omega), nI_clamp (by omega), nI_clamp (by omega), shL_at, hby _ (by omega), show a + n + i - n = a + i by omega, shL_s]
set_option maxHeartbeats 4000000 in
set_option maxRecDepth 100000 in
theorem lp_goG2 {K : KT} {h : AH} {mo : Nat} {ad : Nat → Nat} {S : MS} {g G : Nat} {x y : Int32} {Q : QR} {X : QX} (hds : mDis mo ad) (hG : S.1 5 = nI G) (hG2 : G ≤ 256) (hg : g ≤ G) (hq : Q none (mPut h mo ad (mA S 6 (shL (S.2 6) (7 * g) 7 (7 * G - 7 * g))))) : ∀ t i : Nat, i + t = 7 * G - 7 * g → V K mX4_goGlyph 74 [some (.ref mo), some (.int (nI g)), some (.int x), some (.int y), some (.int (nI (7 * g + i)))] [] (mPut h mo ad (mA S 6 (shL (S.2 6) (7 * g) 7 i))) 0 0 Q X := by
  intro t
  induction t with
  | zero =>
    intro i hi
    have hiE : i = 7 * G - 7 * g := by omega
    subst hiE
    refine v_iload 74 dX4_goGlyph_74 rfl ?_
    refine v_bipush (v := 7) 76 dX4_goGlyph_76 (by decide) ?_
    refine v_aload_n 78 dX4_goGlyph_78 rfl rfl ?_
    refine v_getf 79 dX4_goGlyph_79 fl_X4_73 mPut_o rfl ?_
    refine v_imul 82 dX4_goGlyph_82 ?_
    refine v_icmp_ge (tgt := 109) 83 dX4_goGlyph_83 (by decide) (fun c83 => ?_) (fun c83 => absurd (by rw [mA_1, hG, m7]; exact nI_le (by omega) (by omega)) c83)
    refine v_vret 109 dX4_goGlyph_109 rfl ?_
    exact hq
  | succ t ih =>
    intro i hi
    refine v_iload 74 dX4_goGlyph_74 rfl ?_
    refine v_bipush (v := 7) 76 dX4_goGlyph_76 (by decide) ?_
    refine v_aload_n 78 dX4_goGlyph_78 rfl rfl ?_
    refine v_getf 79 dX4_goGlyph_79 fl_X4_73 mPut_o rfl ?_
    refine v_imul 82 dX4_goGlyph_82 ?_
    refine v_icmp_ge (tgt := 109) 83 dX4_goGlyph_83 (by decide) (fun c83 => absurd c83 (by rw [mA_1, hG, m7]; exact nI_ge (by omega) (by omega))) (fun c83 => ?_)
    refine v_aload_n 86 dX4_goGlyph_86 rfl rfl ?_
    refine v_getf 87 dX4_goGlyph_87 fl_X4_20 mPut_o rfl ?_
    refine v_iload 90 dX4_goGlyph_90 rfl ?_
    refine v_aload_n 92 dX4_goGlyph_92 rfl rfl ?_
    refine v_getf 93 dX4_goGlyph_93 fl_X4_20 mPut_o rfl ?_
    refine v_iload 96 dX4_goGlyph_96 rfl ?_
    refine v_bipush (v := 7) 98 dX4_goGlyph_98 (by decide) ?_
    refine v_iadd 100 dX4_goGlyph_100 ?_
    refine m_ild 101 6 dX4_goGlyph_101 hds (by rw [show (7 : Int32) = nI 7 from rfl, nI_add]; exact vp_in_nI (N := 1799) (by omega) (by decide)) ?_
    refine m_ist 102 6 dX4_goGlyph_102 hds (vp_in_nI (N := 1799) (by omega) (by decide)) ?_
    refine v_inc4 (y := 1) 103 dX4_goGlyph_103 (by decide) ?_
    refine v_goto (tgt := 74) 106 dX4_goGlyph_106 (by decide) ?_
    refine V.eq (ih (i + 1) (by omega)) rfl (by rw [nI_1]; rfl) rfl (congrArg (mPut h mo ad) ?_)
    rw [mA_mA, mA_s, show (7 : Int32) = nI 7 from rfl, nI_add, nI_clamp (by omega), nI_clamp (by omega), show 7 * g + i + 7 = 7 * g + 7 + i by omega, shL_at, shL_s]
def goG (S : MS) (g a n U G : Nat) : MS := mA (mI (mI (mA S 8 (shL (S.2 8) a n (U - a - n))) 7 (nI (U - n))) 5 (nI (G - 1))) 6 (shL (S.2 6) (7 * g) 7 (7 * (G - 1) - 7 * g))
set_option maxHeartbeats 4000000 in
set_option maxRecDepth 100000 in
theorem ct_goGlyph {K : KT} {h : AH} {mo : Nat} {ad : Nat → Nat} {S : MS} {g a n U G : Nat} (hds : mDis mo ad) (hU : S.1 7 = nI U) (hU2 : U ≤ 20000) (ha : a + n ≤ U) (hby : ∀ j, j < U → vp_nar .byte (S.2 8 j) = S.2 8 j) (hG : S.1 5 = nI G) (hG2 : G ≤ 256) (hg : g < G) (hat : gSt S g = nI a) (hnb : gB S g = nI n) : Ct K mX4_goGlyph 0 0 [.ref mo, .int (nI g)] (mPut h mo ad S) (fun r h' => r = none ∧ h' = mPut h mo ad (goG S g a n U G)) noX := by
  refine ct_of (by decide +kernel) rfl (Nat.le_of_ble_eq_true rfl) rfl ?_
  refine v_aload_n 0 dX4_goGlyph_0 rfl rfl ?_
  refine v_iload_n 1 dX4_goGlyph_1 rfl rfl ?_
  refine m_call 2 [.int (nI g)] dX4_goGlyph_2 cv_X4_76 (ct_startOf (G := g) hds (by omega)) (fun r h' hq' => ?_)
  obtain ⟨rfl, rfl⟩ := hq'
  rw [hat]
  refine v_ist2 5 dX4_goGlyph_5 ?_
  refine v_aload_n 6 dX4_goGlyph_6 rfl rfl ?_
  refine v_iload_n 7 dX4_goGlyph_7 rfl rfl ?_
  refine m_call 8 [.int (nI g)] dX4_goGlyph_8 cv_X4_69 (ct_bytesN hds (by omega)) (fun r h' hq' => ?_)
  obtain ⟨rfl, rfl⟩ := hq'
  rw [hnb]
  refine v_ist3 11 dX4_goGlyph_11 ?_
  refine v_iload_n 12 dX4_goGlyph_12 rfl rfl ?_
  refine v_iload_n 13 dX4_goGlyph_13 rfl rfl ?_
  refine v_iadd 14 dX4_goGlyph_14 ?_
  refine v_ist4 15 dX4_goGlyph_15 ?_
  refine V.eq (lp_goG1 (S := S) (g := g) (a := a) (n := n) hds hU hU2 ha hby ?_ (U - a - n) 0 (by omega)) rfl (by rw [nI_add]; rfl) rfl (congrArg (mPut h mo ad) (by rw [shL_0, mA_self]))
  refine v_aload_n 48 dX4_goGlyph_48 rfl rfl ?_
  refine v_dup 49 dX4_goGlyph_49 rfl ?_
  refine v_getf 50 dX4_goGlyph_50 fl_X4_79 mPut_o rfl ?_
  refine v_iload_n 53 dX4_goGlyph_53 rfl rfl ?_
  refine v_isub 54 dX4_goGlyph_54 ?_
  refine m_put 55 dX4_goGlyph_55 fl_X4_79 ?_
  refine v_aload_n 58 dX4_goGlyph_58 rfl rfl ?_
  refine v_dup 59 dX4_goGlyph_59 rfl ?_
  refine v_getf 60 dX4_goGlyph_60 fl_X4_73 mPut_o rfl ?_
  refine v_iconst (v := 1) 63 dX4_goGlyph_63 (by decide) ?_
  refine v_isub 64 dX4_goGlyph_64 ?_
  refine m_put 65 dX4_goGlyph_65 fl_X4_73 ?_
  refine v_bipush (v := 7) 68 dX4_goGlyph_68 (by decide) ?_
  refine v_iload_n 70 dX4_goGlyph_70 rfl rfl ?_
  refine v_imul 71 dX4_goGlyph_71 ?_
  refine v_ist4 72 dX4_goGlyph_72 ?_
  refine V.eq (lp_goG2 (S := mI (mI (mA S 8 (shL (S.2 8) a n (U - a - n))) 7 (nI (U - n))) 5 (nI (G - 1))) (g := g) (G := G - 1) hds (mI_s _ _ _) (by omega) (by omega) ⟨rfl, rfl⟩ (7 * (G - 1) - 7 * g) 0 (by omega)) rfl (by rw [m7]; rfl) rfl (congrArg (mPut h mo ad) ?_)
  rw [shL_0]
  have e1 : S.1 7 - nI n = nI (U - n) := by rw [hU, pk_sub (by omega)]
  have e2 : S.1 5 - 1 = nI (G - 1) := by rw [hG, show (1 : Int32) = nI 1 from rfl, pk_sub (by omega)]
  show mA _ 6 _ = _
  rw [← e1, ← e2]
  exact mA_self _ 6
end
section
/-! ===== the glyphs of the reference as a list: seven ints (ID, CODE, LEFT, TOP, WIDTH, DEPTH, STEP) and the bytes ===== -/
abbrev GL : Type := (Nat → Int32) × List Int32
def glOk (g : GL) : Prop := ∃ W D : Nat, g.1 4 = nI W ∧ g.1 5 = nI D ∧ W ≤ 128 ∧ D ≤ 128 ∧ g.2.length = D * ((W + 7) / 8) ∧ ∀ b ∈ g.2, vp_nar .byte b = b
def flatB (L : List GL) : List Int32 := L.flatMap (fun g => g.2)
theorem flatB_app (L L' : List GL) : flatB (L ++ L') = flatB L ++ flatB L' := List.flatMap_append
theorem flatB_cons (g : GL) (L : List GL) : flatB (g :: L) = g.2 ++ flatB L := List.flatMap_cons
def gRep (S : MS) (L : List GL) : Prop :=
  S.1 5 = nI L.length ∧ L.length ≤ 256 ∧ (∀ (k : Nat) (g : GL), L[k]? = some g → ∀ j, j < 7 → S.2 6 (7 * k + j) = g.1 j) ∧ (∀ g ∈ L, glOk g) ∧
  S.1 7 = nI (flatB L).length ∧ (flatB L).length ≤ 16384 ∧ ∀ (j : Nat) (v : Int32), (flatB L)[j]? = some v → S.2 8 j = v
theorem gB_size {g : GL} (h : glOk g) : g.1 5 * ((g.1 4 + 7) / 8) = nI g.2.length := by
  obtain ⟨W, D, h1, h2, h3, h4, h5, -⟩ := h
  rw [h1, h2, h5, show (7 : Int32) = nI 7 from rfl, show (8 : Int32) = nI 8 from rfl, nI_add, pk_div (by omega) (by decide) (by decide), pk_mul]
theorem glOk_len {g : GL} (h : glOk g) : g.2.length ≤ 2048 := by
  obtain ⟨W, D, h1, h2, h3, h4, h5, -⟩ := h
  rw [h5]
  have : (W + 7) / 8 ≤ 16 := by omega
  calc D * ((W + 7) / 8) ≤ 128 * 16 := Nat.mul_le_mul h4 this
    _ = 2048 := rfl
theorem gRep_B {S : MS} {L : List GL} (hR : gRep S L) {k : Nat} {g : GL} (hk : L[k]? = some g) : gB S k = nI g.2.length := by
  have hg : g ∈ L := List.mem_of_getElem? hk
  unfold gB
  rw [hR.2.2.1 k g hk 5 (by decide), hR.2.2.1 k g hk 4 (by decide)]
  exact gB_size (hR.2.2.2.1 g hg)
theorem gRep_St {S : MS} {L : List GL} (hR : gRep S L) : ∀ k : Nat, k ≤ L.length → gSt S k = nI (flatB (L.take k)).length
  | 0, _ => rfl
  | k + 1, hk => by
    have hk' : L[k]? = some (L[k]'(by omega)) := List.getElem?_eq_getElem (by omega)
    rw [gSt, gRep_St hR k (by omega), gRep_B hR hk', nI_add]
    congr 1
    rw [List.take_succ, flatB_app, hk', List.length_append]
    simp [flatB]
theorem flatB_split (L1 L2 : List GL) (g : GL) : flatB (L1 ++ g :: L2) = flatB L1 ++ (g.2 ++ flatB L2) := by rw [flatB_app, flatB_cons]
theorem gRep_byte {S : MS} {L : List GL} (hR : gRep S L) {j : Nat} (hj : j < (flatB L).length) : vp_nar .byte (S.2 8 j) = S.2 8 j := by
  have hj' : (flatB L)[j]? = some ((flatB L)[j]) := List.getElem?_eq_getElem hj
  rw [hR.2.2.2.2.2.2 j _ hj']
  have hm : (flatB L)[j] ∈ flatB L := List.getElem_mem hj
  obtain ⟨g, hg, hb⟩ := List.mem_flatMap.mp hm
  obtain ⟨W, D, -, -, -, -, -, h6⟩ := hR.2.2.2.1 g hg
  exact h6 _ hb
/-- glyph k goes -/
theorem gRep_go {S : MS} {L1 L2 : List GL} {g : GL} (hR : gRep S (L1 ++ g :: L2)) : gRep (goG S L1.length (flatB L1).length g.2.length (flatB (L1 ++ g :: L2)).length (L1 ++ g :: L2).length) (L1 ++ L2) := by
  obtain ⟨h1, h2, h3, h4, h5, h6, h7⟩ := hR
  have hlen : (L1 ++ g :: L2).length = L1.length + L2.length + 1 := by simp; omega
  have hlen' : (L1 ++ L2).length = L1.length + L2.length := by simp
  have hfl : (flatB (L1 ++ g :: L2)).length = (flatB L1).length + g.2.length + (flatB L2).length := by rw [flatB_split]; simp; omega
  have hfl' : (flatB (L1 ++ L2)).length = (flatB L1).length + (flatB L2).length := by rw [flatB_app]; simp
  refine ⟨?_, by omega, ?_, ?_, ?_, by omega, ?_⟩
  · show nI ((L1 ++ g :: L2).length - 1) = _
    rw [hlen, hlen']; rfl
  · intro k q hk j hj
    show shL (S.2 6) (7 * L1.length) 7 (7 * ((L1 ++ g :: L2).length - 1) - 7 * L1.length) (7 * k + j) = q.1 j
    have hkl : k < (L1 ++ L2).length := (List.getElem?_eq_some_iff.mp hk).1
    unfold shL
    by_cases hc : k < L1.length
    · rw [if_neg (by omega)]
      refine h3 k q ?_ j hj
      rw [List.getElem?_append_left hc] at hk ⊢
      exact hk
    · rw [if_pos (by omega)]
      rw [List.getElem?_append_right (by omega)] at hk
      rw [show 7 * k + j + 7 = 7 * (k + 1) + j by omega]
      refine h3 (k + 1) q ?_ j hj
      rw [List.getElem?_append_right (by omega), show k + 1 - L1.length = (k - L1.length) + 1 by omega, List.getElem?_cons_succ]
      exact hk
  · intro q hq
    refine h4 q ?_
    rcases List.mem_append.mp hq with hq | hq
    · exact List.mem_append_left _ hq
    · exact List.mem_append_right _ (List.mem_cons_of_mem _ hq)
  · show nI ((flatB (L1 ++ g :: L2)).length - g.2.length) = _
    rw [hfl, hfl']
    congr 1; omega
  · intro j v hj
    show shL (S.2 8) (flatB L1).length g.2.length ((flatB (L1 ++ g :: L2)).length - (flatB L1).length - g.2.length) j = v
    have hjl : j < (flatB (L1 ++ L2)).length := (List.getElem?_eq_some_iff.mp hj).1
    rw [flatB_app] at hj
    unfold shL
    by_cases hc : j < (flatB L1).length
    · rw [if_neg (by omega)]
      refine h7 j v ?_
      rw [flatB_split, List.getElem?_append_left hc]
      rw [List.getElem?_append_left hc] at hj
      exact hj
    · rw [if_pos (by omega)]
      rw [List.getElem?_append_right (by omega)] at hj
      refine h7 (j + g.2.length) v ?_
      rw [flatB_split, List.getElem?_append_right (by omega), List.getElem?_append_right (by omega)]
      rw [← hj]
      congr 1; omega
/-- what goGlyph leaves as it was -/
def gSame (S S' : MS) : Prop := (∀ k, k ≠ 5 → k ≠ 7 → S'.1 k = S.1 k) ∧ ∀ k, k ≠ 6 → k ≠ 8 → S'.2 k = S.2 k
theorem gSame_rf (S : MS) : gSame S S := ⟨fun _ _ _ => rfl, fun _ _ _ => rfl⟩
theorem gSame_tr {A B C : MS} (h1 : gSame A B) (h2 : gSame B C) : gSame A C := ⟨fun k a b => (h2.1 k a b).trans (h1.1 k a b), fun k a b => (h2.2 k a b).trans (h1.2 k a b)⟩
theorem gSame_go (S : MS) (g a n U G : Nat) : gSame S (goG S g a n U G) := by
  refine ⟨fun k h5 h7 => ?_, fun k h6 h8 => ?_⟩
  · show (if k = 5 then _ else if k = 7 then _ else S.1 k) = S.1 k
    rw [if_neg h5, if_neg h7]
  · show (if k = 6 then _ else if k = 8 then _ else S.2 k) = S.2 k
    rw [if_neg h6, if_neg h8]
theorem split_at {L : List GL} {k : Nat} (hk : k < L.length) : ∃ (L1 L2 : List GL) (g : GL), L = L1 ++ g :: L2 ∧ L1.length = k ∧ L[k]? = some g := by
  refine ⟨L.take k, L.drop (k + 1), L[k], ?_, by simp; omega, List.getElem?_eq_getElem hk⟩
  rw [← List.drop_eq_getElem_cons hk, List.take_append_drop]
set_option maxHeartbeats 4000000 in
set_option maxRecDepth 100000 in
theorem ct_goG {K : KT} {h : AH} {mo : Nat} {ad : Nat → Nat} {S : MS} {L : List GL} {k : Nat} (hds : mDis mo ad) (hR : gRep S L) (hk : k < L.length) : Ct K mX4_goGlyph 0 0 [.ref mo, .int (nI k)] (mPut h mo ad S) (fun r h' => r = none ∧ ∃ S', h' = mPut h mo ad S' ∧ gSame S S' ∧ gRep S' (L.eraseIdx k)) noX := by
  obtain ⟨L1, L2, g, rfl, rfl, hg⟩ := split_at hk
  have hlen : (L1 ++ g :: L2).length = L1.length + L2.length + 1 := by simp; omega
  have hfl : (flatB (L1 ++ g :: L2)).length = (flatB L1).length + g.2.length + (flatB L2).length := by rw [flatB_split]; simp; omega
  have hst : gSt S L1.length = nI (flatB L1).length := by
    rw [gRep_St hR L1.length (by omega), List.take_left]
  refine (ct_goGlyph (g := L1.length) (a := (flatB L1).length) (n := g.2.length) (U := (flatB (L1 ++ g :: L2)).length) (G := (L1 ++ g :: L2).length) hds hR.2.2.2.2.1 (by have := hR.2.2.2.2.2.1; omega) (by omega) (fun j hj => gRep_byte hR hj) hR.1 hR.2.1 hk hst (gRep_B hR hg)).mono ?_ (fun _ _ z => z)
  rintro r h' ⟨rfl, rfl⟩
  refine ⟨rfl, _, rfl, gSame_go _ _ _ _ _ _, ?_⟩
  rw [List.eraseIdx_append_of_length_le (Nat.le_refl _), Nat.sub_self, List.eraseIdx_cons_zero]
  exact gRep_go hR
end
section
def offG (x : Int32) (g : GL) : Bool := decide (¬ g.1 0 = x)
def st3 (S : MS) (a b c : Nat → Int32) : MS := mA (mA (mA S 2 a) 4 b) 3 c
theorem st3_2 (S : MS) (a b c a' : Nat → Int32) : mA (st3 S a b c) 2 a' = st3 S a' b c := by
  refine Prod.ext rfl (funext fun j => ?_)
  show (if j = 2 then a' else if j = 3 then c else if j = 4 then b else if j = 2 then a else S.2 j) = (if j = 3 then c else if j = 4 then b else if j = 2 then a' else S.2 j)
  by_cases h2 : j = 2
  · subst h2; rfl
  · simp [h2]
theorem st3_4 (S : MS) (a b c b' : Nat → Int32) : mA (st3 S a b c) 4 b' = st3 S a b' c := by
  refine Prod.ext rfl (funext fun j => ?_)
  show (if j = 4 then b' else if j = 3 then c else if j = 4 then b else if j = 2 then a else S.2 j) = (if j = 3 then c else if j = 4 then b' else if j = 2 then a else S.2 j)
  by_cases h2 : j = 4
  · subst h2; rfl
  · simp [h2]
theorem st3_3 (S : MS) (a b c c' : Nat → Int32) : mA (st3 S a b c) 3 c' = st3 S a b c' := mA_mA _ _ _ _
theorem st3_p2 (S : MS) (a b c : Nat → Int32) : (st3 S a b c).2 2 = a := rfl
theorem st3_p4 (S : MS) (a b c : Nat → Int32) : (st3 S a b c).2 4 = b := rfl
theorem st3_p3 (S : MS) (a b c : Nat → Int32) : (st3 S a b c).2 3 = c := rfl
theorem st3_1 (S : MS) (a b c : Nat → Int32) : (st3 S a b c).1 = S.1 := rfl
theorem st3_id (S : MS) : st3 S (S.2 2) (S.2 4) (S.2 3) = S := by
  refine Prod.ext rfl (funext fun j => ?_)
  show (if j = 3 then S.2 3 else if j = 4 then S.2 4 else if j = 2 then S.2 2 else S.2 j) = S.2 j
  by_cases h3 : j = 3
  · subst h3; rfl
  · by_cases h4 : j = 4
    · subst h4; rfl
    · by_cases h2 : j = 2
      · subst h2; rfl
      · simp [h2, h3, h4]
set_option maxHeartbeats 4000000 in
set_option maxRecDepth 100000 in
theorem lp_goF1 {K : KT} {h : AH} {mo : Nat} {ad : Nat → Nat} {S : MS} {L : List GL} {f F : Nat} {Q : QR} {X : QX} (hds : mDis mo ad) (hL : L.length ≤ 256) (hf : f < 33)
    (kk : ∀ S', gRep S' (L.filter (offG (S.2 2 f))) → gSame S S' → V K mX4_goFont 40 [some (.ref mo), some (.int (nI f)), some (.int (-1)), none] [] (mPut h mo ad S') 0 0 Q X) : ∀ (j : Nat) (S' : MS), j ≤ L.length → gRep S' (L.take j ++ (L.drop j).filter (offG (S.2 2 f))) → gSame S S' → V K mX4_goFont 7 [some (.ref mo), some (.int (nI f)), some (.int (kv j)), none] [] (mPut h mo ad S') 0 0 Q X := by
  intro j
  induction j with
  | zero =>
    intro S' hj hR hs
    rw [List.take_zero, List.nil_append, List.drop_zero] at hR
    refine v_iload_n 7 dX4_goFont_7 rfl rfl ?_
    refine v_if_lt (tgt := 40) 8 dX4_goFont_8 (by decide) (fun c8 => ?_) (fun c8 => absurd (by decide) c8)
    exact kk S' hR hs
  | succ j ih =>
    intro S' hj hR hs
    have hjl : j < L.length := hj
    have hgj : L[j]? = some L[j] := List.getElem?_eq_getElem hjl
    have hlist : L.take (j + 1) ++ (L.drop (j + 1)).filter (offG (S.2 2 f)) = L.take j ++ (L[j] :: (L.drop (j + 1)).filter (offG (S.2 2 f))) := by
      rw [show L.take (j + 1) = L.take j ++ [L[j]] from by rw [List.take_succ, hgj]; rfl, List.append_assoc]; rfl
    have hat : (L.take (j + 1) ++ (L.drop (j + 1)).filter (offG (S.2 2 f)))[j]? = some L[j] := by
      rw [hlist, List.getElem?_append_right (by simp; omega)]; simp [Nat.min_eq_left (Nat.le_of_lt hjl)]
    have hdj : L.drop j = L[j] :: L.drop (j + 1) := List.drop_eq_getElem_cons hjl
    have e0 : S'.2 6 (7 * j) = L[j].1 0 := hR.2.2.1 j _ hat 0 (by decide)
    have ei : S'.2 2 f = S.2 2 f := by rw [hs.2 2 (by decide) (by decide)]
    refine v_iload_n 7 dX4_goFont_7 rfl rfl ?_
    refine v_if_lt (tgt := 40) 8 dX4_goFont_8 (by decide) (fun c8 => absurd c8 (nI_pos (by omega))) (fun c8 => ?_)
    refine v_aload_n 11 dX4_goFont_11 rfl rfl ?_
    refine v_getf 12 dX4_goFont_12 fl_X4_20 mPut_o rfl ?_
    refine v_bipush (v := 7) 15 dX4_goFont_15 (by decide) ?_
    refine v_iload_n 17 dX4_goFont_17 rfl rfl ?_
    refine v_imul 18 dX4_goFont_18 ?_
    refine m_ild 19 6 dX4_goFont_19 hds (by rw [show kv (j + 1) = nI j from rfl, m7]; exact vp_in_nI (N := 1799) (by omega) (by decide)) ?_
    refine v_aload_n 20 dX4_goFont_20 rfl rfl ?_
    refine v_getf 21 dX4_goFont_21 fl_X4_7 mPut_o rfl ?_
    refine v_iload_n 24 dX4_goFont_24 rfl rfl ?_
    refine m_ild 25 2 dX4_goFont_25 hds (vp_in_nI (N := 33) hf (by decide)) ?_
    refine v_icmp_ne (tgt := 34) 26 dX4_goFont_26 (by decide) (fun c26 => ?_) (fun c26 => ?_)
    · refine v_inc2 (y := -1) 34 dX4_goFont_34 (by decide) ?_
      refine v_goto (tgt := 7) 37 dX4_goFont_37 (by decide) ?_
      rw [show kv (j + 1) = nI j from rfl, m7, nI_clamp (by omega), nI_clamp (by omega), e0, ei] at c26
      first
        | (refine V.eq (ih S2 (by omega) ?_ (gSame_tr hs hs2)) rfl (by rw [← kv_dec j]; rfl) rfl rfl
           rw [hlist, List.eraseIdx_append_of_length_le (by simp; omega)] at hR2
           rw [hdj, List.filter_cons_of_neg (by simpa [offG] using c26)]
           simpa [Nat.min_eq_left (Nat.le_of_lt hjl)] using hR2)
        | (refine V.eq (ih S' (by omega) ?_ hs) rfl (by rw [← kv_dec j]; rfl) rfl rfl
           rw [hdj, List.filter_cons_of_pos (by simpa [offG] using c26), ← hlist]
           exact hR)
    · refine v_aload_n 29 dX4_goFont_29 rfl rfl ?_
      refine v_iload_n 30 dX4_goFont_30 rfl rfl ?_
      refine m_call 31 [.int (nI j)] dX4_goFont_31 cv_X4_82 (ct_goG hds hR (List.getElem?_eq_some_iff.mp hat).1) (fun r h' hq' => ?_)
      obtain ⟨rfl, S2, rfl, hs2, hR2⟩ := hq'
      refine v_inc2 (y := -1) 34 dX4_goFont_34 (by decide) ?_
      refine v_goto (tgt := 7) 37 dX4_goFont_37 (by decide) ?_
      rw [show kv (j + 1) = nI j from rfl, m7, nI_clamp (by omega), nI_clamp (by omega), e0, ei] at c26
      first
        | (refine V.eq (ih S2 (by omega) ?_ (gSame_tr hs hs2)) rfl (by rw [← kv_dec j]; rfl) rfl rfl
           rw [hlist, List.eraseIdx_append_of_length_le (by simp; omega)] at hR2
           rw [hdj, List.filter_cons_of_neg (by simpa [offG] using c26)]
           simpa [Nat.min_eq_left (Nat.le_of_lt hjl)] using hR2)
        | (refine V.eq (ih S' (by omega) ?_ hs) rfl (by rw [← kv_dec j]; rfl) rfl rfl
           rw [hdj, List.filter_cons_of_pos (by simpa [offG] using c26), ← hlist]
           exact hR)
set_option maxHeartbeats 4000000 in
set_option maxRecDepth 100000 in
theorem lp_goF3 {K : KT} {h : AH} {mo : Nat} {ad : Nat → Nat} {S : MS} {a b A : Nat → Int32} {f i : Nat} {Q : QR} {X : QX} (hds : mDis mo ad) (hi : f + i < 32)
    (kk : V K mX4_goFont 127 [some (.ref mo), some (.int (nI f)), some (.int (nI (f + i))), some (.int (nI 7))] [] (mPut h mo ad (st3 S a b (shL A (7 * f) 7 (7 * i + 7)))) 0 0 Q X) : ∀ t w : Nat, w + t = 7 → V K mX4_goFont 90 [some (.ref mo), some (.int (nI f)), some (.int (nI (f + i))), some (.int (nI w))] [] (mPut h mo ad (st3 S a b (shL A (7 * f) 7 (7 * i + w)))) 0 0 Q X := by
  intro t
  induction t with
  | zero =>
    intro w hw
    have hw7 : w = 7 := by omega
    subst hw7
    refine v_iload_n 90 dX4_goFont_90 rfl rfl ?_
    refine v_bipush (v := 7) 91 dX4_goFont_91 (by decide) ?_
    refine v_icmp_ge (tgt := 127) 93 dX4_goFont_93 (by decide) (fun c93 => ?_) (fun c93 => absurd (by decide) c93)
    exact kk
  | succ t ih =>
    intro w hw
    have e1 : (7 : Int32) * nI (f + i) + nI w = nI (7 * (f + i) + w) := by rw [m7, nI_add]
    have e2 : (7 : Int32) * nI (f + i) + 7 + nI w = nI (7 * (f + i) + 7 + w) := by rw [m7, show (7 : Int32) = nI 7 from rfl, nI_add, nI_add]
    refine v_iload_n 90 dX4_goFont_90 rfl rfl ?_
    refine v_bipush (v := 7) 91 dX4_goFont_91 (by decide) ?_
    refine v_icmp_ge (tgt := 127) 93 dX4_goFont_93 (by decide) (fun c93 => absurd c93 (nI_ge (b := 7) (by omega) (by decide))) (fun c93 => ?_)
    refine v_aload_n 96 dX4_goFont_96 rfl rfl ?_
    refine v_getf 97 dX4_goFont_97 fl_X4_13 mPut_o rfl ?_
    refine v_bipush (v := 7) 100 dX4_goFont_100 (by decide) ?_
    refine v_iload_n 102 dX4_goFont_102 rfl rfl ?_
    refine v_imul 103 dX4_goFont_103 ?_
    refine v_iload_n 104 dX4_goFont_104 rfl rfl ?_
    refine v_iadd 105 dX4_goFont_105 ?_
    refine v_aload_n 106 dX4_goFont_106 rfl rfl ?_
    refine v_getf 107 dX4_goFont_107 fl_X4_13 mPut_o rfl ?_
    refine v_bipush (v := 7) 110 dX4_goFont_110 (by decide) ?_
    refine v_iload_n 112 dX4_goFont_112 rfl rfl ?_
    refine v_imul 113 dX4_goFont_113 ?_
    refine v_bipush (v := 7) 114 dX4_goFont_114 (by decide) ?_
    refine v_iadd 116 dX4_goFont_116 ?_
    refine v_iload_n 117 dX4_goFont_117 rfl rfl ?_
    refine v_iadd 118 dX4_goFont_118 ?_
    refine m_ild 119 3 dX4_goFont_119 hds (by rw [e2]; exact vp_in_nI (N := 231) (by omega) (by decide)) ?_
    refine m_ist 120 3 dX4_goFont_120 hds (by rw [e1]; exact vp_in_nI (N := 231) (by omega) (by decide)) ?_
    refine v_inc3 (y := 1) 121 dX4_goFont_121 (by decide) ?_
    refine v_goto (tgt := 90) 124 dX4_goFont_124 (by decide) ?_
    refine V.eq (ih (w + 1) (by omega)) rfl (by rw [← nI_1]) rfl (congrArg (mPut h mo ad) ?_)
    rw [st3_3, st3_p3, e1, e2, nI_clamp (by omega), nI_clamp (by omega), show 7 * (f + i) + 7 + w = 7 * f + 7 + (7 * i + w) by omega, shL_at, show 7 * (f + i) + w = 7 * f + (7 * i + w) by omega, shL_s]
    rfl
set_option maxHeartbeats 4000000 in
set_option maxRecDepth 100000 in
theorem lp_goF2 {K : KT} {h : AH} {mo : Nat} {ad : Nat → Nat} {S : MS} {I P A : Nat → Int32} {f F : Nat} {Q : QR} {X : QX} (hds : mDis mo ad) (hF : S.1 1 = nI F) (hF2 : F < 32) (hfF : f ≤ F) (hP : ∀ j, j ≤ F → vp_nar .boolean (P j) = P j)
    (hq : Q none (mPut h mo ad (st3 S (shL I f 1 (F - f)) (shL P f 1 (F - f)) (shL A (7 * f) 7 (7 * (F - f)))))) : ∀ (t i : Nat) (z : Option Value), i + t = F - f → oc1 z = true → V K mX4_goFont 52 [some (.ref mo), some (.int (nI f)), some (.int (nI (f + i))), z] [] (mPut h mo ad (st3 S (shL I f 1 i) (shL P f 1 i) (shL A (7 * f) 7 (7 * i)))) 0 0 Q X := by
  intro t
  induction t with
  | zero =>
    intro i z hi hz
    have hiE : i = F - f := by omega
    subst hiE
    refine v_iload_n 52 dX4_goFont_52 rfl rfl ?_
    refine v_aload_n 53 dX4_goFont_53 rfl rfl ?_
    refine v_getf 54 dX4_goFont_54 fl_X4_66 mPut_o rfl ?_
    refine v_icmp_ge (tgt := 133) 57 dX4_goFont_57 (by decide) (fun c57 => ?_) (fun c57 => absurd (by rw [st3_1, hF]; exact nI_le (by omega) (by omega)) c57)
    refine v_vret 133 dX4_goFont_133 rfl ?_
    exact hq
  | succ t ih =>
    intro i z hi hz
    have e1 : nI (f + i) + 1 = nI (f + 1 + i) := by rw [nI_1, show f + i + 1 = f + 1 + i by omega]
    refine v_iload_n 52 dX4_goFont_52 rfl rfl ?_
    refine v_aload_n 53 dX4_goFont_53 rfl rfl ?_
    refine v_getf 54 dX4_goFont_54 fl_X4_66 mPut_o rfl ?_
    refine v_icmp_ge (tgt := 133) 57 dX4_goFont_57 (by decide) (fun c57 => absurd c57 (by rw [st3_1, hF]; exact nI_ge (by omega) (by omega))) (fun c57 => ?_)
    refine v_aload_n 60 dX4_goFont_60 rfl rfl ?_
    refine v_getf 61 dX4_goFont_61 fl_X4_7 mPut_o rfl ?_
    refine v_iload_n 64 dX4_goFont_64 rfl rfl ?_
    refine v_aload_n 65 dX4_goFont_65 rfl rfl ?_
    refine v_getf 66 dX4_goFont_66 fl_X4_7 mPut_o rfl ?_
    refine v_iload_n 69 dX4_goFont_69 rfl rfl ?_
    refine v_iconst (v := 1) 70 dX4_goFont_70 (by decide) ?_
    refine v_iadd 71 dX4_goFont_71 ?_
    refine m_ild 72 2 dX4_goFont_72 hds (by rw [e1]; exact vp_in_nI (N := 33) (by omega) (by decide)) ?_
    refine m_ist 73 2 dX4_goFont_73 hds (vp_in_nI (N := 33) (by omega) (by decide)) ?_
    refine v_aload_n 74 dX4_goFont_74 rfl rfl ?_
    refine v_getf 75 dX4_goFont_75 fl_X4_16 mPut_o rfl ?_
    refine v_iload_n 78 dX4_goFont_78 rfl rfl ?_
    refine v_aload_n 79 dX4_goFont_79 rfl rfl ?_
    refine v_getf 80 dX4_goFont_80 fl_X4_16 mPut_o rfl ?_
    refine v_iload_n 83 dX4_goFont_83 rfl rfl ?_
    refine v_iconst (v := 1) 84 dX4_goFont_84 (by decide) ?_
    refine v_iadd 85 dX4_goFont_85 ?_
    refine m_zld 86 4 dX4_goFont_86 hds (by rw [e1]; exact vp_in_nI (N := 33) (by omega) (by decide)) ?_
    refine m_zst 87 4 dX4_goFont_87 hds (vp_in_nI (N := 33) (by omega) (by decide)) ?_
    refine v_iconst (v := 0) 88 dX4_goFont_88 (by decide) ?_
    refine v_ist3 89 dX4_goFont_89 ?_
    have eS : mA (mA (st3 S (shL I f 1 i) (shL P f 1 i) (shL A (7 * f) 7 (7 * i))) 2 (upd ((st3 S (shL I f 1 i) (shL P f 1 i) (shL A (7 * f) 7 (7 * i))).2 2) (nI (f + i)).toNatClampNeg ((st3 S (shL I f 1 i) (shL P f 1 i) (shL A (7 * f) 7 (7 * i))).2 2 (nI (f + i) + 1).toNatClampNeg))) 4 (upd (shL P f 1 i) (nI (f + i)).toNatClampNeg (vp_nar .boolean (shL P f 1 i (nI (f + i) + 1).toNatClampNeg))) = st3 S (shL I f 1 (i + 1)) (shL P f 1 (i + 1)) (shL A (7 * f) 7 (7 * i)) := by
      rw [st3_2, st3_4, st3_p2, e1, nI_clamp (by omega), nI_clamp (by omega), shL_at, shL_at, hP _ (by omega), shL_s, shL_s]
    refine V.eq (lp_goF3 (S := S) (a := shL I f 1 (i + 1)) (b := shL P f 1 (i + 1)) (A := A) (f := f) (i := i) hds (by omega) ?_ 7 0 (by omega)) rfl rfl rfl (congrArg (mPut h mo ad) eS.symm)
    refine v_inc2 (y := 1) 127 dX4_goFont_127 (by decide) ?_
    refine v_goto (tgt := 52) 130 dX4_goFont_130 (by decide) ?_
    exact V.eq (ih (i + 1) (some (.int (nI 7))) (by omega) rfl) rfl (by rw [nI_1]; rfl) rfl rfl
end
section
/-! ===== the fonts of the reference as a list: ID, for good (0 or 1), seven attributes ===== -/
abbrev FN : Type := Int32 × Int32 × (Nat → Int32)
def fRep (S : MS) (L : List FN) : Prop :=
  S.1 1 = nI L.length ∧ L.length ≤ 32 ∧ ∀ (k : Nat) (e : FN), L[k]? = some e → S.2 2 k = e.1 ∧ S.2 4 k = e.2.1 ∧ (e.2.1 = 0 ∨ e.2.1 = 1) ∧ ∀ w, w < 7 → S.2 3 (7 * k + w) = e.2.2 w
theorem gRep_congr {S S' : MS} {L : List GL} (h : gRep S L) (h5 : S'.1 5 = S.1 5) (h7 : S'.1 7 = S.1 7) (h6 : S'.2 6 = S.2 6) (h8 : S'.2 8 = S.2 8) : gRep S' L := by
  unfold gRep; rw [h5, h7, h6, h8]; exact h
theorem fRep_congr {S S' : MS} {L : List FN} (h : fRep S L) (h1 : S'.1 1 = S.1 1) (h2 : S'.2 2 = S.2 2) (h3 : S'.2 3 = S.2 3) (h4 : S'.2 4 = S.2 4) : fRep S' L := by
  unfold fRep; rw [h1, h2, h3, h4]; exact h
/-- what goFont leaves as it was -/
def fSame (S S' : MS) : Prop := (∀ k, k ≠ 1 → k ≠ 5 → k ≠ 7 → S'.1 k = S.1 k) ∧ ∀ k, k ≠ 2 → k ≠ 3 → k ≠ 4 → k ≠ 6 → k ≠ 8 → S'.2 k = S.2 k
theorem fSame_rf (S : MS) : fSame S S := ⟨fun _ _ _ _ => rfl, fun _ _ _ _ _ _ => rfl⟩
theorem fSame_tr {A B C : MS} (h1 : fSame A B) (h2 : fSame B C) : fSame A C := ⟨fun k a b c => (h2.1 k a b c).trans (h1.1 k a b c), fun k a b c d e => (h2.2 k a b c d e).trans (h1.2 k a b c d e)⟩
theorem fSame_g {A B : MS} (h : gSame A B) : fSame A B := ⟨fun k _ b c => h.1 k b c, fun k _ _ _ d e => h.2 k d e⟩
def goFS (S : MS) (f F : Nat) : MS := st3 (mI S 1 (nI F)) (shL (S.2 2) f 1 (F - f)) (shL (S.2 4) f 1 (F - f)) (shL (S.2 3) (7 * f) 7 (7 * (F - f)))
theorem fSame_go (S : MS) (f F : Nat) : fSame S (goFS S f F) := by
  refine ⟨fun k h1 _ _ => ?_, fun k h2 h3 h4 _ _ => ?_⟩
  · show (if k = 1 then _ else S.1 k) = S.1 k
    rw [if_neg h1]
  · show (if k = 3 then _ else if k = 4 then _ else if k = 2 then _ else S.2 k) = S.2 k
    rw [if_neg h3, if_neg h4, if_neg h2]
theorem splitF {L : List FN} {k : Nat} (hk : k < L.length) : ∃ (L1 L2 : List FN) (g : FN), L = L1 ++ g :: L2 ∧ L1.length = k ∧ L[k]? = some g := by
  refine ⟨L.take k, L.drop (k + 1), L[k], ?_, by simp; omega, List.getElem?_eq_getElem hk⟩
  rw [← List.drop_eq_getElem_cons hk, List.take_append_drop]
theorem fRep_go {S : MS} {L1 L2 : List FN} {g : FN} (hR : fRep S (L1 ++ g :: L2)) : fRep (goFS S L1.length (L1.length + L2.length)) (L1 ++ L2) := by
  obtain ⟨h1, h2, h3⟩ := hR
  have hlen : (L1 ++ g :: L2).length = L1.length + L2.length + 1 := by simp; omega
  have hlen' : (L1 ++ L2).length = L1.length + L2.length := by simp
  refine ⟨?_, by omega, ?_⟩
  · show nI (L1.length + L2.length) = _
    rw [hlen']
  · intro k q hk
    have hkl : k < (L1 ++ L2).length := (List.getElem?_eq_some_iff.mp hk).1
    show shL (S.2 2) L1.length 1 (L1.length + L2.length - L1.length) k = q.1 ∧ shL (S.2 4) L1.length 1 (L1.length + L2.length - L1.length) k = q.2.1 ∧ (q.2.1 = 0 ∨ q.2.1 = 1) ∧ ∀ w, w < 7 → shL (S.2 3) (7 * L1.length) 7 (7 * (L1.length + L2.length - L1.length)) (7 * k + w) = q.2.2 w
    unfold shL
    by_cases hc : k < L1.length
    · rw [if_neg (by omega), if_neg (by omega)]
      have hk' : (L1 ++ g :: L2)[k]? = some q := by
        rw [List.getElem?_append_left hc] at hk ⊢
        exact hk
      obtain ⟨a, b, c, d⟩ := h3 k q hk'
      refine ⟨a, b, c, fun w hw => ?_⟩
      rw [if_neg (by omega)]
      exact d w hw
    · rw [if_pos (by omega), if_pos (by omega)]
      have hk' : (L1 ++ g :: L2)[k + 1]? = some q := by
        rw [List.getElem?_append_right (by omega)] at hk
        rw [List.getElem?_append_right (by omega), show k + 1 - L1.length = (k - L1.length) + 1 by omega, List.getElem?_cons_succ]
        exact hk
      obtain ⟨a, b, c, d⟩ := h3 (k + 1) q hk'
      refine ⟨a, b, c, fun w hw => ?_⟩
      rw [if_pos (by omega), show 7 * k + w + 7 = 7 * (k + 1) + w by omega]
      exact d w hw
theorem nar_b01 {x : Int32} (h : x = 0 ∨ x = 1) : vp_nar .boolean x = x := by
  rcases h with rfl | rfl <;> decide
theorem fRep_nar {S : MS} {L : List FN} (hR : fRep S L) {k : Nat} (hk : k < L.length) : vp_nar .boolean (S.2 4 k) = S.2 4 k := by
  obtain ⟨-, b, c, -⟩ := hR.2.2 k _ (List.getElem?_eq_getElem hk)
  rw [b]; exact nar_b01 c
set_option maxHeartbeats 4000000 in
set_option maxRecDepth 100000 in
theorem ct_goFont {K : KT} {h : AH} {mo : Nat} {ad : Nat → Nat} {S : MS} {L : List GL} {FL : List FN} {f : Nat} {e : FN} (hds : mDis mo ad) (hR : gRep S L) (hFR : fRep S FL) (he : FL[f]? = some e) : Ct K mX4_goFont 0 0 [.ref mo, .int (nI f)] (mPut h mo ad S) (fun r h' => r = none ∧ ∃ S', h' = mPut h mo ad S' ∧ fSame S S' ∧ gRep S' (L.filter (offG e.1)) ∧ fRep S' (FL.eraseIdx f)) noX := by
  have hf : f < FL.length := (List.getElem?_eq_some_iff.mp he).1
  have hF32 := hFR.2.1
  have hid : S.2 2 f = e.1 := (hFR.2.2 f e he).1
  refine ct_of (by decide +kernel) rfl (Nat.le_of_ble_eq_true rfl) rfl ?_
  refine v_aload_n 0 dX4_goFont_0 rfl rfl ?_
  refine v_getf 1 dX4_goFont_1 fl_X4_73 mPut_o rfl ?_
  refine v_iconst (v := 1) 4 dX4_goFont_4 (by decide) ?_
  refine v_isub 5 dX4_goFont_5 ?_
  refine v_ist2 6 dX4_goFont_6 ?_
  refine V.eq (lp_goF1 (S := S) (L := L) (f := f) (F := FL.length) hds hR.2.1 (by omega) ?_ L.length S (Nat.le_refl _) (by rw [List.take_length, List.drop_length, List.filter_nil, List.append_nil]; exact hR) (gSame_rf S)) rfl (by rw [hR.1, kv_sub]; rfl) rfl rfl
  intro S1 hR1 hs1
  rw [hid] at hR1
  have hFR1 : fRep S1 FL := fRep_congr hFR (hs1.1 1 (by decide) (by decide)) (hs1.2 2 (by decide) (by decide)) (hs1.2 3 (by decide) (by decide)) (hs1.2 4 (by decide) (by decide))
  have hn1 : S1.1 1 - 1 = nI (FL.length - 1) := by rw [hFR1.1, show (1 : Int32) = nI 1 from rfl, pk_sub (by omega)]
  refine v_aload_n 40 dX4_goFont_40 rfl rfl ?_
  refine v_dup 41 dX4_goFont_41 rfl ?_
  refine v_getf 42 dX4_goFont_42 fl_X4_66 mPut_o rfl ?_
  refine v_iconst (v := 1) 45 dX4_goFont_45 (by decide) ?_
  refine v_isub 46 dX4_goFont_46 ?_
  refine m_put 47 dX4_goFont_47 fl_X4_66 ?_
  refine v_iload_n 50 dX4_goFont_50 rfl rfl ?_
  refine v_ist2 51 dX4_goFont_51 ?_
  rw [hn1]
  refine V.eq (lp_goF2 (S := mI S1 1 (nI (FL.length - 1))) (I := S1.2 2) (P := S1.2 4) (A := S1.2 3) (f := f) (F := FL.length - 1) hds (mI_s _ _ _) (by omega) (by omega) (fun j hj => fRep_nar hFR1 (by omega)) ?_ (FL.length - 1 - f) 0 none (by omega) rfl) rfl rfl rfl (congrArg (mPut h mo ad) (by rw [shL_0, shL_0, shL_0]; exact st3_id (mI S1 1 (nI (FL.length - 1)))))
  obtain ⟨L1, L2, g, rfl, rfl, hg⟩ := splitF hf
  have hlen : (L1 ++ g :: L2).length - 1 = L1.length + L2.length := by simp
  refine ⟨rfl, goFS S1 L1.length (L1.length + L2.length), ?_, fSame_tr (fSame_g hs1) (fSame_go _ _ _), ?_, ?_⟩
  · rw [hlen]; rfl
  · exact gRep_congr hR1 rfl rfl rfl rfl
  · rw [List.eraseIdx_append_of_length_le (Nat.le_refl _), Nat.sub_self, List.eraseIdx_cons_zero]
    exact fRep_go hFR1
end
section
def offF (x : Int32) (e : FN) : Bool := decide (¬ e.1 = x)
theorem lastIx_none {f : Nat → Int32} {x : Int32} : ∀ n : Nat, (∀ k, k < n → ¬ f k = x) → lastIx f x n = -1
  | 0, _ => rfl
  | n + 1, h => by rw [lastIx, if_neg (h n (by omega)), lastIx_none n (fun k hk => h k (by omega))]
theorem lastIx_some {f : Nat → Int32} {x : Int32} {k : Nat} : ∀ n : Nat, k < n → f k = x → (∀ j, j < n → f j = x → j = k) → lastIx f x n = nI k
  | 0, h, _, _ => absurd h (by omega)
  | n + 1, hk, hf, hu => by
    rw [lastIx]
    by_cases hn : f n = x
    · rw [if_pos hn, hu n (by omega) hn]
    · rw [if_neg hn]
      refine lastIx_some n ?_ hf (fun j hj => hu j (by omega))
      by_cases hkn : k = n
      · exact absurd (hkn ▸ hf) hn
      · omega
def fNd (L : List FN) : Prop := ∀ (j k : Nat) (a b : FN), L[j]? = some a → L[k]? = some b → a.1 = b.1 → j = k
theorem fIx {S : MS} {L : List FN} (hR : fRep S L) (hnd : fNd L) (x : Int32) : (∃ (k : Nat) (e : FN), L[k]? = some e ∧ e.1 = x ∧ lastIx (S.2 2) x L.length = nI k) ∨ ((∀ e ∈ L, ¬ e.1 = x) ∧ lastIx (S.2 2) x L.length = -1) := by
  by_cases hc : ∃ e ∈ L, e.1 = x
  · obtain ⟨e, he, hx⟩ := hc
    obtain ⟨k, hk⟩ := List.mem_iff_getElem?.mp he
    refine Or.inl ⟨k, e, hk, hx, lastIx_some _ (List.getElem?_eq_some_iff.mp hk).1 (by rw [(hR.2.2 k e hk).1, hx]) ?_⟩
    intro j hj hj2
    have hj' : L[j]? = some L[j] := List.getElem?_eq_getElem hj
    rw [(hR.2.2 j _ hj').1] at hj2
    exact hnd j k _ e hj' hk (hj2.trans hx.symm)
  · refine Or.inr ⟨fun e he hx => hc ⟨e, he, hx⟩, lastIx_none _ (fun k hk hx => hc ⟨L[k], List.getElem_mem hk, ?_⟩)⟩
    rw [(hR.2.2 k _ (List.getElem?_eq_getElem hk)).1] at hx
    exact hx
theorem fNd_tl {a : FN} {L : List FN} (h : fNd (a :: L)) : fNd L := fun j k p q hp hq hpq => by
  have := h (j + 1) (k + 1) p q (by rw [List.getElem?_cons_succ]; exact hp) (by rw [List.getElem?_cons_succ]; exact hq) hpq
  omega
theorem fNd_hd {a : FN} {L : List FN} (h : fNd (a :: L)) : ∀ e ∈ L, ¬ e.1 = a.1 := fun e he hx => by
  obtain ⟨k, hk⟩ := List.mem_iff_getElem?.mp he
  have := h (k + 1) 0 e a (by rw [List.getElem?_cons_succ]; exact hk) rfl hx
  omega
theorem fNd_cons {a : FN} {L : List FN} (h : fNd L) (ha : ∀ e ∈ L, ¬ e.1 = a.1) : fNd (a :: L) := by
  intro j k p q hp hq hpq
  cases j with
  | zero =>
    cases k with
    | zero => rfl
    | succ k =>
      rw [List.getElem?_cons_succ] at hq
      have hpa : p = a := by simpa using hp.symm
      exact absurd (hpa ▸ hpq.symm) (ha q (List.mem_of_getElem? hq))
  | succ j =>
    rw [List.getElem?_cons_succ] at hp
    cases k with
    | zero =>
      have hqa : q = a := by simpa using hq.symm
      exact absurd (hqa ▸ hpq) (ha p (List.mem_of_getElem? hp))
    | succ k =>
      rw [List.getElem?_cons_succ] at hq
      rw [h j k p q hp hq hpq]
theorem fNd_filter {p : FN → Bool} : ∀ {L : List FN}, fNd L → fNd (L.filter p)
  | [], h => h
  | a :: L, h => by
    rw [List.filter_cons]
    split
    · exact fNd_cons (fNd_filter (fNd_tl h)) (fun e he => fNd_hd h e (List.mem_filter.mp he).1)
    · exact fNd_filter (fNd_tl h)
theorem erase_offF : ∀ {L : List FN} {k : Nat} {e : FN}, fNd L → L[k]? = some e → L.eraseIdx k = L.filter (offF e.1)
  | [], _, _, _, h => by simp at h
  | a :: L, 0, e, hnd, h => by
    have hae : e = a := by simpa using h.symm
    subst hae
    rw [List.eraseIdx_cons_zero, List.filter_cons_of_neg (by simp [offF])]
    refine (List.filter_eq_self.mpr (fun q hq => ?_)).symm
    exact decide_eq_true (fNd_hd hnd q hq)
  | a :: L, k + 1, e, hnd, h => by
    rw [List.getElem?_cons_succ] at h
    have hne : ¬ a.1 = e.1 := fun hx => fNd_hd hnd e (List.mem_of_getElem? h) hx.symm
    rw [List.eraseIdx_cons_succ, List.filter_cons_of_pos (by exact decide_eq_true hne), erase_offF (fNd_tl hnd) h]
def acp (A d : Nat → Int32) (F k : Nat) : Nat → Int32 := fun j => if 7 * F ≤ j ∧ j < 7 * F + k then d (j - 7 * F) else A j
theorem acp_0 (A d : Nat → Int32) (F : Nat) : acp A d F 0 = A := by
  funext j; unfold acp; rw [if_neg (by omega)]
theorem acp_s (A d : Nat → Int32) (F k : Nat) : upd (acp A d F k) (7 * F + k) (d k) = acp A d F (k + 1) := by
  funext j
  unfold upd acp
  by_cases hj : j = 7 * F + k
  · subst hj; rw [if_pos rfl, if_pos (by omega)]; congr 1; omega
  · rw [if_neg hj]
    by_cases h1 : 7 * F ≤ j ∧ j < 7 * F + k
    · rw [if_pos h1, if_pos (by omega)]
    · rw [if_neg h1, if_neg (by omega)]
def hdS (S : MS) (F : Nat) : MS := mI (mI (st3 S (upd (S.2 2) F (S.1 12)) (upd (S.2 4) F 0) (acp (S.2 3) (S.2 9) F 7)) 1 (nI (F + 1))) 14 0
theorem st3_of (S : MS) (a b : Nat → Int32) : mA (mA S 2 a) 4 b = st3 S a b (S.2 3) := (mA_self (mA (mA S 2 a) 4 b) 3).symm
theorem fRep_hd {S : MS} {L : List FN} (hR : fRep S L) (hl : L.length < 32) : fRep (hdS S L.length) (L ++ [(S.1 12, 0, S.2 9)]) := by
  obtain ⟨h1, h2, h3⟩ := hR
  refine ⟨?_, by simp; omega, ?_⟩
  · show nI (L.length + 1) = _
    simp
  · intro k q hk
    show upd (S.2 2) L.length (S.1 12) k = q.1 ∧ upd (S.2 4) L.length 0 k = q.2.1 ∧ (q.2.1 = 0 ∨ q.2.1 = 1) ∧ ∀ w, w < 7 → acp (S.2 3) (S.2 9) L.length 7 (7 * k + w) = q.2.2 w
    have hkl : k < (L ++ [(S.1 12, (0 : Int32), S.2 9)]).length := (List.getElem?_eq_some_iff.mp hk).1
    rw [List.length_append, List.length_singleton] at hkl
    unfold upd acp
    by_cases hc : k = L.length
    · subst hc
      rw [List.getElem?_append_right (Nat.le_refl _), Nat.sub_self] at hk
      have hq : q = (S.1 12, (0 : Int32), S.2 9) := by simpa using hk.symm
      subst hq
      rw [if_pos rfl, if_pos rfl]
      refine ⟨rfl, rfl, Or.inl rfl, fun w hw => ?_⟩
      rw [if_pos (by omega)]
      show S.2 9 (7 * L.length + w - 7 * L.length) = S.2 9 w
      rw [Nat.add_sub_cancel_left]
    · rw [if_neg hc, if_neg hc]
      rw [List.getElem?_append_left (by omega)] at hk
      obtain ⟨a, b, c, d⟩ := h3 k q hk
      refine ⟨a, b, c, fun w hw => ?_⟩
      rw [if_neg (by omega)]
      exact d w hw
/-- what header and drop leave as it was -/
def dSame (S S' : MS) : Prop := (∀ k, k ≠ 0 → k ≠ 1 → k ≠ 5 → k ≠ 7 → k ≠ 14 → S'.1 k = S.1 k) ∧ ∀ k, k ≠ 2 → k ≠ 3 → k ≠ 4 → k ≠ 6 → k ≠ 8 → S'.2 k = S.2 k
theorem dSame_tr {A B C : MS} (h1 : dSame A B) (h2 : dSame B C) : dSame A C := ⟨fun k a b c d e => (h2.1 k a b c d e).trans (h1.1 k a b c d e), fun k a b c d e => (h2.2 k a b c d e).trans (h1.2 k a b c d e)⟩
theorem dSame_f {A B : MS} (h : fSame A B) : dSame A B := ⟨fun k _ b c d _ => h.1 k b c d, h.2⟩
theorem dSame_0 (S : MS) (v : Int32) : dSame S (mI S 0 v) := ⟨fun k a _ _ _ _ => if_neg a, fun _ _ _ _ _ _ => rfl⟩
theorem dSame_14 (S : MS) (v : Int32) : dSame S (mI S 14 v) := ⟨fun k _ _ _ _ a => if_neg a, fun _ _ _ _ _ _ => rfl⟩
theorem dSame_hd (S : MS) (F : Nat) : dSame S (hdS S F) := by
  refine ⟨fun k h0 h1 _ _ h14 => ?_, fun k h2 h3 h4 _ _ => ?_⟩
  · show (if k = 14 then _ else if k = 1 then _ else S.1 k) = S.1 k
    rw [if_neg h14, if_neg h1]
  · show (if k = 3 then _ else if k = 4 then _ else if k = 2 then _ else S.2 k) = S.2 k
    rw [if_neg h3, if_neg h4, if_neg h2]
def glIn (L : List GL) (FL : List FN) : Prop := ∀ g ∈ L, ∃ e ∈ FL, e.1 = g.1 0
theorem filt_no {L : List GL} {FL : List FN} {x : Int32} (hg : glIn L FL) (hx : ∀ e ∈ FL, ¬ e.1 = x) : L.filter (offG x) = L :=
  List.filter_eq_self.mpr (fun g hm => by
    obtain ⟨e, he, hex⟩ := hg g hm
    exact decide_eq_true (fun hh => hx e he (hex.trans hh)))
theorem filtF_no {FL : List FN} {x : Int32} (hx : ∀ e ∈ FL, ¬ e.1 = x) : FL.filter (offF x) = FL :=
  List.filter_eq_self.mpr (fun e he => decide_eq_true (hx e he))
def headR (S : MS) (FL : List FN) (L : List GL) (S' : MS) (r : Int32) : Prop :=
  ((∀ e ∈ FL, ¬ e.1 = S.1 12) ∧ FL.length = 32 ∧ r = 0 ∧ S' = mI S 0 1) ∨
  (¬ ((∀ e ∈ FL, ¬ e.1 = S.1 12) ∧ FL.length = 32) ∧ r = nI ((FL.filter (offF (S.1 12))).length + 1) ∧ S'.1 0 = 0 ∧ S'.1 14 = 0 ∧ dSame S S' ∧
    gRep S' (L.filter (offG (S.1 12))) ∧ fRep S' (FL.filter (offF (S.1 12)) ++ [(S.1 12, 0, S.2 9)]))
set_option maxHeartbeats 4000000 in
set_option maxRecDepth 100000 in
theorem lp_head {K : KT} {h : AH} {mo : Nat} {ad : Nat → Nat} {S : MS} {a b A : Nat → Int32} {F : Nat} {z : Int32} {Q : QR} {X : QX} (hds : mDis mo ad) (hF : S.1 1 = nI F) (hF2 : F < 32)
    (kk : V K mX4_header 106 [some (.ref mo), some (.int z), some (.int (nI 7))] [] (mPut h mo ad (st3 S a b (acp A (S.2 9) F 7))) 0 0 Q X) : ∀ t w : Nat, w + t = 7 → V K mX4_header 74 [some (.ref mo), some (.int z), some (.int (nI w))] [] (mPut h mo ad (st3 S a b (acp A (S.2 9) F w))) 0 0 Q X := by
  intro t
  induction t with
  | zero =>
    intro w hw
    have hw7 : w = 7 := by omega
    subst hw7
    refine v_iload_n 74 dX4_header_74 rfl rfl ?_
    refine v_bipush (v := 7) 75 dX4_header_75 (by decide) ?_
    refine v_icmp_ge (tgt := 106) 77 dX4_header_77 (by decide) (fun c77 => ?_) (fun c77 => absurd (by decide) c77)
    exact kk
  | succ t ih =>
    intro w hw
    have e1 : (7 : Int32) * S.1 1 + nI w = nI (7 * F + w) := by rw [hF, m7, nI_add]
    refine v_iload_n 74 dX4_header_74 rfl rfl ?_
    refine v_bipush (v := 7) 75 dX4_header_75 (by decide) ?_
    refine v_icmp_ge (tgt := 106) 77 dX4_header_77 (by decide) (fun c77 => absurd c77 (nI_ge (b := 7) (by omega) (by decide))) (fun c77 => ?_)
    refine v_aload_n 80 dX4_header_80 rfl rfl ?_
    refine v_getf 81 dX4_header_81 fl_X4_13 mPut_o rfl ?_
    refine v_bipush (v := 7) 84 dX4_header_84 (by decide) ?_
    refine v_aload_n 86 dX4_header_86 rfl rfl ?_
    refine v_getf 87 dX4_header_87 fl_X4_66 mPut_o rfl ?_
    refine v_imul 90 dX4_header_90 ?_
    refine v_iload_n 91 dX4_header_91 rfl rfl ?_
    refine v_iadd 92 dX4_header_92 ?_
    refine v_aload_n 93 dX4_header_93 rfl rfl ?_
    refine v_getf 94 dX4_header_94 fl_X4_27 mPut_o rfl ?_
    refine v_iload_n 97 dX4_header_97 rfl rfl ?_
    refine m_ild 98 9 dX4_header_98 hds (vp_in_nI (N := 7) (by omega) (by decide)) ?_
    refine m_ist 99 3 dX4_header_99 hds (by rw [st3_1, e1]; exact vp_in_nI (N := 231) (by omega) (by decide)) ?_
    refine v_inc2 (y := 1) 100 dX4_header_100 (by decide) ?_
    refine v_goto (tgt := 74) 103 dX4_header_103 (by decide) ?_
    refine V.eq (ih (w + 1) (by omega)) rfl (by rw [← nI_1]) rfl (congrArg (mPut h mo ad) ?_)
    rw [st3_3, st3_p3, st3_1, e1, nI_clamp (by omega), nI_clamp (by omega), show (st3 S a b (acp A (S.2 9) F w)).2 9 = S.2 9 from rfl, acp_s]
set_option maxHeartbeats 4000000 in
set_option maxRecDepth 100000 in
theorem hd_tail {K : KT} {h : AH} {mo : Nat} {ad : Nat → Nat} {S : MS} {F : Nat} {z : Int32} {Q : QR} {X : QX} (hds : mDis mo ad) (hF : S.1 1 = nI F) (hF2 : F < 32) (hq : Q (some (.int (nI (F + 1)))) (mPut h mo ad (hdS S F))) : V K mX4_header 49 [some (.ref mo), some (.int z), none] [] (mPut h mo ad S) 0 0 Q X := by
  refine v_aload_n 49 dX4_header_49 rfl rfl ?_
  refine v_getf 50 dX4_header_50 fl_X4_7 mPut_o rfl ?_
  refine v_aload_n 53 dX4_header_53 rfl rfl ?_
  refine v_getf 54 dX4_header_54 fl_X4_66 mPut_o rfl ?_
  refine v_aload_n 57 dX4_header_57 rfl rfl ?_
  refine v_getf 58 dX4_header_58 fl_X4_55 mPut_o rfl ?_
  refine m_ist 61 2 dX4_header_61 hds (by rw [hF]; exact vp_in_nI (N := 33) (by omega) (by decide)) ?_
  refine v_aload_n 62 dX4_header_62 rfl rfl ?_
  refine v_getf 63 dX4_header_63 fl_X4_16 mPut_o rfl ?_
  refine v_aload_n 66 dX4_header_66 rfl rfl ?_
  refine v_getf 67 dX4_header_67 fl_X4_66 mPut_o rfl ?_
  refine v_iconst (v := 0) 70 dX4_header_70 (by decide) ?_
  refine m_zst 71 4 dX4_header_71 hds (by rw [mA_1, hF]; exact vp_in_nI (N := 33) (by omega) (by decide)) ?_
  refine v_iconst (v := 0) 72 dX4_header_72 (by decide) ?_
  refine v_ist2 73 dX4_header_73 ?_
  refine V.eq (lp_head (S := S) (a := upd (S.2 2) F (S.1 12)) (b := upd (S.2 4) F 0) (A := S.2 3) (F := F) hds hF hF2 ?_ 7 0 (by omega)) rfl rfl rfl (congrArg (mPut h mo ad) ?_)
  · have e1 : S.1 1 + 1 = nI (F + 1) := by rw [hF, nI_1]
    refine v_aload_n 106 dX4_header_106 rfl rfl ?_
    refine v_dup 107 dX4_header_107 rfl ?_
    refine v_getf 108 dX4_header_108 fl_X4_66 mPut_o rfl ?_
    refine v_iconst (v := 1) 111 dX4_header_111 (by decide) ?_
    refine v_iadd 112 dX4_header_112 ?_
    refine m_put 113 dX4_header_113 fl_X4_66 ?_
    refine v_aload_n 116 dX4_header_116 rfl rfl ?_
    refine v_iconst (v := 0) 117 dX4_header_117 (by decide) ?_
    refine m_put 118 dX4_header_118 fl_X4_58 ?_
    refine v_aload_n 121 dX4_header_121 rfl rfl ?_
    refine v_getf 122 dX4_header_122 fl_X4_66 mPut_o rfl ?_
    refine v_iret 125 dX4_header_125 rfl rfl ?_
    rw [st3_1, e1]
    exact hq
  · rw [mA_1, hF, nI_clamp (by omega), acp_0, ← st3_of]
    rfl
set_option maxHeartbeats 4000000 in
set_option maxRecDepth 100000 in
theorem ct_header {K : KT} {h : AH} {mo : Nat} {ad : Nat → Nat} {S : MS} {L : List GL} {FL : List FN} (hds : mDis mo ad) (hR : gRep S L) (hFR : fRep S FL) (hnd : fNd FL) (hin : glIn L FL) : Ct K mX4_header 0 0 [.ref mo] (mPut h mo ad S) (fun r h' => ∃ (b : Int32) (S' : MS), r = some (.int b) ∧ h' = mPut h mo ad S' ∧ headR S FL L S' b) noX := by
  have hF32 := hFR.2.1
  refine ct_of (by decide +kernel) rfl (Nat.le_of_ble_eq_true rfl) rfl ?_
  refine v_aload_n 0 dX4_header_0 rfl rfl ?_
  refine v_aload_n 1 dX4_header_1 rfl rfl ?_
  refine v_getf 2 dX4_header_2 fl_X4_55 mPut_o rfl ?_
  refine m_call 5 [.int (S.1 12)] dX4_header_5 cv_X4_86 (ct_fontOf (F := FL.length) hds hFR.1 (by omega)) (fun r h' hq' => ?_)
  obtain ⟨rfl, rfl⟩ := hq'
  rcases fIx hFR hnd (S.1 12) with ⟨k, e, hk, hx, hix⟩ | ⟨hno, hix⟩
  · have hkl : k < FL.length := (List.getElem?_eq_some_iff.mp hk).1
    show V _ _ 8 _ [.int (lastIx (S.2 2) (S.1 12) FL.length)] _ _ _ _ _
    rw [hix]
    refine v_ist1 8 dX4_header_8 ?_
    refine v_aload_n 9 dX4_header_9 rfl rfl ?_
    refine v_iload_n 10 dX4_header_10 rfl rfl ?_
    refine v_if_ge (tgt := 27) 11 dX4_header_11 (by decide) (fun c11 => ?_) (fun c11 => absurd (nI_pos' (by omega)) c11)
    refine v_iconst (v := 0) 27 dX4_header_27 (by decide) ?_
    refine m_put 28 dX4_header_28 fl_X4_45 ?_
    refine v_aload_n 31 dX4_header_31 rfl rfl ?_
    refine v_getf 32 dX4_header_32 fl_X4_45 mPut_o rfl ?_
    refine v_if_le (tgt := 40) 35 dX4_header_35 (by decide) (fun c35 => ?_) (fun c35 => absurd (by rw [mI_s]; decide) c35)
    refine v_iload_n 40 dX4_header_40 rfl rfl ?_
    refine v_if_lt (tgt := 49) 41 dX4_header_41 (by decide) (fun c41 => absurd c41 (nI_pos (by omega))) (fun c41 => ?_)
    refine v_aload_n 44 dX4_header_44 rfl rfl ?_
    refine v_iload_n 45 dX4_header_45 rfl rfl ?_
    refine m_call 46 [.int (nI k)] dX4_header_46 cv_X4_89 (ct_goFont (S := mI S 0 0) hds (gRep_congr hR rfl rfl rfl rfl) (fRep_congr hFR rfl rfl rfl rfl) hk) (fun r h' hq' => ?_)
    obtain ⟨rfl, S1, rfl, hs1, hR1, hFR1⟩ := hq'
    rw [erase_offF hnd hk, hx] at hFR1
    rw [hx] at hR1
    have hlt : (FL.filter (offF (S.1 12))).length < 32 := by
      rw [← hx, ← erase_offF hnd hk, List.length_eraseIdx_of_lt hkl]; omega
    have h12 : S1.1 12 = S.1 12 := hs1.1 12 (by decide) (by decide) (by decide)
    have h9 : S1.2 9 = S.2 9 := hs1.2 9 (by decide) (by decide) (by decide) (by decide) (by decide)
    refine hd_tail (F := (FL.filter (offF (S.1 12))).length) hds hFR1.1 hlt ⟨_, _, rfl, rfl, Or.inr ⟨fun hh => hh.1 e (List.mem_of_getElem? hk) hx, rfl, ?_, rfl, dSame_tr (dSame_tr (dSame_0 S 0) (dSame_f hs1)) (dSame_hd _ _), gRep_congr hR1 rfl rfl rfl rfl, ?_⟩⟩
    · exact hs1.1 0 (by decide) (by decide) (by decide)
    · have := fRep_hd hFR1 hlt
      rw [h12, h9] at this
      exact this
  · show V _ _ 8 _ [.int (lastIx (S.2 2) (S.1 12) FL.length)] _ _ _ _ _
    rw [hix]
    refine v_ist1 8 dX4_header_8 ?_
    refine v_aload_n 9 dX4_header_9 rfl rfl ?_
    refine v_iload_n 10 dX4_header_10 rfl rfl ?_
    refine v_if_ge (tgt := 27) 11 dX4_header_11 (by decide) (fun c11 => absurd c11 (by decide)) (fun c11 => ?_)
    refine v_aload_n 14 dX4_header_14 rfl rfl ?_
    refine v_getf 15 dX4_header_15 fl_X4_66 mPut_o rfl ?_
    refine v_bipush (v := 32) 18 dX4_header_18 (by decide) ?_
    refine v_icmp_ne (tgt := 27) 20 dX4_header_20 (by decide) (fun c20 => ?_) (fun c20 => ?_)
    · refine v_iconst (v := 0) 27 dX4_header_27 (by decide) ?_
      refine m_put 28 dX4_header_28 fl_X4_45 ?_
      refine v_aload_n 31 dX4_header_31 rfl rfl ?_
      refine v_getf 32 dX4_header_32 fl_X4_45 mPut_o rfl ?_
      refine v_if_le (tgt := 40) 35 dX4_header_35 (by decide) (fun c35 => ?_) (fun c35 => absurd (by rw [mI_s]; decide) c35)
      refine v_iload_n 40 dX4_header_40 rfl rfl ?_
      refine v_if_lt (tgt := 49) 41 dX4_header_41 (by decide) (fun c41 => ?_) (fun c41 => absurd (by decide) c41)
      have hlt : FL.length < 32 := by
        refine Nat.lt_of_le_of_ne hF32 (fun hh => c20 ?_)
        rw [hFR.1, hh]; rfl
      refine hd_tail (F := FL.length) hds hFR.1 hlt ⟨_, _, rfl, rfl, Or.inr ⟨fun hh => absurd hh.2 (by omega), by rw [filtF_no hno], rfl, rfl, dSame_tr (dSame_0 S 0) (dSame_hd _ _), ?_, ?_⟩⟩
      · rw [filt_no hin hno]; exact gRep_congr hR rfl rfl rfl rfl
      · rw [filtF_no hno]; exact fRep_hd (fRep_congr (S' := mI S 0 0) hFR rfl rfl rfl rfl) hlt
    · refine v_iconst (v := 1) 23 dX4_header_23 (by decide) ?_
      refine v_goto (tgt := 28) 24 dX4_header_24 (by decide) ?_
      refine m_put 28 dX4_header_28 fl_X4_45 ?_
      refine v_aload_n 31 dX4_header_31 rfl rfl ?_
      refine v_getf 32 dX4_header_32 fl_X4_45 mPut_o rfl ?_
      refine v_if_le (tgt := 40) 35 dX4_header_35 (by decide) (fun c35 => absurd c35 (by rw [mI_s]; decide)) (fun c35 => ?_)
      refine v_iconst (v := 0) 38 dX4_header_38 (by decide) ?_
      refine v_iret 39 dX4_header_39 rfl rfl ?_
      exact ⟨_, _, rfl, rfl, Or.inl ⟨hno, (nI_eq (b := 32) (by omega) (by decide)).mp (hFR.1.symm.trans c20), rfl, rfl⟩⟩
end
section
def onGC (x c : Int32) (g : GL) : Bool := decide (g.1 0 = x ∧ g.1 1 = c)
def offGC (x c : Int32) (g : GL) : Bool := !(onGC x c g)
def gNd (L : List GL) : Prop := ∀ (j k : Nat) (a b : GL), L[j]? = some a → L[k]? = some b → a.1 0 = b.1 0 → a.1 1 = b.1 1 → j = k
theorem lastG_none {f : Nat → Int32} {x c : Int32} : ∀ n : Nat, (∀ k, k < n → ¬ (f (7 * k) = x ∧ f (7 * k + 1) = c)) → lastG f x c n = -1
  | 0, _ => rfl
  | n + 1, h => by rw [lastG, if_neg (h n (by omega)), lastG_none n (fun k hk => h k (by omega))]
theorem lastG_some {f : Nat → Int32} {x c : Int32} {k : Nat} : ∀ n : Nat, k < n → (f (7 * k) = x ∧ f (7 * k + 1) = c) → (∀ j, j < n → (f (7 * j) = x ∧ f (7 * j + 1) = c) → j = k) → lastG f x c n = nI k
  | 0, h, _, _ => absurd h (by omega)
  | n + 1, hk, hf, hu => by
    rw [lastG]
    by_cases hn : f (7 * n) = x ∧ f (7 * n + 1) = c
    · rw [if_pos hn, hu n (by omega) hn]
    · rw [if_neg hn]
      refine lastG_some n ?_ hf (fun j hj => hu j (by omega))
      by_cases hkn : k = n
      · exact absurd (hkn ▸ hf) hn
      · omega
theorem gIx {S : MS} {L : List GL} (hR : gRep S L) (hnd : gNd L) (x c : Int32) : (∃ (k : Nat) (e : GL), L[k]? = some e ∧ (e.1 0 = x ∧ e.1 1 = c) ∧ lastG (S.2 6) x c L.length = nI k) ∨ ((∀ e ∈ L, ¬ (e.1 0 = x ∧ e.1 1 = c)) ∧ lastG (S.2 6) x c L.length = -1) := by
  have h0 : ∀ k e, L[k]? = some e → S.2 6 (7 * k) = e.1 0 := fun k e hk => hR.2.2.1 k e hk 0 (by decide)
  have h1 : ∀ k e, L[k]? = some e → S.2 6 (7 * k + 1) = e.1 1 := fun k e hk => hR.2.2.1 k e hk 1 (by decide)
  by_cases hc : ∃ e ∈ L, e.1 0 = x ∧ e.1 1 = c
  · obtain ⟨e, he, hx⟩ := hc
    obtain ⟨k, hk⟩ := List.mem_iff_getElem?.mp he
    refine Or.inl ⟨k, e, hk, hx, lastG_some _ (List.getElem?_eq_some_iff.mp hk).1 (by rw [h0 k e hk, h1 k e hk]; exact hx) ?_⟩
    intro j hj hj2
    have hj' : L[j]? = some L[j] := List.getElem?_eq_getElem hj
    rw [h0 j _ hj', h1 j _ hj'] at hj2
    exact hnd j k _ e hj' hk (hj2.1.trans hx.1.symm) (hj2.2.trans hx.2.symm)
  · refine Or.inr ⟨fun e he hx => hc ⟨e, he, hx⟩, lastG_none _ (fun k hk hx => hc ⟨L[k], List.getElem_mem hk, ?_⟩)⟩
    rw [h0 k _ (List.getElem?_eq_getElem hk), h1 k _ (List.getElem?_eq_getElem hk)] at hx
    exact hx
theorem gNd_tl {a : GL} {L : List GL} (h : gNd (a :: L)) : gNd L := fun j k p q hp hq e0 e1 => by
  have := h (j + 1) (k + 1) p q (by rw [List.getElem?_cons_succ]; exact hp) (by rw [List.getElem?_cons_succ]; exact hq) e0 e1
  omega
theorem gNd_hd {a : GL} {L : List GL} (h : gNd (a :: L)) : ∀ e ∈ L, ¬ (e.1 0 = a.1 0 ∧ e.1 1 = a.1 1) := fun e he hx => by
  obtain ⟨k, hk⟩ := List.mem_iff_getElem?.mp he
  have := h (k + 1) 0 e a (by rw [List.getElem?_cons_succ]; exact hk) rfl hx.1 hx.2
  omega
theorem gNd_cons {a : GL} {L : List GL} (h : gNd L) (ha : ∀ e ∈ L, ¬ (e.1 0 = a.1 0 ∧ e.1 1 = a.1 1)) : gNd (a :: L) := by
  intro j k p q hp hq e0 e1
  cases j with
  | zero =>
    cases k with
    | zero => rfl
    | succ k =>
      rw [List.getElem?_cons_succ] at hq
      have hpa : p = a := by simpa using hp.symm
      subst hpa
      exact absurd ⟨e0.symm, e1.symm⟩ (ha q (List.mem_of_getElem? hq))
  | succ j =>
    rw [List.getElem?_cons_succ] at hp
    cases k with
    | zero =>
      have hqa : q = a := by simpa using hq.symm
      subst hqa
      exact absurd ⟨e0, e1⟩ (ha p (List.mem_of_getElem? hp))
    | succ k =>
      rw [List.getElem?_cons_succ] at hq
      rw [h j k p q hp hq e0 e1]
theorem gNd_filter {p : GL → Bool} : ∀ {L : List GL}, gNd L → gNd (L.filter p)
  | [], h => h
  | a :: L, h => by
    rw [List.filter_cons]
    split
    · exact gNd_cons (gNd_filter (gNd_tl h)) (fun e he => gNd_hd h e (List.mem_filter.mp he).1)
    · exact gNd_filter (gNd_tl h)
theorem erase_offGC : ∀ {L : List GL} {k : Nat} {e : GL}, gNd L → L[k]? = some e → L.eraseIdx k = L.filter (offGC (e.1 0) (e.1 1))
  | [], _, _, _, h => by simp at h
  | a :: L, 0, e, hnd, h => by
    have hae : e = a := by simpa using h.symm
    subst hae
    rw [List.eraseIdx_cons_zero, List.filter_cons_of_neg (by simp [offGC, onGC])]
    refine (List.filter_eq_self.mpr (fun q hq => ?_)).symm
    have := gNd_hd hnd q hq
    show (!decide _) = true
    rw [decide_eq_false this]; rfl
  | a :: L, k + 1, e, hnd, h => by
    rw [List.getElem?_cons_succ] at h
    have hne : ¬ (a.1 0 = e.1 0 ∧ a.1 1 = e.1 1) := fun hx => gNd_hd hnd e (List.mem_of_getElem? h) ⟨hx.1.symm, hx.2.symm⟩
    rw [List.eraseIdx_cons_succ, List.filter_cons_of_pos (by show (!decide _) = true; rw [decide_eq_false hne]; rfl), erase_offGC (gNd_tl hnd) h]
theorem offGC_no {L : List GL} {x c : Int32} (h : ∀ e ∈ L, ¬ (e.1 0 = x ∧ e.1 1 = c)) : L.filter (offGC x c) = L :=
  List.filter_eq_self.mpr (fun g hm => by show (!decide _) = true; rw [decide_eq_false (h g hm)]; rfl)
def dP (what x : Int32) (e : FN) : Bool := decide (what = 0 ∨ (what = 1 ∧ e.2.1 = 0) ∨ (what = 2 ∧ e.1 = x))
def dK (what x : Int32) (e : FN) : Bool := !(dP what x e)
def dG (what x : Int32) (FL : List FN) (g : GL) : Bool := decide (∀ e ∈ FL, dP what x e = true → ¬ g.1 0 = e.1)
theorem dG_nil (what x : Int32) (L : List GL) : L.filter (dG what x []) = L := List.filter_eq_self.mpr (fun g _ => decide_eq_true (fun e he => absurd he (by simp)))
theorem dG_pos {what x : Int32} {e : FN} {FL : List FN} (L : List GL) (h : dP what x e = true) : L.filter (dG what x (e :: FL)) = (L.filter (dG what x FL)).filter (offG e.1) := by
  rw [List.filter_filter]
  refine List.filter_congr (fun g _ => ?_)
  rw [Bool.eq_iff_iff, Bool.and_eq_true]
  unfold dG offG
  rw [decide_eq_true_iff, decide_eq_true_iff, decide_eq_true_iff]
  constructor
  · intro hh
    exact ⟨hh e (List.mem_cons_self) h, fun q hq => hh q (List.mem_cons_of_mem _ hq)⟩
  · rintro ⟨h1, h2⟩ q hq hp
    rcases List.mem_cons.mp hq with rfl | hq
    · exact h1
    · exact h2 q hq hp
theorem dG_neg {what x : Int32} {e : FN} {FL : List FN} (L : List GL) (h : ¬ dP what x e = true) : L.filter (dG what x (e :: FL)) = L.filter (dG what x FL) := by
  refine List.filter_congr (fun g _ => ?_)
  rw [Bool.eq_iff_iff]
  unfold dG
  rw [decide_eq_true_iff, decide_eq_true_iff]
  constructor
  · intro hh q hq
    exact hh q (List.mem_cons_of_mem _ hq)
  · intro h2 q hq hp
    rcases List.mem_cons.mp hq with rfl | hq
    · exact absurd hp h
    · exact h2 q hq hp
def dropR (S : MS) (FL : List FN) (L : List GL) (what : Int32) (S' : MS) (r : Int32) : Prop :=
  ((what < 0 ∨ ¬ what ≤ 3) ∧ r = 0 ∧ S' = mI S 0 1) ∨
  (¬ what < 0 ∧ what ≤ 3 ∧ S'.1 0 = 0 ∧ S'.1 14 = 0 ∧ dSame S S' ∧
    ((what = 3 ∧ fRep S' FL ∧ gRep S' (L.filter (offGC (S.1 12) (S.1 13))) ∧ ((r = 1 ∧ ∃ g ∈ L, g.1 0 = S.1 12 ∧ g.1 1 = S.1 13) ∨ (r = 0 ∧ ∀ g ∈ L, ¬ (g.1 0 = S.1 12 ∧ g.1 1 = S.1 13)))) ∨
     (¬ what = 3 ∧ fRep S' (FL.filter (dK what (S.1 12))) ∧ gRep S' (L.filter (dG what (S.1 12) FL)) ∧ r = nI (FL.filter (dP what (S.1 12))).length)))
set_option maxHeartbeats 4000000 in
set_option maxRecDepth 100000 in
theorem lp_drop {K : KT} {h : AH} {mo : Nat} {ad : Nat → Nat} {S : MS} {L : List GL} {FL : List FN} {what : Int32} {Q : QR} {X : QX} (hds : mDis mo ad) (hF : FL.length ≤ 32)
    (hq : ∀ S', fRep S' (FL.filter (dK what (S.1 12))) → gRep S' (L.filter (dG what (S.1 12) FL)) → fSame S S' → Q (some (.int (nI (FL.filter (dP what (S.1 12))).length))) (mPut h mo ad S')) : ∀ (j : Nat) (S' : MS), j ≤ FL.length → fRep S' (FL.take j ++ (FL.drop j).filter (dK what (S.1 12))) → gRep S' (L.filter (dG what (S.1 12) (FL.drop j))) → fSame S S' → V K mX4_drop 72 [some (.ref mo), some (.int what), some (.int (nI ((FL.drop j).filter (dP what (S.1 12))).length)), some (.int (kv j))] [] (mPut h mo ad S') 0 0 Q X := by
  intro j
  induction j with
  | zero =>
    intro S' hj hR hG hs
    rw [List.take_zero, List.nil_append, List.drop_zero] at hR
    rw [List.drop_zero] at hG ⊢
    refine v_iload_n 72 dX4_drop_72 rfl rfl ?_
    refine v_if_lt (tgt := 126) 73 dX4_drop_73 (by decide) (fun c73 => ?_) (fun c73 => absurd (by decide) c73)
    refine v_iload_n 126 dX4_drop_126 rfl rfl ?_
    refine v_iret 127 dX4_drop_127 rfl rfl ?_
    exact hq S' hR hG hs
  | succ j ih =>
    intro S' hj hR hG hs
    have hjl : j < FL.length := hj
    have hgj : FL[j]? = some FL[j] := List.getElem?_eq_getElem hjl
    have hlist : FL.take (j + 1) ++ (FL.drop (j + 1)).filter (dK what (S.1 12)) = FL.take j ++ (FL[j] :: (FL.drop (j + 1)).filter (dK what (S.1 12))) := by
      rw [show FL.take (j + 1) = FL.take j ++ [FL[j]] from by rw [List.take_succ, hgj]; rfl, List.append_assoc]; rfl
    have hat : (FL.take (j + 1) ++ (FL.drop (j + 1)).filter (dK what (S.1 12)))[j]? = some FL[j] := by
      rw [hlist, List.getElem?_append_right (by simp; omega)]; simp [Nat.min_eq_left (Nat.le_of_lt hjl)]
    have hdj : FL.drop j = FL[j] :: FL.drop (j + 1) := List.drop_eq_getElem_cons hjl
    obtain ⟨ei, ep, -, -⟩ := hR.2.2 j _ hat
    have e12 : S'.1 12 = S.1 12 := hs.1 12 (by decide) (by decide) (by decide)
    refine v_iload_n 72 dX4_drop_72 rfl rfl ?_
    refine v_if_lt (tgt := 126) 73 dX4_drop_73 (by decide) (fun c73 => absurd c73 (nI_pos (by omega))) (fun c73 => ?_)
    refine v_iload_n 76 dX4_drop_76 rfl rfl ?_
    refine v_if_eq (tgt := 112) 77 dX4_drop_77 (by decide) (fun c77 => ?_) (fun c77 => ?_)
    · have hp : dP what (S.1 12) FL[j] = true := by
        refine decide_eq_true ?_
        first
          | exact Or.inl c77
          | exact Or.inr (Or.inl ⟨c82, by rw [← ep, ← nI_clamp (n := j) (by omega)]; exact c91⟩)
          | exact Or.inr (Or.inr ⟨c96, by rw [← ei, ← e12, ← nI_clamp (n := j) (by omega)]; exact c109⟩)
      have hk : ¬ dK what (S.1 12) FL[j] = true := by unfold dK; rw [hp]; decide
      refine v_aload_n 112 dX4_drop_112 rfl rfl ?_
      refine v_iload_n 113 dX4_drop_113 rfl rfl ?_
      refine m_call 114 [.int (nI j)] dX4_drop_114 cv_X4_89 (ct_goFont hds hG hR hat) (fun r h' hq' => ?_)
      obtain ⟨rfl, S2, rfl, hs2, hG2, hR2⟩ := hq'
      refine v_inc2 (y := 1) 117 dX4_drop_117 (by decide) ?_
      refine v_inc3 (y := -1) 120 dX4_drop_120 (by decide) ?_
      refine v_goto (tgt := 72) 123 dX4_drop_123 (by decide) ?_
      refine V.eq (ih S2 (by omega) ?_ ?_ (fSame_tr hs hs2)) rfl ?_ rfl rfl
      · rw [hlist, List.eraseIdx_append_of_length_le (by simp; omega)] at hR2
        rw [hdj, List.filter_cons_of_neg hk]
        simpa [Nat.min_eq_left (Nat.le_of_lt hjl)] using hR2
      · rw [hdj, dG_pos L hp]; exact hG2
      · rw [hdj, List.filter_cons_of_pos hp, List.length_cons, ← nI_1, ← kv_dec j]; rfl
    · refine v_iload_n 80 dX4_drop_80 rfl rfl ?_
      refine v_iconst (v := 1) 81 dX4_drop_81 (by decide) ?_
      refine v_icmp_ne (tgt := 94) 82 dX4_drop_82 (by decide) (fun c82 => ?_) (fun c82 => ?_)
      · refine v_iload_n 94 dX4_drop_94 rfl rfl ?_
        refine v_iconst (v := 2) 95 dX4_drop_95 (by decide) ?_
        refine v_icmp_ne (tgt := 120) 96 dX4_drop_96 (by decide) (fun c96 => ?_) (fun c96 => ?_)
        · have hp : ¬ dP what (S.1 12) FL[j] = true := by
            intro hh
            rcases of_decide_eq_true hh with h0 | ⟨h1, h2⟩ | ⟨h1, h2⟩
            · exact c77 h0
            · first
                | exact c82 h1
                | exact c91 (by rw [← h2, ← ep, show kv (j + 1) = nI j from rfl, nI_clamp (n := j) (by omega)])
            · first
                | exact c96 h1
                | exact c109 (by rw [e12, ← h2, ← ei, show kv (j + 1) = nI j from rfl, nI_clamp (n := j) (by omega)])
          have hk : dK what (S.1 12) FL[j] = true := by unfold dK; rw [Bool.eq_false_iff.mpr hp]; rfl
          refine v_inc3 (y := -1) 120 dX4_drop_120 (by decide) ?_
          refine v_goto (tgt := 72) 123 dX4_drop_123 (by decide) ?_
          refine V.eq (ih S' (by omega) ?_ ?_ hs) rfl ?_ rfl rfl
          · rw [hdj, List.filter_cons_of_pos hk, ← hlist]; exact hR
          · rw [hdj, dG_neg L hp]; exact hG
          · rw [hdj, List.filter_cons_of_neg hp, ← kv_dec j]; rfl
        · refine v_aload_n 99 dX4_drop_99 rfl rfl ?_
          refine v_getf 100 dX4_drop_100 fl_X4_7 mPut_o rfl ?_
          refine v_iload_n 103 dX4_drop_103 rfl rfl ?_
          refine m_ild 104 2 dX4_drop_104 hds (vp_in_nI (N := 33) (by omega) (by decide)) ?_
          refine v_aload_n 105 dX4_drop_105 rfl rfl ?_
          refine v_getf 106 dX4_drop_106 fl_X4_55 mPut_o rfl ?_
          refine v_icmp_ne (tgt := 120) 109 dX4_drop_109 (by decide) (fun c109 => ?_) (fun c109 => ?_)
          · have hp : ¬ dP what (S.1 12) FL[j] = true := by
              intro hh
              rcases of_decide_eq_true hh with h0 | ⟨h1, h2⟩ | ⟨h1, h2⟩
              · exact c77 h0
              · first
                  | exact c82 h1
                  | exact c91 (by rw [← h2, ← ep, show kv (j + 1) = nI j from rfl, nI_clamp (n := j) (by omega)])
              · first
                  | exact c96 h1
                  | exact c109 (by rw [e12, ← h2, ← ei, show kv (j + 1) = nI j from rfl, nI_clamp (n := j) (by omega)])
            have hk : dK what (S.1 12) FL[j] = true := by unfold dK; rw [Bool.eq_false_iff.mpr hp]; rfl
            refine v_inc3 (y := -1) 120 dX4_drop_120 (by decide) ?_
            refine v_goto (tgt := 72) 123 dX4_drop_123 (by decide) ?_
            refine V.eq (ih S' (by omega) ?_ ?_ hs) rfl ?_ rfl rfl
            · rw [hdj, List.filter_cons_of_pos hk, ← hlist]; exact hR
            · rw [hdj, dG_neg L hp]; exact hG
            · rw [hdj, List.filter_cons_of_neg hp, ← kv_dec j]; rfl
          · have hp : dP what (S.1 12) FL[j] = true := by
              refine decide_eq_true ?_
              first
                | exact Or.inl c77
                | exact Or.inr (Or.inl ⟨c82, by rw [← ep, ← nI_clamp (n := j) (by omega)]; exact c91⟩)
                | exact Or.inr (Or.inr ⟨c96, by rw [← ei, ← e12, ← nI_clamp (n := j) (by omega)]; exact c109⟩)
            have hk : ¬ dK what (S.1 12) FL[j] = true := by unfold dK; rw [hp]; decide
            refine v_aload_n 112 dX4_drop_112 rfl rfl ?_
            refine v_iload_n 113 dX4_drop_113 rfl rfl ?_
            refine m_call 114 [.int (nI j)] dX4_drop_114 cv_X4_89 (ct_goFont hds hG hR hat) (fun r h' hq' => ?_)
            obtain ⟨rfl, S2, rfl, hs2, hG2, hR2⟩ := hq'
            refine v_inc2 (y := 1) 117 dX4_drop_117 (by decide) ?_
            refine v_inc3 (y := -1) 120 dX4_drop_120 (by decide) ?_
            refine v_goto (tgt := 72) 123 dX4_drop_123 (by decide) ?_
            refine V.eq (ih S2 (by omega) ?_ ?_ (fSame_tr hs hs2)) rfl ?_ rfl rfl
            · rw [hlist, List.eraseIdx_append_of_length_le (by simp; omega)] at hR2
              rw [hdj, List.filter_cons_of_neg hk]
              simpa [Nat.min_eq_left (Nat.le_of_lt hjl)] using hR2
            · rw [hdj, dG_pos L hp]; exact hG2
            · rw [hdj, List.filter_cons_of_pos hp, List.length_cons, ← nI_1, ← kv_dec j]; rfl
      · refine v_aload_n 85 dX4_drop_85 rfl rfl ?_
        refine v_getf 86 dX4_drop_86 fl_X4_16 mPut_o rfl ?_
        refine v_iload_n 89 dX4_drop_89 rfl rfl ?_
        refine m_zld 90 4 dX4_drop_90 hds (vp_in_nI (N := 33) (by omega) (by decide)) ?_
        refine v_if_eq (tgt := 112) 91 dX4_drop_91 (by decide) (fun c91 => ?_) (fun c91 => ?_)
        · have hp : dP what (S.1 12) FL[j] = true := by
            refine decide_eq_true ?_
            first
              | exact Or.inl c77
              | exact Or.inr (Or.inl ⟨c82, by rw [← ep, ← nI_clamp (n := j) (by omega)]; exact c91⟩)
              | exact Or.inr (Or.inr ⟨c96, by rw [← ei, ← e12, ← nI_clamp (n := j) (by omega)]; exact c109⟩)
          have hk : ¬ dK what (S.1 12) FL[j] = true := by unfold dK; rw [hp]; decide
          refine v_aload_n 112 dX4_drop_112 rfl rfl ?_
          refine v_iload_n 113 dX4_drop_113 rfl rfl ?_
          refine m_call 114 [.int (nI j)] dX4_drop_114 cv_X4_89 (ct_goFont hds hG hR hat) (fun r h' hq' => ?_)
          obtain ⟨rfl, S2, rfl, hs2, hG2, hR2⟩ := hq'
          refine v_inc2 (y := 1) 117 dX4_drop_117 (by decide) ?_
          refine v_inc3 (y := -1) 120 dX4_drop_120 (by decide) ?_
          refine v_goto (tgt := 72) 123 dX4_drop_123 (by decide) ?_
          refine V.eq (ih S2 (by omega) ?_ ?_ (fSame_tr hs hs2)) rfl ?_ rfl rfl
          · rw [hlist, List.eraseIdx_append_of_length_le (by simp; omega)] at hR2
            rw [hdj, List.filter_cons_of_neg hk]
            simpa [Nat.min_eq_left (Nat.le_of_lt hjl)] using hR2
          · rw [hdj, dG_pos L hp]; exact hG2
          · rw [hdj, List.filter_cons_of_pos hp, List.length_cons, ← nI_1, ← kv_dec j]; rfl
        · refine v_iload_n 94 dX4_drop_94 rfl rfl ?_
          refine v_iconst (v := 2) 95 dX4_drop_95 (by decide) ?_
          refine v_icmp_ne (tgt := 120) 96 dX4_drop_96 (by decide) (fun c96 => ?_) (fun c96 => ?_)
          · have hp : ¬ dP what (S.1 12) FL[j] = true := by
              intro hh
              rcases of_decide_eq_true hh with h0 | ⟨h1, h2⟩ | ⟨h1, h2⟩
              · exact c77 h0
              · first
                  | exact c82 h1
                  | exact c91 (by rw [← h2, ← ep, show kv (j + 1) = nI j from rfl, nI_clamp (n := j) (by omega)])
              · first
                  | exact c96 h1
                  | exact c109 (by rw [e12, ← h2, ← ei, show kv (j + 1) = nI j from rfl, nI_clamp (n := j) (by omega)])
            have hk : dK what (S.1 12) FL[j] = true := by unfold dK; rw [Bool.eq_false_iff.mpr hp]; rfl
            refine v_inc3 (y := -1) 120 dX4_drop_120 (by decide) ?_
            refine v_goto (tgt := 72) 123 dX4_drop_123 (by decide) ?_
            refine V.eq (ih S' (by omega) ?_ ?_ hs) rfl ?_ rfl rfl
            · rw [hdj, List.filter_cons_of_pos hk, ← hlist]; exact hR
            · rw [hdj, dG_neg L hp]; exact hG
            · rw [hdj, List.filter_cons_of_neg hp, ← kv_dec j]; rfl
          · refine v_aload_n 99 dX4_drop_99 rfl rfl ?_
            refine v_getf 100 dX4_drop_100 fl_X4_7 mPut_o rfl ?_
            refine v_iload_n 103 dX4_drop_103 rfl rfl ?_
            refine m_ild 104 2 dX4_drop_104 hds (vp_in_nI (N := 33) (by omega) (by decide)) ?_
            refine v_aload_n 105 dX4_drop_105 rfl rfl ?_
            refine v_getf 106 dX4_drop_106 fl_X4_55 mPut_o rfl ?_
            refine v_icmp_ne (tgt := 120) 109 dX4_drop_109 (by decide) (fun c109 => ?_) (fun c109 => ?_)
            · have hp : ¬ dP what (S.1 12) FL[j] = true := by
                intro hh
                rcases of_decide_eq_true hh with h0 | ⟨h1, h2⟩ | ⟨h1, h2⟩
                · exact c77 h0
                · first
                    | exact c82 h1
                    | exact c91 (by rw [← h2, ← ep, show kv (j + 1) = nI j from rfl, nI_clamp (n := j) (by omega)])
                · first
                    | exact c96 h1
                    | exact c109 (by rw [e12, ← h2, ← ei, show kv (j + 1) = nI j from rfl, nI_clamp (n := j) (by omega)])
              have hk : dK what (S.1 12) FL[j] = true := by unfold dK; rw [Bool.eq_false_iff.mpr hp]; rfl
              refine v_inc3 (y := -1) 120 dX4_drop_120 (by decide) ?_
              refine v_goto (tgt := 72) 123 dX4_drop_123 (by decide) ?_
              refine V.eq (ih S' (by omega) ?_ ?_ hs) rfl ?_ rfl rfl
              · rw [hdj, List.filter_cons_of_pos hk, ← hlist]; exact hR
              · rw [hdj, dG_neg L hp]; exact hG
              · rw [hdj, List.filter_cons_of_neg hp, ← kv_dec j]; rfl
            · have hp : dP what (S.1 12) FL[j] = true := by
                refine decide_eq_true ?_
                first
                  | exact Or.inl c77
                  | exact Or.inr (Or.inl ⟨c82, by rw [← ep, ← nI_clamp (n := j) (by omega)]; exact c91⟩)
                  | exact Or.inr (Or.inr ⟨c96, by rw [← ei, ← e12, ← nI_clamp (n := j) (by omega)]; exact c109⟩)
              have hk : ¬ dK what (S.1 12) FL[j] = true := by unfold dK; rw [hp]; decide
              refine v_aload_n 112 dX4_drop_112 rfl rfl ?_
              refine v_iload_n 113 dX4_drop_113 rfl rfl ?_
              refine m_call 114 [.int (nI j)] dX4_drop_114 cv_X4_89 (ct_goFont hds hG hR hat) (fun r h' hq' => ?_)
              obtain ⟨rfl, S2, rfl, hs2, hG2, hR2⟩ := hq'
              refine v_inc2 (y := 1) 117 dX4_drop_117 (by decide) ?_
              refine v_inc3 (y := -1) 120 dX4_drop_120 (by decide) ?_
              refine v_goto (tgt := 72) 123 dX4_drop_123 (by decide) ?_
              refine V.eq (ih S2 (by omega) ?_ ?_ (fSame_tr hs hs2)) rfl ?_ rfl rfl
              · rw [hlist, List.eraseIdx_append_of_length_le (by simp; omega)] at hR2
                rw [hdj, List.filter_cons_of_neg hk]
                simpa [Nat.min_eq_left (Nat.le_of_lt hjl)] using hR2
              · rw [hdj, dG_pos L hp]; exact hG2
              · rw [hdj, List.filter_cons_of_pos hp, List.length_cons, ← nI_1, ← kv_dec j]; rfl
set_option maxHeartbeats 4000000 in
set_option maxRecDepth 100000 in
theorem ct_drop {K : KT} {h : AH} {mo : Nat} {ad : Nat → Nat} {S : MS} {L : List GL} {FL : List FN} {what : Int32} (hds : mDis mo ad) (hR : gRep S L) (hFR : fRep S FL) (hnd : gNd L) : Ct K mX4_drop 0 0 [.ref mo, .int what] (mPut h mo ad S) (fun r h' => ∃ (b : Int32) (S' : MS), r = some (.int b) ∧ h' = mPut h mo ad S' ∧ dropR S FL L what S' b) noX := by
  have hF32 := hFR.2.1
  refine ct_of (by decide +kernel) rfl (Nat.le_of_ble_eq_true rfl) rfl ?_
  refine v_aload_n 0 dX4_drop_0 rfl rfl ?_
  refine v_iload_n 1 dX4_drop_1 rfl rfl ?_
  refine v_if_lt (tgt := 10) 2 dX4_drop_2 (by decide) (fun c2 => ?_) (fun c2 => ?_)
  · refine v_iconst (v := 1) 10 dX4_drop_10 (by decide) ?_
    refine v_goto (tgt := 15) 11 dX4_drop_11 (by decide) ?_
    refine m_put 15 dX4_drop_15 fl_X4_45 ?_
    refine v_aload_n 18 dX4_drop_18 rfl rfl ?_
    refine v_getf 19 dX4_drop_19 fl_X4_45 mPut_o rfl ?_
    refine v_if_le (tgt := 27) 22 dX4_drop_22 (by decide) (fun c22 => absurd c22 (by rw [mI_s]; decide)) (fun c22 => ?_)
    refine v_iconst (v := 0) 25 dX4_drop_25 (by decide) ?_
    refine v_iret 26 dX4_drop_26 rfl rfl ?_
    refine ⟨_, _, rfl, rfl, Or.inl ⟨?_, rfl, rfl⟩⟩
    first
      | exact Or.inl c2
      | exact Or.inr c7
  · refine v_iload_n 5 dX4_drop_5 rfl rfl ?_
    refine v_iconst (v := 3) 6 dX4_drop_6 (by decide) ?_
    refine v_icmp_le (tgt := 14) 7 dX4_drop_7 (by decide) (fun c7 => ?_) (fun c7 => ?_)
    · refine v_iconst (v := 0) 14 dX4_drop_14 (by decide) ?_
      refine m_put 15 dX4_drop_15 fl_X4_45 ?_
      refine v_aload_n 18 dX4_drop_18 rfl rfl ?_
      refine v_getf 19 dX4_drop_19 fl_X4_45 mPut_o rfl ?_
      refine v_if_le (tgt := 27) 22 dX4_drop_22 (by decide) (fun c22 => ?_) (fun c22 => absurd (by rw [mI_s]; decide) c22)
      refine v_aload_n 27 dX4_drop_27 rfl rfl ?_
      refine v_iconst (v := 0) 28 dX4_drop_28 (by decide) ?_
      refine m_put 29 dX4_drop_29 fl_X4_58 ?_
      refine v_iconst (v := 0) 32 dX4_drop_32 (by decide) ?_
      refine v_ist2 33 dX4_drop_33 ?_
      refine v_iload_n 34 dX4_drop_34 rfl rfl ?_
      refine v_iconst (v := 3) 35 dX4_drop_35 (by decide) ?_
      refine v_icmp_ne (tgt := 65) 36 dX4_drop_36 (by decide) (fun c36 => ?_) (fun c36 => ?_)
      · refine v_aload_n 65 dX4_drop_65 rfl rfl ?_
        refine v_getf 66 dX4_drop_66 fl_X4_66 mPut_o rfl ?_
        refine v_iconst (v := 1) 69 dX4_drop_69 (by decide) ?_
        refine v_isub 70 dX4_drop_70 ?_
        refine v_ist3 71 dX4_drop_71 ?_
        refine V.eq (lp_drop (S := mI (mI S 0 0) 14 0) (L := L) (FL := FL) (what := what) hds hF32 ?_ FL.length (mI (mI S 0 0) 14 0) (Nat.le_refl _) (by rw [List.take_length, List.drop_length, List.filter_nil, List.append_nil]; exact fRep_congr hFR rfl rfl rfl rfl) (by rw [List.drop_length, dG_nil]; exact gRep_congr hR rfl rfl rfl rfl) (fSame_rf _)) rfl (by rw [List.drop_length, show (mI (mI S 0 0) 14 0).1 1 = nI FL.length from hFR.1, kv_sub]; rfl) rfl rfl
        intro S2 hF2 hG2 hs2
        exact ⟨_, _, rfl, rfl, Or.inr ⟨c2, c7, hs2.1 0 (by decide) (by decide) (by decide), hs2.1 14 (by decide) (by decide) (by decide), dSame_tr (dSame_tr (dSame_0 S 0) (dSame_14 _ 0)) (dSame_f hs2), Or.inr ⟨c36, hF2, hG2, rfl⟩⟩⟩
      · refine v_aload_n 39 dX4_drop_39 rfl rfl ?_
        refine v_aload_n 40 dX4_drop_40 rfl rfl ?_
        refine v_getf 41 dX4_drop_41 fl_X4_55 mPut_o rfl ?_
        refine v_aload_n 44 dX4_drop_44 rfl rfl ?_
        refine v_getf 45 dX4_drop_45 fl_X4_52 mPut_o rfl ?_
        refine m_call 48 [.int (S.1 12), .int (S.1 13)] dX4_drop_48 cv_X4_100 (ct_glyphOf (S := mI (mI S 0 0) 14 0) (G := L.length) hds hR.1 hR.2.1) (fun r h' hq' => ?_)
        obtain ⟨rfl, rfl⟩ := hq'
        show V _ _ 51 _ [.int (lastG (S.2 6) (S.1 12) (S.1 13) L.length)] _ _ _ _ _
        rcases gIx hR hnd (S.1 12) (S.1 13) with ⟨k, e, hk, hx, hix⟩ | ⟨hno, hix⟩
        · rw [hix]
          have hkl : k < L.length := (List.getElem?_eq_some_iff.mp hk).1
          have hL := hR.2.1
          refine v_ist3 51 dX4_drop_51 ?_
          refine v_iload_n 52 dX4_drop_52 rfl rfl ?_
          refine v_if_lt (tgt := 63) 53 dX4_drop_53 (by decide) (fun c53 => absurd c53 (nI_pos (by omega))) (fun c53 => ?_)
          refine v_aload_n 56 dX4_drop_56 rfl rfl ?_
          refine v_iload_n 57 dX4_drop_57 rfl rfl ?_
          refine m_call 58 [.int (nI k)] dX4_drop_58 cv_X4_82 (ct_goG (S := mI (mI S 0 0) 14 0) hds (gRep_congr hR rfl rfl rfl rfl) hkl) (fun r h' hq' => ?_)
          obtain ⟨rfl, S2, rfl, hs2, hG2⟩ := hq'
          refine v_iconst (v := 1) 61 dX4_drop_61 (by decide) ?_
          refine v_ist2 62 dX4_drop_62 ?_
          refine v_iload_n 63 dX4_drop_63 rfl rfl ?_
          refine v_iret 64 dX4_drop_64 rfl rfl ?_
          rw [erase_offGC hnd hk, hx.1, hx.2] at hG2
          exact ⟨_, _, rfl, rfl, Or.inr ⟨c2, c7, hs2.1 0 (by decide) (by decide), hs2.1 14 (by decide) (by decide), dSame_tr (dSame_tr (dSame_0 S 0) (dSame_14 _ 0)) (dSame_f (fSame_g hs2)), Or.inl ⟨c36, fRep_congr hFR (hs2.1 1 (by decide) (by decide)) (hs2.2 2 (by decide) (by decide)) (hs2.2 3 (by decide) (by decide)) (hs2.2 4 (by decide) (by decide)), hG2, Or.inl ⟨rfl, e, List.mem_of_getElem? hk, hx⟩⟩⟩⟩
        · rw [hix]
          refine v_ist3 51 dX4_drop_51 ?_
          refine v_iload_n 52 dX4_drop_52 rfl rfl ?_
          refine v_if_lt (tgt := 63) 53 dX4_drop_53 (by decide) (fun c53 => ?_) (fun c53 => absurd (by decide) c53)
          refine v_iload_n 63 dX4_drop_63 rfl rfl ?_
          refine v_iret 64 dX4_drop_64 rfl rfl ?_
          refine ⟨_, _, rfl, rfl, Or.inr ⟨c2, c7, rfl, rfl, dSame_tr (dSame_0 S 0) (dSame_14 _ 0), Or.inl ⟨c36, fRep_congr hFR rfl rfl rfl rfl, ?_, Or.inr ⟨rfl, hno⟩⟩⟩⟩
          rw [offGC_no hno]
          exact gRep_congr hR rfl rfl rfl rfl
    · refine v_iconst (v := 1) 10 dX4_drop_10 (by decide) ?_
      refine v_goto (tgt := 15) 11 dX4_drop_11 (by decide) ?_
      refine m_put 15 dX4_drop_15 fl_X4_45 ?_
      refine v_aload_n 18 dX4_drop_18 rfl rfl ?_
      refine v_getf 19 dX4_drop_19 fl_X4_45 mPut_o rfl ?_
      refine v_if_le (tgt := 27) 22 dX4_drop_22 (by decide) (fun c22 => absurd c22 (by rw [mI_s]; decide)) (fun c22 => ?_)
      refine v_iconst (v := 0) 25 dX4_drop_25 (by decide) ?_
      refine v_iret 26 dX4_drop_26 rfl rfl ?_
      refine ⟨_, _, rfl, rfl, Or.inl ⟨?_, rfl, rfl⟩⟩
      first
        | exact Or.inl c2
        | exact Or.inr c7
end
section
def cpF (f : Nat → Int32) (a : Nat) (B : Nat → Int32) (k : Nat) : Nat → Int32 := fun j => if a ≤ j ∧ j < a + k then B (j - a) else f j
theorem cpF_0 (f : Nat → Int32) (a : Nat) (B : Nat → Int32) : cpF f a B 0 = f := by
  funext j; unfold cpF; rw [if_neg (by omega)]
theorem cpF_s (f : Nat → Int32) (a : Nat) (B : Nat → Int32) (k : Nat) : upd (cpF f a B k) (a + k) (B k) = cpF f a B (k + 1) := by
  funext j
  unfold upd cpF
  by_cases hj : j = a + k
  · subst hj; rw [if_pos rfl, if_pos (by omega), Nat.add_sub_cancel_left]
  · rw [if_neg hj]
    by_cases h1 : a ≤ j ∧ j < a + k
    · rw [if_pos h1, if_pos (by omega)]
    · rw [if_neg h1, if_neg (by omega)]
def byN (S : MS) (k : Nat) : Int32 := (byM S k).toInt8.toInt32
theorem byN_nar (S : MS) (k : Nat) : vp_nar .byte (byN S k) = byN S k := by
  show ((byM S k).toInt8.toInt32).toInt8.toInt32 = (byM S k).toInt8.toInt32
  rw [Int8.toInt8_toInt32]
theorem byN_congr {S S' : MS} (h15 : S'.2 15 = S.2 15) (h17 : S'.1 17 = S.1 17) (h18 : S'.2 18 = S.2 18) : byN S' = byN S := by
  funext k; unfold byN byM; rw [h15, h17, h18]
def ldG (S : MS) (N : Nat) : GL := (fun j => if j = 0 then S.1 12 else if j = 1 then S.1 13 else S.2 15 (j - 2), (List.range N).map (byN S))
theorem ldG_congr {S S' : MS} (N : Nat) (h12 : S'.1 12 = S.1 12) (h13 : S'.1 13 = S.1 13) (h15 : S'.2 15 = S.2 15) (h17 : S'.1 17 = S.1 17) (h18 : S'.2 18 = S.2 18) : ldG S' N = ldG S N := by
  unfold ldG; rw [byN_congr h15 h17 h18, h12, h13, h15]
def ldS (S : MS) (G U N : Nat) : MS := mI (mI (mA (mA S 6 (cpF (upd (upd (S.2 6) (7 * G) (S.1 12)) (7 * G + 1) (S.1 13)) (7 * G + 2) (S.2 15) 5)) 8 (cpF (S.2 8) U (byN S) N)) 5 (nI (G + 1))) 7 (nI (U + N))
def ldInv (S : MS) (N : Nat) : Prop := ∃ W D : Nat, S.2 15 2 = nI W ∧ S.2 15 3 = nI D ∧ W ≤ 128 ∧ D ≤ 128 ∧ N = D * ((W + 7) / 8) ∧ S.1 16 = nI N
theorem ldInv_congr {S S' : MS} {N : Nat} (h : ldInv S N) (h15 : S'.2 15 = S.2 15) (h16 : S'.1 16 = S.1 16) : ldInv S' N := by
  unfold ldInv; rw [h15, h16]; exact h
theorem ldInv_le {S : MS} {N : Nat} (h : ldInv S N) : N ≤ 2048 := by
  obtain ⟨W, D, -, -, h3, h4, h5, -⟩ := h
  have : (W + 7) / 8 ≤ 16 := by omega
  calc N = D * ((W + 7) / 8) := h5
    _ ≤ 128 * 16 := Nat.mul_le_mul h4 this
    _ = 2048 := rfl
theorem glOk_ld {S : MS} {N : Nat} (h : ldInv S N) : glOk (ldG S N) := by
  obtain ⟨W, D, h1, h2, h3, h4, h5, -⟩ := h
  refine ⟨W, D, h1, h2, h3, h4, by simp [ldG, h5], ?_⟩
  intro b hb
  obtain ⟨k, -, rfl⟩ := List.mem_map.mp hb
  exact byN_nar S k
theorem gRep_ld {S : MS} {L : List GL} {N : Nat} (hR : gRep S L) (hI : ldInv S N) (hL : L.length < 256) (hB : (flatB L).length + N ≤ 16384) : gRep (ldS S L.length (flatB L).length N) (L ++ [ldG S N]) := by
  obtain ⟨h1, h2, h3, h4, h5, h6, h7⟩ := hR
  have hfl : flatB (L ++ [ldG S N]) = flatB L ++ (List.range N).map (byN S) := by
    rw [flatB_app, flatB_cons]; simp [flatB, ldG]
  refine ⟨?_, by simp; omega, ?_, ?_, ?_, by rw [hfl]; simp; omega, ?_⟩
  · show nI (L.length + 1) = _
    simp
  · intro k q hk j hj
    show cpF (upd (upd (S.2 6) (7 * L.length) (S.1 12)) (7 * L.length + 1) (S.1 13)) (7 * L.length + 2) (S.2 15) 5 (7 * k + j) = q.1 j
    have hkl : k < (L ++ [ldG S N]).length := (List.getElem?_eq_some_iff.mp hk).1
    rw [List.length_append, List.length_singleton] at hkl
    unfold cpF upd
    by_cases hc : k = L.length
    · subst hc
      rw [List.getElem?_append_right (Nat.le_refl _), Nat.sub_self] at hk
      have hq : q = ldG S N := by simpa using hk.symm
      subst hq
      show _ = if j = 0 then S.1 12 else if j = 1 then S.1 13 else S.2 15 (j - 2)
      by_cases hj0 : j = 0
      · subst hj0; rw [if_neg (by omega), if_neg (by omega), if_pos (Nat.add_zero _)]; rfl
      · by_cases hj1 : j = 1
        · subst hj1; rw [if_neg (by omega), if_pos rfl, if_neg (by decide), if_pos rfl]
        · rw [if_pos (by omega), if_neg hj0, if_neg hj1]
          rw [show 7 * L.length + j - (7 * L.length + 2) = j - 2 by omega]
    · rw [if_neg (by omega), if_neg (by omega), if_neg (by omega)]
      rw [List.getElem?_append_left (by omega)] at hk
      exact h3 k q hk j hj
  · intro q hq
    rcases List.mem_append.mp hq with hq | hq
    · exact h4 q hq
    · rw [List.mem_singleton.mp hq]; exact glOk_ld hI
  · show nI ((flatB L).length + N) = _
    rw [hfl]; simp
  · intro j v hj
    show cpF (S.2 8) (flatB L).length (byN S) N j = v
    rw [hfl] at hj
    unfold cpF
    by_cases hc : j < (flatB L).length
    · rw [if_neg (by omega)]
      rw [List.getElem?_append_left hc] at hj
      exact h7 j v hj
    · rw [List.getElem?_append_right (by omega)] at hj
      have hjl := (List.getElem?_eq_some_iff.mp hj).1
      rw [List.length_map, List.length_range] at hjl
      rw [if_pos (by omega)]
      rw [List.getElem?_map, List.getElem?_range hjl] at hj
      simpa using hj
def onG (x : Int32) (g : GL) : Bool := decide (g.1 0 = x)
theorem cnt_take {S : MS} {L : List GL} (hR : gRep S L) (x : Int32) : ∀ k : Nat, k ≤ L.length → cntG (S.2 6) x k = nI ((L.take k).filter (onG x)).length
  | 0, _ => by rw [List.take_zero]; rfl
  | k + 1, hk => by
    have hk' : L[k]? = some (L[k]'(by omega)) := List.getElem?_eq_getElem (by omega)
    have e0 : S.2 6 (7 * k) = (L[k]'(by omega)).1 0 := hR.2.2.1 k _ hk' 0 (by decide)
    rw [cntG, cnt_take hR x k (by omega), e0, show L.take (k + 1) = L.take k ++ [L[k]'(by omega)] from by rw [List.take_succ, hk']; rfl, List.filter_append, List.length_append, ← nI_add]
    congr 1
    by_cases hx : (L[k]'(by omega)).1 0 = x
    · rw [if_pos hx, List.filter_cons_of_pos (by exact decide_eq_true hx)]; rfl
    · rw [if_neg hx, List.filter_cons_of_neg (by simpa [onG] using hx)]; rfl
theorem cnt_list {S : MS} {L : List GL} (hR : gRep S L) (x : Int32) : cntG (S.2 6) x L.length = nI (L.filter (onG x)).length := by
  rw [cnt_take hR x L.length (Nat.le_refl _), List.take_length]
def loadR (S : MS) (FL : List FN) (L : List GL) (N : Nat) (S' : MS) (r : Int32) : Prop :=
  (S.1 14 = 0 ∧ r = 0 ∧ S' = mI S 0 1) ∨
  (¬ S.1 14 = 0 ∧ (256 < (L.filter (offGC (S.1 12) (S.1 13))).length + 1 ∨ 16384 < (flatB (L.filter (offGC (S.1 12) (S.1 13)))).length + N) ∧ r = 0 ∧ S' = mI (mI S 14 0) 0 2) ∨
  (¬ S.1 14 = 0 ∧ ¬ (256 < (L.filter (offGC (S.1 12) (S.1 13))).length + 1 ∨ 16384 < (flatB (L.filter (offGC (S.1 12) (S.1 13)))).length + N) ∧ S'.1 0 = 0 ∧ S'.1 14 = 0 ∧ dSame S S' ∧ fRep S' FL ∧
    gRep S' (L.filter (offGC (S.1 12) (S.1 13)) ++ [ldG S N]) ∧ r = nI ((L.filter (offGC (S.1 12) (S.1 13)) ++ [ldG S N]).filter (onG (S.1 12))).length)
theorem dSame_ld (S : MS) (G U N : Nat) : dSame S (ldS S G U N) := by
  refine ⟨fun k h0 h1 h5 h7 h14 => ?_, fun k h2 h3 h4 h6 h8 => ?_⟩
  · show (if k = 7 then _ else if k = 5 then _ else S.1 k) = S.1 k
    rw [if_neg h7, if_neg h5]
  · show (if k = 8 then _ else if k = 6 then _ else S.2 k) = S.2 k
    rw [if_neg h8, if_neg h6]
theorem mI_c (S : MS) {j k : Nat} (a b : Int32) (h : j ≠ k) : mI (mI S j a) k b = mI (mI S k b) j a := by
  refine Prod.ext (funext fun i => ?_) rfl
  show (if i = k then b else if i = j then a else S.1 i) = (if i = j then a else if i = k then b else S.1 i)
  by_cases h1 : i = k
  · subst h1; rw [if_pos rfl, if_neg (fun e => h e.symm), if_pos rfl]
  · rw [if_neg h1, if_neg h1]
set_option maxHeartbeats 4000000 in
set_option maxRecDepth 100000 in
theorem lp_load1 {K : KT} {h : AH} {mo : Nat} {ad : Nat → Nat} {S : MS} {f : Nat → Int32} {G : Nat} {z1 z2 z3 : Int32} {Q : QR} {X : QX} (hds : mDis mo ad) (hG : G < 256)
    (kk : V K mX4_load 190 [some (.ref mo), some (.int z1), some (.int z2), some (.int z3), some (.int (nI (7 * G))), some (.int (nI 5))] [] (mPut h mo ad (mA S 6 (cpF f (7 * G + 2) (S.2 15) 5))) 0 0 Q X) : ∀ t k : Nat, k + t = 5 → V K mX4_load 159 [some (.ref mo), some (.int z1), some (.int z2), some (.int z3), some (.int (nI (7 * G))), some (.int (nI k))] [] (mPut h mo ad (mA S 6 (cpF f (7 * G + 2) (S.2 15) k))) 0 0 Q X := by
  intro t
  induction t with
  | zero =>
    intro k hk
    have hk5 : k = 5 := by omega
    subst hk5
    refine v_iload 159 dX4_load_159 rfl ?_
    refine v_iconst (v := 5) 161 dX4_load_161 (by decide) ?_
    refine v_icmp_ge (tgt := 190) 162 dX4_load_162 (by decide) (fun c162 => ?_) (fun c162 => absurd (by decide) c162)
    exact kk
  | succ t ih =>
    intro k hk
    have e1 : nI (7 * G) + 2 + nI k = nI (7 * G + 2 + k) := by rw [show (2 : Int32) = nI 2 from rfl, nI_add, nI_add]
    refine v_iload 159 dX4_load_159 rfl ?_
    refine v_iconst (v := 5) 161 dX4_load_161 (by decide) ?_
    refine v_icmp_ge (tgt := 190) 162 dX4_load_162 (by decide) (fun c162 => absurd c162 (nI_ge (b := 5) (by omega) (by decide))) (fun c162 => ?_)
    refine v_aload_n 165 dX4_load_165 rfl rfl ?_
    refine v_getf 166 dX4_load_166 fl_X4_20 mPut_o rfl ?_
    refine v_iload 169 dX4_load_169 rfl ?_
    refine v_iconst (v := 2) 171 dX4_load_171 (by decide) ?_
    refine v_iadd 172 dX4_load_172 ?_
    refine v_iload 173 dX4_load_173 rfl ?_
    refine v_iadd 175 dX4_load_175 ?_
    refine v_aload_n 176 dX4_load_176 rfl rfl ?_
    refine v_getf 177 dX4_load_177 fl_X4_36 mPut_o rfl ?_
    refine v_iload 180 dX4_load_180 rfl ?_
    refine m_ild 182 15 dX4_load_182 hds (vp_in_nI (N := 5) (by omega) (by decide)) ?_
    refine m_ist 183 6 dX4_load_183 hds (by rw [e1]; exact vp_in_nI (N := 1799) (by omega) (by decide)) ?_
    refine v_inc5 (y := 1) 184 dX4_load_184 (by decide) ?_
    refine v_goto (tgt := 159) 187 dX4_load_187 (by decide) ?_
    refine V.eq (ih (k + 1) (by omega)) rfl (by rw [← nI_1]) rfl (congrArg (mPut h mo ad) ?_)
    rw [mA_mA, mA_s, e1, nI_clamp (by omega), nI_clamp (by omega), show (mA S 6 (cpF f (7 * G + 2) (S.2 15) k)).2 15 = S.2 15 from rfl, cpF_s]
set_option maxHeartbeats 4000000 in
set_option maxRecDepth 100000 in
theorem lp_load2 {K : KT} {h : AH} {mo : Nat} {ad : Nat → Nat} {S : MS} {g : Nat → Int32} {G U N : Nat} {z1 z2 z3 : Int32} {Q : QR} {X : QX} (hds : mDis mo ad) (hU : S.1 7 = nI U) (hN : S.1 16 = nI N) (hUN : U + N ≤ 16384) (hN2 : N ≤ 2048)
    (kk : V K mX4_load 227 [some (.ref mo), some (.int z1), some (.int z2), some (.int z3), some (.int (nI (7 * G))), some (.int (nI N))] [] (mPut h mo ad (mA S 8 (cpF g U (byN S) N))) 0 0 Q X) : ∀ t k : Nat, k + t = N → V K mX4_load 193 [some (.ref mo), some (.int z1), some (.int z2), some (.int z3), some (.int (nI (7 * G))), some (.int (nI k))] [] (mPut h mo ad (mA S 8 (cpF g U (byN S) k))) 0 0 Q X := by
  intro t
  induction t with
  | zero =>
    intro k hk
    have hkN : k = N := by omega
    subst hkN
    refine v_iload 193 dX4_load_193 rfl ?_
    refine v_aload_n 195 dX4_load_195 rfl rfl ?_
    refine v_getf 196 dX4_load_196 fl_X4_92 mPut_o rfl ?_
    refine v_icmp_ge (tgt := 227) 199 dX4_load_199 (by decide) (fun c199 => ?_) (fun c199 => absurd (by rw [mA_1, hN]; exact nI_le (Nat.le_refl _) (by omega)) c199)
    exact kk
  | succ t ih =>
    intro k hk
    have e1 : S.1 7 + nI k = nI (U + k) := by rw [hU, nI_add]
    refine v_iload 193 dX4_load_193 rfl ?_
    refine v_aload_n 195 dX4_load_195 rfl rfl ?_
    refine v_getf 196 dX4_load_196 fl_X4_92 mPut_o rfl ?_
    refine v_icmp_ge (tgt := 227) 199 dX4_load_199 (by decide) (fun c199 => absurd c199 (by rw [mA_1, hN]; exact nI_ge (by omega) (by omega))) (fun c199 => ?_)
    refine v_aload_n 202 dX4_load_202 rfl rfl ?_
    refine v_getf 203 dX4_load_203 fl_X4_23 mPut_o rfl ?_
    refine v_aload_n 206 dX4_load_206 rfl rfl ?_
    refine v_getf 207 dX4_load_207 fl_X4_79 mPut_o rfl ?_
    refine v_iload 210 dX4_load_210 rfl ?_
    refine v_iadd 212 dX4_load_212 ?_
    refine v_aload_n 213 dX4_load_213 rfl rfl ?_
    refine v_iload 214 dX4_load_214 rfl ?_
    refine m_call 216 [.int (nI k)] dX4_load_216 cv_X4_104 (ct_byteOf hds (by omega)) (fun r h' hq' => ?_)
    obtain ⟨rfl, rfl⟩ := hq'
    refine v_i2b 219 dX4_load_219 rfl ?_
    refine m_bst 220 8 dX4_load_220 hds (by rw [mA_1, e1]; exact vp_in_nI (N := 20000) (by omega) (by decide)) ?_
    refine v_inc5 (y := 1) 221 dX4_load_221 (by decide) ?_
    refine v_goto (tgt := 193) 224 dX4_load_224 (by decide) ?_
    refine V.eq (ih (k + 1) (by omega)) rfl (by rw [← nI_1]) rfl (congrArg (mPut h mo ad) ?_)
    rw [mA_mA, mA_s, mA_1, e1, nI_clamp (by omega), show vp_nar .byte (byM (mA S 8 (cpF g U (byN S) k)) k).toInt8.toInt32 = byN S k from byN_nar S k, cpF_s]
set_option maxHeartbeats 4000000 in
set_option maxRecDepth 100000 in
theorem ld_tail {K : KT} {h : AH} {mo : Nat} {ad : Nat → Nat} {S : MS} {L : List GL} {N : Nat} {z1 z2 z3 : Int32} {Q : QR} {X : QX} (hds : mDis mo ad) (hR : gRep S L) (hI : ldInv S N) (hL : L.length < 256) (hB : (flatB L).length + N ≤ 16384)
    (hq : Q (some (.int (nI ((L ++ [ldG S N]).filter (onG (S.1 12))).length))) (mPut h mo ad (ldS S L.length (flatB L).length N))) : V K mX4_load 123 [some (.ref mo), some (.int z1), some (.int z2), some (.int z3), none, none] [] (mPut h mo ad S) 0 0 Q X := by
  have hN2 := ldInv_le hI
  have hN : S.1 16 = nI N := hI.choose_spec.choose_spec.2.2.2.2.2
  have hRL := gRep_ld hR hI hL hB
  have e7 : (7 : Int32) * S.1 5 = nI (7 * L.length) := by rw [hR.1, m7]
  refine v_bipush (v := 7) 123 dX4_load_123 (by decide) ?_
  refine v_aload_n 125 dX4_load_125 rfl rfl ?_
  refine v_getf 126 dX4_load_126 fl_X4_73 mPut_o rfl ?_
  refine v_imul 129 dX4_load_129 ?_
  refine v_ist4 130 dX4_load_130 ?_
  rw [e7]
  refine v_aload_n 132 dX4_load_132 rfl rfl ?_
  refine v_getf 133 dX4_load_133 fl_X4_20 mPut_o rfl ?_
  refine v_iload 136 dX4_load_136 rfl ?_
  refine v_aload_n 138 dX4_load_138 rfl rfl ?_
  refine v_getf 139 dX4_load_139 fl_X4_55 mPut_o rfl ?_
  refine m_ist 142 6 dX4_load_142 hds (vp_in_nI (N := 1799) (by omega) (by decide)) ?_
  refine v_aload_n 143 dX4_load_143 rfl rfl ?_
  refine v_getf 144 dX4_load_144 fl_X4_20 mPut_o rfl ?_
  refine v_iload 147 dX4_load_147 rfl ?_
  refine v_iconst (v := 1) 149 dX4_load_149 (by decide) ?_
  refine v_iadd 150 dX4_load_150 ?_
  refine v_aload_n 151 dX4_load_151 rfl rfl ?_
  refine v_getf 152 dX4_load_152 fl_X4_52 mPut_o rfl ?_
  refine m_ist 155 6 dX4_load_155 hds (by rw [nI_1]; exact vp_in_nI (N := 1799) (by omega) (by decide)) ?_
  refine v_iconst (v := 0) 156 dX4_load_156 (by decide) ?_
  refine v_ist5 157 dX4_load_157 ?_
  refine V.eq (lp_load1 (S := S) (f := upd (upd (S.2 6) (7 * L.length) (S.1 12)) (7 * L.length + 1) (S.1 13)) (G := L.length) hds hL ?_ 5 0 (by omega)) rfl rfl rfl (congrArg (mPut h mo ad) (by rw [cpF_0, nI_1, nI_clamp (by omega), nI_clamp (by omega), mA_mA]; rfl))
  refine v_iconst (v := 0) 190 dX4_load_190 (by decide) ?_
  refine v_ist5 191 dX4_load_191 ?_
  refine V.eq (lp_load2 (S := mA S 6 (cpF (upd (upd (S.2 6) (7 * L.length) (S.1 12)) (7 * L.length + 1) (S.1 13)) (7 * L.length + 2) (S.2 15) 5)) (g := S.2 8) (G := L.length) (U := (flatB L).length) (N := N) hds hR.2.2.2.2.1 hN hB hN2 ?_ N 0 (by omega)) rfl rfl rfl (congrArg (mPut h mo ad) (by rw [cpF_0]; exact mA_self _ 8))
  have eU : S.1 7 + S.1 16 = nI ((flatB L).length + N) := by rw [hR.2.2.2.2.1, hN, nI_add]
  have eG : S.1 5 + 1 = nI (L.length + 1) := by rw [hR.1, nI_1]
  have eS : mI (mI (mA (mA S 6 (cpF (upd (upd (S.2 6) (7 * L.length) (S.1 12)) (7 * L.length + 1) (S.1 13)) (7 * L.length + 2) (S.2 15) 5)) 8 (cpF (S.2 8) (flatB L).length (byN S) N)) 5 (S.1 5 + 1)) 7 (S.1 7 + S.1 16) = ldS S L.length (flatB L).length N := by
    rw [eU, eG]; rfl
  refine v_aload_n 227 dX4_load_227 rfl rfl ?_
  refine v_dup 228 dX4_load_228 rfl ?_
  refine v_getf 229 dX4_load_229 fl_X4_73 mPut_o rfl ?_
  refine v_iconst (v := 1) 232 dX4_load_232 (by decide) ?_
  refine v_iadd 233 dX4_load_233 ?_
  refine m_put 234 dX4_load_234 fl_X4_73 ?_
  refine v_aload_n 237 dX4_load_237 rfl rfl ?_
  refine v_dup 238 dX4_load_238 rfl ?_
  refine v_getf 239 dX4_load_239 fl_X4_79 mPut_o rfl ?_
  refine v_aload_n 242 dX4_load_242 rfl rfl ?_
  refine v_getf 243 dX4_load_243 fl_X4_92 mPut_o rfl ?_
  refine v_iadd 246 dX4_load_246 ?_
  refine m_put 247 dX4_load_247 fl_X4_79 ?_
  refine V.eq (h := mPut h mo ad (ldS S L.length (flatB L).length N)) ?_ rfl rfl rfl (congrArg (mPut h mo ad) eS.symm)
  refine v_aload_n 250 dX4_load_250 rfl rfl ?_
  refine v_aload_n 251 dX4_load_251 rfl rfl ?_
  refine v_getf 252 dX4_load_252 fl_X4_55 mPut_o rfl ?_
  refine m_call 255 [.int (S.1 12)] dX4_load_255 cv_X4_107 (ct_glyphsOf (G := L.length + 1) hds rfl (by omega)) (fun r h' hq' => ?_)
  obtain ⟨rfl, rfl⟩ := hq'
  refine v_iret 258 dX4_load_258 rfl rfl ?_
  have hc := cnt_list hRL (S.1 12)
  rw [List.length_append, List.length_singleton] at hc
  rw [hc]
  exact hq
set_option maxHeartbeats 4000000 in
set_option maxRecDepth 100000 in
theorem ct_load {K : KT} {h : AH} {mo : Nat} {ad : Nat → Nat} {S : MS} {L : List GL} {FL : List FN} {N : Nat} (hds : mDis mo ad) (hR : gRep S L) (hFR : fRep S FL) (hnd : gNd L) (hI : ¬ S.1 14 = 0 → ldInv S N) : Ct K mX4_load 0 0 [.ref mo] (mPut h mo ad S) (fun r h' => ∃ (b : Int32) (S' : MS), r = some (.int b) ∧ h' = mPut h mo ad S' ∧ loadR S FL L N S' b) noX := by
  refine ct_of (by decide +kernel) rfl (Nat.le_of_ble_eq_true rfl) rfl ?_
  refine v_aload_n 0 dX4_load_0 rfl rfl ?_
  refine v_aload_n 1 dX4_load_1 rfl rfl ?_
  refine v_getf 2 dX4_load_2 fl_X4_58 mPut_o rfl ?_
  refine v_if_eq (tgt := 12) 5 dX4_load_5 (by decide) (fun c5 => ?_) (fun c5 => ?_)
  · refine v_iconst (v := 1) 12 dX4_load_12 (by decide) ?_
    refine m_put 13 dX4_load_13 fl_X4_45 ?_
    refine v_aload_n 16 dX4_load_16 rfl rfl ?_
    refine v_getf 17 dX4_load_17 fl_X4_45 mPut_o rfl ?_
    refine v_if_le (tgt := 25) 20 dX4_load_20 (by decide) (fun c20 => absurd c20 (by rw [mI_s]; decide)) (fun c20 => ?_)
    refine v_iconst (v := 0) 23 dX4_load_23 (by decide) ?_
    refine v_iret 24 dX4_load_24 rfl rfl ?_
    exact ⟨_, _, rfl, rfl, Or.inl ⟨c5, rfl, rfl⟩⟩
  · refine v_iconst (v := 0) 8 dX4_load_8 (by decide) ?_
    refine v_goto (tgt := 13) 9 dX4_load_9 (by decide) ?_
    refine m_put 13 dX4_load_13 fl_X4_45 ?_
    refine v_aload_n 16 dX4_load_16 rfl rfl ?_
    refine v_getf 17 dX4_load_17 fl_X4_45 mPut_o rfl ?_
    refine v_if_le (tgt := 25) 20 dX4_load_20 (by decide) (fun c20 => ?_) (fun c20 => absurd (by rw [mI_s]; decide) c20)
    refine v_aload_n 25 dX4_load_25 rfl rfl ?_
    refine v_iconst (v := 0) 26 dX4_load_26 (by decide) ?_
    refine m_put 27 dX4_load_27 fl_X4_58 ?_
    refine v_aload_n 30 dX4_load_30 rfl rfl ?_
    refine v_aload_n 31 dX4_load_31 rfl rfl ?_
    refine v_getf 32 dX4_load_32 fl_X4_55 mPut_o rfl ?_
    refine v_aload_n 35 dX4_load_35 rfl rfl ?_
    refine v_getf 36 dX4_load_36 fl_X4_52 mPut_o rfl ?_
    have hI' := hI c5
    have hN2 := ldInv_le hI'
    have hN : S.1 16 = nI N := hI'.choose_spec.choose_spec.2.2.2.2.2
    refine m_call 39 [.int (S.1 12), .int (S.1 13)] dX4_load_39 cv_X4_100 (ct_glyphOf (S := mI (mI S 0 0) 14 0) (G := L.length) hds hR.1 hR.2.1) (fun r h' hq' => ?_)
    obtain ⟨rfl, rfl⟩ := hq'
    show V _ _ 42 _ [.int (lastG (S.2 6) (S.1 12) (S.1 13) L.length)] _ _ _ _ _
    rcases gIx hR hnd (S.1 12) (S.1 13) with ⟨k, e, hk, hx, hix⟩ | ⟨hno, hix⟩
    · rw [hix]
      have hkl : k < L.length := (List.getElem?_eq_some_iff.mp hk).1
      have hL := hR.2.1
      have hU := hR.2.2.2.2.2.1
      have hsz : (flatB L).length = (flatB (L.eraseIdx k)).length + e.2.length := by
        obtain ⟨L1, L2, g, rfl, rfl, hg⟩ := split_at hkl
        have hge : g = e := by rw [hk] at hg; exact (Option.some.inj hg).symm
        subst hge
        rw [List.eraseIdx_append_of_length_le (Nat.le_refl _), Nat.sub_self, List.eraseIdx_cons_zero, flatB_split, flatB_app]
        simp; omega
      have hlen : L.length = (L.eraseIdx k).length + 1 := by rw [List.length_eraseIdx_of_lt hkl]; omega
      rw [erase_offGC hnd hk, hx.1, hx.2] at hsz hlen
      have eA : S.1 5 + 0 = nI L.length := by rw [hR.1, show (0 : Int32) = nI 0 from rfl, nI_add]; rfl
      have eR : S.1 7 + S.1 16 - gB S k = nI ((flatB (L.filter (offGC (S.1 12) (S.1 13)))).length + N) := by
        rw [hR.2.2.2.2.1, hN, gRep_B hR hk, nI_add, pk_sub (by omega)]; congr 1; omega
      refine v_ist1 42 dX4_load_42 ?_
      refine v_aload_n 43 dX4_load_43 rfl rfl ?_
      refine v_getf 44 dX4_load_44 fl_X4_73 mPut_o rfl ?_
      refine v_iload_n 47 dX4_load_47 rfl rfl ?_
      refine v_if_ge (tgt := 55) 48 dX4_load_48 (by decide) (fun c48 => ?_) (fun c48 => absurd (nI_pos' (by omega)) c48)
      refine v_iconst (v := 0) 55 dX4_load_55 (by decide) ?_
      refine v_iadd 56 dX4_load_56 ?_
      refine v_ist2 57 dX4_load_57 ?_
      refine v_aload_n 58 dX4_load_58 rfl rfl ?_
      refine v_getf 59 dX4_load_59 fl_X4_79 mPut_o rfl ?_
      refine v_aload_n 62 dX4_load_62 rfl rfl ?_
      refine v_getf 63 dX4_load_63 fl_X4_92 mPut_o rfl ?_
      refine v_iadd 66 dX4_load_66 ?_
      refine v_iload_n 67 dX4_load_67 rfl rfl ?_
      refine v_if_ge (tgt := 75) 68 dX4_load_68 (by decide) (fun c68 => ?_) (fun c68 => absurd (nI_pos' (by omega)) c68)
      refine v_aload_n 75 dX4_load_75 rfl rfl ?_
      refine v_iload_n 76 dX4_load_76 rfl rfl ?_
      refine m_call 77 [.int (nI k)] dX4_load_77 cv_X4_69 (ct_bytesN hds (by omega)) (fun r h' hq' => ?_)
      obtain ⟨rfl, rfl⟩ := hq'
      refine v_isub 80 dX4_load_80 ?_
      refine v_ist3 81 dX4_load_81 ?_
      rw [show (mI (mI S 0 0) 14 0).1 5 + 0 = nI L.length from eA, show (mI (mI S 0 0) 14 0).1 7 + (mI (mI S 0 0) 14 0).1 16 - gB (mI (mI S 0 0) 14 0) k = _ from eR]
      refine v_aload_n 82 dX4_load_82 rfl rfl ?_
      refine v_iload_n 83 dX4_load_83 rfl rfl ?_
      refine v_sipush (v := 256) 84 dX4_load_84 (by decide) ?_
      refine v_icmp_gt (tgt := 97) 87 dX4_load_87 (by decide) (fun c87 => absurd c87 (nI_nlt (a := 256) (by omega) (by decide))) (fun c87 => ?_)
      refine v_iload_n 90 dX4_load_90 rfl rfl ?_
      refine v_sipush (v := 16384) 91 dX4_load_91 (by decide) ?_
      refine v_icmp_le (tgt := 101) 94 dX4_load_94 (by decide) (fun c94 => ?_) (fun c94 => ?_)
      · refine v_iconst (v := 0) 101 dX4_load_101 (by decide) ?_
        refine m_put 102 dX4_load_102 fl_X4_45 ?_
        refine v_aload_n 105 dX4_load_105 rfl rfl ?_
        refine v_getf 106 dX4_load_106 fl_X4_45 mPut_o rfl ?_
        refine v_if_le (tgt := 114) 109 dX4_load_109 (by decide) (fun c109 => ?_) (fun c109 => absurd (by rw [mI_s]; decide) c109)
        refine v_iload_n 114 dX4_load_114 rfl rfl ?_
        refine v_if_lt (tgt := 123) 115 dX4_load_115 (by decide) (fun c115 => absurd c115 (nI_pos (by omega))) (fun c115 => ?_)
        refine v_aload_n 118 dX4_load_118 rfl rfl ?_
        refine v_iload_n 119 dX4_load_119 rfl rfl ?_
        refine m_call 120 [.int (nI k)] dX4_load_120 cv_X4_82 (ct_goG hds (gRep_congr hR rfl rfl rfl rfl) hkl) (fun r h' hq' => ?_)
        obtain ⟨rfl, S2, rfl, hs2, hG2⟩ := hq'
        rw [erase_offGC hnd hk, hx.1, hx.2] at hG2
        have hnb : ¬ 16384 < (flatB (L.filter (offGC (S.1 12) (S.1 13)))).length + N := by
          have := (nI_leI (b := 16384) (by omega) (by decide)).mp c94
          omega
        have eg : ldG S2 N = ldG S N := ldG_congr N (hs2.1 12 (by decide) (by decide)) (hs2.1 13 (by decide) (by decide)) (hs2.2 15 (by decide) (by decide)) (hs2.1 17 (by decide) (by decide)) (hs2.2 18 (by decide) (by decide))
        have hI2 : ldInv S2 N := ldInv_congr hI' (hs2.2 15 (by decide) (by decide)) (hs2.1 16 (by decide) (by decide))
        have hGL := gRep_ld hG2 hI2 (by omega) (by omega)
        have e12 : S2.1 12 = S.1 12 := hs2.1 12 (by decide) (by decide)
        rw [eg] at hGL
        refine ld_tail hds hG2 hI2 (by omega) (by omega) ⟨_, _, rfl, rfl, Or.inr (Or.inr ⟨c5, by omega, hs2.1 0 (by decide) (by decide), hs2.1 14 (by decide) (by decide), ?_, ?_, hGL, by rw [eg, e12]⟩)⟩
        · exact dSame_tr (dSame_tr (dSame_tr (dSame_tr (dSame_0 S 0) (dSame_14 _ 0)) (dSame_0 _ 0)) (dSame_f (fSame_g hs2))) (dSame_ld _ _ _ _)
        · exact fRep_congr hFR (hs2.1 1 (by decide) (by decide)) (hs2.2 2 (by decide) (by decide)) (hs2.2 3 (by decide) (by decide)) (hs2.2 4 (by decide) (by decide))
      · refine v_iconst (v := 2) 97 dX4_load_97 (by decide) ?_
        refine v_goto (tgt := 102) 98 dX4_load_98 (by decide) ?_
        refine m_put 102 dX4_load_102 fl_X4_45 ?_
        refine v_aload_n 105 dX4_load_105 rfl rfl ?_
        refine v_getf 106 dX4_load_106 fl_X4_45 mPut_o rfl ?_
        refine v_if_le (tgt := 114) 109 dX4_load_109 (by decide) (fun c109 => absurd c109 (by rw [mI_s]; decide)) (fun c109 => ?_)
        refine v_iconst (v := 0) 112 dX4_load_112 (by decide) ?_
        refine v_iret 113 dX4_load_113 rfl rfl ?_
        refine ⟨_, _, rfl, rfl, Or.inr (Or.inl ⟨c5, Or.inr ?_, rfl, ?_⟩)⟩
        · exact Nat.lt_of_not_le (fun hh => c94 (nI_le hh (by decide)))
        · rw [mI_c (mI S 0 0) 0 2 (by decide), mI_mI, mI_c S 2 0 (by decide)]
    · rw [hix]
      have hL := hR.2.1
      have hU := hR.2.2.2.2.2.1
      have eA : S.1 5 + 1 = nI (L.length + 1) := by rw [hR.1, nI_1]
      have eR : S.1 7 + S.1 16 - 0 = nI ((flatB L).length + N) := by
        rw [hR.2.2.2.2.1, hN, nI_add, show (0 : Int32) = nI 0 from rfl, pk_sub (by omega)]; rfl
      refine v_ist1 42 dX4_load_42 ?_
      refine v_aload_n 43 dX4_load_43 rfl rfl ?_
      refine v_getf 44 dX4_load_44 fl_X4_73 mPut_o rfl ?_
      refine v_iload_n 47 dX4_load_47 rfl rfl ?_
      refine v_if_ge (tgt := 55) 48 dX4_load_48 (by decide) (fun c48 => absurd c48 (by decide)) (fun c48 => ?_)
      refine v_iconst (v := 1) 51 dX4_load_51 (by decide) ?_
      refine v_goto (tgt := 56) 52 dX4_load_52 (by decide) ?_
      refine v_iadd 56 dX4_load_56 ?_
      refine v_ist2 57 dX4_load_57 ?_
      refine v_aload_n 58 dX4_load_58 rfl rfl ?_
      refine v_getf 59 dX4_load_59 fl_X4_79 mPut_o rfl ?_
      refine v_aload_n 62 dX4_load_62 rfl rfl ?_
      refine v_getf 63 dX4_load_63 fl_X4_92 mPut_o rfl ?_
      refine v_iadd 66 dX4_load_66 ?_
      refine v_iload_n 67 dX4_load_67 rfl rfl ?_
      refine v_if_ge (tgt := 75) 68 dX4_load_68 (by decide) (fun c68 => absurd c68 (by decide)) (fun c68 => ?_)
      refine v_iconst (v := 0) 71 dX4_load_71 (by decide) ?_
      refine v_goto (tgt := 80) 72 dX4_load_72 (by decide) ?_
      refine v_isub 80 dX4_load_80 ?_
      refine v_ist3 81 dX4_load_81 ?_
      rw [show (mI (mI S 0 0) 14 0).1 5 + 1 = nI (L.length + 1) from eA, show (mI (mI S 0 0) 14 0).1 7 + (mI (mI S 0 0) 14 0).1 16 - 0 = _ from eR]
      refine v_aload_n 82 dX4_load_82 rfl rfl ?_
      refine v_iload_n 83 dX4_load_83 rfl rfl ?_
      refine v_sipush (v := 256) 84 dX4_load_84 (by decide) ?_
      refine v_icmp_gt (tgt := 97) 87 dX4_load_87 (by decide) (fun c87 => ?_) (fun c87 => ?_)
      · refine v_iconst (v := 2) 97 dX4_load_97 (by decide) ?_
        refine v_goto (tgt := 102) 98 dX4_load_98 (by decide) ?_
        refine m_put 102 dX4_load_102 fl_X4_45 ?_
        refine v_aload_n 105 dX4_load_105 rfl rfl ?_
        refine v_getf 106 dX4_load_106 fl_X4_45 mPut_o rfl ?_
        refine v_if_le (tgt := 114) 109 dX4_load_109 (by decide) (fun c109 => absurd c109 (by rw [mI_s]; decide)) (fun c109 => ?_)
        refine v_iconst (v := 0) 112 dX4_load_112 (by decide) ?_
        refine v_iret 113 dX4_load_113 rfl rfl ?_
        refine ⟨_, _, rfl, rfl, Or.inr (Or.inl ⟨c5, ?_, rfl, ?_⟩)⟩
        · rw [offGC_no hno]
          first
            | exact Or.inl (Nat.lt_of_not_le (fun hh => nI_nlt (a := 256) hh (by decide) c87))
            | exact Or.inr (Nat.lt_of_not_le (fun hh => c94 (nI_le hh (by decide))))
        · rw [mI_c (mI S 0 0) 0 2 (by decide), mI_mI, mI_c S 2 0 (by decide)]
      · refine v_iload_n 90 dX4_load_90 rfl rfl ?_
        refine v_sipush (v := 16384) 91 dX4_load_91 (by decide) ?_
        refine v_icmp_le (tgt := 101) 94 dX4_load_94 (by decide) (fun c94 => ?_) (fun c94 => ?_)
        · refine v_iconst (v := 0) 101 dX4_load_101 (by decide) ?_
          refine m_put 102 dX4_load_102 fl_X4_45 ?_
          refine v_aload_n 105 dX4_load_105 rfl rfl ?_
          refine v_getf 106 dX4_load_106 fl_X4_45 mPut_o rfl ?_
          refine v_if_le (tgt := 114) 109 dX4_load_109 (by decide) (fun c109 => ?_) (fun c109 => absurd (by rw [mI_s]; decide) c109)
          refine v_iload_n 114 dX4_load_114 rfl rfl ?_
          refine v_if_lt (tgt := 123) 115 dX4_load_115 (by decide) (fun c115 => ?_) (fun c115 => absurd (by decide) c115)
          have hnb : ¬ 16384 < (flatB L).length + N := by
            have := (nI_leI (b := 16384) (by omega) (by decide)).mp c94
            omega
          have hna : ¬ 256 < L.length + 1 := fun hh => c87 (nI_lt hh (by omega))
          refine ld_tail hds (gRep_congr hR rfl rfl rfl rfl) (ldInv_congr hI' rfl rfl) (by omega) (by omega) ⟨_, _, rfl, rfl, Or.inr (Or.inr ⟨c5, by rw [offGC_no hno]; omega, rfl, rfl, ?_, fRep_congr hFR rfl rfl rfl rfl, ?_, ?_⟩)⟩
          · exact dSame_tr (dSame_tr (dSame_tr (dSame_0 S 0) (dSame_14 _ 0)) (dSame_0 _ 0)) (dSame_ld _ _ _ _)
          · rw [offGC_no hno]
            exact gRep_ld (S := mI (mI (mI S 0 0) 14 0) 0 0) (gRep_congr hR rfl rfl rfl rfl) (ldInv_congr hI' rfl rfl) (by omega) (by omega)
          · rw [offGC_no hno]; rfl
        · refine v_iconst (v := 2) 97 dX4_load_97 (by decide) ?_
          refine v_goto (tgt := 102) 98 dX4_load_98 (by decide) ?_
          refine m_put 102 dX4_load_102 fl_X4_45 ?_
          refine v_aload_n 105 dX4_load_105 rfl rfl ?_
          refine v_getf 106 dX4_load_106 fl_X4_45 mPut_o rfl ?_
          refine v_if_le (tgt := 114) 109 dX4_load_109 (by decide) (fun c109 => absurd c109 (by rw [mI_s]; decide)) (fun c109 => ?_)
          refine v_iconst (v := 0) 112 dX4_load_112 (by decide) ?_
          refine v_iret 113 dX4_load_113 rfl rfl ?_
          refine ⟨_, _, rfl, rfl, Or.inr (Or.inl ⟨c5, ?_, rfl, ?_⟩)⟩
          · rw [offGC_no hno]
            first
              | exact Or.inl (Nat.lt_of_not_le (fun hh => nI_nlt (a := 256) hh (by decide) c87))
              | exact Or.inr (Nat.lt_of_not_le (fun hh => c94 (nI_le hh (by decide))))
          · rw [mI_c (mI S 0 0) 0 2 (by decide), mI_mI, mI_c S 2 0 (by decide)]
end
