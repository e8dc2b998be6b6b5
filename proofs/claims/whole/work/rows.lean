section
-- ===== PART A: goes FIRST, ahead of the names: the tables' words, and 'selects' of the private methods out of them =====
/-- a private method of a class that the tables say can be made, by its rows of tables_1 -/
def lw_okq (q : MethodName × Nat) : Prop := (q.1.cls ≠ "java/lang/invoke/MethodHandle" ∧ q.1.cls ≠ "java/lang/invoke/VarHandle") ∧ Cond.instantiable q.1.cls q.2 ∈ tables_1 ∧ Cond.privateMethod q.1 ∈ tables_1 ∧ Cond.instanceMethod q.1 ∈ tables_1
theorem lw_p0 : lw_okq (⟨"java/lang/Throwable", "fillInStackTrace", "(I)Ljava/lang/Throwable;"⟩, 6) := ⟨⟨by decide +kernel, by decide +kernel⟩, List.mem_of_getElem? (i := 166) (by decide +kernel), List.mem_of_getElem? (i := 164) (by decide +kernel), List.mem_of_getElem? (i := 165) (by decide +kernel)⟩
theorem lw_p1 : lw_okq (⟨"DiamondBook", "pitOf", "(I)I"⟩, 17) := ⟨⟨by decide +kernel, by decide +kernel⟩, List.mem_of_getElem? (i := 17) (by decide +kernel), List.mem_of_getElem? (i := 240) (by decide +kernel), List.mem_of_getElem? (i := 241) (by decide +kernel)⟩
theorem lw_p2 : lw_okq (⟨"DiamondBook", "knownStone", "(I)LDiamondBook$Rough;"⟩, 17) := ⟨⟨by decide +kernel, by decide +kernel⟩, List.mem_of_getElem? (i := 17) (by decide +kernel), List.mem_of_getElem? (i := 346) (by decide +kernel), List.mem_of_getElem? (i := 347) (by decide +kernel)⟩
theorem lw_p3 : lw_okq (⟨"DiamondBook", "openBoxes", "()V"⟩, 17) := ⟨⟨by decide +kernel, by decide +kernel⟩, List.mem_of_getElem? (i := 17) (by decide +kernel), List.mem_of_getElem? (i := 440) (by decide +kernel), List.mem_of_getElem? (i := 441) (by decide +kernel)⟩
theorem lw_p4 : lw_okq (⟨"DiamondBook", "fillBoxes", "()I"⟩, 17) := ⟨⟨by decide +kernel, by decide +kernel⟩, List.mem_of_getElem? (i := 17) (by decide +kernel), List.mem_of_getElem? (i := 448) (by decide +kernel), List.mem_of_getElem? (i := 449) (by decide +kernel)⟩
theorem lw_p5 : lw_okq (⟨"DiamondBook", "dearestToBox", "()LDiamondBook$Rough;"⟩, 17) := ⟨⟨by decide +kernel, by decide +kernel⟩, List.mem_of_getElem? (i := 17) (by decide +kernel), List.mem_of_getElem? (i := 452) (by decide +kernel), List.mem_of_getElem? (i := 453) (by decide +kernel)⟩
theorem lw_p6 : lw_okq (⟨"DiamondBook", "poorestBox", "()I"⟩, 17) := ⟨⟨by decide +kernel, by decide +kernel⟩, List.mem_of_getElem? (i := 17) (by decide +kernel), List.mem_of_getElem? (i := 461) (by decide +kernel), List.mem_of_getElem? (i := 462) (by decide +kernel)⟩
theorem lw_p7 : lw_okq (⟨"DiamondBook", "endTenderOf", "(LDiamondBook$Rough;)V"⟩, 17) := ⟨⟨by decide +kernel, by decide +kernel⟩, List.mem_of_getElem? (i := 17) (by decide +kernel), List.mem_of_getElem? (i := 469) (by decide +kernel), List.mem_of_getElem? (i := 470) (by decide +kernel)⟩
theorem lw_p8 : lw_okq (⟨"DiamondBook", "offerBoxes", "()V"⟩, 17) := ⟨⟨by decide +kernel, by decide +kernel⟩, List.mem_of_getElem? (i := 17) (by decide +kernel), List.mem_of_getElem? (i := 477) (by decide +kernel), List.mem_of_getElem? (i := 478) (by decide +kernel)⟩
theorem lw_p9 : lw_okq (⟨"DiamondBook", "bestFreeBuyer", "()I"⟩, 17) := ⟨⟨by decide +kernel, by decide +kernel⟩, List.mem_of_getElem? (i := 17) (by decide +kernel), List.mem_of_getElem? (i := 481) (by decide +kernel), List.mem_of_getElem? (i := 482) (by decide +kernel)⟩
theorem lw_p10 : lw_okq (⟨"DiamondBook", "richestFreeBox", "()I"⟩, 17) := ⟨⟨by decide +kernel, by decide +kernel⟩, List.mem_of_getElem? (i := 17) (by decide +kernel), List.mem_of_getElem? (i := 485) (by decide +kernel), List.mem_of_getElem? (i := 486) (by decide +kernel)⟩
theorem lw_p11 : lw_okq (⟨"DiamondBook", "isOffered", "(I)Z"⟩, 17) := ⟨⟨by decide +kernel, by decide +kernel⟩, List.mem_of_getElem? (i := 17) (by decide +kernel), List.mem_of_getElem? (i := 489) (by decide +kernel), List.mem_of_getElem? (i := 490) (by decide +kernel)⟩
theorem lw_p12 : lw_okq (⟨"DiamondBook", "changeConduct", "(II)I"⟩, 17) := ⟨⟨by decide +kernel, by decide +kernel⟩, List.mem_of_getElem? (i := 17) (by decide +kernel), List.mem_of_getElem? (i := 519) (by decide +kernel), List.mem_of_getElem? (i := 520) (by decide +kernel)⟩
theorem lw_p13 : lw_okq (⟨"DiamondBook", "tenderWinner", "()I"⟩, 17) := ⟨⟨by decide +kernel, by decide +kernel⟩, List.mem_of_getElem? (i := 17) (by decide +kernel), List.mem_of_getElem? (i := 565) (by decide +kernel), List.mem_of_getElem? (i := 566) (by decide +kernel)⟩
theorem lw_p14 : lw_okq (⟨"DiamondBook", "outbids", "(II)Z"⟩, 17) := ⟨⟨by decide +kernel, by decide +kernel⟩, List.mem_of_getElem? (i := 17) (by decide +kernel), List.mem_of_getElem? (i := 569) (by decide +kernel), List.mem_of_getElem? (i := 570) (by decide +kernel)⟩
theorem lw_p15 : lw_okq (⟨"DiamondBook", "keepGem", "(LDiamondBook$Gem;)V"⟩, 17) := ⟨⟨by decide +kernel, by decide +kernel⟩, List.mem_of_getElem? (i := 17) (by decide +kernel), List.mem_of_getElem? (i := 660) (by decide +kernel), List.mem_of_getElem? (i := 661) (by decide +kernel)⟩
def lw_privs_1 : List (MethodName × Nat) := [(⟨"java/lang/Throwable", "fillInStackTrace", "(I)Ljava/lang/Throwable;"⟩, 6), (⟨"DiamondBook", "pitOf", "(I)I"⟩, 17), (⟨"DiamondBook", "knownStone", "(I)LDiamondBook$Rough;"⟩, 17), (⟨"DiamondBook", "openBoxes", "()V"⟩, 17), (⟨"DiamondBook", "fillBoxes", "()I"⟩, 17), (⟨"DiamondBook", "dearestToBox", "()LDiamondBook$Rough;"⟩, 17), (⟨"DiamondBook", "poorestBox", "()I"⟩, 17), (⟨"DiamondBook", "endTenderOf", "(LDiamondBook$Rough;)V"⟩, 17), (⟨"DiamondBook", "offerBoxes", "()V"⟩, 17), (⟨"DiamondBook", "bestFreeBuyer", "()I"⟩, 17), (⟨"DiamondBook", "richestFreeBox", "()I"⟩, 17), (⟨"DiamondBook", "isOffered", "(I)Z"⟩, 17), (⟨"DiamondBook", "changeConduct", "(II)I"⟩, 17), (⟨"DiamondBook", "tenderWinner", "()I"⟩, 17), (⟨"DiamondBook", "outbids", "(II)Z"⟩, 17), (⟨"DiamondBook", "keepGem", "(LDiamondBook$Gem;)V"⟩, 17)]
theorem lw_r1 : ∀ q ∈ lw_privs_1, lw_okq q := List.forall_mem_cons.mpr ⟨lw_p0, List.forall_mem_cons.mpr ⟨lw_p1, List.forall_mem_cons.mpr ⟨lw_p2, List.forall_mem_cons.mpr ⟨lw_p3, List.forall_mem_cons.mpr ⟨lw_p4, List.forall_mem_cons.mpr ⟨lw_p5, List.forall_mem_cons.mpr ⟨lw_p6, List.forall_mem_cons.mpr ⟨lw_p7, List.forall_mem_cons.mpr ⟨lw_p8, List.forall_mem_cons.mpr ⟨lw_p9, List.forall_mem_cons.mpr ⟨lw_p10, List.forall_mem_cons.mpr ⟨lw_p11, List.forall_mem_cons.mpr ⟨lw_p12, List.forall_mem_cons.mpr ⟨lw_p13, List.forall_mem_cons.mpr ⟨lw_p14, List.forall_mem_cons.mpr ⟨lw_p15, fun _ h => absurd h List.not_mem_nil⟩⟩⟩⟩⟩⟩⟩⟩⟩⟩⟩⟩⟩⟩⟩⟩
theorem lw_p16 : lw_okq (⟨"DiamondBook", "knownGem", "(I)LDiamondBook$Gem;"⟩, 17) := ⟨⟨by decide +kernel, by decide +kernel⟩, List.mem_of_getElem? (i := 17) (by decide +kernel), List.mem_of_getElem? (i := 671) (by decide +kernel), List.mem_of_getElem? (i := 672) (by decide +kernel)⟩
theorem lw_p17 : lw_okq (⟨"DiamondBook", "roughWeight", "()I"⟩, 17) := ⟨⟨by decide +kernel, by decide +kernel⟩, List.mem_of_getElem? (i := 17) (by decide +kernel), List.mem_of_getElem? (i := 728) (by decide +kernel), List.mem_of_getElem? (i := 729) (by decide +kernel)⟩
theorem lw_p18 : lw_okq (⟨"DiamondBook", "polishedWeight", "()I"⟩, 17) := ⟨⟨by decide +kernel, by decide +kernel⟩, List.mem_of_getElem? (i := 17) (by decide +kernel), List.mem_of_getElem? (i := 732) (by decide +kernel), List.mem_of_getElem? (i := 733) (by decide +kernel)⟩
theorem lw_p19 : lw_okq (⟨"DiamondBook", "wrongPapers", "()I"⟩, 17) := ⟨⟨by decide +kernel, by decide +kernel⟩, List.mem_of_getElem? (i := 17) (by decide +kernel), List.mem_of_getElem? (i := 736) (by decide +kernel), List.mem_of_getElem? (i := 737) (by decide +kernel)⟩
theorem lw_p20 : lw_okq (⟨"DiamondBookModel", "asked", "(ZZ)Z"⟩, 39) := ⟨⟨by decide +kernel, by decide +kernel⟩, List.mem_of_getElem? (i := 741) (by decide +kernel), List.mem_of_getElem? (i := 877) (by decide +kernel), List.mem_of_getElem? (i := 878) (by decide +kernel)⟩
theorem lw_p21 : lw_okq (⟨"DiamondBookModel", "asked", "(ZZZ)Z"⟩, 39) := ⟨⟨by decide +kernel, by decide +kernel⟩, List.mem_of_getElem? (i := 741) (by decide +kernel), List.mem_of_getElem? (i := 885) (by decide +kernel), List.mem_of_getElem? (i := 886) (by decide +kernel)⟩
theorem lw_p22 : lw_okq (⟨"DiamondBookModel", "isStone", "(I)Z"⟩, 39) := ⟨⟨by decide +kernel, by decide +kernel⟩, List.mem_of_getElem? (i := 741) (by decide +kernel), List.mem_of_getElem? (i := 897) (by decide +kernel), List.mem_of_getElem? (i := 898) (by decide +kernel)⟩
theorem lw_p23 : lw_okq (⟨"DiamondBookModel", "asked", "(Z)Z"⟩, 39) := ⟨⟨by decide +kernel, by decide +kernel⟩, List.mem_of_getElem? (i := 741) (by decide +kernel), List.mem_of_getElem? (i := 913) (by decide +kernel), List.mem_of_getElem? (i := 914) (by decide +kernel)⟩
theorem lw_p24 : lw_okq (⟨"DiamondBookModel", "valueOf", "(I)I"⟩, 39) := ⟨⟨by decide +kernel, by decide +kernel⟩, List.mem_of_getElem? (i := 741) (by decide +kernel), List.mem_of_getElem? (i := 917) (by decide +kernel), List.mem_of_getElem? (i := 918) (by decide +kernel)⟩
theorem lw_p25 : lw_okq (⟨"DiamondBookModel", "qualityOf", "(I)I"⟩, 39) := ⟨⟨by decide +kernel, by decide +kernel⟩, List.mem_of_getElem? (i := 741) (by decide +kernel), List.mem_of_getElem? (i := 921) (by decide +kernel), List.mem_of_getElem? (i := 922) (by decide +kernel)⟩
theorem lw_p26 : lw_okq (⟨"DiamondBookModel", "isDoubtful", "(I)Z"⟩, 39) := ⟨⟨by decide +kernel, by decide +kernel⟩, List.mem_of_getElem? (i := 741) (by decide +kernel), List.mem_of_getElem? (i := 932) (by decide +kernel), List.mem_of_getElem? (i := 933) (by decide +kernel)⟩
theorem lw_p27 : lw_okq (⟨"DiamondBookModel", "nextStone", "()I"⟩, 39) := ⟨⟨by decide +kernel, by decide +kernel⟩, List.mem_of_getElem? (i := 741) (by decide +kernel), List.mem_of_getElem? (i := 940) (by decide +kernel), List.mem_of_getElem? (i := 941) (by decide +kernel)⟩
theorem lw_p28 : lw_okq (⟨"DiamondBookModel", "ends", "(I)V"⟩, 39) := ⟨⟨by decide +kernel, by decide +kernel⟩, List.mem_of_getElem? (i := 741) (by decide +kernel), List.mem_of_getElem? (i := 944) (by decide +kernel), List.mem_of_getElem? (i := 945) (by decide +kernel)⟩
theorem lw_p29 : lw_okq (⟨"DiamondBookModel", "rankOf", "(I)I"⟩, 39) := ⟨⟨by decide +kernel, by decide +kernel⟩, List.mem_of_getElem? (i := 741) (by decide +kernel), List.mem_of_getElem? (i := 948) (by decide +kernel), List.mem_of_getElem? (i := 949) (by decide +kernel)⟩
theorem lw_p30 : lw_okq (⟨"DiamondBookModel", "boxAt", "(I)I"⟩, 39) := ⟨⟨by decide +kernel, by decide +kernel⟩, List.mem_of_getElem? (i := 741) (by decide +kernel), List.mem_of_getElem? (i := 952) (by decide +kernel), List.mem_of_getElem? (i := 953) (by decide +kernel)⟩
theorem lw_p31 : lw_okq (⟨"DiamondBookModel", "planOf", "(I)I"⟩, 39) := ⟨⟨by decide +kernel, by decide +kernel⟩, List.mem_of_getElem? (i := 741) (by decide +kernel), List.mem_of_getElem? (i := 988) (by decide +kernel), List.mem_of_getElem? (i := 989) (by decide +kernel)⟩
def lw_privs_2 : List (MethodName × Nat) := [(⟨"DiamondBook", "knownGem", "(I)LDiamondBook$Gem;"⟩, 17), (⟨"DiamondBook", "roughWeight", "()I"⟩, 17), (⟨"DiamondBook", "polishedWeight", "()I"⟩, 17), (⟨"DiamondBook", "wrongPapers", "()I"⟩, 17), (⟨"DiamondBookModel", "asked", "(ZZ)Z"⟩, 39), (⟨"DiamondBookModel", "asked", "(ZZZ)Z"⟩, 39), (⟨"DiamondBookModel", "isStone", "(I)Z"⟩, 39), (⟨"DiamondBookModel", "asked", "(Z)Z"⟩, 39), (⟨"DiamondBookModel", "valueOf", "(I)I"⟩, 39), (⟨"DiamondBookModel", "qualityOf", "(I)I"⟩, 39), (⟨"DiamondBookModel", "isDoubtful", "(I)Z"⟩, 39), (⟨"DiamondBookModel", "nextStone", "()I"⟩, 39), (⟨"DiamondBookModel", "ends", "(I)V"⟩, 39), (⟨"DiamondBookModel", "rankOf", "(I)I"⟩, 39), (⟨"DiamondBookModel", "boxAt", "(I)I"⟩, 39), (⟨"DiamondBookModel", "planOf", "(I)I"⟩, 39)]
theorem lw_r2 : ∀ q ∈ lw_privs_2, lw_okq q := List.forall_mem_cons.mpr ⟨lw_p16, List.forall_mem_cons.mpr ⟨lw_p17, List.forall_mem_cons.mpr ⟨lw_p18, List.forall_mem_cons.mpr ⟨lw_p19, List.forall_mem_cons.mpr ⟨lw_p20, List.forall_mem_cons.mpr ⟨lw_p21, List.forall_mem_cons.mpr ⟨lw_p22, List.forall_mem_cons.mpr ⟨lw_p23, List.forall_mem_cons.mpr ⟨lw_p24, List.forall_mem_cons.mpr ⟨lw_p25, List.forall_mem_cons.mpr ⟨lw_p26, List.forall_mem_cons.mpr ⟨lw_p27, List.forall_mem_cons.mpr ⟨lw_p28, List.forall_mem_cons.mpr ⟨lw_p29, List.forall_mem_cons.mpr ⟨lw_p30, List.forall_mem_cons.mpr ⟨lw_p31, fun _ h => absurd h List.not_mem_nil⟩⟩⟩⟩⟩⟩⟩⟩⟩⟩⟩⟩⟩⟩⟩⟩
theorem lw_p32 : lw_okq (⟨"DiamondBookModel", "rowAt", "(II)I"⟩, 39) := ⟨⟨by decide +kernel, by decide +kernel⟩, List.mem_of_getElem? (i := 741) (by decide +kernel), List.mem_of_getElem? (i := 992) (by decide +kernel), List.mem_of_getElem? (i := 993) (by decide +kernel)⟩
theorem lw_p33 : lw_okq (⟨"DiamondBookModel", "isFree", "(II)Z"⟩, 39) := ⟨⟨by decide +kernel, by decide +kernel⟩, List.mem_of_getElem? (i := 741) (by decide +kernel), List.mem_of_getElem? (i := 996) (by decide +kernel), List.mem_of_getElem? (i := 997) (by decide +kernel)⟩
theorem lw_p34 : lw_okq (⟨"DiamondBookModel", "isPolished", "(I)Z"⟩, 39) := ⟨⟨by decide +kernel, by decide +kernel⟩, List.mem_of_getElem? (i := 741) (by decide +kernel), List.mem_of_getElem? (i := 1012) (by decide +kernel), List.mem_of_getElem? (i := 1013) (by decide +kernel)⟩
theorem lw_p35 : lw_okq (⟨"DiamondBookModel", "gradeOf", "(I)I"⟩, 39) := ⟨⟨by decide +kernel, by decide +kernel⟩, List.mem_of_getElem? (i := 741) (by decide +kernel), List.mem_of_getElem? (i := 1020) (by decide +kernel), List.mem_of_getElem? (i := 1021) (by decide +kernel)⟩
theorem lw_p36 : lw_okq (⟨"DiamondBookModel", "priceOf", "(I)I"⟩, 39) := ⟨⟨by decide +kernel, by decide +kernel⟩, List.mem_of_getElem? (i := 741) (by decide +kernel), List.mem_of_getElem? (i := 1024) (by decide +kernel), List.mem_of_getElem? (i := 1025) (by decide +kernel)⟩
theorem lw_p37 : lw_okq (⟨"DiamondBookModel", "originOf", "(I)I"⟩, 39) := ⟨⟨by decide +kernel, by decide +kernel⟩, List.mem_of_getElem? (i := 741) (by decide +kernel), List.mem_of_getElem? (i := 1028) (by decide +kernel), List.mem_of_getElem? (i := 1029) (by decide +kernel)⟩
theorem lw_p38 : lw_okq (⟨"DiamondBookModel", "cameOf", "(I)I"⟩, 39) := ⟨⟨by decide +kernel, by decide +kernel⟩, List.mem_of_getElem? (i := 741) (by decide +kernel), List.mem_of_getElem? (i := 1044) (by decide +kernel), List.mem_of_getElem? (i := 1045) (by decide +kernel)⟩
def lw_privs_3 : List (MethodName × Nat) := [(⟨"DiamondBookModel", "rowAt", "(II)I"⟩, 39), (⟨"DiamondBookModel", "isFree", "(II)Z"⟩, 39), (⟨"DiamondBookModel", "isPolished", "(I)Z"⟩, 39), (⟨"DiamondBookModel", "gradeOf", "(I)I"⟩, 39), (⟨"DiamondBookModel", "priceOf", "(I)I"⟩, 39), (⟨"DiamondBookModel", "originOf", "(I)I"⟩, 39), (⟨"DiamondBookModel", "cameOf", "(I)I"⟩, 39)]
theorem lw_r3 : ∀ q ∈ lw_privs_3, lw_okq q := List.forall_mem_cons.mpr ⟨lw_p32, List.forall_mem_cons.mpr ⟨lw_p33, List.forall_mem_cons.mpr ⟨lw_p34, List.forall_mem_cons.mpr ⟨lw_p35, List.forall_mem_cons.mpr ⟨lw_p36, List.forall_mem_cons.mpr ⟨lw_p37, List.forall_mem_cons.mpr ⟨lw_p38, fun _ h => absurd h List.not_mem_nil⟩⟩⟩⟩⟩⟩⟩
def lw_privs : List (MethodName × Nat) := lw_privs_1 ++ (lw_privs_2 ++ (lw_privs_3))
def lw_tbl : List Cond := k2_sels lw_privs ++ tables_1
theorem lw_privs_ok : ∀ q ∈ lw_privs, lw_okq q := by
  show ∀ q ∈ lw_privs_1 ++ (lw_privs_2 ++ (lw_privs_3)), lw_okq q
  exact List.forall_mem_append.mpr ⟨lw_r1, List.forall_mem_append.mpr ⟨lw_r2, lw_r3⟩⟩
end
section
/-! ===== BEGIN words of one list among another's, by their places ===== -/
theorem goodIn_r {big : List Cond} (ws : List Cond) (ps : List Nat) (hp : ws = ps.filterMap (fun i => big[i]?)) (h : ws.all goodWord = true) : GoodIn big ws := by
  intro w hw
  have h1 := List.all_eq_true.mp h w hw
  rw [hp] at hw
  obtain ⟨i, -, hi⟩ := List.mem_filterMap.mp hw
  have hm : w ∈ big := by first | exact List.mem_of_getElem? hi | exact List.getElem?_mem hi
  exact ⟨hm, good_of_word h1⟩
theorem goodIn_app {big a b : List Cond} (ha : GoodIn big a) (hb : GoodIn big b) : GoodIn big (a ++ b) := fun w h => (List.mem_append.mp h).elim (ha w) (hb w)
theorem goodIn_ca {big a b : List Cond} {c : Cond} (ha : GoodIn big (c :: a)) (hb : GoodIn big b) : GoodIn big (c :: (a ++ b)) := fun w h => (List.mem_cons.mp h).elim (fun e => ha w (List.mem_cons.mpr (Or.inl e))) (fun h => (List.mem_append.mp h).elim (fun h => ha w (List.mem_cons.mpr (Or.inr h))) (hb w))
theorem goodIn_sub {big ws : List Cond} (hm : ∀ w ∈ ws, w ∈ big) (h : ws.all goodWord = true) : GoodIn big ws := fun w hw => ⟨hm w hw, good_of_word (List.all_eq_true.mp h w hw)⟩
/-! ===== END ===== -/
/-! ===== BEGIN exceptions that leave a method, and their catching by the caller (launches without stack traces) ===== -/
section VXA
/-! The laws vx_back, vx_callV, vx_callS, vx_callSW, vx_throw0, vx_throwS follow proofs of the library, with one case more: JvmDerived/Free/Laws.lean (Back.of_free), Shelf42/LK1.lean (callV, callS), Shelf/KitTraced.lean (throwNew0V, throwNewS). -/
/-- where a method has thrown q: the class by its name, the cell, what was written, the world -/
def vx_T (XC : String → State → State → Prop) (st : State) (q : Addr) (t : State) (mc ms : Nat) (free : Addr → Prop) : Prop :=
  ∃ (E : String) (ce : Cell) (L : List Loc), XC E st t ∧ t.heap[q]? = some ce ∧ ce.vm = .none ∧ st.vm.findClass E = some ce.cls ∧ st.WarmedH t.vm ∧ st.sameButNew ({ t with vm := st.vm } : State) L mc ms ∧ ∀ z ∈ L, free z.base
def vx_Q (Qc : Array Value → State → Outcome → State → Prop) (XC : String → State → State → Prop) (mc ms : Nat) (free : Addr → Prop) : Array Value → State → Outcome → State → Prop := fun a st o t =>
  (Qc a st o t ∧ ∃ L, FrameEnd st o t L mc ms ∧ ∀ q ∈ L, free q.base) ∨ ∃ q, o = .threw q ∧ vx_T XC st q t mc ms free
/-- a callee that returns or throws -/
def vx_Met (l : Launch) (y : MethodName) (ws : List Cond) (rm : Room) (Pc : Array Value → State → Prop) (Qc : Array Value → State → Outcome → State → Prop) (XC : String → State → State → Prop) (mc ms : Nat) (free : Addr → Prop) : Prop :=
  MetFree l y (headSpec ws rm) Pc (fun _ _ _ _ _ => True) (vx_Q Qc XC mc ms free)
def vx_Post (XC : String → State → State → Prop) (mc ms : Nat) (free : Addr → Prop) : Pt → Array Value → Addr → Pt → Prop := fun A a q B =>
  ∃ (g : JFrame) (mk : MethodId) (t : State) (L : List Loc) (E : String) (ce : Cell), B.U.heap = t.heap ∧ B.U.vm = t.vm ∧ XC E (A.U.calling g mk a) t ∧ t.heap[q]? = some ce ∧ ce.vm = .none ∧ A.U.vm.findClass E = some ce.cls ∧ B.locs = A.locs ++ L ∧ (∀ z ∈ L, free z.base) ∧ B.cells = A.cells + mc ∧ B.slots = A.slots + ms
def vx_Back (l : Launch) (R : Room) (p : Program) (e : Env) (below : List Frame) (s : State) (sargs : Array Value) (y : MethodName) (len W9 : Nat)
    (Pre : Pt → Array Value → Prop) (Post : Pt → Array Value → Option Value → Pt → Prop) (PostX : Pt → Array Value → Addr → Pt → Prop) : Prop :=
  ∀ (m : MethodId) (meth : Method) (c : Code) (A : Pt) (g : JFrame) (ig : Instr) (mk : MethodId) (a : Array Value),
    Stand p l e R s m sargs below meth c A.U A.locs A.cells A.slots → g.method = m → g.locals.size = c.maxLocals → decode c.code g.pc = .ok (ig, len) →
    2 * g.monitorRoom + (g.stack.map fun v => v.category).sum ≤ W9 → A.U.methodNamed? y = some mk → Pre A a →
    (∃ (v : Option Value) (B : Pt), Stand p l e R s m sargs below meth c B.U B.locs B.cells B.slots ∧ Post A a v B ∧
      Steps p.tables e below (doInvoke e (A.U.setTop g) [] mk a).1 (B.U.setTop { g with pc := g.pc + len, stack := v.toList ++ g.stack })) ∨
    (∃ (q : Addr) (B : Pt), Stand p l e R s m sargs below meth c B.U B.locs B.cells B.slots ∧ PostX A a q B ∧
      Steps p.tables e below (doInvoke e (A.U.setTop g) [] mk a).1 ((B.U.setTop g).pushFrame (.throwing q)))
section Payer
variable {l : Launch} {R : Room} {p : Program} {e : Env} {below : List Frame} {s : State} {sargs : Array Value} {y : MethodName} {len W9 : Nat}
theorem vx_back {ws : List Cond} {rm : Room} {Pc : Array Value → State → Prop} {Qc : Array Value → State → Outcome → State → Prop} {XC : String → State → State → Prop} {mc ms : Nat} {free : Addr → Prop} {bytes : ByteArray} {maxL : Nat} {ret : Option FieldType}
    (hM : vx_Met l y ws rm Pc Qc XC mc ms free) (hblind : FrameBlind Pc) (hrc : rm.cells = mc) (hrs : rm.slots = ms)
    (hframes : rm.frames + 1 ≤ R.frames) (hlocals : W9 + (maxL + 11) + rm.locals ≤ R.locals)
    (hws : ∀ w ∈ ws, ∀ a' U, s.WarmedH U.vm → w.before a' U = true) (hcode : Cond.code y bytes maxL ret ∈ ws) (hinit : ∀ a' U, s.WarmedH U.vm → (Cond.initialized y.cls).before a' U = true) :
    vx_Back l R p e below s sargs y len W9 (PreOf R mc ms Pc) (PostOf Qc mc ms free) (vx_Post XC mc ms free) := by
  intro m meth c A g ig mk a X hg hsize hdg hW hn hp
  have h1 : (headSpec ws rm).pre.before a A.U = true := atoms_intro fun w hw => hws w hw _ _ X.warmed
  have h2 : (Cond.code y bytes maxL ret).before a A.U = true := hws _ hcode _ _ X.warmed
  have h3 : (Cond.initialized y.cls).before a A.U = true := hinit _ _ X.warmed
  have h4 : A.cells + (headSpec ws rm).room.cells ≤ R.cells := by rw [show (headSpec ws rm).room.cells = mc from hrc]; exact hp.1
  have h5 : A.slots + (headSpec ws rm).room.slots ≤ R.slots := by rw [show (headSpec ws rm).room.slots = ms from hrs]; exact hp.2.1
  have hPc : Pc a (A.U.calling g mk a) := hblind _ _ _ _ hp.2.2
  obtain ⟨U, Ls, c0, s0⟩ := A
  dsimp only [Pt.U, Pt.locs, Pt.cells, Pt.slots] at h1 h2 h3 h4 h5 X hn hPc ⊢
  obtain ⟨methY, cY, hmY, hcY, -, hlY, -, -, -, -⟩ := Cond.code_spec hn h2
  obtain ⟨kY, hkY, -⟩ := className_of_methodNamed hn
  have hinitY : kY.init = .initialized := Cond.initialized_spec (findClass_of_methodNamed hn) hkY h3
  have h : At U g.method c below := by rw [hg]; exact X.here
  have hlocals9 : W9 + (maxL + 11) + (headSpec ws rm).room.locals ≤ R.locals := hlocals
  have happ : (headSpec ws rm).appliesLoose y e.platform (U.calling g mk a) = true :=
    Spec.appliesLoose_calling (g := g) h hdg hn hkY hinitY
      (X.room_calling (g := g) (R' := (headSpec ws rm).room) hsize hmY hcY hframes (by rw [hlY]; omega) h4 h5) h1
  obtain ⟨mid, hmid⟩ := h.above
  have hfr : (U.setTop g).frames = (.java g :: mid) ++ below := by rw [State.frames_setTop' g h.top, hmid]; rfl
  obtain ⟨o, s₂, hsteps, -, hend, hq⟩ := Steps.callFree hM p X.admits X.cas X.clock (acts := []) hfr happ hPc trivial
  have hq' : vx_Q Qc XC mc ms free a (U.calling g mk a) o s₂ := hq
  rw [State.frames_setTop' g h.top] at hend
  obtain ⟨g₀, hg0⟩ := Option.isSome_iff_exists.mp h.top
  obtain ⟨r, hr⟩ := State.topJava?_eq_some.mp hg0
  have hr' : (({ U with heap := s₂.heap, slotsUsed := s₂.slotsUsed } : State).setVm s₂.vm).frames = .java g₀ :: r := hr
  rcases hq' with ⟨hqc, L, hfe, hL⟩ | ⟨q, rfl, E, ce, L, hx, hce, hcv, hcl, hW₂, hsm, hL⟩
  · obtain ⟨⟨v, rfl⟩, hW₂, e2, q2, q3, q4, q5, q6⟩ := id hfe
    have e3 : s₂ = ({ (U.calling g mk a).setFrames s₂.frames with heap := s₂.heap, slotsUsed := s₂.slotsUsed } : State).setVm s₂.vm := by
      have : s₂ = ({ s₂ with vm := (U.calling g mk a).vm } : State).setVm s₂.vm := rfl
      rw [e2] at this
      exact this
    obtain ⟨c₂, i₂, len₂, hc₂, hd₂, hf₂⟩ := hend
    have hW' : U.WarmedH s₂.vm := hW₂
    have hcc : c₂ = c := by
      have h1 : s₂.code? g.method = U.code? g.method := by
        rw [State.code?_eq, State.code?_eq, hW'.alike.method?]
      exact Option.some.inj (hc₂.symm.trans (h1.trans h.code))
    subst hcc
    have hlen : len₂ = len := by rw [hdg] at hd₂; cases hd₂; rfl
    subst hlen
    have hs₂ : s₂ = (({ U with heap := s₂.heap, slotsUsed := s₂.slotsUsed } : State).setVm s₂.vm).setTop { g with pc := g.pc + len₂, stack := v.toList ++ g.stack } := by
      refine e3.trans ?_
      rw [hf₂, State.calling_eq h.top, State.setFrames_setFrames, State.setTop_of_frames _ hr', hr]
      rfl
    have hsame : U.sameButNew ({ U with heap := s₂.heap, slotsUsed := s₂.slotsUsed } : State) L mc ms := by
      refine ⟨?_, q2, q3, q4, q5, q6⟩
      obtain ⟨t, ht, -⟩ := State.frames_cons hr
      show ({ U with heap := s₂.heap, slotsUsed := s₂.slotsUsed } : State) = { U.setFrames U.frames with heap := s₂.heap, slotsUsed := s₂.slotsUsed }
      rw [State.setFrames_self ht]
    subst hg
    refine Or.inl ⟨v, ⟨(({ U with heap := s₂.heap, slotsUsed := s₂.slotsUsed } : State).setVm s₂.vm), Ls ++ L, c0 + mc, s0 + ms⟩,
      ⟨X.admits, X.cas, X.clock, X.frames, X.room, X.hears, X.method, X.code, (X.here.setHeapUsed s₂.heap s₂.slotsUsed).setVm hW'.alike, X.tail, State.WarmedH.trans X.warmed hW', X.limits, X.bytes, X.same.trans (hsame.setVm s.vm)⟩,
      ⟨g, mk, s₂, L, rfl, rfl, hqc, rfl, hL, rfl, rfl⟩, ?_⟩
    show Steps p.tables e below _ ((({ U with heap := s₂.heap, slotsUsed := s₂.slotsUsed } : State).setVm s₂.vm).setTop { g with pc := g.pc + len₂, stack := v.toList ++ g.stack })
    rw [← hs₂]
    exact hsteps
  · obtain ⟨e2, q2, q3, q4, q5, q6⟩ := id hsm
    have e3 : s₂ = ({ (U.calling g mk a).setFrames s₂.frames with heap := s₂.heap, slotsUsed := s₂.slotsUsed } : State).setVm s₂.vm := by
      have : s₂ = ({ s₂ with vm := (U.calling g mk a).vm } : State).setVm s₂.vm := rfl
      rw [e2] at this
      exact this
    have hf₂ : s₂.frames = .throwing q :: .java g :: U.frames.tail := hend
    have hW' : U.WarmedH s₂.vm := hW₂
    have hs₂ : s₂ = ((({ U with heap := s₂.heap, slotsUsed := s₂.slotsUsed } : State).setVm s₂.vm).setTop g).pushFrame (.throwing q) := by
      refine e3.trans ?_
      rw [hf₂, State.calling_eq h.top, State.setFrames_setFrames, State.pushFrame, State.frames_setTop _ hr', State.setTop_of_frames _ hr', State.setFrames_setFrames, hr]
      rfl
    have hsame : U.sameButNew ({ U with heap := s₂.heap, slotsUsed := s₂.slotsUsed } : State) L mc ms := by
      refine ⟨?_, q2, q3, q4, q5, q6⟩
      obtain ⟨t, ht, -⟩ := State.frames_cons hr
      show ({ U with heap := s₂.heap, slotsUsed := s₂.slotsUsed } : State) = { U.setFrames U.frames with heap := s₂.heap, slotsUsed := s₂.slotsUsed }
      rw [State.setFrames_self ht]
    subst hg
    refine Or.inr ⟨q, ⟨(({ U with heap := s₂.heap, slotsUsed := s₂.slotsUsed } : State).setVm s₂.vm), Ls ++ L, c0 + mc, s0 + ms⟩,
      ⟨X.admits, X.cas, X.clock, X.frames, X.room, X.hears, X.method, X.code, (X.here.setHeapUsed s₂.heap s₂.slotsUsed).setVm hW'.alike, X.tail, State.WarmedH.trans X.warmed hW', X.limits, X.bytes, X.same.trans (hsame.setVm s.vm)⟩,
      ⟨g, mk, s₂, L, E, ce, rfl, rfl, hx, hce, hcv, hcl, rfl, hL, rfl, rfl⟩, ?_⟩
    show Steps p.tables e below _ (((({ U with heap := s₂.heap, slotsUsed := s₂.slotsUsed } : State).setVm s₂.vm).setTop g).pushFrame (.throwing q))
    rw [← hs₂]
    exact hsteps
end Payer
section Calls
variable {p : Program} {l : Launch} {e : Env} {R : Room} {s : State} {m : MethodId} {args : Array Value} {below : List Frame} {meth : Method} {c : Code} {T : State} {locs : List Loc} {cells slots : Nat}
theorem vx_callV (X : Stand p l e R s m args below meth c T locs cells slots) (hexec : p.tables.exec = Jvm.exec) {own C : String} {index : Nat} {y : MethodName} {bytes : ByteArray} {maxL : Nat} {ret : Option FieldType}
    (hown : s.vm.findClass own = some m.cls) (hlink : (Cond.methodLink own index y).before args s = true) (hinst : (Cond.instanceMethod y).before args s = true) (hsel : (Cond.selects C y y).before args s = true)
    (hcode : (Cond.code y bytes maxL ret).before args s = true) (hy : y.cls ≠ "java/lang/invoke/MethodHandle" ∧ y.cls ≠ "java/lang/invoke/VarHandle")
    {W9 : Nat} {Pre : Pt → Array Value → Prop} {Post : Pt → Array Value → Option Value → Pt → Prop} {PostX : Pt → Array Value → Addr → Pt → Prop} (hK : vx_Back l R p e below s args y 3 W9 Pre Post PostX)
    {b : Addr} {cellB : Cell} (hcell : T.heap[b]? = some cellB) (hobj : cellB.vm.isStatics = false) (hcls : s.vm.findClass C = some cellB.cls)
    {g : JFrame} (hg : g.method = m) (hsize : g.locals.size = c.maxLocals) {argsL rest : List Value} (hlen : ∀ sig, parseMethodDescriptor y.desc = some sig → argsL.length = sig.parameters.length)
    (hstack : g.stack = argsL.reverse ++ .ref b :: rest) (hW : 2 * g.monitorRoom + (rest.map fun v => v.category).sum ≤ W9) (hdg : decode c.code g.pc = .ok (.invokevirtual index, 3))
    (hpre : ∀ vm₁, s.WarmedH vm₁ → Pre ⟨T.setVm vm₁, locs, cells, slots⟩ (Value.ref b :: argsL).toArray) :
    (∃ (v : Option Value) (vm₁ : Vm) (B : Pt), s.WarmedH vm₁ ∧ Stand p l e R s m args below meth c B.U B.locs B.cells B.slots ∧ Post ⟨T.setVm vm₁, locs, cells, slots⟩ (Value.ref b :: argsL).toArray v B ∧
      ∀ target, Steps p.tables e below (B.U.setTop { g with pc := g.pc + 3, stack := v.toList ++ rest }) target → Steps p.tables e below (T.setTop g) target) ∨
    (∃ (q : Addr) (vm₁ : Vm) (B : Pt), s.WarmedH vm₁ ∧ Stand p l e R s m args below meth c B.U B.locs B.cells B.slots ∧ PostX ⟨T.setVm vm₁, locs, cells, slots⟩ (Value.ref b :: argsL).toArray q B ∧
      Steps p.tables e below (T.setTop g) ((B.U.setTop { g with stack := rest }).pushFrame (.throwing q))) := by
  obtain ⟨mk, methM, hnamed, hmethM, hstM, habM⟩ := Cond.instanceMethod_spec hinst
  obtain ⟨methM', cM, hmethM', -, -, -, -, -, -, hsigM⟩ := Cond.code_spec hnamed hcode
  cases hmethM.symm.trans hmethM'
  obtain ⟨c2, r2, m2, q1, q2, q3, q4, kP, hkP, hkPi⟩ := Cond.selects_spec hsel
  cases hcls.symm.trans q1
  cases (State.methodFound?_of_named hnamed hy).symm.trans q2
  cases hnamed.symm.trans q3
  have hselP : selectMethod e.platform s.vm cellB.cls mk = .method mk := by rw [Launch.admits_selectMethod X.admits]; exact q4
  obtain ⟨vm₁, X₁, hstep₁⟩ := X.invokevirtual hexec hown hlink hnamed hmethM hstM hkP hkPi hy (a := b) (cell := cellB) hcell
    (fun z h => by rw [h] at hobj; cases hobj) hselP hmethM habM hkP hkPi (g := g) hg (argsL := argsL) (rest := rest) (hlen _ hsigM) hstack hdg
  rcases hK m meth c ⟨T.setVm vm₁, locs, cells, slots⟩ { g with stack := rest } (.invokevirtual index) mk (Value.ref b :: argsL).toArray X₁ hg hsize hdg hW (X₁.named hnamed) (hpre vm₁ X₁.warmed) with ⟨v, B, X', hpost, hsteps⟩ | ⟨q, B, X', hpost, hsteps⟩
  · exact Or.inl ⟨v, vm₁, B, X₁.warmed, X', hpost, fun target h => hstep₁ _ fun acts => by rw [doInvoke_state]; exact hsteps.trans h⟩
  · exact Or.inr ⟨q, vm₁, B, X₁.warmed, X', hpost, hstep₁ _ fun acts => by rw [doInvoke_state]; exact hsteps⟩
theorem vx_callS (X : Stand p l e R s m args below meth c T locs cells slots) (hexec : p.tables.exec = Jvm.exec) {own : String} {index : Nat} {y : MethodName} {bytes : ByteArray} {maxL : Nat} {ret : Option FieldType}
    (hown : s.vm.findClass own = some m.cls) (hlink : (Cond.methodLink own index y).before args s = true) (hstat : (Cond.static y).before args s = true) (hinit : (Cond.initialized y.cls).before args s = true)
    (hcode : (Cond.code y bytes maxL ret).before args s = true) (hy : y.cls ≠ "java/lang/invoke/MethodHandle" ∧ y.cls ≠ "java/lang/invoke/VarHandle")
    {W9 : Nat} {Pre : Pt → Array Value → Prop} {Post : Pt → Array Value → Option Value → Pt → Prop} {PostX : Pt → Array Value → Addr → Pt → Prop} (hK : vx_Back l R p e below s args y 3 W9 Pre Post PostX)
    {g : JFrame} (hg : g.method = m) (hsize : g.locals.size = c.maxLocals) {argsL rest : List Value} (hlen : ∀ sig, parseMethodDescriptor y.desc = some sig → argsL.length = sig.parameters.length)
    (hstack : g.stack = argsL.reverse ++ rest) (hW : 2 * g.monitorRoom + (rest.map fun v => v.category).sum ≤ W9) (hdg : decode c.code g.pc = .ok (.invokestatic index, 3))
    (hpre : ∀ vm₁, s.WarmedH vm₁ → Pre ⟨T.setVm vm₁, locs, cells, slots⟩ argsL.toArray) :
    (∃ (v : Option Value) (vm₁ : Vm) (B : Pt), s.WarmedH vm₁ ∧ Stand p l e R s m args below meth c B.U B.locs B.cells B.slots ∧ Post ⟨T.setVm vm₁, locs, cells, slots⟩ argsL.toArray v B ∧
      ∀ target, Steps p.tables e below (B.U.setTop { g with pc := g.pc + 3, stack := v.toList ++ rest }) target → Steps p.tables e below (T.setTop g) target) ∨
    (∃ (q : Addr) (vm₁ : Vm) (B : Pt), s.WarmedH vm₁ ∧ Stand p l e R s m args below meth c B.U B.locs B.cells B.slots ∧ PostX ⟨T.setVm vm₁, locs, cells, slots⟩ argsL.toArray q B ∧
      Steps p.tables e below (T.setTop g) ((B.U.setTop { g with stack := rest }).pushFrame (.throwing q))) := by
  obtain ⟨mk, hnamed⟩ := Cond.code_named hcode
  obtain ⟨methM, cM, hmethM, -, -, -, -, -, -, hsigM⟩ := Cond.code_spec hnamed hcode
  have hstatic : methM.isStatic = true := Cond.static_spec hnamed hmethM hstat
  obtain ⟨kP, hkP, -⟩ := className_of_methodNamed hnamed
  have hinitP : kP.init = .initialized := Cond.initialized_spec (findClass_of_methodNamed hnamed) hkP hinit
  obtain ⟨vm₁, X₁, hstep₁⟩ := X.invokestatic hexec hown hlink hnamed hmethM hstatic hkP hinitP hy (g := g) hg (argsL := argsL) (rest := rest) (hlen _ hsigM) hstack hdg
  rcases hK m meth c ⟨T.setVm vm₁, locs, cells, slots⟩ { g with stack := rest } (.invokestatic index) mk argsL.toArray X₁ hg hsize hdg hW (X₁.named hnamed) (hpre vm₁ X₁.warmed) with ⟨v, B, X', hpost, hsteps⟩ | ⟨q, B, X', hpost, hsteps⟩
  · exact Or.inl ⟨v, vm₁, B, X₁.warmed, X', hpost, fun target h => hstep₁ _ fun acts => by rw [doInvoke_state]; exact hsteps.trans h⟩
  · exact Or.inr ⟨q, vm₁, B, X₁.warmed, X', hpost, hstep₁ _ fun acts => by rw [doInvoke_state]; exact hsteps⟩
end Calls
theorem vx_cls {s : State} {T : State} {vm₁ : Vm} {E : String} {k : ClassId} (hW : s.WarmedH vm₁) (h : (T.setVm vm₁).vm.findClass E = some k) : s.vm.findClass E = some k := by
  have h1 : vm₁.findClass E = some k := h
  rw [hW.alike.findClass] at h1
  exact h1
/-- the method's frame g, with q thrown over it -/
def vx_W (p : Program) (l : Launch) (e : Env) (R : Room) (s : State) (m : MethodId) (args : Array Value) (below : List Frame) (meth : Method) (c : Code) (H : Heap) (locs : List Loc) (cells slots : Nat) (Q : State → Prop) (g : JFrame) (q : Addr) : Prop :=
  ∀ T : State, T.heap = H → Stand p l e R s m args below meth c T locs cells slots → ∃ t, Steps p.tables e below ((T.setTop g).pushFrame (.throwing q)) t ∧ Q t
def vx_Run (p : Program) (l : Launch) (e : Env) (R : Room) (s : State) (m : MethodId) (args : Array Value) (below : List Frame) (meth : Method) (c : Code) (H : Heap) (locs : List Loc) (cells slots mc ms : Nat) (g : JFrame) (rest : List Value) (Qa : State → Outcome → State → Prop) (XC : String → State → State → Prop) (free : Addr → Prop) : Prop :=
  ∀ T : State, T.heap = H → Stand p l e R s m args below meth c T locs cells slots →
    (∃ (v : Option Value) (st₀ t T' : State) (L : List Loc), st₀.heap = H ∧ Stand p l e R s m args below meth c T' (locs ++ L) (cells + mc) (slots + ms) ∧ (∀ q ∈ L, free q.base) ∧ T'.heap = t.heap ∧ T'.vm = t.vm ∧ Qa st₀ (.returned v) t ∧
      Goes p e below T g T' { g with pc := g.pc + 3, stack := v.toList ++ rest }) ∨
    (∃ (q : Addr) (st₀ t T' : State) (L : List Loc) (E : String) (ce : Cell), st₀.heap = H ∧ Stand p l e R s m args below meth c T' (locs ++ L) (cells + mc) (slots + ms) ∧ (∀ z ∈ L, free z.base) ∧ T'.heap = t.heap ∧ T'.vm = t.vm ∧ XC E st₀ t ∧ t.heap[q]? = some ce ∧ ce.vm = .none ∧ s.vm.findClass E = some ce.cls ∧
      Steps p.tables e below (T.setTop g) ((T'.setTop { g with stack := rest }).pushFrame (.throwing q)))
def vx_X {S : Type} (px : S → Prop) (B : String → S → State → Prop) (A : Nat → Prop) : String → State → State → Prop := fun E st t => ∃ u : S, px u ∧ B E u t ∧ va_F A st t
section Runs
variable {p : Program} {l : Launch} {e : Env} {R : Room} {s : State} {m : MethodId} {args : Array Value} {below : List Frame} {meth : Method} {c : Code} {H : Heap} {locs : List Loc} {cells slots : Nat}
variable {y : MethodName} {bytes cc : ByteArray} {maxL nL mc ms n index : Nat} {ret : Option FieldType} {ws : List Cond} {rm : Room} {Pc : Array Value → State → Prop} {Qc : Array Value → State → Outcome → State → Prop} {XC : String → State → State → Prop} {free : Addr → Prop} {Ts : List Cond} {own C : String} {b : Addr} {As rest : List Value} {g : JFrame}
theorem vx_callBack (cb : CallB R s args own index y bytes maxL ret ws rm mc ms n) (hM : vx_Met l y ws rm Pc Qc XC mc ms free) (hbl : FrameBlind Pc) : vx_Back l R p e below s args y 3 8 (PreOf R mc ms Pc) (PostOf Qc mc ms free) (vx_Post XC mc ms free) := by
  obtain ⟨hrc, hrs, hfr, hlo, hws, hcw, -, hini, -⟩ := cb
  exact vx_back (bytes := bytes) (maxL := maxL) (ret := ret) hM hbl hrc hrs hfr hlo hws hcw (fun a' U hW => word_at hW (Or.inl (by first | rfl | simp [Cond.onTables, Cond.keeps, Cond.steady])) hini)
theorem vx_runV (S : CallFix p m c cc nL s args Ts own) (hM : vx_Met l y ws rm Pc Qc XC mc ms free) (cw : CallW R s args own C index y bytes maxL ret ws rm mc ms n) (hp : PreV s H C b Pc As)
    (hg : g.method = m) (hn : As.length = n) (hsize : g.locals.size = nL) (hstack : g.stack = As.reverse ++ .ref b :: rest) (hW : 2 * g.monitorRoom + (rest.map fun v => v.category).sum ≤ 8) (hdg : decode cc g.pc = .ok (.invokevirtual index, 3)) (hf : cells + mc ≤ R.cells ∧ slots + ms ≤ R.slots) :
    vx_Run p l e R s m args below meth c H locs cells slots mc ms g rest (Qc (Value.ref b :: As).toArray) XC free := by
  have hK : vx_Back l R p e below s args y 3 8 (PreOf R mc ms Pc) (PostOf Qc mc ms free) (vx_Post XC mc ms free) := vx_callBack cw.1 hM hp.1
  obtain ⟨⟨-, -, -, -, -, -, hcode, -, hy, hlen, hl⟩, hin, hse⟩ := cw
  obtain ⟨hx, hb, hml, ho, -⟩ := S
  obtain ⟨-, ⟨cellB, hcB, hoB, hclB⟩, hPc⟩ := hp
  intro T hT X
  rcases vx_callV X hx (C := C) (bytes := bytes) (maxL := maxL) (ret := ret) ho hl hin hse hcode hy hK (by rw [hT]; exact hcB) hoB hclB hg (hsize.trans hml.symm) (argsL := As) (rest := rest) (fun sig h => hn.trans (hlen sig h)) hstack hW (by rw [hb]; exact hdg)
    (fun vm₁ hW₁ => ⟨hf.1, hf.2, hPc (T.setVm vm₁) hT hW₁⟩) with ⟨v, vm₁, ⟨U', l2, c2, s2⟩, hW₁, X', ⟨g', mk, t, L, e1, e2, hq, h1, hL, h2, h3⟩, st⟩ | ⟨q, vm₁, ⟨U', l2, c2, s2⟩, hW₁, X', ⟨g', mk, t, L, E, ce, e1, e2, hq, hce, hcv, hcl, h1, hL, h2, h3⟩, st⟩
  · dsimp only [Pt.U, Pt.locs, Pt.cells, Pt.slots] at X' e1 e2 h1 h2 h3 st
    subst h1; subst h2; subst h3
    exact Or.inl ⟨v, (T.setVm vm₁).calling g' mk (Value.ref b :: As).toArray, t, U', L, hT, X', hL, e1, e2, hq, st⟩
  · dsimp only [Pt.U, Pt.locs, Pt.cells, Pt.slots] at X' e1 e2 h1 h2 h3 st hcl
    subst h1; subst h2; subst h3
    exact Or.inr ⟨q, (T.setVm vm₁).calling g' mk (Value.ref b :: As).toArray, t, U', L, E, ce, hT, X', hL, e1, e2, hq, hce, hcv, vx_cls hW₁ hcl, st⟩
theorem vx_runS (S : CallFix p m c cc nL s args Ts own) (hM : vx_Met l y ws rm Pc Qc XC mc ms free) (cw : CallB R s args own index y bytes maxL ret ws rm mc ms n ∧ (Cond.static y).before args s = true) (hp : PreS s H Pc As)
    (hg : g.method = m) (hn : As.length = n) (hsize : g.locals.size = nL) (hstack : g.stack = As.reverse ++ rest) (hW : 2 * g.monitorRoom + (rest.map fun v => v.category).sum ≤ 8) (hdg : decode cc g.pc = .ok (.invokestatic index, 3)) (hf : cells + mc ≤ R.cells ∧ slots + ms ≤ R.slots) :
    vx_Run p l e R s m args below meth c H locs cells slots mc ms g rest (Qc As.toArray) XC free := by
  have hK : vx_Back l R p e below s args y 3 8 (PreOf R mc ms Pc) (PostOf Qc mc ms free) (vx_Post XC mc ms free) := vx_callBack cw.1 hM hp.1
  obtain ⟨⟨-, -, -, -, -, -, hcode, hini, hy, hlen, hl⟩, hstt⟩ := cw
  obtain ⟨hx, hb, hml, ho, -⟩ := S
  intro T hT X
  rcases vx_callS X hx (bytes := bytes) (maxL := maxL) (ret := ret) ho hl hstt hini hcode hy hK hg (hsize.trans hml.symm) (argsL := As) (rest := rest) (fun sig h => hn.trans (hlen sig h)) hstack hW (by rw [hb]; exact hdg)
    (fun vm₁ hW₁ => ⟨hf.1, hf.2, hp.2 (T.setVm vm₁) hT hW₁⟩) with ⟨v, vm₁, ⟨U', l2, c2, s2⟩, hW₁, X', ⟨g', mk, t, L, e1, e2, hq, h1, hL, h2, h3⟩, st⟩ | ⟨q, vm₁, ⟨U', l2, c2, s2⟩, hW₁, X', ⟨g', mk, t, L, E, ce, e1, e2, hq, hce, hcv, hcl, h1, hL, h2, h3⟩, st⟩
  · dsimp only [Pt.U, Pt.locs, Pt.cells, Pt.slots] at X' e1 e2 h1 h2 h3 st
    subst h1; subst h2; subst h3
    exact Or.inl ⟨v, (T.setVm vm₁).calling g' mk As.toArray, t, U', L, hT, X', hL, e1, e2, hq, st⟩
  · dsimp only [Pt.U, Pt.locs, Pt.cells, Pt.slots] at X' e1 e2 h1 h2 h3 st hcl
    subst h1; subst h2; subst h3
    exact Or.inr ⟨q, (T.setVm vm₁).calling g' mk As.toArray, t, U', L, E, ce, hT, X', hL, e1, e2, hq, hce, hcv, vx_cls hW₁ hcl, st⟩
end Runs
section Rows
variable {p : Program} {l : Launch} {e : Env} {R : Room} {s : State} {m : MethodId} {args : Array Value} {below : List Frame} {meth : Method} {c : Code} {H : Heap} {locs : List Loc} {cells slots : Nat} {Q : State → Prop}
variable {mc ms : Nat} {free : Addr → Prop} {A0 A1 : Nat → Prop} {H0 : Heap} {a : Array Value} {pc : Nat} {ls : Array Slot} {st0 rest : List Value}
theorem vx_keep {st₀ t T' : State} {L : List Loc} (h0 : st₀.heap = H) (e1 : T'.heap = t.heap) (hS : va_S A0 H0 H locs) (hA : ∀ q, q < H.size → A1 q → A0 q) (hf : ∀ q, free q → A0 q) (hL : ∀ q ∈ L, free q.base) (hF : va_F A1 st₀ t) :
    H.size ≤ T'.heap.size ∧ (∀ q : Nat, q < H.size → ¬ A1 q → T'.heap[q]? = H[q]?) ∧ va_S A0 H0 T'.heap (locs ++ L) := by
  obtain ⟨hz, hk⟩ := hF
  rw [h0] at hz hk
  exact ⟨by rw [e1]; exact hz, fun q h1 h2 => by rw [e1]; exact hk q h1 h2,
    ⟨Nat.le_trans hS.1 (by rw [e1]; exact hz), fun q h1 h2 => by rw [e1, hk q (Nat.lt_of_lt_of_le h1 hS.1) (fun z => h2 (hA q (Nat.lt_of_lt_of_le h1 hS.1) z))]; exact hS.2.1 q h1 h2, fun q hq => by
      rcases List.mem_append.mp hq with h | h
      · exact hS.2.2 q h
      · exact hf _ (hL q h)⟩⟩
theorem vx_calli {S SX : Type} {post : Int32 → S → Prop} {px : SX → Prop} {B : S → State → Prop} {BX : String → SX → State → Prop} {AX : Nat → Prop} (hr : vx_Run p l e R s m args below meth c H locs cells slots mc ms (F0 m pc ls st0) rest (va_Qi post B A1 a) (vx_X px BX AX) free) (hS : va_S A0 H0 H locs) (hA : ∀ q, q < H.size → A1 q → A0 q) (hf : ∀ q, free q → A0 q) (hAX : ∀ q, q < H.size → AX q → A0 q)
    (kx : ∀ (E : String) (ce : Cell) (q9 : Addr) (u : SX) (t : State) (H1 : Heap) (locs1 : List Loc), t.heap = H1 → s.vm.Alike t.vm → px u → BX E u t → H.size ≤ H1.size → (∀ q : Nat, q < H.size → ¬ AX q → H1[q]? = H[q]?) → va_S A0 H0 H1 locs1 → H1[q9]? = some ce → ce.vm = .none → s.vm.findClass E = some ce.cls → vx_W p l e R s m args below meth c H1 locs1 (cells + mc) (slots + ms) Q (F0 m pc ls rest) q9)
    (kk : ∀ (r : Int32) (u : S) (t : State) (H1 : Heap) (locs1 : List Loc), t.heap = H1 → s.vm.Alike t.vm → post r u → B u t → H.size ≤ H1.size → (∀ q : Nat, q < H.size → ¬ A1 q → H1[q]? = H[q]?) → va_S A0 H0 H1 locs1 → W p l e R s m args below meth c H1 locs1 (cells + mc) (slots + ms) Q (F0 m (pc + 3) ls (.int r :: rest))) : W p l e R s m args below meth c H locs cells slots Q (F0 m pc ls st0) := by
  intro T hT X
  rcases hr T hT X with ⟨v, st₀, t, T', L, h0, X', hL, e1, e2, ⟨⟨r, u, hv, hp, hb⟩, hF⟩, st⟩ | ⟨q, st₀, t, T', L, E, ce, h0, X', hL, e1, e2, ⟨u, hp, hb, hF⟩, hce, hcv, hcl, st⟩
  · cases hv
    obtain ⟨k1, k2, k3⟩ := vx_keep h0 e1 hS hA hf hL hF
    obtain ⟨t2, a1, b1⟩ := kk r u t T'.heap (locs ++ L) e1.symm (by rw [← e2]; exact X'.warmed.alike) hp hb k1 k2 k3 T' rfl X'
    exact ⟨t2, st t2 a1, b1⟩
  · obtain ⟨k1, k2, k3⟩ := vx_keep h0 e1 hS hAX hf hL hF
    obtain ⟨t2, a1, b1⟩ := kx E ce q u t T'.heap (locs ++ L) e1.symm (by rw [← e2]; exact X'.warmed.alike) hp hb k1 k2 k3 (by rw [e1]; exact hce) hcv hcl T' rfl X'
    exact ⟨t2, st.trans a1, b1⟩
theorem vx_calll {S SX : Type} {post : Int64 → S → Prop} {px : SX → Prop} {B : S → State → Prop} {BX : String → SX → State → Prop} {AX : Nat → Prop} (hr : vx_Run p l e R s m args below meth c H locs cells slots mc ms (F0 m pc ls st0) rest (va_Ql post B A1 a) (vx_X px BX AX) free) (hS : va_S A0 H0 H locs) (hA : ∀ q, q < H.size → A1 q → A0 q) (hf : ∀ q, free q → A0 q) (hAX : ∀ q, q < H.size → AX q → A0 q)
    (kx : ∀ (E : String) (ce : Cell) (q9 : Addr) (u : SX) (t : State) (H1 : Heap) (locs1 : List Loc), t.heap = H1 → s.vm.Alike t.vm → px u → BX E u t → H.size ≤ H1.size → (∀ q : Nat, q < H.size → ¬ AX q → H1[q]? = H[q]?) → va_S A0 H0 H1 locs1 → H1[q9]? = some ce → ce.vm = .none → s.vm.findClass E = some ce.cls → vx_W p l e R s m args below meth c H1 locs1 (cells + mc) (slots + ms) Q (F0 m pc ls rest) q9)
    (kk : ∀ (r : Int64) (u : S) (t : State) (H1 : Heap) (locs1 : List Loc), t.heap = H1 → s.vm.Alike t.vm → post r u → B u t → H.size ≤ H1.size → (∀ q : Nat, q < H.size → ¬ A1 q → H1[q]? = H[q]?) → va_S A0 H0 H1 locs1 → W p l e R s m args below meth c H1 locs1 (cells + mc) (slots + ms) Q (F0 m (pc + 3) ls (.long r :: rest))) : W p l e R s m args below meth c H locs cells slots Q (F0 m pc ls st0) := by
  intro T hT X
  rcases hr T hT X with ⟨v, st₀, t, T', L, h0, X', hL, e1, e2, ⟨⟨r, u, hv, hp, hb⟩, hF⟩, st⟩ | ⟨q, st₀, t, T', L, E, ce, h0, X', hL, e1, e2, ⟨u, hp, hb, hF⟩, hce, hcv, hcl, st⟩
  · cases hv
    obtain ⟨k1, k2, k3⟩ := vx_keep h0 e1 hS hA hf hL hF
    obtain ⟨t2, a1, b1⟩ := kk r u t T'.heap (locs ++ L) e1.symm (by rw [← e2]; exact X'.warmed.alike) hp hb k1 k2 k3 T' rfl X'
    exact ⟨t2, st t2 a1, b1⟩
  · obtain ⟨k1, k2, k3⟩ := vx_keep h0 e1 hS hAX hf hL hF
    obtain ⟨t2, a1, b1⟩ := kx E ce q u t T'.heap (locs ++ L) e1.symm (by rw [← e2]; exact X'.warmed.alike) hp hb k1 k2 k3 (by rw [e1]; exact hce) hcv hcl T' rfl X'
    exact ⟨t2, st.trans a1, b1⟩
theorem vx_callf {S SX : Type} {post : UInt32 → S → Prop} {px : SX → Prop} {B : S → State → Prop} {BX : String → SX → State → Prop} {AX : Nat → Prop} (hr : vx_Run p l e R s m args below meth c H locs cells slots mc ms (F0 m pc ls st0) rest (va_Qf post B A1 a) (vx_X px BX AX) free) (hS : va_S A0 H0 H locs) (hA : ∀ q, q < H.size → A1 q → A0 q) (hf : ∀ q, free q → A0 q) (hAX : ∀ q, q < H.size → AX q → A0 q)
    (kx : ∀ (E : String) (ce : Cell) (q9 : Addr) (u : SX) (t : State) (H1 : Heap) (locs1 : List Loc), t.heap = H1 → s.vm.Alike t.vm → px u → BX E u t → H.size ≤ H1.size → (∀ q : Nat, q < H.size → ¬ AX q → H1[q]? = H[q]?) → va_S A0 H0 H1 locs1 → H1[q9]? = some ce → ce.vm = .none → s.vm.findClass E = some ce.cls → vx_W p l e R s m args below meth c H1 locs1 (cells + mc) (slots + ms) Q (F0 m pc ls rest) q9)
    (kk : ∀ (r : UInt32) (u : S) (t : State) (H1 : Heap) (locs1 : List Loc), t.heap = H1 → s.vm.Alike t.vm → post r u → B u t → H.size ≤ H1.size → (∀ q : Nat, q < H.size → ¬ A1 q → H1[q]? = H[q]?) → va_S A0 H0 H1 locs1 → W p l e R s m args below meth c H1 locs1 (cells + mc) (slots + ms) Q (F0 m (pc + 3) ls (.float r :: rest))) : W p l e R s m args below meth c H locs cells slots Q (F0 m pc ls st0) := by
  intro T hT X
  rcases hr T hT X with ⟨v, st₀, t, T', L, h0, X', hL, e1, e2, ⟨⟨r, u, hv, hp, hb⟩, hF⟩, st⟩ | ⟨q, st₀, t, T', L, E, ce, h0, X', hL, e1, e2, ⟨u, hp, hb, hF⟩, hce, hcv, hcl, st⟩
  · cases hv
    obtain ⟨k1, k2, k3⟩ := vx_keep h0 e1 hS hA hf hL hF
    obtain ⟨t2, a1, b1⟩ := kk r u t T'.heap (locs ++ L) e1.symm (by rw [← e2]; exact X'.warmed.alike) hp hb k1 k2 k3 T' rfl X'
    exact ⟨t2, st t2 a1, b1⟩
  · obtain ⟨k1, k2, k3⟩ := vx_keep h0 e1 hS hAX hf hL hF
    obtain ⟨t2, a1, b1⟩ := kx E ce q u t T'.heap (locs ++ L) e1.symm (by rw [← e2]; exact X'.warmed.alike) hp hb k1 k2 k3 (by rw [e1]; exact hce) hcv hcl T' rfl X'
    exact ⟨t2, st.trans a1, b1⟩
theorem vx_calld {S SX : Type} {post : UInt64 → S → Prop} {px : SX → Prop} {B : S → State → Prop} {BX : String → SX → State → Prop} {AX : Nat → Prop} (hr : vx_Run p l e R s m args below meth c H locs cells slots mc ms (F0 m pc ls st0) rest (va_Qd post B A1 a) (vx_X px BX AX) free) (hS : va_S A0 H0 H locs) (hA : ∀ q, q < H.size → A1 q → A0 q) (hf : ∀ q, free q → A0 q) (hAX : ∀ q, q < H.size → AX q → A0 q)
    (kx : ∀ (E : String) (ce : Cell) (q9 : Addr) (u : SX) (t : State) (H1 : Heap) (locs1 : List Loc), t.heap = H1 → s.vm.Alike t.vm → px u → BX E u t → H.size ≤ H1.size → (∀ q : Nat, q < H.size → ¬ AX q → H1[q]? = H[q]?) → va_S A0 H0 H1 locs1 → H1[q9]? = some ce → ce.vm = .none → s.vm.findClass E = some ce.cls → vx_W p l e R s m args below meth c H1 locs1 (cells + mc) (slots + ms) Q (F0 m pc ls rest) q9)
    (kk : ∀ (r : UInt64) (u : S) (t : State) (H1 : Heap) (locs1 : List Loc), t.heap = H1 → s.vm.Alike t.vm → post r u → B u t → H.size ≤ H1.size → (∀ q : Nat, q < H.size → ¬ A1 q → H1[q]? = H[q]?) → va_S A0 H0 H1 locs1 → W p l e R s m args below meth c H1 locs1 (cells + mc) (slots + ms) Q (F0 m (pc + 3) ls (.double r :: rest))) : W p l e R s m args below meth c H locs cells slots Q (F0 m pc ls st0) := by
  intro T hT X
  rcases hr T hT X with ⟨v, st₀, t, T', L, h0, X', hL, e1, e2, ⟨⟨r, u, hv, hp, hb⟩, hF⟩, st⟩ | ⟨q, st₀, t, T', L, E, ce, h0, X', hL, e1, e2, ⟨u, hp, hb, hF⟩, hce, hcv, hcl, st⟩
  · cases hv
    obtain ⟨k1, k2, k3⟩ := vx_keep h0 e1 hS hA hf hL hF
    obtain ⟨t2, a1, b1⟩ := kk r u t T'.heap (locs ++ L) e1.symm (by rw [← e2]; exact X'.warmed.alike) hp hb k1 k2 k3 T' rfl X'
    exact ⟨t2, st t2 a1, b1⟩
  · obtain ⟨k1, k2, k3⟩ := vx_keep h0 e1 hS hAX hf hL hF
    obtain ⟨t2, a1, b1⟩ := kx E ce q u t T'.heap (locs ++ L) e1.symm (by rw [← e2]; exact X'.warmed.alike) hp hb k1 k2 k3 (by rw [e1]; exact hce) hcv hcl T' rfl X'
    exact ⟨t2, st.trans a1, b1⟩
theorem vx_callv {S SX : Type} {post : S → Prop} {px : SX → Prop} {B : S → State → Prop} {BX : String → SX → State → Prop} {AX : Nat → Prop} (hr : vx_Run p l e R s m args below meth c H locs cells slots mc ms (F0 m pc ls st0) rest (va_Qv post B A1 a) (vx_X px BX AX) free) (hS : va_S A0 H0 H locs) (hA : ∀ q, q < H.size → A1 q → A0 q) (hf : ∀ q, free q → A0 q) (hAX : ∀ q, q < H.size → AX q → A0 q)
    (kx : ∀ (E : String) (ce : Cell) (q9 : Addr) (u : SX) (t : State) (H1 : Heap) (locs1 : List Loc), t.heap = H1 → s.vm.Alike t.vm → px u → BX E u t → H.size ≤ H1.size → (∀ q : Nat, q < H.size → ¬ AX q → H1[q]? = H[q]?) → va_S A0 H0 H1 locs1 → H1[q9]? = some ce → ce.vm = .none → s.vm.findClass E = some ce.cls → vx_W p l e R s m args below meth c H1 locs1 (cells + mc) (slots + ms) Q (F0 m pc ls rest) q9)
    (kk : ∀ (u : S) (t : State) (H1 : Heap) (locs1 : List Loc), t.heap = H1 → s.vm.Alike t.vm → post u → B u t → H.size ≤ H1.size → (∀ q : Nat, q < H.size → ¬ A1 q → H1[q]? = H[q]?) → va_S A0 H0 H1 locs1 → W p l e R s m args below meth c H1 locs1 (cells + mc) (slots + ms) Q (F0 m (pc + 3) ls (rest))) : W p l e R s m args below meth c H locs cells slots Q (F0 m pc ls st0) := by
  intro T hT X
  rcases hr T hT X with ⟨v, st₀, t, T', L, h0, X', hL, e1, e2, ⟨⟨u, hv, hp, hb⟩, hF⟩, st⟩ | ⟨q, st₀, t, T', L, E, ce, h0, X', hL, e1, e2, ⟨u, hp, hb, hF⟩, hce, hcv, hcl, st⟩
  · cases hv
    obtain ⟨k1, k2, k3⟩ := vx_keep h0 e1 hS hA hf hL hF
    obtain ⟨t2, a1, b1⟩ := kk u t T'.heap (locs ++ L) e1.symm (by rw [← e2]; exact X'.warmed.alike) hp hb k1 k2 k3 T' rfl X'
    exact ⟨t2, st t2 a1, b1⟩
  · obtain ⟨k1, k2, k3⟩ := vx_keep h0 e1 hS hAX hf hL hF
    obtain ⟨t2, a1, b1⟩ := kx E ce q u t T'.heap (locs ++ L) e1.symm (by rw [← e2]; exact X'.warmed.alike) hp hb k1 k2 k3 (by rw [e1]; exact hce) hcv hcl T' rfl X'
    exact ⟨t2, st.trans a1, b1⟩
/-- caught by the row x of this method's table; the rows ahead don't take it -/
theorem vx_catch {own name : String} {E : String} {ce : Cell} {q : Addr} (hown : s.vm.findClass own = some m.cls) (pre : List ExceptionTableEntry) (x : ExceptionTableEntry) (suf : List ExceptionTableEntry) (hsplit : c.exceptionTable.toList = pre ++ x :: suf)
    (hpass : ∀ z ∈ pre, covers z pc = false ∨ (z.catchType ≠ 0 ∧ ∃ nm : String, (Cond.classLink own z.catchType nm).before args s = true ∧ va_Nc E nm s)) (hx : covers x pc = true) (h0 : x.catchType ≠ 0)
    (hlink : (Cond.classLink own x.catchType name).before args s = true) (hcast : (Cond.castable E name).before args s = true) (hcell : H[q]? = some ce) (hv : ce.vm = .none) (hcl : s.vm.findClass E = some ce.cls)
    (kk : W p l e R s m args below meth c H locs cells slots Q (F0 m x.handlerPc ls [.ref q])) : vx_W p l e R s m args below meth c H locs cells slots Q (F0 m pc ls rest) q := by
  intro T hT X
  have hpl : e.platform.magicAccessors = ({} : Platform).magicAccessors := by rw [X.admits.platform]
  obtain ⟨c3, c4, hc3, hc4, hasg⟩ := Cond.castable_spec hcast
  cases Option.some.inj (hc3.symm.trans hcl)
  obtain ⟨c5, hc5, hcl5⟩ := Cond.classLink_spec hown hlink e.platform hpl
  cases Option.some.inj (hc4.symm.trans hc5)
  obtain ⟨vm', X', st⟩ := X.thenCaughtThrough q (g := F0 m pc ls rest) rfl (Steps.refl _) (by rw [hT]; exact hcell) (by rw [hv]; rfl) (by obtain ⟨k9, h9, -⟩ := Vm.findClass_spec hcl; exact ⟨k9, h9⟩) pre x suf hsplit
    (fun z hz => by
      rcases hpass z hz with h | ⟨hz0, nm, hl1, hn1⟩
      · exact Or.inl h
      · obtain ⟨c6, hc6, hcl6⟩ := Cond.classLink_spec hown hl1 e.platform hpl
        obtain ⟨a8, b8, h1, h2, h3⟩ := hn1
        cases Option.some.inj (h1.symm.trans hcl)
        cases Option.some.inj (h2.symm.trans hc6)
        exact Or.inr ⟨hz0, _, hcl6, h3⟩) hx (Or.inr ⟨h0, c4, hcl5, hasg⟩)
  obtain ⟨t, a1, b1⟩ := kk (T.setVm vm') hT X'
  exact ⟨t, st.trans a1, b1⟩
end Rows
section Ends
variable {p : Program} {l : Launch} {e : Env} {R : Room} {s : State} {m : MethodId} {args : Array Value} {below : List Frame} {meth : Method} {c : Code} {H : Heap} {locs : List Loc} {cells slots : Nat} {Q : State → Prop}
variable {mc ms : Nat} {free : Addr → Prop} {A0 A1 : Nat → Prop} {H0 : Heap} {a : Array Value} {ls : Array Slot} {st0 rest : List Value}
variable {Qc : Array Value → State → Outcome → State → Prop} {XC : String → State → State → Prop}
/-- what a body that may throw owes at its end -/
def vx_MQ (below : List Frame) (Qc : Array Value → State → Outcome → State → Prop) (XC : String → State → State → Prop) (a : Array Value) (s : State) (mc ms : Nat) (free : Addr → Prop) : State → Prop := fun t =>
  ∃ o, t.status = .running ∧ Ended t below o ∧ vx_Q Qc XC mc ms free a s o t
theorem vx_ret {g : JFrame} {mc ms : Nat} (k : W p l e R s m args below meth c H locs cells slots (MQ below Qc args s mc ms free) g) : W p l e R s m args below meth c H locs cells slots (vx_MQ below Qc XC args s mc ms free) g := by
  intro T hT X
  obtain ⟨t, a1, o, b1, b2, b3, b4⟩ := k T hT X
  exact ⟨t, a1, o, b1, b2, Or.inl ⟨b3, b4⟩⟩
/-- not caught here: it goes on to the caller -/
theorem vx_widen {g : JFrame} {q : Addr} {k n : Nat} (h1 : cells ≤ k) (h2 : slots ≤ n) (kk : vx_W p l e R s m args below meth c H locs k n Q g q) : vx_W p l e R s m args below meth c H locs cells slots Q g q := fun T hT X => kk T hT (stand_widen X h1 h2)
theorem vx_out {pc : Nat} {E : String} {ce : Cell} {q : Addr} {mc ms : Nat} (hout : ∀ x ∈ c.exceptionTable.toList, covers x pc = false) (hlocks : meth.locks = false) (hcell : H[q]? = some ce) (hv : ce.vm = .none) (hcl : s.vm.findClass E = some ce.cls)
    (hx : ∀ t : State, t.heap = H → s.vm.Alike t.vm → XC E s t) (hf : ∀ z ∈ locs, free z.base) (hc : cells ≤ mc) (hs : slots ≤ ms) :
    vx_W p l e R s m args below meth c H locs cells slots (vx_MQ below Qc XC args s mc ms free) (F0 m pc ls rest) q := by
  intro T hT X
  obtain ⟨st1, hrun, hend, hW, hsm⟩ := X.leaveThrown q (g := F0 m pc ls rest) rfl rfl rfl hout hlocks
  have hcell9 : (T.setFrames (.throwing q :: below)).heap[q]? = some ce := by
    show T.heap[q]? = some ce
    rw [hT]; exact hcell
  exact ⟨_, st1, .threw q, hrun, hend, Or.inr ⟨q, rfl, E, ce, locs, hx _ hT hW.alike, hcell9, hv, hcl, hW, hsm.mono hc hs, hf⟩⟩
theorem vx_frame {U : State} {k n : Nat} (h : s.sameButNew ({ U with vm := s.vm } : State) locs k n) : s.heap.size ≤ U.heap.size ∧ ∀ q : Nat, q < s.heap.size → (∀ z ∈ locs, z.base ≠ q) → U.heap[q]? = s.heap[q]? := by
  obtain ⟨-, h2, -, -, -, h6⟩ := h
  refine ⟨h2, fun q hq hz => ?_⟩
  obtain ⟨c9, e1, e2, e3, e4⟩ := h6 q _ (Array.getElem?_eq_getElem hq)
  have hs : c9.slots = (s.heap[q]).slots := Array.ext_getElem? fun i => e4 i fun hm => hz _ hm rfl
  have h9 : c9 = s.heap[q] := by
    rw [hs] at e2
    exact e2
  have e5 : U.heap[q]? = some c9 := e1
  rw [e5, h9, Array.getElem?_eq_getElem hq]
/-- the words of a throw but the four that speak of the heap -/
def vx_no (w : Cond) : Bool := decide (w ≠ .isRef (.static Bundle.tN "UNASSIGNED_STACK" Bundle.steD)) && decide (w ≠ .isRef (.static Bundle.tN "SUPPRESSED_SENTINEL" Bundle.listD)) && decide (w ≠ .laysStatic Bundle.tN "UNASSIGNED_STACK" Bundle.steD) && decide (w ≠ .laysStatic Bundle.tN "SUPPRESSED_SENTINEL" Bundle.listD)
def vx_at0 (own : String) (ic : Nat) (X : String) (names : List String) : List Cond := (Bundle.ownAtoms0 own ic X names).filter vx_no
def vx_atS (own : String) (ic : Nat) (X : String) (names : List String) : List Cond := (Bundle.ownAtoms own ic X names).filter vx_no
/-- a word that the tables alone decide, or a good one -/
def vx_ot (w : Cond) : Bool := w.onTables || goodWord w
theorem vx_ot_at {args a' : Array Value} {s U : State} {w : Cond} (hW : s.WarmedH U.vm) (hvm : s.vm = U.vm) (hg : vx_ot w = true) (h : w.before args s = true) : w.before a' U = true := by
  simp only [vx_ot, Bool.or_eq_true] at hg
  rcases hg with hg | hg
  · exact va_tabs hg hvm h
  · exact word_at hW (good_of_word hg) h
/-- a list's words: the good ones out of the method's own list, the others by premises of their own -/
theorem vx_hat {args : Array Value} {s : State} {L B : List Cond} (h1 : ∀ w ∈ L.filter goodWord, w.before args s = true) (h2 : ∀ w ∈ L.filter (fun w => !goodWord w), w ∈ B) (h3 : ∀ w ∈ B, w.before args s = true) : ∀ w ∈ L, w.before args s = true := by
  intro w hw
  by_cases g : goodWord w = true
  · exact h1 w (List.mem_filter.mpr ⟨hw, g⟩)
  · refine h3 w (h2 w (List.mem_filter.mpr ⟨hw, ?_⟩))
    show (!goodWord w) = true
    cases hgw : goodWord w
    · rfl
    · exact absurd hgw g
theorem vx_c {args : Array Value} {s : State} {w : Cond} {B : List Cond} (h : w.before args s = true) (t : ∀ w ∈ B, w.before args s = true) : ∀ w' ∈ w :: B, w'.before args s = true := fun w' h' => (List.mem_cons.mp h').elim (fun e => by rw [e]; exact h) (t w')
theorem vx_n {args : Array Value} {s : State} : ∀ w ∈ ([] : List Cond), w.before args s = true := fun _ h => nomatch h
theorem vx_own {args : Array Value} {s : State} {L : List Cond} (h1 : ∀ w ∈ L.filter vx_no, w.before args s = true)
    (hU : (Cond.isRef (.static Bundle.tN "UNASSIGNED_STACK" Bundle.steD)).before args s = true) (hN : (Cond.isRef (.static Bundle.tN "SUPPRESSED_SENTINEL" Bundle.listD)).before args s = true)
    (lU : (Cond.laysStatic Bundle.tN "UNASSIGNED_STACK" Bundle.steD).before args s = true) (lN : (Cond.laysStatic Bundle.tN "SUPPRESSED_SENTINEL" Bundle.listD).before args s = true) : ∀ w ∈ L, w.before args s = true := by
  intro w hw
  by_cases e1 : w = .isRef (.static Bundle.tN "UNASSIGNED_STACK" Bundle.steD)
  · rw [e1]; exact hU
  · by_cases e2 : w = .isRef (.static Bundle.tN "SUPPRESSED_SENTINEL" Bundle.listD)
    · rw [e2]; exact hN
    · by_cases e3 : w = .laysStatic Bundle.tN "UNASSIGNED_STACK" Bundle.steD
      · rw [e3]; exact lU
      · by_cases e4 : w = .laysStatic Bundle.tN "SUPPRESSED_SENTINEL" Bundle.listD
        · rw [e4]; exact lN
        · exact h1 w (List.mem_filter.mpr ⟨hw, by unfold vx_no; rw [decide_eq_true e1, decide_eq_true e2, decide_eq_true e3, decide_eq_true e4]; rfl⟩)
/-- where a static field lies, its class's statics cell in H -/
def vx_L (C n d : String) (A : Nat → Prop) (U : State) (H : Heap) : Prop := ∃ (c : ClassId) (k : Class) (i : Nat) (f : Field) (a : Nat) (cell : Cell), U.vm.findClass C = some c ∧ U.fieldFound? C n d = some (c, k, i, f) ∧ f.isStatic = true ∧ k.statics = some a ∧ H[a]? = some cell ∧ cell.vm.isStatics = true ∧ cell.cls = c ∧ f.slot < cell.slots.size ∧ k.staticTypes[f.slot]? = some f.type ∧ ¬ A a
theorem vx_L.moved {C n d : String} {A : Nat → Prop} {u U : State} {H : Heap} (hvm : u.vm.Alike U.vm) (h : vx_L C n d A u H) : vx_L C n d A U H := by
  obtain ⟨c, k, i, f, a, cell, h1, h2, h3, h4, h5, h6, h7, h8, h9, h10⟩ := h
  obtain ⟨k', hi', he⟩ := State.fieldFound?_setVm hvm h2
  exact ⟨c, k', i, f, a, cell, by rw [hvm.findClass]; exact h1, hi', h3, by rw [he]; exact h4, h5, h6, h7, h8, by rw [he]; exact h9, h10⟩
theorem vx_L.kept {C n d : String} {A : Nat → Prop} {U : State} {H H1 : Heap} (h : vx_L C n d A U H) (hq : ∀ a : Nat, a < H.size → ¬ A a → H1[a]? = H[a]?) : vx_L C n d A U H1 := by
  obtain ⟨c, k, i, f, a, cell, h1, h2, h3, h4, h5, h6, h7, h8, h9, h10⟩ := h
  exact ⟨c, k, i, f, a, cell, h1, h2, h3, h4, by rw [hq a (Array.getElem?_eq_some_iff.mp h5).1 h10]; exact h5, h6, h7, h8, h9, h10⟩
theorem vx_L.narrow {C n d : String} {A B : Nat → Prop} {U : State} {H : Heap} (h : vx_L C n d A U H) (hAB : ∀ q, B q → A q) : vx_L C n d B U H := by
  obtain ⟨c, k, i, f, a, cell, h1, h2, h3, h4, h5, h6, h7, h8, h9, h10⟩ := h
  exact ⟨c, k, i, f, a, cell, h1, h2, h3, h4, h5, h6, h7, h8, h9, fun z => h10 (hAB _ z)⟩
theorem vx_L.word {C n d : String} {A : Nat → Prop} {s : State} {args : Array Value} (h : vx_L C n d A s s.heap) : (Cond.laysStatic C n d).before args s = true := by
  obtain ⟨c, k, i, f, a, cell, h1, h2, h3, h4, h5, h6, h7, h8, h9, -⟩ := h
  show (Cond.laysStatic C n d).holds args s none s [] = true
  exact Cond.laysStatic_of h1 h2 h3 h4 h5 h6 h7 h8 h9
/-- .. and what it holds: null or some reference -/
def vx_Zq (C n d : String) (A : Nat → Prop) (U : State) (H : Heap) : Prop := va_Zq C n d A U H ∧ vx_L C n d A U H
theorem vx_Zq.moved {C n d : String} {A : Nat → Prop} {u U : State} {H : Heap} (hvm : u.vm.Alike U.vm) (h : vx_Zq C n d A u H) : vx_Zq C n d A U H := ⟨va_Zq.moved hvm h.1, vx_L.moved hvm h.2⟩
theorem vx_Zq.kept {C n d : String} {A : Nat → Prop} {U : State} {H H1 : Heap} (h : vx_Zq C n d A U H) (hq : ∀ a : Nat, a < H.size → ¬ A a → H1[a]? = H[a]?) : vx_Zq C n d A U H1 := ⟨va_Zq.kept h.1 hq, vx_L.kept h.2 hq⟩
theorem vx_Zq.narrow {C n d : String} {A B : Nat → Prop} {U : State} {H : Heap} (h : vx_Zq C n d A U H) (hAB : ∀ q, B q → A q) : vx_Zq C n d B U H := ⟨va_Zq.narrow h.1 hAB, vx_L.narrow h.2 hAB⟩
theorem vx_Zqof {args : Array Value} {s : State} {C n d : String} {A : Nat → Prop} (hl : (Cond.laysStatic C n d).before args s = true) (hini : (Cond.initialized C).before args s = true) (h : (Cond.isRef (.static C n d)).before args s = true) (hA : ∀ a : Nat, a < s.heap.size → ¬ A a) : vx_Zq C n d A s s.heap := by
  refine ⟨va_Zqof hl hini h hA, ?_⟩
  obtain ⟨c, k, i, f, a, cell, h1, h2, h3, h4, h5, h6, h7, h8, h9⟩ := Cond.laysStatic_spec hl
  exact ⟨c, k, i, f, a, cell, h1, h2, h3, h4, h5, h6, h7, h8, h9, hA a (Array.getElem?_eq_some_iff.mp h5).1⟩
theorem vx_isRef {C n d : String} {v : Value} {A : Nat → Prop} {s : State} {args : Array Value} (h : va_Z C n d v A s s.heap) (hv : v.isRef = true) : (Cond.isRef (.static C n d)).before args s = true := by
  obtain ⟨cf, kf, fi, f, a, cell, h1, h2, h3, h4, h5, h6, h7, -⟩ := h
  have he : (Term.static C n d).eval args s none [] s = some v := by
    simp [Term.eval, State.fieldNamed?, h1, h2, h4, h5, h6, h7]
  simp only [Cond.before, Cond.holds, Cond.value, he]
  cases v <;> simp_all [Value.isRef]
theorem vx_isRefq {C n d : String} {A : Nat → Prop} {s : State} {args : Array Value} (h : va_Zq C n d A s s.heap) : (Cond.isRef (.static C n d)).before args s = true := by
  rcases h with h | ⟨t, h⟩
  · exact vx_isRef h rfl
  · exact vx_isRef h rfl
/-- the same frame, seen from here: as if the method were called anew in this heap -/
theorem vx_rebase {T : State} (X : Stand p l e R s m args below meth c T locs cells slots) {R' : Room} (hf : R'.frames ≤ R.frames) (hl : R'.locals ≤ R.locals) (hc : cells + R'.cells ≤ R.cells) (hs : slots + R'.slots ≤ R.slots) :
    Stand p l e R' ((T.setVm s.vm).setFrames (.invoking m args :: below)) m args below meth c T [] 0 0 := by
  have htop : (T.setVm s.vm).topJava?.isSome := X.here.top
  have hF : ((T.setVm s.vm).setFrames (.invoking m args :: below)).frames = .invoking m args :: below := State.frames_setFrames _ (State.cur_lt_of_top htop)
  obtain ⟨g₀, hg0⟩ := Option.isSome_iff_exists.mp htop
  obtain ⟨r, hr⟩ := State.topJava?_eq_some.mp hg0
  have hl9 : e.platform.stackLimits (T.setVm s.vm).me = e.platform.stackLimits s.me := X.limits
  have hb9 : (T.setVm s.vm).me.stackBytes = s.me.stackBytes := X.bytes
  refine ⟨X.admits, X.cas, X.clock, hF, ?_, X.hears, X.method, X.code, X.here, X.tail, X.warmed, ?_, ?_, ?_⟩
  · have h := X.room
    have hU : ((T.setVm s.vm).setFrames (.invoking m args :: below)).localsInUse = s.localsInUse := by
      rw [State.localsInUse_invoking hF (meth := meth) (c := c) X.method X.code, State.localsInUse_invoking X.frames X.method X.code]
    simp only [State.hasRoom, Bool.and_eq_true, decide_eq_true_eq] at h ⊢
    obtain ⟨⟨⟨⟨h1, h2, h3, h4, h5, h6⟩, h7⟩, h8⟩, h9⟩ := h
    rw [X.frames, List.length_cons] at h2 h3
    have q1 := X.heapSize
    have q2 := X.used
    simp only [hF, hU, List.length_cons, State.stackLimits_setFrames, State.stackBytes_setFrames, hl9, hb9]
    refine ⟨⟨⟨⟨by omega, by omega, by omega, by omega, by omega, h6⟩, ?_⟩, ?_⟩, X.book⟩
    · show T.heap.size + R'.cells ≤ e.platform.maxCells
      omega
    · show T.slotsUsed + R'.slots ≤ e.platform.maxSlots
      omega
  · rw [State.stackLimits_setFrames]; rfl
  · rw [State.stackBytes_setFrames]; rfl
  · refine ⟨?_, Nat.le_refl _, Nat.le_refl _, ?_, ?_, fun a c9 h9 => ⟨c9, h9, rfl, rfl, fun _ _ => rfl⟩⟩
    · obtain ⟨t, ht, -⟩ := State.frames_cons hr
      show T.setVm s.vm = { ((T.setVm s.vm).setFrames (.invoking m args :: below)).setFrames (T.setVm s.vm).frames with heap := T.heap, slotsUsed := T.slotsUsed }
      rw [State.setFrames_setFrames, State.setFrames_self ht]
      rfl
    · show T.slotsUsed = T.slotsUsed + ((T.heap.toList.drop T.heap.size).map (·.slots.size)).sum
      rw [List.drop_eq_nil_of_le (Nat.le_of_eq Array.length_toList)]
      rfl
    · show ((T.heap.toList.drop T.heap.size).map (·.slots.size)).sum ≤ 0
      rw [List.drop_eq_nil_of_le (Nat.le_of_eq Array.length_toList)]
      exact Nat.le_refl _
/-- 'throw new E()': new; dup; invokespecial; athrow -/
theorem vx_throw0 {cc : ByteArray} {pc : Nat} (hexec : p.tables.exec = Jvm.exec) (hb : c.code = cc) (hl : l.stackTraces = false) {own cls : String} {names : List String} {ik ic mc ms : Nat} {A : Nat → Prop}
    (hown : s.vm.findClass own = some m.cls) (hcls : Bundle.fit cls = true) (hnames : ∀ n ∈ names, Bundle.fit n = true)
    (hk : (Cond.classLink own ik cls).before args s = true) (hini : (Cond.initialized cls).before args s = true) (hat : ∀ w ∈ vx_at0 own ic cls names, w.before args s = true)
    (hgood : ∀ w ∈ Cond.classLink own ik cls :: Cond.initialized cls :: vx_at0 own ic cls names, vx_ot w = true)
    (hU : vx_Zq Bundle.tN "UNASSIGNED_STACK" Bundle.steD A s s.heap) (hN : vx_Zq Bundle.tN "SUPPRESSED_SENTINEL" Bundle.listD A s s.heap) (hS : va_S A s.heap H locs) (hsize : ls.size = c.maxLocals)
    (d0 : decode cc pc = .ok (.new ik, 3)) (d3 : decode cc (pc + 3) = .ok (.dup, 1)) (d4 : decode cc (pc + 4) = .ok (.invokespecial ic, 3)) (d7 : decode cc (pc + 7) = .ok (.athrow, 1))
    (hout : ∀ x ∈ c.exceptionTable.toList, covers x (pc + 7) = false)
    (hRframes : names.length + 3 < R.frames) (hRlocals : (rest.map fun v => v.category).sum + (13 * (names.length + 1) + 42) ≤ R.locals) (hRcells : cells + 1 ≤ R.cells) (hRslots : slots + 6 ≤ R.slots) (hlocks : meth.locks = false)
    (hx : ∀ t : State, s.vm.Alike t.vm → H.size ≤ t.heap.size → (∀ q : Nat, q < H.size → t.heap[q]? = H[q]?) → XC cls s t)
    (hf : ∀ z ∈ locs, free z.base) (hc : cells + 1 ≤ mc) (hs : slots + 6 ≤ ms) :
    W p l e R s m args below meth c H locs cells slots (vx_MQ below Qc XC args s mc ms free) (F0 m pc ls rest) := by
  intro T hT X
  have htr : e.platform.stackTraces = false := (show e.platform.stackTraces = l.stackTraces by rw [X.admits.platform]).trans hl
  have Y := vx_rebase X (R' := { frames := R.frames, locals := R.locals, cells := 1, slots := 6 }) (Nat.le_refl _) (Nat.le_refl _) hRcells hRslots
  obtain ⟨s', hA⟩ : ∃ z, z = (T.setVm s.vm).setFrames (.invoking m args :: below) := ⟨_, rfl⟩
  rw [← hA] at Y
  have hvm : s'.vm = s.vm := by rw [hA]; rfl
  have hhp : s'.heap = H := by rw [hA]; exact hT
  have hW0 : s.WarmedH s'.vm := by rw [hvm]; exact State.WarmedH.refl s
  have hat' : ∀ w ∈ vx_at0 own ic cls names, w.before args s' = true := fun w hw => vx_ot_at hW0 hvm.symm (hgood w (List.mem_cons_of_mem _ (List.mem_cons_of_mem _ hw))) (hat w hw)
  have hk' : (Cond.classLink own ik cls).before args s' = true := vx_ot_at hW0 hvm.symm (hgood _ List.mem_cons_self) hk
  have hini' : (Cond.initialized cls).before args s' = true := vx_ot_at hW0 hvm.symm (hgood _ (List.mem_cons_of_mem _ List.mem_cons_self)) hini
  have hU' : vx_Zq Bundle.tN "UNASSIGNED_STACK" Bundle.steD A s' s'.heap := by rw [hhp]; exact vx_Zq.moved hW0.alike (hU.kept hS.2.1)
  have hN' : vx_Zq Bundle.tN "SUPPRESSED_SENTINEL" Bundle.listD A s' s'.heap := by rw [hhp]; exact vx_Zq.moved hW0.alike (hN.kept hS.2.1)
  have h : ∀ w ∈ Bundle.ownAtoms0 own ic cls names, w.before args s' = true := vx_own hat' (vx_isRefq hU'.1) (vx_isRefq hN'.1) hU'.2.word hN'.2.word
  have hown' : s'.vm.findClass own = some m.cls := by rw [hvm]; exact hown
  have hins : (Cond.instantiable cls 6).before args s' = true := h _ (by simp [Bundle.ownAtoms0])
  obtain ⟨vm₁, cX, kX, hfX, hkX, -, -, X₁, st1⟩ := Y.newCold hexec (own := own) (C := cls) (index := ik) (n := 6) hown' hk' hins hini'
    (g := F0 m pc ls rest) rfl (by rw [hb]; exact d0) (Nat.le_refl _) (Nat.le_refl _)
  generalize hT1 : (T.setVm vm₁).pushCell { cls := cX, slots := kX.instanceTypes.map defaultValue, vm := .none } = T1 at X₁ st1
  have hcat : (Value.ref T.heap.size).category = 1 := rfl
  have hcellA : T1.heap[T.heap.size]? = some (freshCell cX kX) := by rw [← hT1]; exact State.heap_pushCell_size _ _
  have d3' : decode c.code (pc + 3) = .ok (.dup, 1) := by rw [hb]; exact d3
  obtain ⟨U, hsteps, hrun, hend, hW, hsame, ce, hce, hO⟩ := X₁.ctorThrow0 hexec htr (own := own) (cls := cls) (names := names) (ic := ic) hown' hcls hnames h (fun x hx => nomatch hx) hfX hkX hcellA (by rw [hhp, hT]; exact Nat.le_refl _)
    (g := { method := m, pc := pc + 4, locals := ls, stack := .ref T.heap.size :: .ref T.heap.size :: rest, locked := none }) rfl hsize rfl rfl (rest := rest) rfl
    (by rw [hb]; exact d4) (by rw [hb]; exact d7) hout hRframes (by simp only [List.map_cons, List.sum_cons, hcat]; omega) hlocks
  obtain ⟨f1, f2⟩ := vx_frame hsame
  rw [hhp] at f1 f2
  have hWs : s.WarmedH U.vm := State.WarmedH.trans hW0 hW
  have hcl : s.vm.findClass cls = some ce.cls := by
    have h9 := hO.cls
    rw [hvm] at h9
    exact h9
  have hall : s.sameButNew ({ U with vm := s.vm } : State) locs mc ms := by
    subst hA
    obtain ⟨e1, e2⟩ := hsame
    rw [State.setFrames_setFrames] at e1
    have h2 : (T.setVm s.vm).sameButNew ({ U with vm := s.vm } : State) [] (0 + 1) (0 + 6) := ⟨e1, e2⟩
    have h3 := X.same.trans h2
    rw [List.append_nil] at h3
    exact h3.mono hc hs
  refine ⟨U, ?_, .threw T.heap.size, hrun, hend, Or.inr ⟨T.heap.size, rfl, cls, ce, locs, hx U hWs.alike f1 (fun q hq => f2 q hq (fun z hz => nomatch hz)), hce, hO.vm, hcl, hWs, hall, hf⟩⟩
  refine st1 _ ?_
  show Steps p.tables e below (T1.setTop { method := m, pc := pc + 3, locals := ls, stack := .ref T.heap.size :: rest, locked := none }) _
  jvm_step X₁.here [X₁.here.top, hexec, d3', Value.category]
  exact hsteps
/-- 'throw new E("text")': new; dup; ldc; invokespecial; athrow -/
theorem vx_throwS {cc : ByteArray} {pc : Nat} (hexec : p.tables.exec = Jvm.exec) (hb : c.code = cc) (hl : l.stackTraces = false) {own cls text : String} {names : List String} {ik is ic mc ms sa : Nat} {A : Nat → Prop}
    (hown : s.vm.findClass own = some m.cls) (hcls : Bundle.fit cls = true) (hnames : ∀ n ∈ names, Bundle.fit n = true)
    (hk : (Cond.classLink own ik cls).before args s = true) (hini : (Cond.initialized cls).before args s = true) (hstr : vk_R own is text sa s) (hat : ∀ w ∈ vx_atS own ic cls names, w.before args s = true)
    (hgood : ∀ w ∈ Cond.classLink own ik cls :: Cond.initialized cls :: vx_atS own ic cls names, vx_ot w = true)
    (hU : vx_Zq Bundle.tN "UNASSIGNED_STACK" Bundle.steD A s s.heap) (hN : vx_Zq Bundle.tN "SUPPRESSED_SENTINEL" Bundle.listD A s s.heap) (hS : va_S A s.heap H locs) (hsize : ls.size = c.maxLocals)
    (d0 : decode cc pc = .ok (.new ik, 3)) (d3 : decode cc (pc + 3) = .ok (.dup, 1)) (d4 : decode cc (pc + 4) = .ok (.ldc is, 2)) (d6 : decode cc (pc + 6) = .ok (.invokespecial ic, 3)) (d9 : decode cc (pc + 9) = .ok (.athrow, 1))
    (hout : ∀ x ∈ c.exceptionTable.toList, covers x (pc + 9) = false)
    (hRframes : names.length + 3 < R.frames) (hRlocals : (rest.map fun v => v.category).sum + (13 * (names.length + 1) + 43) ≤ R.locals) (hRcells : cells + 1 ≤ R.cells) (hRslots : slots + 6 ≤ R.slots) (hlocks : meth.locks = false)
    (hx : ∀ t : State, s.vm.Alike t.vm → H.size ≤ t.heap.size → (∀ q : Nat, q < H.size → t.heap[q]? = H[q]?) → XC cls s t)
    (hf : ∀ z ∈ locs, free z.base) (hc : cells + 1 ≤ mc) (hs : slots + 6 ≤ ms) :
    W p l e R s m args below meth c H locs cells slots (vx_MQ below Qc XC args s mc ms free) (F0 m pc ls rest) := by
  intro T hT X
  have htr : e.platform.stackTraces = false := (show e.platform.stackTraces = l.stackTraces by rw [X.admits.platform]).trans hl
  have Y := vx_rebase X (R' := { frames := R.frames, locals := R.locals, cells := 1, slots := 6 }) (Nat.le_refl _) (Nat.le_refl _) hRcells hRslots
  obtain ⟨s', hA⟩ : ∃ z, z = (T.setVm s.vm).setFrames (.invoking m args :: below) := ⟨_, rfl⟩
  rw [← hA] at Y
  have hvm : s'.vm = s.vm := by rw [hA]; rfl
  have hhp : s'.heap = H := by rw [hA]; exact hT
  have hW0 : s.WarmedH s'.vm := by rw [hvm]; exact State.WarmedH.refl s
  have hat' : ∀ w ∈ vx_atS own ic cls names, w.before args s' = true := fun w hw => vx_ot_at hW0 hvm.symm (hgood w (List.mem_cons_of_mem _ (List.mem_cons_of_mem _ hw))) (hat w hw)
  have hk' : (Cond.classLink own ik cls).before args s' = true := vx_ot_at hW0 hvm.symm (hgood _ List.mem_cons_self) hk
  have hini' : (Cond.initialized cls).before args s' = true := vx_ot_at hW0 hvm.symm (hgood _ (List.mem_cons_of_mem _ List.mem_cons_self)) hini
  have hU' : vx_Zq Bundle.tN "UNASSIGNED_STACK" Bundle.steD A s' s'.heap := by rw [hhp]; exact vx_Zq.moved hW0.alike (hU.kept hS.2.1)
  have hN' : vx_Zq Bundle.tN "SUPPRESSED_SENTINEL" Bundle.listD A s' s'.heap := by rw [hhp]; exact vx_Zq.moved hW0.alike (hN.kept hS.2.1)
  have h : ∀ w ∈ Bundle.ownAtoms own ic cls names, w.before args s' = true := vx_own hat' (vx_isRefq hU'.1) (vx_isRefq hN'.1) hU'.2.word hN'.2.word
  have hown' : s'.vm.findClass own = some m.cls := by rw [hvm]; exact hown
  have hins : (Cond.instantiable cls 6).before args s' = true := h _ (by simp [Bundle.ownAtoms])
  obtain ⟨vm₁, cX, kX, hfX, hkX, -, -, X₁, st1⟩ := Y.newCold hexec (own := own) (C := cls) (index := ik) (n := 6) hown' hk' hins hini'
    (g := F0 m pc ls rest) rfl (by rw [hb]; exact d0) (Nat.le_refl _) (Nat.le_refl _)
  generalize hT1 : (T.setVm vm₁).pushCell { cls := cX, slots := kX.instanceTypes.map defaultValue, vm := .none } = T1 at X₁ st1
  have hcat : (Value.ref T.heap.size).category = 1 := rfl
  have hcellA : T1.heap[T.heap.size]? = some (freshCell cX kX) := by rw [← hT1]; exact State.heap_pushCell_size _ _
  have d3' : decode c.code (pc + 3) = .ok (.dup, 1) := by rw [hb]; exact d3
  have d4' : decode c.code (pc + 4) = .ok (.ldc is, 2) := by rw [hb]; exact d4
  have hstr' : vk_R own is text sa s' := vk_R.warm hW0 hstr
  obtain ⟨U, hsteps, hrun, hend, hW, hsame, ce, hce, hO⟩ := X₁.ctorThrowS hexec htr (own := own) (cls := cls) (names := names) (ic := ic) hown' hcls hnames h (fun x hx => nomatch hx) hfX hkX hcellA (by rw [hhp, hT]; exact Nat.le_refl _) (msg := .ref sa) rfl
    (g := { method := m, pc := pc + 6, locals := ls, stack := .ref sa :: .ref T.heap.size :: .ref T.heap.size :: rest, locked := none }) rfl hsize rfl rfl (rest := rest) rfl
    (by rw [hb]; exact d6) (by rw [hb]; exact d9) hout hRframes (by simp only [List.map_cons, List.sum_cons, hcat]; omega) hlocks
  obtain ⟨f1, f2⟩ := vx_frame hsame
  rw [hhp] at f1 f2
  have hWs : s.WarmedH U.vm := State.WarmedH.trans hW0 hW
  have hcl : s.vm.findClass cls = some ce.cls := by
    have h9 := hO.cls
    rw [hvm] at h9
    exact h9
  have hall : s.sameButNew ({ U with vm := s.vm } : State) locs mc ms := by
    subst hA
    obtain ⟨e1, e2⟩ := hsame
    rw [State.setFrames_setFrames] at e1
    have h2 : (T.setVm s.vm).sameButNew ({ U with vm := s.vm } : State) [] (0 + 1) (0 + 6) := ⟨e1, e2⟩
    have h3 := X.same.trans h2
    rw [List.append_nil] at h3
    exact h3.mono hc hs
  refine ⟨U, ?_, .threw T.heap.size, hrun, hend, Or.inr ⟨T.heap.size, rfl, cls, ce, locs, hx U hWs.alike f1 (fun q hq => f2 q hq (fun z hz => nomatch hz)), hce, hO.vm, hcl, hWs, hall, hf⟩⟩
  refine st1 _ ?_
  show Steps p.tables e below (T1.setTop { method := m, pc := pc + 3, locals := ls, stack := .ref T.heap.size :: rest, locked := none }) _
  jvm_step X₁.here [X₁.here.top, hexec, d3', Value.category]
  exact X₁.ldcString hexec (own := own) (text := text) (index := is) (a := sa) hown' hstr'.1 hstr'.2
    (g := { method := m, pc := pc + 4, locals := ls, stack := .ref T.heap.size :: .ref T.heap.size :: rest, locked := none }) rfl d4' _ hsteps
/-- 'throw new E("text")', the text by a wide index -/
theorem vx_throwSW {cc : ByteArray} {pc : Nat} (hexec : p.tables.exec = Jvm.exec) (hb : c.code = cc) (hl : l.stackTraces = false) {own cls text : String} {names : List String} {ik is ic mc ms sa : Nat} {A : Nat → Prop}
    (hown : s.vm.findClass own = some m.cls) (hcls : Bundle.fit cls = true) (hnames : ∀ n ∈ names, Bundle.fit n = true)
    (hk : (Cond.classLink own ik cls).before args s = true) (hini : (Cond.initialized cls).before args s = true) (hstr : vk_R own is text sa s) (hat : ∀ w ∈ vx_atS own ic cls names, w.before args s = true)
    (hgood : ∀ w ∈ Cond.classLink own ik cls :: Cond.initialized cls :: vx_atS own ic cls names, vx_ot w = true)
    (hU : vx_Zq Bundle.tN "UNASSIGNED_STACK" Bundle.steD A s s.heap) (hN : vx_Zq Bundle.tN "SUPPRESSED_SENTINEL" Bundle.listD A s s.heap) (hS : va_S A s.heap H locs) (hsize : ls.size = c.maxLocals)
    (d0 : decode cc pc = .ok (.new ik, 3)) (d3 : decode cc (pc + 3) = .ok (.dup, 1)) (d4 : decode cc (pc + 4) = .ok (.ldc_w is, 3)) (d7 : decode cc (pc + 7) = .ok (.invokespecial ic, 3)) (d10 : decode cc (pc + 10) = .ok (.athrow, 1))
    (hout : ∀ x ∈ c.exceptionTable.toList, covers x (pc + 10) = false)
    (hRframes : names.length + 3 < R.frames) (hRlocals : (rest.map fun v => v.category).sum + (13 * (names.length + 1) + 43) ≤ R.locals) (hRcells : cells + 1 ≤ R.cells) (hRslots : slots + 6 ≤ R.slots) (hlocks : meth.locks = false)
    (hx : ∀ t : State, s.vm.Alike t.vm → H.size ≤ t.heap.size → (∀ q : Nat, q < H.size → t.heap[q]? = H[q]?) → XC cls s t)
    (hf : ∀ z ∈ locs, free z.base) (hc : cells + 1 ≤ mc) (hs : slots + 6 ≤ ms) :
    W p l e R s m args below meth c H locs cells slots (vx_MQ below Qc XC args s mc ms free) (F0 m pc ls rest) := by
  intro T hT X
  have htr : e.platform.stackTraces = false := (show e.platform.stackTraces = l.stackTraces by rw [X.admits.platform]).trans hl
  have Y := vx_rebase X (R' := { frames := R.frames, locals := R.locals, cells := 1, slots := 6 }) (Nat.le_refl _) (Nat.le_refl _) hRcells hRslots
  obtain ⟨s', hA⟩ : ∃ z, z = (T.setVm s.vm).setFrames (.invoking m args :: below) := ⟨_, rfl⟩
  rw [← hA] at Y
  have hvm : s'.vm = s.vm := by rw [hA]; rfl
  have hhp : s'.heap = H := by rw [hA]; exact hT
  have hW0 : s.WarmedH s'.vm := by rw [hvm]; exact State.WarmedH.refl s
  have hat' : ∀ w ∈ vx_atS own ic cls names, w.before args s' = true := fun w hw => vx_ot_at hW0 hvm.symm (hgood w (List.mem_cons_of_mem _ (List.mem_cons_of_mem _ hw))) (hat w hw)
  have hk' : (Cond.classLink own ik cls).before args s' = true := vx_ot_at hW0 hvm.symm (hgood _ List.mem_cons_self) hk
  have hini' : (Cond.initialized cls).before args s' = true := vx_ot_at hW0 hvm.symm (hgood _ (List.mem_cons_of_mem _ List.mem_cons_self)) hini
  have hU' : vx_Zq Bundle.tN "UNASSIGNED_STACK" Bundle.steD A s' s'.heap := by rw [hhp]; exact vx_Zq.moved hW0.alike (hU.kept hS.2.1)
  have hN' : vx_Zq Bundle.tN "SUPPRESSED_SENTINEL" Bundle.listD A s' s'.heap := by rw [hhp]; exact vx_Zq.moved hW0.alike (hN.kept hS.2.1)
  have h : ∀ w ∈ Bundle.ownAtoms own ic cls names, w.before args s' = true := vx_own hat' (vx_isRefq hU'.1) (vx_isRefq hN'.1) hU'.2.word hN'.2.word
  have hown' : s'.vm.findClass own = some m.cls := by rw [hvm]; exact hown
  have hins : (Cond.instantiable cls 6).before args s' = true := h _ (by simp [Bundle.ownAtoms])
  obtain ⟨vm₁, cX, kX, hfX, hkX, -, -, X₁, st1⟩ := Y.newCold hexec (own := own) (C := cls) (index := ik) (n := 6) hown' hk' hins hini'
    (g := F0 m pc ls rest) rfl (by rw [hb]; exact d0) (Nat.le_refl _) (Nat.le_refl _)
  generalize hT1 : (T.setVm vm₁).pushCell { cls := cX, slots := kX.instanceTypes.map defaultValue, vm := .none } = T1 at X₁ st1
  have hcat : (Value.ref T.heap.size).category = 1 := rfl
  have hcellA : T1.heap[T.heap.size]? = some (freshCell cX kX) := by rw [← hT1]; exact State.heap_pushCell_size _ _
  have d3' : decode c.code (pc + 3) = .ok (.dup, 1) := by rw [hb]; exact d3
  have d4' : decode c.code (pc + 4) = .ok (.ldc_w is, 3) := by rw [hb]; exact d4
  have hstr' : vk_R own is text sa s' := vk_R.warm hW0 hstr
  obtain ⟨U, hsteps, hrun, hend, hW, hsame, ce, hce, hO⟩ := X₁.ctorThrowS hexec htr (own := own) (cls := cls) (names := names) (ic := ic) hown' hcls hnames h (fun x hx => nomatch hx) hfX hkX hcellA (by rw [hhp, hT]; exact Nat.le_refl _) (msg := .ref sa) rfl
    (g := { method := m, pc := pc + 7, locals := ls, stack := .ref sa :: .ref T.heap.size :: .ref T.heap.size :: rest, locked := none }) rfl hsize rfl rfl (rest := rest) rfl
    (by rw [hb]; exact d7) (by rw [hb]; exact d10) hout hRframes (by simp only [List.map_cons, List.sum_cons, hcat]; omega) hlocks
  obtain ⟨f1, f2⟩ := vx_frame hsame
  rw [hhp] at f1 f2
  have hWs : s.WarmedH U.vm := State.WarmedH.trans hW0 hW
  have hcl : s.vm.findClass cls = some ce.cls := by
    have h9 := hO.cls
    rw [hvm] at h9
    exact h9
  have hall : s.sameButNew ({ U with vm := s.vm } : State) locs mc ms := by
    subst hA
    obtain ⟨e1, e2⟩ := hsame
    rw [State.setFrames_setFrames] at e1
    have h2 : (T.setVm s.vm).sameButNew ({ U with vm := s.vm } : State) [] (0 + 1) (0 + 6) := ⟨e1, e2⟩
    have h3 := X.same.trans h2
    rw [List.append_nil] at h3
    exact h3.mono hc hs
  refine ⟨U, ?_, .threw T.heap.size, hrun, hend, Or.inr ⟨T.heap.size, rfl, cls, ce, locs, hx U hWs.alike f1 (fun q hq => f2 q hq (fun z hz => nomatch hz)), hce, hO.vm, hcl, hWs, hall, hf⟩⟩
  refine st1 _ ?_
  show Steps p.tables e below (T1.setTop { method := m, pc := pc + 3, locals := ls, stack := .ref T.heap.size :: rest, locked := none }) _
  jvm_step X₁.here [X₁.here.top, hexec, d3', Value.category]
  exact X₁.ldcStringW hexec (own := own) (text := text) (index := is) (a := sa) hown' hstr'.1 hstr'.2
    (g := { method := m, pc := pc + 4, locals := ls, stack := .ref T.heap.size :: .ref T.heap.size :: rest, locked := none }) rfl d4' _ hsteps
end Ends
section Bodies
variable {l : Launch}
theorem vx_ofW {y : MethodName} {ws ws' : List Cond} {rm : Room} {Pc : Array Value → State → Prop} {Qc : Array Value → State → Outcome → State → Prop} {XC : String → State → State → Prop} {mc ms : Nat} {free : Addr → Prop} {cc : ByteArray} {maxL : Nat} {ret : Option FieldType}
    (hy : plainName y.cls = true) (hw : ws = Cond.code y cc maxL ret :: ws')
    (body : ∀ p e s m args below meth c s₁, BodyLoose p l y (headSpec ws rm) cc maxL ret e s m args below meth c s₁ → c.maxLocals = maxL → (∀ x ∈ c.exceptionTable.toList, False) → Pc args s →
      W p l e (headSpec ws rm).room s m args below meth c s.heap [] 0 0 (vx_MQ below Qc XC args s mc ms free) (entryFrame m args maxL)) : vx_Met l y ws rm Pc Qc XC mc ms free := by
  refine MetFree.of_bodyS (code := cc) (maxLocals := maxL) (ret := ret) hy ?_ ?_
  · intro args s m h hn
    obtain ⟨meth, c, h1, h2, h3, h4, h5, h6, -, -⟩ := Cond.code_spec hn (atoms_spec (ws := ws) h _ (by rw [hw]; exact List.mem_cons_self))
    exact ⟨meth, c, h1, h2, h3, h4, h5, h6⟩
  · intro p e s m args below meth c s₁ B hml hP _
    have hh0 : s₁.heap = s.heap := by rw [B.state]; rfl
    have ht : ∀ x ∈ c.exceptionTable.toList, False := by
      obtain ⟨meth9, c9, h1, h2, -, -, -, -, h7, -⟩ := Cond.code_spec B.named (atoms_spec (ws := ws) B.pre _ (by rw [hw]; exact List.mem_cons_self))
      cases Option.some.inj (h1.symm.trans B.method)
      cases Option.some.inj (h2.symm.trans (Stand.of_body B).code)
      intro x hx
      rw [Array.isEmpty_iff.mp h7] at hx
      cases hx
    obtain ⟨t, a1, o, b1, b2, b3⟩ := body p e s m args below meth c s₁ B hml ht hP s₁ hh0 (Stand.of_body B)
    exact ⟨t, o, a1, b1, b2, b3⟩
/-- the table of a body with handlers -/
theorem vx_table {p : Program} {x y : MethodName} {S : Spec} {cc bytes : ByteArray} {maxL maxL' : Nat} {ret ret' : Option FieldType} {e : Env} {s s₁ : State} {m : MethodId} {args : Array Value} {below : List Frame} {meth : Method} {c : Code} {hh : List (Nat × Nat × Nat × Nat)}
    (B : BodyLoose p l y S cc maxL ret e s m args below meth c s₁) (h : (Cond.codeWith y bytes maxL' ret' hh).before args s = true) : c.exceptionTable.toList = tableOf hh := by
  obtain ⟨m9, meth9, c9, hn9, h1, h2, -, -, h6, -⟩ := Cond.codeWith_spec h
  cases Option.some.inj (hn9.symm.trans B.named)
  cases Option.some.inj (h1.symm.trans B.method)
  cases Option.some.inj (h2.symm.trans (Stand.of_body B).code)
  rw [← h6, table_eq]
end Bodies
end VXA
/-! ===== END ===== -/
/-! ===== BEGIN a static call of a method with an exception table ===== -/
section VXS
variable {p : Program} {l : Launch} {e : Env} {R : Room} {s : State} {m : MethodId} {args : Array Value} {below : List Frame} {meth : Method} {c : Code} {T : State} {H : Heap} {locs : List Loc} {cells slots : Nat}
abbrev vx_CSW (R : Room) (s : State) (args : Array Value) (own : String) (index : Nat) (y : MethodName) (bytes : ByteArray) (maxL : Nat) (ret : Option FieldType) (hh : List (Nat × Nat × Nat × Nat)) (ws : List Cond) (rm : Room) (mc ms n : Nat) : Prop :=
  (rm.cells = mc ∧ rm.slots = ms ∧ rm.frames + 1 ≤ R.frames ∧ 8 + (maxL + 11) + rm.locals ≤ R.locals ∧ (∀ w ∈ ws, ∀ (a' : Array Value) (U : State), s.WarmedH U.vm → w.before a' U = true) ∧ Cond.codeWith y bytes maxL ret hh ∈ ws) ∧
  (Cond.codeWith y bytes maxL ret hh).before args s = true ∧ (Cond.initialized y.cls).before args s = true ∧ (y.cls ≠ "java/lang/invoke/MethodHandle" ∧ y.cls ≠ "java/lang/invoke/VarHandle") ∧
  (∀ sig, parseMethodDescriptor y.desc = some sig → n = sig.parameters.length) ∧ (Cond.methodLink own index y).before args s = true ∧ (Cond.static y).before args s = true
theorem vx_cwSW {own : String} {index maxL mc ms : Nat} {y : MethodName} {bytes : ByteArray} {ret : Option FieldType} {hh : List (Nat × Nat × Nat × Nat)} {Ts ws ws' : List Cond} {rm : Room} (n : Nat) (ht : ∀ w ∈ Ts, w.before args s = true) (hT : GoodIn Ts (va_wsS own index y ws)) (hw : ws = Cond.codeWith y bytes maxL ret hh :: ws') (hrc : rm.cells = mc) (hrs : rm.slots = ms)
    (hd : y.cls ≠ "java/lang/invoke/MethodHandle" ∧ y.cls ≠ "java/lang/invoke/VarHandle" ∧ (parseMethodDescriptor y.desc).map (fun d => d.parameters.length) = some n) (hR : rm.frames + 1 ≤ R.frames ∧ 8 + (maxL + 11) + rm.locals ≤ R.locals) :
    vx_CSW R s args own index y bytes maxL ret hh ws rm mc ms n := by
  have ok : ∀ w ∈ va_wsS own index y ws, w.before args s = true := fun w h => ht w (hT w h).1
  have hG : GoodIn Ts ws := fun w h => hT w (by unfold va_wsS; exact List.mem_append_right _ h)
  have hc : Cond.codeWith y bytes maxL ret hh ∈ ws := by rw [hw]; exact List.mem_cons_self
  refine ⟨⟨hrc, hrs, hR.1, hR.2, pay_in ht hG, hc⟩, ht _ (hG _ hc).1, ok _ (by simp [va_wsS]), ⟨hd.1, hd.2.1⟩, fun sig h => ?_, ok _ (by simp [va_wsS]), ok _ (by simp [va_wsS])⟩
  have h2 := hd.2.2
  rw [h] at h2
  exact (Option.some.inj h2).symm
theorem vx_callSW (X : Stand p l e R s m args below meth c T locs cells slots) (hexec : p.tables.exec = Jvm.exec) {own : String} {index : Nat} {y : MethodName} {bytes : ByteArray} {maxL : Nat} {ret : Option FieldType} {hh : List (Nat × Nat × Nat × Nat)}
    (hown : s.vm.findClass own = some m.cls) (hlink : (Cond.methodLink own index y).before args s = true) (hstat : (Cond.static y).before args s = true) (hinit : (Cond.initialized y.cls).before args s = true)
    (hcode : (Cond.codeWith y bytes maxL ret hh).before args s = true) (hy : y.cls ≠ "java/lang/invoke/MethodHandle" ∧ y.cls ≠ "java/lang/invoke/VarHandle")
    {W9 : Nat} {Pre : Pt → Array Value → Prop} {Post : Pt → Array Value → Option Value → Pt → Prop} (hK : Back l R p e below s args y 3 W9 Pre Post)
    {g : JFrame} (hg : g.method = m) (hsize : g.locals.size = c.maxLocals) {argsL rest : List Value} (hlen : ∀ sig, parseMethodDescriptor y.desc = some sig → argsL.length = sig.parameters.length)
    (hstack : g.stack = argsL.reverse ++ rest) (hW : 2 * g.monitorRoom + (rest.map fun v => v.category).sum ≤ W9) (hdg : decode c.code g.pc = .ok (.invokestatic index, 3))
    (hpre : ∀ vm₁, s.WarmedH vm₁ → Pre ⟨T.setVm vm₁, locs, cells, slots⟩ argsL.toArray) :
    ∃ (v : Option Value) (vm₁ : Vm) (B : Pt), s.WarmedH vm₁ ∧ Stand p l e R s m args below meth c B.U B.locs B.cells B.slots ∧ Post ⟨T.setVm vm₁, locs, cells, slots⟩ argsL.toArray v B ∧
      ∀ target, Steps p.tables e below (B.U.setTop { g with pc := g.pc + 3, stack := v.toList ++ rest }) target → Steps p.tables e below (T.setTop g) target := by
  obtain ⟨mk, methM, cM, hnamed, hmethM, -, -, -, -, -, -, hsigM⟩ := Cond.codeWith_spec hcode
  have hstatic : methM.isStatic = true := Cond.static_spec hnamed hmethM hstat
  obtain ⟨kP, hkP, -⟩ := className_of_methodNamed hnamed
  have hinitP : kP.init = .initialized := Cond.initialized_spec (findClass_of_methodNamed hnamed) hkP hinit
  obtain ⟨vm₁, X₁, hstep₁⟩ := X.invokestatic hexec hown hlink hnamed hmethM hstatic hkP hinitP hy (g := g) hg (argsL := argsL) (rest := rest) (hlen _ hsigM) hstack hdg
  obtain ⟨v, B, X', hpost, hsteps⟩ := hK m meth c ⟨T.setVm vm₁, locs, cells, slots⟩ { g with stack := rest } (.invokestatic index) mk argsL.toArray X₁ hg hsize hdg hW (X₁.named hnamed) (hpre vm₁ X₁.warmed)
  exact ⟨v, vm₁, B, X₁.warmed, X', hpost, fun target h => hstep₁ _ fun acts => by rw [doInvoke_state]; exact hsteps.trans h⟩
theorem vx_runSW {y : MethodName} {bytes cc : ByteArray} {maxL nL mc ms n index : Nat} {ret : Option FieldType} {hh : List (Nat × Nat × Nat × Nat)} {ws : List Cond} {rm : Room} {Pc : Array Value → State → Prop} {Qc : Array Value → State → Outcome → State → Prop} {free : Addr → Prop} {Ts : List Cond} {own : String} {As rest : List Value} {g : JFrame}
    (S : CallFix p m c cc nL s args Ts own) (hM : Met l y ws rm Pc Qc mc ms free) (cw : vx_CSW R s args own index y bytes maxL ret hh ws rm mc ms n) (hp : PreS s H Pc As)
    (hg : g.method = m) (hn : As.length = n) (hsize : g.locals.size = nL) (hstack : g.stack = As.reverse ++ rest) (hW : 2 * g.monitorRoom + (rest.map fun v => v.category).sum ≤ 8) (hdg : decode cc g.pc = .ok (.invokestatic index, 3)) (hf : cells + mc ≤ R.cells ∧ slots + ms ≤ R.slots) :
    va_Run p l e R s m args below meth c H locs cells slots mc ms g rest (Qc As.toArray) (free) := by
  obtain ⟨⟨hrc, hrs, hfr, hlo, hws, hcw⟩, hcode, hini, hy, hlen, hl, hstt⟩ := cw
  have hK : Back l R p e below s args y 3 8 (PreOf R mc ms Pc) (PostOf Qc mc ms free) := va_backW (hh := hh) (bytes := bytes) (maxL := maxL) (ret := ret) hM hp.1 hrc hrs hfr hlo hws hcw (fun a' U hW => word_at hW (Or.inl (by first | rfl | simp [Cond.onTables, Cond.keeps, Cond.steady])) hini)
  obtain ⟨hx, hb, hml, ho, -⟩ := S
  intro T hT X
  obtain ⟨v, vm₁, ⟨U', l2, c2, s2⟩, hW₁, X', ⟨g', mk, t, L, e1, e2, hq, h1, hL, h2, h3⟩, st⟩ := vx_callSW X hx (hh := hh) (bytes := bytes) (maxL := maxL) (ret := ret) ho hl hstt hini hcode hy hK hg (hsize.trans hml.symm) (argsL := As) (rest := rest) (fun sig h => hn.trans (hlen sig h)) hstack hW (by rw [hb]; exact hdg)
    (fun vm₁ hW₁ => ⟨hf.1, hf.2, hp.2 (T.setVm vm₁) hT hW₁⟩)
  dsimp only [Pt.U, Pt.locs, Pt.cells, Pt.slots] at X' e1 e2 h1 h2 h3 st
  subst h1; subst h2; subst h3
  exact ⟨v, (T.setVm vm₁).calling g' mk As.toArray, t, U', L, hT, X', hL, e1, e2, hq, st⟩
/-- not caught here, past rows that name other classes: it goes on to the caller -/
theorem vx_outP {p : Program} {l : Launch} {e : Env} {R : Room} {s : State} {m : MethodId} {args : Array Value} {below : List Frame} {meth : Method} {c : Code} {H : Heap} {locs : List Loc} {cells slots : Nat} {free : Addr → Prop} {ls : Array Slot} {rest : List Value} {Qc : Array Value → State → Outcome → State → Prop} {XC : String → State → State → Prop}
    {pc : Nat} {own E : String} {ce : Cell} {q : Addr} {mc ms : Nat} (hown : s.vm.findClass own = some m.cls) (hlocks : meth.locks = false)
    (hpass : ∀ z ∈ c.exceptionTable.toList, covers z pc = false ∨ (z.catchType ≠ 0 ∧ ∃ nm : String, (Cond.classLink own z.catchType nm).before args s = true ∧ va_Nc E nm s)) (hcell : H[q]? = some ce) (hv : ce.vm = .none) (hcl : s.vm.findClass E = some ce.cls)
    (hx : ∀ t : State, t.heap = H → s.vm.Alike t.vm → XC E s t) (hf : ∀ z ∈ locs, free z.base) (hc : cells ≤ mc) (hs : slots ≤ ms) :
    vx_W p l e R s m args below meth c H locs cells slots (vx_MQ below Qc XC args s mc ms free) (F0 m pc ls rest) q := by
  intro T hT X
  have hpl : e.platform.magicAccessors = ({} : Platform).magicAccessors := by rw [X.admits.platform]
  obtain ⟨vm', hW', X', st⟩ := X.outThrough hlocks q (g := F0 m pc ls rest) rfl rfl rfl (cell := ce) (by rw [hT]; exact hcell) (by rw [hv]; rfl)
    (by obtain ⟨k9, h9, -⟩ := Vm.findClass_spec hcl; exact ⟨k9, h9⟩) (fun z hz => by
      rcases hpass z hz with h | ⟨hz0, nm, hl1, hn1⟩
      · exact Or.inl h
      · obtain ⟨c6, hc6, hcl6⟩ := Cond.classLink_spec hown hl1 e.platform hpl
        obtain ⟨a8, b8, h1, h2, h3⟩ := hn1
        cases Option.some.inj (h1.symm.trans hcl)
        cases Option.some.inj (h2.symm.trans hc6)
        exact Or.inr ⟨hz0, _, hcl6, h3⟩)
  obtain ⟨g₀, hfr⟩ := X'.frames_eq
  have hcell9 : ((T.setVm vm').setFrames (.throwing q :: below)).heap[q]? = some ce := by
    show T.heap[q]? = some ce
    rw [hT]; exact hcell
  have hend : Ended ((T.setVm vm').setFrames (.throwing q :: below)) below (.threw q) := State.frames_setFrames _ (State.cur_lt_of_frames hfr)
  refine ⟨(T.setVm vm').setFrames (.throwing q :: below), ?_, .threw q, X'.here.running, hend, Or.inr ⟨q, rfl, E, ce, locs, hx _ hT (X'.ends _).1.alike, hcell9, hv, hcl, (X'.ends _).1, (X'.ends _).2.mono hc hs, hf⟩⟩
  rw [X.pushThrowing_eq]
  exact st
/-- a thing of a world lies in the heap -/
theorem vx_lt {D : va_G} {cl : List vw_C} {ws : va_W} {H1 : Heap} (h : va_P D cl ws H1) {k : Nat} {q : Nat × va_E} (hk : ws[k]? = some q) : q.1 < H1.size := (h k q hk).lt
end VXS
/-! ===== END ===== -/
/-! ===== BEGIN methods with a table of their own: called by a name, returning or throwing ===== -/
section VXH
/-! vx_backW, vx_callVX, vx_callSX, vx_callVW, vx_runVW, vx_runVX, vx_runSX, vx_ofWH follow the same proofs as their sisters above (Free/Laws.lean, Shelf42/LK1.lean); vx_outP calls Shelf42/NT130.lean (outThrough). -/
section
variable {l : Launch} {R : Room} {p : Program} {e : Env} {below : List Frame} {s : State} {sargs : Array Value} {y : MethodName} {len W9 : Nat}
theorem vx_backW {ws : List Cond} {rm : Room} {Pc : Array Value → State → Prop} {Qc : Array Value → State → Outcome → State → Prop} {XC : String → State → State → Prop} {mc ms : Nat} {free : Addr → Prop} {bytes : ByteArray} {maxL : Nat} {ret : Option FieldType} {hh : List (Nat × Nat × Nat × Nat)}
    (hM : vx_Met l y ws rm Pc Qc XC mc ms free) (hblind : FrameBlind Pc) (hrc : rm.cells = mc) (hrs : rm.slots = ms)
    (hframes : rm.frames + 1 ≤ R.frames) (hlocals : W9 + (maxL + 11) + rm.locals ≤ R.locals)
    (hws : ∀ w ∈ ws, ∀ a' U, s.WarmedH U.vm → w.before a' U = true) (hcode : Cond.codeWith y bytes maxL ret hh ∈ ws) (hinit : ∀ a' U, s.WarmedH U.vm → (Cond.initialized y.cls).before a' U = true) :
    vx_Back l R p e below s sargs y len W9 (PreOf R mc ms Pc) (PostOf Qc mc ms free) (vx_Post XC mc ms free) := by
  intro m meth c A g ig mk a X hg hsize hdg hW hn hp
  have h1 : (headSpec ws rm).pre.before a A.U = true := atoms_intro fun w hw => hws w hw _ _ X.warmed
  have h2 : (Cond.codeWith y bytes maxL ret hh).before a A.U = true := hws _ hcode _ _ X.warmed
  have h3 : (Cond.initialized y.cls).before a A.U = true := hinit _ _ X.warmed
  have h4 : A.cells + (headSpec ws rm).room.cells ≤ R.cells := by rw [show (headSpec ws rm).room.cells = mc from hrc]; exact hp.1
  have h5 : A.slots + (headSpec ws rm).room.slots ≤ R.slots := by rw [show (headSpec ws rm).room.slots = ms from hrs]; exact hp.2.1
  have hPc : Pc a (A.U.calling g mk a) := hblind _ _ _ _ hp.2.2
  obtain ⟨U, Ls, c0, s0⟩ := A
  dsimp only [Pt.U, Pt.locs, Pt.cells, Pt.slots] at h1 h2 h3 h4 h5 X hn hPc ⊢
  obtain ⟨m9, methY, cY, hn9, hmY, hcY, -, hlY, -⟩ := Cond.codeWith_spec h2
  cases Option.some.inj (hn9.symm.trans hn)
  obtain ⟨kY, hkY, -⟩ := className_of_methodNamed hn
  have hinitY : kY.init = .initialized := Cond.initialized_spec (findClass_of_methodNamed hn) hkY h3
  have h : At U g.method c below := by rw [hg]; exact X.here
  have hlocals9 : W9 + (maxL + 11) + (headSpec ws rm).room.locals ≤ R.locals := hlocals
  have happ : (headSpec ws rm).appliesLoose y e.platform (U.calling g mk a) = true :=
    Spec.appliesLoose_calling (g := g) h hdg hn hkY hinitY
      (X.room_calling (g := g) (R' := (headSpec ws rm).room) hsize hmY hcY hframes (by rw [hlY]; omega) h4 h5) h1
  obtain ⟨mid, hmid⟩ := h.above
  have hfr : (U.setTop g).frames = (.java g :: mid) ++ below := by rw [State.frames_setTop' g h.top, hmid]; rfl
  obtain ⟨o, s₂, hsteps, -, hend, hq⟩ := Steps.callFree hM p X.admits X.cas X.clock (acts := []) hfr happ hPc trivial
  have hq' : vx_Q Qc XC mc ms free a (U.calling g mk a) o s₂ := hq
  rw [State.frames_setTop' g h.top] at hend
  obtain ⟨g₀, hg0⟩ := Option.isSome_iff_exists.mp h.top
  obtain ⟨r, hr⟩ := State.topJava?_eq_some.mp hg0
  have hr' : (({ U with heap := s₂.heap, slotsUsed := s₂.slotsUsed } : State).setVm s₂.vm).frames = .java g₀ :: r := hr
  rcases hq' with ⟨hqc, L, hfe, hL⟩ | ⟨q, rfl, E, ce, L, hx, hce, hcv, hcl, hW₂, hsm, hL⟩
  · obtain ⟨⟨v, rfl⟩, hW₂, e2, q2, q3, q4, q5, q6⟩ := id hfe
    have e3 : s₂ = ({ (U.calling g mk a).setFrames s₂.frames with heap := s₂.heap, slotsUsed := s₂.slotsUsed } : State).setVm s₂.vm := by
      have : s₂ = ({ s₂ with vm := (U.calling g mk a).vm } : State).setVm s₂.vm := rfl
      rw [e2] at this
      exact this
    obtain ⟨c₂, i₂, len₂, hc₂, hd₂, hf₂⟩ := hend
    have hW' : U.WarmedH s₂.vm := hW₂
    have hcc : c₂ = c := by
      have h1 : s₂.code? g.method = U.code? g.method := by
        rw [State.code?_eq, State.code?_eq, hW'.alike.method?]
      exact Option.some.inj (hc₂.symm.trans (h1.trans h.code))
    subst hcc
    have hlen : len₂ = len := by rw [hdg] at hd₂; cases hd₂; rfl
    subst hlen
    have hs₂ : s₂ = (({ U with heap := s₂.heap, slotsUsed := s₂.slotsUsed } : State).setVm s₂.vm).setTop { g with pc := g.pc + len₂, stack := v.toList ++ g.stack } := by
      refine e3.trans ?_
      rw [hf₂, State.calling_eq h.top, State.setFrames_setFrames, State.setTop_of_frames _ hr', hr]
      rfl
    have hsame : U.sameButNew ({ U with heap := s₂.heap, slotsUsed := s₂.slotsUsed } : State) L mc ms := by
      refine ⟨?_, q2, q3, q4, q5, q6⟩
      obtain ⟨t, ht, -⟩ := State.frames_cons hr
      show ({ U with heap := s₂.heap, slotsUsed := s₂.slotsUsed } : State) = { U.setFrames U.frames with heap := s₂.heap, slotsUsed := s₂.slotsUsed }
      rw [State.setFrames_self ht]
    subst hg
    refine Or.inl ⟨v, ⟨(({ U with heap := s₂.heap, slotsUsed := s₂.slotsUsed } : State).setVm s₂.vm), Ls ++ L, c0 + mc, s0 + ms⟩,
      ⟨X.admits, X.cas, X.clock, X.frames, X.room, X.hears, X.method, X.code, (X.here.setHeapUsed s₂.heap s₂.slotsUsed).setVm hW'.alike, X.tail, State.WarmedH.trans X.warmed hW', X.limits, X.bytes, X.same.trans (hsame.setVm s.vm)⟩,
      ⟨g, mk, s₂, L, rfl, rfl, hqc, rfl, hL, rfl, rfl⟩, ?_⟩
    show Steps p.tables e below _ ((({ U with heap := s₂.heap, slotsUsed := s₂.slotsUsed } : State).setVm s₂.vm).setTop { g with pc := g.pc + len₂, stack := v.toList ++ g.stack })
    rw [← hs₂]
    exact hsteps
  · obtain ⟨e2, q2, q3, q4, q5, q6⟩ := id hsm
    have e3 : s₂ = ({ (U.calling g mk a).setFrames s₂.frames with heap := s₂.heap, slotsUsed := s₂.slotsUsed } : State).setVm s₂.vm := by
      have : s₂ = ({ s₂ with vm := (U.calling g mk a).vm } : State).setVm s₂.vm := rfl
      rw [e2] at this
      exact this
    have hf₂ : s₂.frames = .throwing q :: .java g :: U.frames.tail := hend
    have hW' : U.WarmedH s₂.vm := hW₂
    have hs₂ : s₂ = ((({ U with heap := s₂.heap, slotsUsed := s₂.slotsUsed } : State).setVm s₂.vm).setTop g).pushFrame (.throwing q) := by
      refine e3.trans ?_
      rw [hf₂, State.calling_eq h.top, State.setFrames_setFrames, State.pushFrame, State.frames_setTop _ hr', State.setTop_of_frames _ hr', State.setFrames_setFrames, hr]
      rfl
    have hsame : U.sameButNew ({ U with heap := s₂.heap, slotsUsed := s₂.slotsUsed } : State) L mc ms := by
      refine ⟨?_, q2, q3, q4, q5, q6⟩
      obtain ⟨t, ht, -⟩ := State.frames_cons hr
      show ({ U with heap := s₂.heap, slotsUsed := s₂.slotsUsed } : State) = { U.setFrames U.frames with heap := s₂.heap, slotsUsed := s₂.slotsUsed }
      rw [State.setFrames_self ht]
    subst hg
    refine Or.inr ⟨q, ⟨(({ U with heap := s₂.heap, slotsUsed := s₂.slotsUsed } : State).setVm s₂.vm), Ls ++ L, c0 + mc, s0 + ms⟩,
      ⟨X.admits, X.cas, X.clock, X.frames, X.room, X.hears, X.method, X.code, (X.here.setHeapUsed s₂.heap s₂.slotsUsed).setVm hW'.alike, X.tail, State.WarmedH.trans X.warmed hW', X.limits, X.bytes, X.same.trans (hsame.setVm s.vm)⟩,
      ⟨g, mk, s₂, L, E, ce, rfl, rfl, hx, hce, hcv, hcl, rfl, hL, rfl, rfl⟩, ?_⟩
    show Steps p.tables e below _ (((({ U with heap := s₂.heap, slotsUsed := s₂.slotsUsed } : State).setVm s₂.vm).setTop g).pushFrame (.throwing q))
    rw [← hs₂]
    exact hsteps
end
variable {p : Program} {l : Launch} {e : Env} {R : Room} {s : State} {m : MethodId} {args : Array Value} {below : List Frame} {meth : Method} {c : Code} {T : State} {H : Heap} {locs : List Loc} {cells slots : Nat}
theorem vx_callVX (X : Stand p l e R s m args below meth c T locs cells slots) (hexec : p.tables.exec = Jvm.exec) {own C : String} {index : Nat} {y : MethodName} {bytes : ByteArray} {maxL : Nat} {ret : Option FieldType} {hh : List (Nat × Nat × Nat × Nat)}
    (hown : s.vm.findClass own = some m.cls) (hlink : (Cond.methodLink own index y).before args s = true) (hinst : (Cond.instanceMethod y).before args s = true) (hsel : (Cond.selects C y y).before args s = true)
    (hcode : (Cond.codeWith y bytes maxL ret hh).before args s = true) (hy : y.cls ≠ "java/lang/invoke/MethodHandle" ∧ y.cls ≠ "java/lang/invoke/VarHandle")
    {W9 : Nat} {Pre : Pt → Array Value → Prop} {Post : Pt → Array Value → Option Value → Pt → Prop} {PostX : Pt → Array Value → Addr → Pt → Prop} (hK : vx_Back l R p e below s args y 3 W9 Pre Post PostX)
    {b : Addr} {cellB : Cell} (hcell : T.heap[b]? = some cellB) (hobj : cellB.vm.isStatics = false) (hcls : s.vm.findClass C = some cellB.cls)
    {g : JFrame} (hg : g.method = m) (hsize : g.locals.size = c.maxLocals) {argsL rest : List Value} (hlen : ∀ sig, parseMethodDescriptor y.desc = some sig → argsL.length = sig.parameters.length)
    (hstack : g.stack = argsL.reverse ++ .ref b :: rest) (hW : 2 * g.monitorRoom + (rest.map fun v => v.category).sum ≤ W9) (hdg : decode c.code g.pc = .ok (.invokevirtual index, 3))
    (hpre : ∀ vm₁, s.WarmedH vm₁ → Pre ⟨T.setVm vm₁, locs, cells, slots⟩ (Value.ref b :: argsL).toArray) :
    (∃ (v : Option Value) (vm₁ : Vm) (B : Pt), s.WarmedH vm₁ ∧ Stand p l e R s m args below meth c B.U B.locs B.cells B.slots ∧ Post ⟨T.setVm vm₁, locs, cells, slots⟩ (Value.ref b :: argsL).toArray v B ∧
      ∀ target, Steps p.tables e below (B.U.setTop { g with pc := g.pc + 3, stack := v.toList ++ rest }) target → Steps p.tables e below (T.setTop g) target) ∨
    (∃ (q : Addr) (vm₁ : Vm) (B : Pt), s.WarmedH vm₁ ∧ Stand p l e R s m args below meth c B.U B.locs B.cells B.slots ∧ PostX ⟨T.setVm vm₁, locs, cells, slots⟩ (Value.ref b :: argsL).toArray q B ∧
      Steps p.tables e below (T.setTop g) ((B.U.setTop { g with stack := rest }).pushFrame (.throwing q))) := by
  obtain ⟨mk, methM, hnamed, hmethM, hstM, habM⟩ := Cond.instanceMethod_spec hinst
  obtain ⟨m8, methM', cM, hn8, hmethM', -, -, -, -, -, -, hsigM⟩ := Cond.codeWith_spec hcode
  cases Option.some.inj (hn8.symm.trans hnamed)
  cases hmethM.symm.trans hmethM'
  obtain ⟨c2, r2, m2, q1, q2, q3, q4, kP, hkP, hkPi⟩ := Cond.selects_spec hsel
  cases hcls.symm.trans q1
  cases (State.methodFound?_of_named hnamed hy).symm.trans q2
  cases hnamed.symm.trans q3
  have hselP : selectMethod e.platform s.vm cellB.cls mk = .method mk := by rw [Launch.admits_selectMethod X.admits]; exact q4
  obtain ⟨vm₁, X₁, hstep₁⟩ := X.invokevirtual hexec hown hlink hnamed hmethM hstM hkP hkPi hy (a := b) (cell := cellB) hcell
    (fun z h => by rw [h] at hobj; cases hobj) hselP hmethM habM hkP hkPi (g := g) hg (argsL := argsL) (rest := rest) (hlen _ hsigM) hstack hdg
  rcases hK m meth c ⟨T.setVm vm₁, locs, cells, slots⟩ { g with stack := rest } (.invokevirtual index) mk (Value.ref b :: argsL).toArray X₁ hg hsize hdg hW (X₁.named hnamed) (hpre vm₁ X₁.warmed) with ⟨v, B, X', hpost, hsteps⟩ | ⟨q, B, X', hpost, hsteps⟩
  · exact Or.inl ⟨v, vm₁, B, X₁.warmed, X', hpost, fun target h => hstep₁ _ fun acts => by rw [doInvoke_state]; exact hsteps.trans h⟩
  · exact Or.inr ⟨q, vm₁, B, X₁.warmed, X', hpost, hstep₁ _ fun acts => by rw [doInvoke_state]; exact hsteps⟩
theorem vx_callSX (X : Stand p l e R s m args below meth c T locs cells slots) (hexec : p.tables.exec = Jvm.exec) {own : String} {index : Nat} {y : MethodName} {bytes : ByteArray} {maxL : Nat} {ret : Option FieldType} {hh : List (Nat × Nat × Nat × Nat)}
    (hown : s.vm.findClass own = some m.cls) (hlink : (Cond.methodLink own index y).before args s = true) (hstat : (Cond.static y).before args s = true) (hinit : (Cond.initialized y.cls).before args s = true)
    (hcode : (Cond.codeWith y bytes maxL ret hh).before args s = true) (hy : y.cls ≠ "java/lang/invoke/MethodHandle" ∧ y.cls ≠ "java/lang/invoke/VarHandle")
    {W9 : Nat} {Pre : Pt → Array Value → Prop} {Post : Pt → Array Value → Option Value → Pt → Prop} {PostX : Pt → Array Value → Addr → Pt → Prop} (hK : vx_Back l R p e below s args y 3 W9 Pre Post PostX)
    {g : JFrame} (hg : g.method = m) (hsize : g.locals.size = c.maxLocals) {argsL rest : List Value} (hlen : ∀ sig, parseMethodDescriptor y.desc = some sig → argsL.length = sig.parameters.length)
    (hstack : g.stack = argsL.reverse ++ rest) (hW : 2 * g.monitorRoom + (rest.map fun v => v.category).sum ≤ W9) (hdg : decode c.code g.pc = .ok (.invokestatic index, 3))
    (hpre : ∀ vm₁, s.WarmedH vm₁ → Pre ⟨T.setVm vm₁, locs, cells, slots⟩ argsL.toArray) :
    (∃ (v : Option Value) (vm₁ : Vm) (B : Pt), s.WarmedH vm₁ ∧ Stand p l e R s m args below meth c B.U B.locs B.cells B.slots ∧ Post ⟨T.setVm vm₁, locs, cells, slots⟩ argsL.toArray v B ∧
      ∀ target, Steps p.tables e below (B.U.setTop { g with pc := g.pc + 3, stack := v.toList ++ rest }) target → Steps p.tables e below (T.setTop g) target) ∨
    (∃ (q : Addr) (vm₁ : Vm) (B : Pt), s.WarmedH vm₁ ∧ Stand p l e R s m args below meth c B.U B.locs B.cells B.slots ∧ PostX ⟨T.setVm vm₁, locs, cells, slots⟩ argsL.toArray q B ∧
      Steps p.tables e below (T.setTop g) ((B.U.setTop { g with stack := rest }).pushFrame (.throwing q))) := by
  obtain ⟨mk, methM, cM, hnamed, hmethM, -, -, -, -, -, -, hsigM⟩ := Cond.codeWith_spec hcode
  have hstatic : methM.isStatic = true := Cond.static_spec hnamed hmethM hstat
  obtain ⟨kP, hkP, -⟩ := className_of_methodNamed hnamed
  have hinitP : kP.init = .initialized := Cond.initialized_spec (findClass_of_methodNamed hnamed) hkP hinit
  obtain ⟨vm₁, X₁, hstep₁⟩ := X.invokestatic hexec hown hlink hnamed hmethM hstatic hkP hinitP hy (g := g) hg (argsL := argsL) (rest := rest) (hlen _ hsigM) hstack hdg
  rcases hK m meth c ⟨T.setVm vm₁, locs, cells, slots⟩ { g with stack := rest } (.invokestatic index) mk argsL.toArray X₁ hg hsize hdg hW (X₁.named hnamed) (hpre vm₁ X₁.warmed) with ⟨v, B, X', hpost, hsteps⟩ | ⟨q, B, X', hpost, hsteps⟩
  · exact Or.inl ⟨v, vm₁, B, X₁.warmed, X', hpost, fun target h => hstep₁ _ fun acts => by rw [doInvoke_state]; exact hsteps.trans h⟩
  · exact Or.inr ⟨q, vm₁, B, X₁.warmed, X', hpost, hstep₁ _ fun acts => by rw [doInvoke_state]; exact hsteps⟩
theorem vx_callVW (X : Stand p l e R s m args below meth c T locs cells slots) (hexec : p.tables.exec = Jvm.exec) {own C : String} {index : Nat} {y : MethodName} {bytes : ByteArray} {maxL : Nat} {ret : Option FieldType} {hh : List (Nat × Nat × Nat × Nat)}
    (hown : s.vm.findClass own = some m.cls) (hlink : (Cond.methodLink own index y).before args s = true) (hinst : (Cond.instanceMethod y).before args s = true) (hsel : (Cond.selects C y y).before args s = true)
    (hcode : (Cond.codeWith y bytes maxL ret hh).before args s = true) (hy : y.cls ≠ "java/lang/invoke/MethodHandle" ∧ y.cls ≠ "java/lang/invoke/VarHandle")
    {W9 : Nat} {Pre : Pt → Array Value → Prop} {Post : Pt → Array Value → Option Value → Pt → Prop} (hK : Back l R p e below s args y 3 W9 Pre Post)
    {b : Addr} {cellB : Cell} (hcell : T.heap[b]? = some cellB) (hobj : cellB.vm.isStatics = false) (hcls : s.vm.findClass C = some cellB.cls)
    {g : JFrame} (hg : g.method = m) (hsize : g.locals.size = c.maxLocals) {argsL rest : List Value} (hlen : ∀ sig, parseMethodDescriptor y.desc = some sig → argsL.length = sig.parameters.length)
    (hstack : g.stack = argsL.reverse ++ .ref b :: rest) (hW : 2 * g.monitorRoom + (rest.map fun v => v.category).sum ≤ W9) (hdg : decode c.code g.pc = .ok (.invokevirtual index, 3))
    (hpre : ∀ vm₁, s.WarmedH vm₁ → Pre ⟨T.setVm vm₁, locs, cells, slots⟩ (Value.ref b :: argsL).toArray) :
    ∃ (v : Option Value) (vm₁ : Vm) (B : Pt), s.WarmedH vm₁ ∧ Stand p l e R s m args below meth c B.U B.locs B.cells B.slots ∧ Post ⟨T.setVm vm₁, locs, cells, slots⟩ (Value.ref b :: argsL).toArray v B ∧
      ∀ target, Steps p.tables e below (B.U.setTop { g with pc := g.pc + 3, stack := v.toList ++ rest }) target → Steps p.tables e below (T.setTop g) target := by
  obtain ⟨mk, methM, hnamed, hmethM, hstM, habM⟩ := Cond.instanceMethod_spec hinst
  obtain ⟨m8, methM', cM, hn8, hmethM', -, -, -, -, -, -, hsigM⟩ := Cond.codeWith_spec hcode
  cases Option.some.inj (hn8.symm.trans hnamed)
  cases hmethM.symm.trans hmethM'
  obtain ⟨c2, r2, m2, q1, q2, q3, q4, kP, hkP, hkPi⟩ := Cond.selects_spec hsel
  cases hcls.symm.trans q1
  cases (State.methodFound?_of_named hnamed hy).symm.trans q2
  cases hnamed.symm.trans q3
  have hselP : selectMethod e.platform s.vm cellB.cls mk = .method mk := by rw [Launch.admits_selectMethod X.admits]; exact q4
  obtain ⟨vm₁, X₁, hstep₁⟩ := X.invokevirtual hexec hown hlink hnamed hmethM hstM hkP hkPi hy (a := b) (cell := cellB) hcell
    (fun z h => by rw [h] at hobj; cases hobj) hselP hmethM habM hkP hkPi (g := g) hg (argsL := argsL) (rest := rest) (hlen _ hsigM) hstack hdg
  obtain ⟨v, B, X', hpost, hsteps⟩ := hK m meth c ⟨T.setVm vm₁, locs, cells, slots⟩ { g with stack := rest } (.invokevirtual index) mk (Value.ref b :: argsL).toArray X₁ hg hsize hdg hW (X₁.named hnamed) (hpre vm₁ X₁.warmed)
  exact ⟨v, vm₁, B, X₁.warmed, X', hpost, fun target h => hstep₁ _ fun acts => by rw [doInvoke_state]; exact hsteps.trans h⟩
abbrev vx_CVW (R : Room) (s : State) (args : Array Value) (own C : String) (index : Nat) (y : MethodName) (bytes : ByteArray) (maxL : Nat) (ret : Option FieldType) (hh : List (Nat × Nat × Nat × Nat)) (ws : List Cond) (rm : Room) (mc ms n : Nat) : Prop :=
  (rm.cells = mc ∧ rm.slots = ms ∧ rm.frames + 1 ≤ R.frames ∧ 8 + (maxL + 11) + rm.locals ≤ R.locals ∧ (∀ w ∈ ws, ∀ (a' : Array Value) (U : State), s.WarmedH U.vm → w.before a' U = true) ∧ Cond.codeWith y bytes maxL ret hh ∈ ws) ∧
  (Cond.codeWith y bytes maxL ret hh).before args s = true ∧ (Cond.initialized y.cls).before args s = true ∧ (y.cls ≠ "java/lang/invoke/MethodHandle" ∧ y.cls ≠ "java/lang/invoke/VarHandle") ∧
  (∀ sig, parseMethodDescriptor y.desc = some sig → n = sig.parameters.length) ∧ (Cond.methodLink own index y).before args s = true ∧ (Cond.instanceMethod y).before args s = true ∧ (Cond.selects C y y).before args s = true
theorem vx_cwVW {own C : String} {index maxL mc ms : Nat} {y : MethodName} {bytes : ByteArray} {ret : Option FieldType} {hh : List (Nat × Nat × Nat × Nat)} {Ts ws ws' : List Cond} {rm : Room} (n : Nat) (ht : ∀ w ∈ Ts, w.before args s = true) (hT : GoodIn Ts (wsV own index C y ws)) (hw : ws = Cond.codeWith y bytes maxL ret hh :: ws') (hrc : rm.cells = mc) (hrs : rm.slots = ms)
    (hd : y.cls = C ∧ y.cls ≠ "java/lang/invoke/MethodHandle" ∧ y.cls ≠ "java/lang/invoke/VarHandle" ∧ (parseMethodDescriptor y.desc).map (fun d => d.parameters.length) = some n) (hR : rm.frames + 1 ≤ R.frames ∧ 8 + (maxL + 11) + rm.locals ≤ R.locals) :
    vx_CVW R s args own C index y bytes maxL ret hh ws rm mc ms n := by
  obtain ⟨hC, hd⟩ := hd
  subst hC
  have ok : ∀ w ∈ wsV own index y.cls y ws, w.before args s = true := fun w h => ht w (hT w h).1
  have hG : GoodIn Ts ws := fun w h => hT w (by unfold wsV; exact List.mem_append_right _ h)
  have hc : Cond.codeWith y bytes maxL ret hh ∈ ws := by rw [hw]; exact List.mem_cons_self
  refine ⟨⟨hrc, hrs, hR.1, hR.2, pay_in ht hG, hc⟩, ht _ (hG _ hc).1, ok _ (by simp [wsV]), ⟨hd.1, hd.2.1⟩, fun sig h => ?_, ok _ (by simp [wsV]), ok _ (by simp [wsV]), ok _ (by simp [wsV])⟩
  have h2 := hd.2.2
  rw [h] at h2
  exact (Option.some.inj h2).symm
theorem vx_runVW {y : MethodName} {bytes cc : ByteArray} {maxL nL mc ms n index : Nat} {ret : Option FieldType} {hh : List (Nat × Nat × Nat × Nat)} {ws : List Cond} {rm : Room} {Pc : Array Value → State → Prop} {Qc : Array Value → State → Outcome → State → Prop} {free : Addr → Prop} {Ts : List Cond} {own C : String} {b : Addr} {As rest : List Value} {g : JFrame}
    (S : CallFix p m c cc nL s args Ts own) (hM : Met l y ws rm Pc Qc mc ms free) (cw : vx_CVW R s args own C index y bytes maxL ret hh ws rm mc ms n) (hp : PreV s H C b Pc As)
    (hg : g.method = m) (hn : As.length = n) (hsize : g.locals.size = nL) (hstack : g.stack = As.reverse ++ .ref b :: rest) (hW : 2 * g.monitorRoom + (rest.map fun v => v.category).sum ≤ 8) (hdg : decode cc g.pc = .ok (.invokevirtual index, 3)) (hf : cells + mc ≤ R.cells ∧ slots + ms ≤ R.slots) :
    va_Run p l e R s m args below meth c H locs cells slots mc ms g rest (Qc (Value.ref b :: As).toArray) free := by
  obtain ⟨⟨hrc, hrs, hfr, hlo, hws, hcw⟩, hcode, hini, hy, hlen, hl, hin, hse⟩ := cw
  have hK : Back l R p e below s args y 3 8 (PreOf R mc ms Pc) (PostOf Qc mc ms free) := va_backW (hh := hh) (bytes := bytes) (maxL := maxL) (ret := ret) hM hp.1 hrc hrs hfr hlo hws hcw (fun a' U hW => word_at hW (Or.inl (by first | rfl | simp [Cond.onTables, Cond.keeps, Cond.steady])) hini)
  obtain ⟨hx, hb, hml, ho, -⟩ := S
  obtain ⟨-, ⟨cellB, hcB, hoB, hclB⟩, hPc⟩ := hp
  intro T hT X
  obtain ⟨v, vm₁, ⟨U', l2, c2, s2⟩, hW₁, X', ⟨g', mk, t, L, e1, e2, hq, h1, hL, h2, h3⟩, st⟩ := vx_callVW X hx (C := C) (hh := hh) (bytes := bytes) (maxL := maxL) (ret := ret) ho hl hin hse hcode hy hK (by rw [hT]; exact hcB) hoB hclB hg (hsize.trans hml.symm) (argsL := As) (rest := rest) (fun sig h => hn.trans (hlen sig h)) hstack hW (by rw [hb]; exact hdg)
    (fun vm₁ hW₁ => ⟨hf.1, hf.2, hPc (T.setVm vm₁) hT hW₁⟩)
  dsimp only [Pt.U, Pt.locs, Pt.cells, Pt.slots] at X' e1 e2 h1 h2 h3 st
  subst h1; subst h2; subst h3
  exact ⟨v, (T.setVm vm₁).calling g' mk (Value.ref b :: As).toArray, t, U', L, hT, X', hL, e1, e2, hq, st⟩
section
variable {y : MethodName} {bytes cc : ByteArray} {maxL nL mc ms n index : Nat} {ret : Option FieldType} {ws : List Cond} {rm : Room} {Pc : Array Value → State → Prop} {Qc : Array Value → State → Outcome → State → Prop} {XC : String → State → State → Prop} {free : Addr → Prop} {Ts : List Cond} {own C : String} {b : Addr} {As rest : List Value} {g : JFrame}
theorem vx_runVX {hh : List (Nat × Nat × Nat × Nat)} (S : CallFix p m c cc nL s args Ts own) (hM : vx_Met l y ws rm Pc Qc XC mc ms free) (cw : vx_CVW R s args own C index y bytes maxL ret hh ws rm mc ms n) (hp : PreV s H C b Pc As)
    (hg : g.method = m) (hn : As.length = n) (hsize : g.locals.size = nL) (hstack : g.stack = As.reverse ++ .ref b :: rest) (hW : 2 * g.monitorRoom + (rest.map fun v => v.category).sum ≤ 8) (hdg : decode cc g.pc = .ok (.invokevirtual index, 3)) (hf : cells + mc ≤ R.cells ∧ slots + ms ≤ R.slots) :
    vx_Run p l e R s m args below meth c H locs cells slots mc ms g rest (Qc (Value.ref b :: As).toArray) XC free := by
  obtain ⟨⟨hrc, hrs, hfr, hlo, hws, hcw⟩, hcode, hini, hy, hlen, hl, hin, hse⟩ := cw
  have hK : vx_Back l R p e below s args y 3 8 (PreOf R mc ms Pc) (PostOf Qc mc ms free) (vx_Post XC mc ms free) := vx_backW (hh := hh) (bytes := bytes) (maxL := maxL) (ret := ret) hM hp.1 hrc hrs hfr hlo hws hcw (fun a' U hW => word_at hW (Or.inl (by first | rfl | simp [Cond.onTables, Cond.keeps, Cond.steady])) hini)
  obtain ⟨hx, hb, hml, ho, -⟩ := S
  obtain ⟨-, ⟨cellB, hcB, hoB, hclB⟩, hPc⟩ := hp
  intro T hT X
  rcases vx_callVX X hx (C := C) (hh := hh) (bytes := bytes) (maxL := maxL) (ret := ret) ho hl hin hse hcode hy hK (by rw [hT]; exact hcB) hoB hclB hg (hsize.trans hml.symm) (argsL := As) (rest := rest) (fun sig h => hn.trans (hlen sig h)) hstack hW (by rw [hb]; exact hdg)
    (fun vm₁ hW₁ => ⟨hf.1, hf.2, hPc (T.setVm vm₁) hT hW₁⟩) with ⟨v, vm₁, ⟨U', l2, c2, s2⟩, hW₁, X', ⟨g', mk, t, L, e1, e2, hq, h1, hL, h2, h3⟩, st⟩ | ⟨q, vm₁, ⟨U', l2, c2, s2⟩, hW₁, X', ⟨g', mk, t, L, E, ce, e1, e2, hq, hce, hcv, hcl, h1, hL, h2, h3⟩, st⟩
  · dsimp only [Pt.U, Pt.locs, Pt.cells, Pt.slots] at X' e1 e2 h1 h2 h3 st
    subst h1; subst h2; subst h3
    exact Or.inl ⟨v, (T.setVm vm₁).calling g' mk (Value.ref b :: As).toArray, t, U', L, hT, X', hL, e1, e2, hq, st⟩
  · dsimp only [Pt.U, Pt.locs, Pt.cells, Pt.slots] at X' e1 e2 h1 h2 h3 st hcl
    subst h1; subst h2; subst h3
    exact Or.inr ⟨q, (T.setVm vm₁).calling g' mk (Value.ref b :: As).toArray, t, U', L, E, ce, hT, X', hL, e1, e2, hq, hce, hcv, vx_cls hW₁ hcl, st⟩
theorem vx_runSX {hh : List (Nat × Nat × Nat × Nat)} (S : CallFix p m c cc nL s args Ts own) (hM : vx_Met l y ws rm Pc Qc XC mc ms free) (cw : vx_CSW R s args own index y bytes maxL ret hh ws rm mc ms n) (hp : PreS s H Pc As)
    (hg : g.method = m) (hn : As.length = n) (hsize : g.locals.size = nL) (hstack : g.stack = As.reverse ++ rest) (hW : 2 * g.monitorRoom + (rest.map fun v => v.category).sum ≤ 8) (hdg : decode cc g.pc = .ok (.invokestatic index, 3)) (hf : cells + mc ≤ R.cells ∧ slots + ms ≤ R.slots) :
    vx_Run p l e R s m args below meth c H locs cells slots mc ms g rest (Qc As.toArray) XC free := by
  obtain ⟨⟨hrc, hrs, hfr, hlo, hws, hcw⟩, hcode, hini, hy, hlen, hl, hstt⟩ := cw
  have hK : vx_Back l R p e below s args y 3 8 (PreOf R mc ms Pc) (PostOf Qc mc ms free) (vx_Post XC mc ms free) := vx_backW (hh := hh) (bytes := bytes) (maxL := maxL) (ret := ret) hM hp.1 hrc hrs hfr hlo hws hcw (fun a' U hW => word_at hW (Or.inl (by first | rfl | simp [Cond.onTables, Cond.keeps, Cond.steady])) hini)
  obtain ⟨hx, hb, hml, ho, -⟩ := S
  intro T hT X
  rcases vx_callSX X hx (hh := hh) (bytes := bytes) (maxL := maxL) (ret := ret) ho hl hstt hini hcode hy hK hg (hsize.trans hml.symm) (argsL := As) (rest := rest) (fun sig h => hn.trans (hlen sig h)) hstack hW (by rw [hb]; exact hdg)
    (fun vm₁ hW₁ => ⟨hf.1, hf.2, hp.2 (T.setVm vm₁) hT hW₁⟩) with ⟨v, vm₁, ⟨U', l2, c2, s2⟩, hW₁, X', ⟨g', mk, t, L, e1, e2, hq, h1, hL, h2, h3⟩, st⟩ | ⟨q, vm₁, ⟨U', l2, c2, s2⟩, hW₁, X', ⟨g', mk, t, L, E, ce, e1, e2, hq, hce, hcv, hcl, h1, hL, h2, h3⟩, st⟩
  · dsimp only [Pt.U, Pt.locs, Pt.cells, Pt.slots] at X' e1 e2 h1 h2 h3 st
    subst h1; subst h2; subst h3
    exact Or.inl ⟨v, (T.setVm vm₁).calling g' mk As.toArray, t, U', L, hT, X', hL, e1, e2, hq, st⟩
  · dsimp only [Pt.U, Pt.locs, Pt.cells, Pt.slots] at X' e1 e2 h1 h2 h3 st hcl
    subst h1; subst h2; subst h3
    exact Or.inr ⟨q, (T.setVm vm₁).calling g' mk As.toArray, t, U', L, E, ce, hT, X', hL, e1, e2, hq, hce, hcv, vx_cls hW₁ hcl, st⟩
end
end VXH
theorem vx_ofWH {l : Launch} {y : MethodName} {ws ws' : List Cond} {rm : Room} {Pc : Array Value → State → Prop} {Qc : Array Value → State → Outcome → State → Prop} {XC : String → State → State → Prop} {mc ms : Nat} {free : Addr → Prop} {cc : ByteArray} {maxL : Nat} {ret : Option FieldType} {hh : List (Nat × Nat × Nat × Nat)}
    (hy : plainName y.cls = true) (hw : ws = Cond.codeWith y cc maxL ret hh :: ws')
    (body : ∀ p e s m args below meth c s₁, BodyLoose p l y (headSpec ws rm) cc maxL ret e s m args below meth c s₁ → c.maxLocals = maxL → Pc args s →
      W p l e (headSpec ws rm).room s m args below meth c s.heap [] 0 0 (vx_MQ below Qc XC args s mc ms free) (entryFrame m args maxL)) : vx_Met l y ws rm Pc Qc XC mc ms free := by
  refine MetFree.of_bodyS (code := cc) (maxLocals := maxL) (ret := ret) hy ?_ ?_
  · intro args s m h hn
    obtain ⟨m9, meth, c, hn9, h1, h2, h3, h4, -, h5, h6, -⟩ := Cond.codeWith_spec (atoms_spec (ws := ws) h _ (by rw [hw]; exact List.mem_cons_self))
    cases hn.symm.trans hn9
    exact ⟨meth, c, h1, h2, h3, h4, h5, h6⟩
  · intro p e s m args below meth c s₁ B hml hP _
    have hh0 : s₁.heap = s.heap := by rw [B.state]; rfl
    obtain ⟨t, a1, o, b1, b2, b3⟩ := body p e s m args below meth c s₁ B hml hP s₁ hh0 (Stand.of_body B)
    exact ⟨t, o, a1, b1, b2, b3⟩
/-! ===== END ===== -/
/-! ===== BEGIN what the machine throws by itself, no traces kept ===== -/
section VXM
set_option maxHeartbeats 1000000 in
/-- the machine throws cls with the message text, no traces kept: from its note over the frame g to 'throwing' over the same frame (follows the proofs of Stand.vmThrowsMessage, Shelf/KitTracedVmS.lean, and Stand.throwsMessageColdBareV, StandMessageColdV.lean, without the step out of the frame) -/
theorem vx_vmAt {p : Program} {l : Launch} {e : Env} {R : Room} {s : State} {m₀ : MethodId} {args : Array Value} {below : List Frame} {meth : Method} {c : Code} {W : State} {locs : List Loc} {cells slots : Nat}
    (X : Stand p l e R s m₀ args below meth c W locs cells slots) (hexec : p.tables.exec = Jvm.exec) (htr : e.platform.stackTraces = false) {cls : String} {names : List String} {text : String}
    (hcls : Bundle.fit cls = true) (hnames : ∀ n ∈ names, Bundle.fit n = true) (hsoe : (cls == "java/lang/StackOverflowError") = false) (hoom : (cls == "java/lang/OutOfMemoryError") = false)
    (h : ∀ a ∈ Bundle.messageArmAtoms cls names, a.before args s = true)
    (hlocs : ∀ x ∈ locs, ∀ cell, s.heap[x.base]? = some cell → cell.vm.isStatics = false)
    (htext : (text == notModelled) = false) (hlimit : ¬ (stringBytes (stringToUtf16 text)).size > e.platform.arrayLengthLimit) (hheap : ¬ (stringBytes (stringToUtf16 text)).size * componentBytes .byte > e.platform.maxHeapBytes)
    {g : JFrame} (hg : g.method = m₀) (hsize : g.locals.size = c.maxLocals)
    (hRframes : names.length + 4 < R.frames) (hRlocals : 2 * g.monitorRoom + (g.stack.map fun v => v.category).sum + 10240 ≤ R.locals) (hshort : 13 * names.length + 55 ≤ 10240)
    (hRcells : cells + 3 ≤ R.cells) (hRslots : slots + ((stringBytes (stringToUtf16 text)).size + 4 + 6) ≤ R.slots) (hlocks : meth.locks = false) :
    ∃ (S : State) (q : Addr) (ce : Cell), (∀ target, Steps p.tables e below ((S.setTop g).pushFrame (.throwing q)) target → Steps p.tables e below ((W.setTop g).pushFrame (.throwNew cls (some text) none)) target) ∧
      Stand p l e R s m₀ args below meth c S locs (cells + 3) (slots + ((stringBytes (stringToUtf16 text)).size + 4 + 6)) ∧ S.heap[q]? = some ce ∧ s.vm.findClass cls = some ce.cls ∧ ce.vm = .none := by
  have howns : e.platform.frameOwnsMonitors = true := by rw [X.admits.platform]
  have hfin : e.platform.finalization = false := by rw [X.admits.platform]
  have hpl : e.platform.magicAccessors = ({} : Platform).magicAccessors := by rw [X.admits.platform]
  have a : ∀ x, x ∈ Bundle.messageArmAtoms cls names → x.holds args s none s [] = true := fun x hx => h x hx
  obtain ⟨T, Z0, L, -, Y⟩ := ThrowableC.of_atoms (args := args) howns hfin hpl (fun x hx => h x (by simp [Bundle.messageArmAtoms, hx]))
  obtain ⟨Z, M, LZ, LM, hnZ⟩ := Init0T.ofS_atoms (args := args) hpl L Y (fun x hx => h x (by simp [Bundle.messageArmAtoms, hx]))
  obtain ⟨P1, Ps, hlen, L1, hL, hP1m, hlink1, hlink⟩ := Bundle.chainS (args := args) hpl hnZ names cls hcls hnames (fun x hx => h x (by simp [Bundle.messageArmAtoms, hx]))
  obtain ⟨Zs, LZs, hn4, hfitv, hfitc⟩ := StringT.of_atoms (args := args) (fun x hx => h x (by simp [Bundle.messageArmAtoms, hx]))
  have hfound : s.vm.findClass cls = some P1.m.cls := findClass_of_methodNamed hP1m
  obtain ⟨c1, kX, hc1, hk, hord, -, -, hn6⟩ := Cond.instantiable_spec (a (.instantiable cls 6) (by simp [Bundle.messageArmAtoms]))
  cases Option.some.inj (hc1.symm.trans hfound)
  have hinit := Cond.initialized_spec hfound hk (a (.initialized cls) (by simp [Bundle.messageArmAtoms]))
  have hctor : kX.findMethod "<init>" "(Ljava/lang/String;)V" = some P1.m.idx := findMethod_of_methodNamed hP1m hk
  have hsel0 : selectMethod e.platform s.vm P1.m.cls T.fill0 = .method T.fill0 := by
    obtain ⟨c2, r2, m2, q1, q2, q3, q4, -⟩ := Cond.selects_spec (a (.selects cls Bundle.tFill0 Bundle.tFill0) (by simp [Bundle.messageArmAtoms]))
    cases Option.some.inj (q1.symm.trans hfound)
    cases Option.some.inj (q2.symm.trans (State.methodFound?_of_named Y.fill0 (by decide)))
    cases Option.some.inj (q3.symm.trans Y.fill0)
    rw [Launch.admits_selectMethod X.admits]; exact q4
  have hselF : selectMethod e.platform s.vm P1.m.cls T.fill = .method T.fill := by
    obtain ⟨c2, r2, m2, q1, q2, q3, q4, -⟩ := Cond.selects_spec (a (.selects cls Bundle.tFill Bundle.tFill) (by simp [Bundle.messageArmAtoms]))
    cases Option.some.inj (q1.symm.trans hfound)
    cases Option.some.inj (q2.symm.trans (State.methodFound?_of_named Y.fill (by decide)))
    cases Option.some.inj (q3.symm.trans Y.fill)
    rw [Launch.admits_selectMethod X.admits]; exact q4
  obtain ⟨cellS0, hcS0, hiss⟩ := Y.statics
  obtain ⟨u0, hu0⟩ := Cond.staticRefV Y.unassigned L.unassignedStatic L.statics hcS0 hiss (a (.isRef (.static Bundle.tN "UNASSIGNED_STACK" Bundle.steD)) (by simp [Bundle.messageArmAtoms]))
  obtain ⟨sen, hsen⟩ := Cond.staticRefV Y.sentinel L.sentinelStatic L.statics hcS0 hiss (a (.isRef (.static Bundle.tN "SUPPRESSED_SENTINEL" Bundle.listD)) (by simp [Bundle.messageArmAtoms]))
  obtain ⟨ci198, i198, fB, hk198, hg198, ha198, hsB, -, hnB, htB, hffB⟩ := Cond.ownField (t := .object "java/lang/Object") Y.found L.cls (by decide +kernel) (a (.fieldLink Bundle.tN 198 Bundle.tN "backtrace" "Ljava/lang/Object;") (by simp [Bundle.messageArmAtoms])) (a (.lays Bundle.tN Bundle.tN "backtrace" "Ljava/lang/Object;") (by simp [Bundle.messageArmAtoms])) e.platform hpl
  obtain ⟨cellS, hcS', heS, -, hkeep⟩ := X.same.2.2.2.2.2 T.aS cellS0 hcS0
  have hcellS : W.heap[T.aS]? = some cellS := hcS'
  have hout' : ∀ i, (⟨T.aS, i⟩ : Loc) ∉ locs := fun i hmem => by
    have := hlocs _ hmem cellS0 hcS0
    rw [hiss] at this; cases this
  have hknownS : cellS.vm ≠ .unknown := by
    rw [heS]; intro hu
    rw [show cellS0.vm = .unknown from hu] at hiss
    cases hiss
  have hvU : cellS.slots[T.fUnassigned.slot]? = some u0.v := by rw [hkeep _ (hout' _)]; exact hu0
  have hvSen : cellS.slots[T.fSentinel.slot]? = some sen.v := by rw [hkeep _ (hout' _)]; exact hsen
  obtain ⟨iM, hffM⟩ := Y.msg
  obtain ⟨tyC, dC, hdC, hdnC⟩ := Cond.laysAt hfound hk Y.cause (a (.lays cls Bundle.tN "cause" "Ljava/lang/Throwable;") (by simp [Bundle.messageArmAtoms]))
  obtain ⟨tyS, dS, hdS, hdnS⟩ := Cond.laysAt hfound hk Y.stack (a (.lays cls Bundle.tN "stackTrace" Bundle.steD) (by simp [Bundle.messageArmAtoms]))
  obtain ⟨tyP, dP, hdP, hdnP⟩ := Cond.laysAt hfound hk Y.supp (a (.lays cls Bundle.tN "suppressedExceptions" Bundle.listD) (by simp [Bundle.messageArmAtoms]))
  obtain ⟨tyM, dM, hdM, hdnM⟩ := Cond.laysAt hfound hk hffM (a (.lays cls Bundle.tN "detailMessage" "Ljava/lang/String;") (by simp [Bundle.messageArmAtoms]))
  obtain ⟨tyB, dB, hdB, hdnB⟩ := Cond.laysAt hfound hk hffB (a (.lays cls Bundle.tN "backtrace" "Ljava/lang/Object;") (by simp [Bundle.messageArmAtoms]))
  have bC := Cond.laysApart hdB hdC hdnB hdnC (by rw [hnB, Y.causeName]; decide)
  have bS := Cond.laysApart hdB hdS hdnB hdnS (by rw [hnB, Y.stackName]; decide)
  have bP := Cond.laysApart hdB hdP hdnB hdnP (by rw [hnB, Y.suppName]; decide)
  have hbk : ((preparedCellV T.toThrowableT (freshCell P1.m.cls kX) (W.heap.size + 2) u0 sen).withEntry W.cur).slots[fB.slot]? = some .null := by
    have := fresh_default (c := P1.m.cls) tyB
    rw [htB] at this
    simpa [preparedCellV, Cell.setSlot, Cell.withEntry, Array.getElem?_setIfInBounds, bC, bS, bP, bC.symm, bS.symm, bP.symm, defaultValue] using this
  have tkC := Takes.of_laid (v := .ref (W.heap.size + 2)) hk hord tyC (by rw [Y.causeType]; rfl)
  have tkS := Takes.of_laid (v := u0.v) hk hord tyS (by rw [Y.stackType]; exact fits_refV_array _ u0)
  have tkP := Takes.of_laid (v := sen.v) hk hord tyP (by rw [Y.suppType]; exact fits_refV_object _ sen)
  have tkM := Takes.of_laid (v := .ref (W.heap.size + 1)) hk hord tyM (by rw [Y.msgType]; rfl)
  have hskip : SkipFacts T e.platform s (fun u => u) u0 ((preparedCellV T.toThrowableT (freshCell P1.m.cls kX) (W.heap.size + 2) u0 sen).withEntry W.cur) := ⟨{ ci198 := ci198, i198 := i198, fBack := fB }, ⟨hk198, hg198, ha198, hsB⟩, hbk, fun _ _ => rfl⟩
  have h0 : At W g.method c below := by rw [hg]; exact X.here
  obtain ⟨hbeyond, hfreeW⟩ := X.vmMayThrow hsize (.throwNew cls (some text) none) (fun f hf => by cases hf) rfl hRlocals
  have hfr' : W.frames.length + Ps.length + 4 < (e.platform.stackLimits W.me).1 := by have := X.framesAbove hRframes; omega
  have hwd' : (stackUse (.java g :: W.frames.tail)).2 + 13 * Ps.length + 55 ≤ (e.platform.stackLimits W.me).2 := by have := X.stackAbove hsize (K := 13 * Ps.length + 55) (by omega); omega
  have hslots : W.slotsUsed + (stringBytes (stringToUtf16 text)).size + Zs.kS.instanceTypes.size + kX.instanceTypes.size ≤ e.platform.maxSlots := by
    have := X.slotsAbove hRslots
    rw [hn4, hn6]
    omega
  obtain ⟨vm', hW', st⟩ := Steps.vmThrowsMessageColdByV p (s₀ := s) (S := W) (g := g) h0 hexec T L Z LZ M LM X.warmed (t := W.cur) rfl Zs LZs P1 L1 Ps hL hlink1 hlink hsoe hoom hfound hk hinit hord hctor
    (Launch.admits_hotImplicitExceptions X.admits) hbeyond hfreeW htext hlimit hheap (X.cellsAbove hRcells) hslots (hfitv _) (hfitc _)
    (Nn := fun u => u) heapOnly_id (fun _ _ => rfl) (fun _ => rfl) (fun u x y => setCell_twice _ _ _ _) (fun _ => Nat.le_refl _) (cN := ((preparedCellV T.toThrowableT (freshCell P1.m.cls kX) (W.heap.size + 2) u0 sen).withEntry W.cur))
    hsel0 hcellS hknownS hvU tkS (fun _ hu => hu) (fun _ hu => hu) rfl rfl rfl (by simp [preparedCellV, Cell.setSlot, Cell.withEntry]) hskip (fun _ _ hA hW _ hroom _ hrest => L.nativeOff p htr hA hW hroom hrest) hselF hvSen tkC tkP tkM Y.objLocals rfl hfr' hwd'
  rw [plainBareV_eq T.toThrowableT (W.heap.size + 2) u0 sen (.ref (W.heap.size + 1)) W.cur rfl rfl] at st
  obtain ⟨-, -, w3, w4, -, -, -⟩ := withThrown_facts e.platform W Zs text P1.m.cls kX
  have X3 := ((X.pushed (bytesOf Zs.cB (stringToUtf16 text))).pushed (stringAt Zs.cS Zs.kS Zs.fv Zs.fc (stringToUtf16 text) W.heap.size)).pushed (freshCell P1.m.cls kX)
  rw [← withString_eq] at X3
  have X4 := X3.noted hW'
  have ha : (W.heap.size + 2) < ((withThrown W Zs text P1.m.cls kX).setVm vm').heap.size := by show _ < (withThrown W Zs text P1.m.cls kX).heap.size; rw [w3]; omega
  have hcell : ((withThrown W Zs text P1.m.cls kX).setVm vm').heap[(W.heap.size + 2)]? = some (freshCell P1.m.cls kX) := w4
  have X5 := ((((X4.stored hcell T.fCause.slot (.ref (W.heap.size + 2))).storedAgain ha T.fStack.slot u0.v).storedAgain ha T.fSupp.slot sen.v).storedAgain ha T.fStack.slot u0.v).storedAgain ha T.fMsg.slot (.ref (W.heap.size + 1))
  obtain ⟨g₁, hfrM⟩ := X5.frames_eq
  have hU : ((((withThrown W Zs text P1.m.cls kX).setVm vm').setCell (W.heap.size + 2) (plainBareV T.toThrowableT (freshCell P1.m.cls kX) (W.heap.size + 2) u0 sen (.ref (W.heap.size + 1)))).setTop g).pushFrame (.throwing (W.heap.size + 2)) = (((withThrown W Zs text P1.m.cls kX).setVm vm').setCell (W.heap.size + 2) (plainBareV T.toThrowableT (freshCell P1.m.cls kX) (W.heap.size + 2) u0 sen (.ref (W.heap.size + 1)))).setFrames (.throwing (W.heap.size + 2) :: .java g :: below) := by
    rw [State.pushFrame, State.frames_setTop _ hfrM, State.setTop_of_frames _ hfrM, State.setFrames_setFrames]
  have b1 : (bytesOf Zs.cB (stringToUtf16 text)).slots.size = (stringBytes (stringToUtf16 text)).size := by
    rw [(Cell.writeAll_facts _ _).2.2]; simp [bytes0]
  have b2 : (stringAt Zs.cS Zs.kS Zs.fv Zs.fc (stringToUtf16 text) W.heap.size).slots.size = 4 := by simp [string0, Cell.setSlot, hn4]
  have b3 : (freshCell P1.m.cls kX).slots.size = 6 := by simp [hn6]
  rw [b1, b2, b3] at X5
  have e9 : slots + (stringBytes (stringToUtf16 text)).size + 4 + 6 = slots + ((stringBytes (stringToUtf16 text)).size + 4 + 6) := by omega
  rw [e9] at X5
  simp only [List.append_assoc, List.cons_append, List.nil_append] at X5
  refine ⟨((withThrown W Zs text P1.m.cls kX).setVm vm').setCell (W.heap.size + 2) (plainBareV T.toThrowableT (freshCell P1.m.cls kX) (W.heap.size + 2) u0 sen (.ref (W.heap.size + 1))), W.heap.size + 2, _, fun target ht => st _ (by rw [X.tail, ← hU]; exact ht),
    X5.forget (fun y hy => ?_), heapAt_setCell_self _ ha, hfound, rfl⟩
  simp only [List.mem_cons, List.not_mem_nil, or_false] at hy
  have hge : s.heap.size ≤ W.heap.size := X.same.2.1
  rcases hy with rfl | rfl | rfl | rfl | rfl <;> exact Nat.le_trans hge (Nat.le_add_right _ 2)
set_option maxHeartbeats 1000000 in
/-- the machine throws NullPointerException, no traces kept: from its note over the frame g to 'throwing' over the same frame (follows the proof of Stand.vmThrowsNpe, Shelf42/KT2.lean; throwsNpeColdBareVAt, Shelf42/NT91.lean, called) -/
theorem vx_npeAt {p : Program} {l : Launch} {e : Env} {R : Room} {s : State} {m₀ : MethodId} {args : Array Value} {below : List Frame} {meth : Method} {c : Code} {W : State} {locs : List Loc} {cells slots : Nat}
    (X : Stand p l e R s m₀ args below meth c W locs cells slots) (hexec : p.tables.exec = Jvm.exec) (htr : e.platform.stackTraces = false) {n : Nat}
    (h : ∀ a ∈ Bundle.npeArmAtoms n, a.before args s = true)
    (hlocs : ∀ x ∈ locs, ∀ cell, s.heap[x.base]? = some cell → cell.vm.isStatics = false)
    {g : JFrame} (hg : g.method = m₀) (hsize : g.locals.size = c.maxLocals)
    (hRframes : 7 < R.frames) (hRlocals : 2 * g.monitorRoom + (g.stack.map fun v => v.category).sum + 10240 ≤ R.locals)
    (hRcells : cells + 1 ≤ R.cells) (hRslots : slots + n ≤ R.slots) (hlocks : meth.locks = false) :
    ∃ (S : State) (q : Addr) (ce : Cell), (∀ target, Steps p.tables e below ((S.setTop g).pushFrame (.throwing q)) target → Steps p.tables e below ((W.setTop g).pushFrame (.throwNew "java/lang/NullPointerException" none none)) target) ∧
      Stand p l e R s m₀ args below meth c S locs (cells + 1) (slots + n) ∧ S.heap[q]? = some ce ∧ s.vm.findClass "java/lang/NullPointerException" = some ce.cls ∧ ce.vm = .none := by
  have howns : e.platform.frameOwnsMonitors = true := by rw [X.admits.platform]
  have hfin : e.platform.finalization = false := by rw [X.admits.platform]
  have hpl : e.platform.magicAccessors = ({} : Platform).magicAccessors := by rw [X.admits.platform]
  have hpl2 : e.platform.arrayCloneIsPublic = true := by rw [X.admits.platform]
  have a' : ∀ x, x ∈ Bundle.npeArmAtoms n → x.holds args s none s [] = true := fun x hx => h x hx
  obtain ⟨T, Z, L, LZ, Y⟩ := ThrowableC.of_atoms (args := args) howns hfin hpl (fun x hx => h x (by simp [Bundle.npeArmAtoms, hx]))
  obtain ⟨N, LN, hcN, hnNF, hordN, hffS⟩ := NpeC.of_atoms (args := args) hpl hpl2 L Y (fun x hx => h x (by simp [Bundle.npeArmAtoms, hx]))
  obtain ⟨P1, L1, hP1m, hP1s⟩ := PassC.of_atoms (args := args) (s := s) hpl (X := Bundle.nN) (Y := Bundle.rN) (by decide) (by decide) LibCode.NullPointerException.Init0.at_0 LibCode.NullPointerException.Init0.at_1 LibCode.NullPointerException.Init0.at_4 (fun x hx => h x (by simp [Bundle.npeArmAtoms, hx]))
  obtain ⟨PR, LR, hPRm, hPRs⟩ := PassC.of_atoms (args := args) (s := s) hpl (X := Bundle.rN) (Y := Bundle.eN) (by decide) (by decide) LibCode.RuntimeException.Init0.at_0 LibCode.RuntimeException.Init0.at_1 LibCode.RuntimeException.Init0.at_4 (fun x hx => h x (by simp [Bundle.npeArmAtoms, hx]))
  obtain ⟨PE, LEx, hPEm, hPEs⟩ := PassC.of_atoms (args := args) (s := s) hpl (X := Bundle.eN) (Y := Bundle.tN) (by decide) (by decide) LibCode.Exception.Init0.at_0 LibCode.Exception.Init0.at_1 LibCode.Exception.Init0.at_4 (fun x hx => h x (by simp [Bundle.npeArmAtoms, hx]))
  have hfound : s.vm.findClass Bundle.nN = some P1.m.cls := findClass_of_methodNamed hP1m
  have ecls : N.cN = P1.m.cls := Option.some.inj (hcN.symm.trans hfound)
  have hk : s.vm.classes[P1.m.cls]? = some N.kN := by rw [← ecls]; exact LN.cls
  have hinit := Cond.initialized_spec hfound hk (a' (.initialized Bundle.nN) (by simp [Bundle.npeArmAtoms]))
  have hctor : N.kN.findMethod "<init>" "()V" = some P1.m.idx := findMethod_of_methodNamed hP1m hk
  obtain ⟨c1, k1, hc1, hk1, -, -, -, hn⟩ := Cond.instantiable_spec (a' (.instantiable Bundle.nN n) (by simp [Bundle.npeArmAtoms]))
  cases Option.some.inj (hc1.symm.trans hfound)
  cases Option.some.inj (hk1.symm.trans hk)
  have hfsz : (freshCell P1.m.cls N.kN).slots.size = n := by simp [hn]
  have hlink1 : P1.sup = PR.m := Option.some.inj (hP1s.symm.trans hPRm)
  have hlinkR : PR.sup = PE.m := Option.some.inj (hPRs.symm.trans hPEm)
  have hlinkE : PE.sup = Z.m T.toThrowableT := Option.some.inj (hPEs.symm.trans Y.init0)
  have hLs : ∀ P, P ∈ [PR, PE] → P.Links0 e.platform s := fun P hP => by
    simp only [List.mem_cons, List.not_mem_nil, or_false] at hP
    rcases hP with rfl | rfl
    · exact LR
    · exact LEx
  have hsel0 : selectMethod e.platform s.vm P1.m.cls T.fill0 = .method T.fill0 := by
    obtain ⟨c2, r2, m2, q1, q2, q3, q4, -⟩ := Cond.selects_spec (a' (.selects Bundle.nN Bundle.tFill0 Bundle.tFill0) (by simp [Bundle.npeArmAtoms]))
    cases Option.some.inj (q1.symm.trans hfound)
    cases Option.some.inj (q2.symm.trans (State.methodFound?_of_named Y.fill0 (by decide)))
    cases Option.some.inj (q3.symm.trans Y.fill0)
    rw [Launch.admits_selectMethod X.admits]; exact q4
  have hselF : selectMethod e.platform s.vm P1.m.cls T.fill = .method N.fill := by
    obtain ⟨c2, r2, m2, q1, q2, q3, q4, -⟩ := Cond.selects_spec (a' (.selects Bundle.nN Bundle.tFill Bundle.nFill) (by simp [Bundle.npeArmAtoms]))
    cases Option.some.inj (q1.symm.trans hfound)
    cases Option.some.inj (q2.symm.trans (State.methodFound?_of_named Y.fill (by decide)))
    cases Option.some.inj (q3.symm.trans hnNF)
    rw [Launch.admits_selectMethod X.admits]; exact q4
  obtain ⟨cellS0, hcS0, hiss⟩ := Y.statics
  obtain ⟨u0, hu0⟩ := Cond.staticRefV Y.unassigned L.unassignedStatic L.statics hcS0 hiss (a' (.isRef (.static Bundle.tN "UNASSIGNED_STACK" Bundle.steD)) (by simp [Bundle.npeArmAtoms]))
  obtain ⟨sen, hsen⟩ := Cond.staticRefV Y.sentinel L.sentinelStatic L.statics hcS0 hiss (a' (.isRef (.static Bundle.tN "SUPPRESSED_SENTINEL" Bundle.listD)) (by simp [Bundle.npeArmAtoms]))
  obtain ⟨ci198, i198, fB, hk198, hg198, ha198, hsB, -, hnB, htB, hffB⟩ := Cond.ownField (t := .object "java/lang/Object") Y.found L.cls (by decide +kernel) (a' (.fieldLink Bundle.tN 198 Bundle.tN "backtrace" Bundle.objD) (by simp [Bundle.npeArmAtoms])) (a' (.lays Bundle.tN Bundle.tN "backtrace" Bundle.objD) (by simp [Bundle.npeArmAtoms])) e.platform hpl
  obtain ⟨cellS, hcS', heS, -, hkeep⟩ := X.same.2.2.2.2.2 T.aS cellS0 hcS0
  have hcellS : W.heap[T.aS]? = some cellS := hcS'
  have hout' : ∀ i, (⟨T.aS, i⟩ : Loc) ∉ locs := fun i hmem => by
    have := hlocs _ hmem cellS0 hcS0
    rw [hiss] at this; cases this
  have hknownS : cellS.vm ≠ .unknown := by
    rw [heS]; intro hu
    rw [show cellS0.vm = .unknown from hu] at hiss
    cases hiss
  have hvU : cellS.slots[T.fUnassigned.slot]? = some u0.v := by rw [hkeep _ (hout' _)]; exact hu0
  have hvSen : cellS.slots[T.fSentinel.slot]? = some sen.v := by rw [hkeep _ (hout' _)]; exact hsen
  obtain ⟨tyC, dC, hdC, hdnC⟩ := Cond.laysAt hfound hk Y.cause (a' (.lays Bundle.nN Bundle.tN "cause" "Ljava/lang/Throwable;") (by simp [Bundle.npeArmAtoms]))
  obtain ⟨tyS, dS, hdS, hdnS⟩ := Cond.laysAt hfound hk Y.stack (a' (.lays Bundle.nN Bundle.tN "stackTrace" Bundle.steD) (by simp [Bundle.npeArmAtoms]))
  obtain ⟨tyP, dP, hdP, hdnP⟩ := Cond.laysAt hfound hk Y.supp (a' (.lays Bundle.nN Bundle.tN "suppressedExceptions" Bundle.listD) (by simp [Bundle.npeArmAtoms]))
  obtain ⟨tyX, dX, hdX, hdnX⟩ := Cond.laysAt hfound hk hffS (a' (.lays Bundle.nN Bundle.nN "extendedMessageState" "I") (by simp [Bundle.npeArmAtoms, Bundle.npeAtoms]))
  obtain ⟨hnX, htX⟩ := State.fieldFound?_type hffS (t := .int) (by decide +kernel)
  have xC := Cond.laysApart hdC hdX hdnC hdnX (by rw [hnX, Y.causeName]; decide)
  have xS := Cond.laysApart hdS hdX hdnS hdnX (by rw [hnX, Y.stackName]; decide)
  have xP := Cond.laysApart hdP hdX hdnP hdnX (by rw [hnX, Y.suppName]; decide)
  have hv0 : (freshCell P1.m.cls N.kN).slots[N.fState.slot]? = some (.int 0) := by
    have := fresh_default (c := P1.m.cls) tyX
    rw [htX] at this; exact this
  obtain ⟨tyB, dB, hdB, hdnB⟩ := Cond.laysAt hfound hk hffB (a' (.lays Bundle.nN Bundle.tN "backtrace" Bundle.objD) (by simp [Bundle.npeArmAtoms]))
  have bC := Cond.laysApart hdB hdC hdnB hdnC (by rw [hnB, Y.causeName]; decide)
  have bS := Cond.laysApart hdB hdS hdnB hdnS (by rw [hnB, Y.stackName]; decide)
  have bP := Cond.laysApart hdB hdP hdnB hdnP (by rw [hnB, Y.suppName]; decide)
  have bX := Cond.laysApart hdB hdX hdnB hdnX (by rw [hnB, hnX]; decide)
  have hbk : ((npeCell N.toNpeT (preparedCellV T.toThrowableT (freshCell P1.m.cls N.kN) W.heap.size u0 sen) W.cur).withEntry W.cur).slots[fB.slot]? = some .null := by
    have := fresh_default (c := P1.m.cls) tyB
    rw [htB] at this
    simpa [npeCell, preparedCellV, Cell.setSlot, Cell.withEntry, Array.getElem?_setIfInBounds, bC, bS, bP, bX, bC.symm, bS.symm, bP.symm, bX.symm, defaultValue] using this
  have tkC := Takes.of_laid (v := .ref W.heap.size) hk hordN tyC (by rw [Y.causeType]; rfl)
  have tkS := Takes.of_laid (v := u0.v) hk hordN tyS (by rw [Y.stackType]; exact fits_refV_array _ u0)
  have tkP := Takes.of_laid (v := sen.v) hk hordN tyP (by rw [Y.suppType]; exact fits_refV_object _ sen)
  have tkX := Takes.of_laid (v := .int 1) hk hordN tyX (by rw [htX]; rfl)
  have hskip : SkipFacts T e.platform s (fun u => u) u0 ((npeCell N.toNpeT (preparedCellV T.toThrowableT (freshCell P1.m.cls N.kN) W.heap.size u0 sen) W.cur).withEntry W.cur) := ⟨{ ci198 := ci198, i198 := i198, fBack := fB }, ⟨hk198, hg198, ha198, hsB⟩, hbk, fun _ _ => rfl⟩
  obtain ⟨vm', X3, st, -⟩ := X.throwsNpeColdBareVAt hexec hg hsize T L Z LZ N LN P1 L1 [PR, PE] hLs hlink1 ⟨hlinkR, hlinkE, trivial⟩ hfound hk hinit hordN hctor hsel0 hselF hcellS hknownS hvU hvSen
    hv0 xC xS xP tkC tkS tkP tkX Y.objLocals hskip (fun _ _ hA hW _ hroom _ hrest => L.nativeOff p htr hA hW hroom hrest) (by simpa using hRframes) hRlocals (by simp) hRcells (by rw [hn]; exact hRslots)
  have hlt : W.heap.size < ((W.pushCell (freshCell P1.m.cls N.kN)).setVm vm').heap.size := by
    show W.heap.size < (W.pushCell (freshCell P1.m.cls N.kN)).heap.size
    rw [State.heap_size_pushCell]; omega
  rw [hfsz] at X3
  obtain ⟨g₁, hfrM⟩ := X3.frames_eq
  have hU : ((((W.pushCell (freshCell P1.m.cls N.kN)).setVm vm').setCell W.heap.size (npeBareV T.toThrowableT N.toNpeT (freshCell P1.m.cls N.kN) W.heap.size u0 sen)).setTop g).pushFrame (.throwing W.heap.size) = (((W.pushCell (freshCell P1.m.cls N.kN)).setVm vm').setCell W.heap.size (npeBareV T.toThrowableT N.toNpeT (freshCell P1.m.cls N.kN) W.heap.size u0 sen)).setFrames (.throwing W.heap.size :: .java g :: below) := by
    rw [State.pushFrame, State.frames_setTop _ hfrM, State.setTop_of_frames _ hfrM, State.setFrames_setFrames]
  refine ⟨_, W.heap.size, _, fun target ht => st.trans (by rw [← hU]; exact ht), X3.forget (fun y hy => ?_), heapAt_setCell_self _ hlt, hfound, rfl⟩
  simp only [List.mem_cons, List.not_mem_nil, or_false] at hy
  have hge : s.heap.size ≤ W.heap.size := X.same.2.1
  rcases hy with rfl | rfl | rfl | rfl | rfl <;> exact hge
/-- the words of a machine's NullPointerException, but the four that speak of the heap -/
def vx_atN (n : Nat) : List Cond := (Bundle.npeArmAtoms n).filter vx_no
/-- the words of a machine's throw with a message, but the four that speak of the heap -/
def vx_atM (X : String) (names : List String) : List Cond := (Bundle.messageArmAtoms X names).filter vx_no
section
variable {p : Program} {l : Launch} {e : Env} {R : Room} {s : State} {m : MethodId} {args : Array Value} {below : List Frame} {meth : Method} {c : Code} {H : Heap} {locs : List Loc} {cells slots : Nat}
/-- a frame seen from a rebased start, seen from the first start again -/
theorem vx_back9 {T S : State} {R' : Room} {k n : Nat} (X : Stand p l e R s m args below meth c T locs cells slots) (Y : Stand p l e R' ((T.setVm s.vm).setFrames (.invoking m args :: below)) m args below meth c T [] 0 0) (Z : Stand p l e R' ((T.setVm s.vm).setFrames (.invoking m args :: below)) m args below meth c S [] k n) :
    Stand p l e R s m args below meth c S locs (cells + k) (slots + n) := by
  have hW0 : s.WarmedH ((T.setVm s.vm).setFrames (.invoking m args :: below)).vm := State.WarmedH.refl s
  refine { admits := X.admits, cas := X.cas, clock := X.clock, frames := X.frames, room := X.room, hears := X.hears, method := X.method, code := X.code, here := Z.here, tail := Z.tail, warmed := State.WarmedH.trans hW0 Z.warmed, limits := Z.limits.trans (Y.limits.symm.trans X.limits), bytes := Z.bytes.trans (Y.bytes.symm.trans X.bytes), same := ?_ }
  obtain ⟨e1, e2⟩ := Z.same
  rw [State.setFrames_setFrames] at e1
  have h2 : (T.setVm s.vm).sameButNew (S.setVm s.vm) [] k n := ⟨e1, e2⟩
  have h3 := X.same.trans h2
  rw [List.append_nil] at h3
  exact h3
/-- from the machine's note that E is thrown here with this text -/
def vx_Note (p : Program) (l : Launch) (e : Env) (R : Room) (s : State) (m : MethodId) (args : Array Value) (below : List Frame) (meth : Method) (c : Code) (H : Heap) (locs : List Loc) (cells slots : Nat) (Q : State → Prop) (g : JFrame) (E text : String) : Prop :=
  ∀ T : State, T.heap = H → Stand p l e R s m args below meth c T locs cells slots → ∃ t, Steps p.tables e below ((T.setTop g).pushFrame (.throwNew E (some text) none)) t ∧ Q t
theorem vx_vm {pc : Nat} {ls : Array Slot} {rest : List Value} {Q : State → Prop} (hexec : p.tables.exec = Jvm.exec) (hl : l.stackTraces = false) {cls text : String} {names : List String} {nb : Nat} {A : Nat → Prop}
    (hcls : Bundle.fit cls = true) (hnames : ∀ n ∈ names, Bundle.fit n = true) (hsoe : (cls == "java/lang/StackOverflowError") = false) (hoom : (cls == "java/lang/OutOfMemoryError") = false)
    (hat : ∀ w ∈ vx_atM cls names, w.before args s = true) (hgood : ∀ w ∈ vx_atM cls names, vx_ot w = true)
    (hU : vx_Zq Bundle.tN "UNASSIGNED_STACK" Bundle.steD A s s.heap) (hN : vx_Zq Bundle.tN "SUPPRESSED_SENTINEL" Bundle.listD A s s.heap) (hS : va_S A s.heap H locs) (hsize : ls.size = c.maxLocals)
    (htext : (text == notModelled) = false) (hnb : (stringBytes (stringToUtf16 text)).size ≤ nb) (hnb1 : nb ≤ 1000)
    (hRframes : names.length + 4 < R.frames) (hRlocals : (rest.map fun v => v.category).sum + 10240 ≤ R.locals) (hshort : 13 * names.length + 55 ≤ 10240) (hRcells : cells + 3 ≤ R.cells) (hRslots : slots + (nb + 10) ≤ R.slots) (hlocks : meth.locks = false)
    (k : ∀ (H1 : Heap) (q9 : Addr) (ce : Cell), H.size ≤ H1.size → (∀ q : Nat, q < H.size → H1[q]? = H[q]?) → va_S A s.heap H1 locs → H1[q9]? = some ce → ce.vm = .none → s.vm.findClass cls = some ce.cls → vx_W p l e R s m args below meth c H1 locs (cells + 3) (slots + (nb + 10)) Q (F0 m pc ls rest) q9) :
    vx_Note p l e R s m args below meth c H locs cells slots Q (F0 m pc ls rest) cls text := by
  intro T hT X
  have htr : e.platform.stackTraces = false := (show e.platform.stackTraces = l.stackTraces by rw [X.admits.platform]).trans hl
  have Y := vx_rebase X (R' := { frames := R.frames, locals := R.locals, cells := 3, slots := nb + 10 }) (Nat.le_refl _) (Nat.le_refl _) hRcells hRslots
  have hhp : ((T.setVm s.vm).setFrames (.invoking m args :: below)).heap = H := hT
  have hW0 : s.WarmedH ((T.setVm s.vm).setFrames (.invoking m args :: below)).vm := State.WarmedH.refl s
  have hat' : ∀ w ∈ vx_atM cls names, w.before args ((T.setVm s.vm).setFrames (.invoking m args :: below)) = true := fun w hw => vx_ot_at hW0 rfl (hgood w hw) (hat w hw)
  have hU' : vx_Zq Bundle.tN "UNASSIGNED_STACK" Bundle.steD A ((T.setVm s.vm).setFrames (.invoking m args :: below)) ((T.setVm s.vm).setFrames (.invoking m args :: below)).heap := by rw [hhp]; exact vx_Zq.moved hW0.alike (hU.kept hS.2.1)
  have hN' : vx_Zq Bundle.tN "SUPPRESSED_SENTINEL" Bundle.listD A ((T.setVm s.vm).setFrames (.invoking m args :: below)) ((T.setVm s.vm).setFrames (.invoking m args :: below)).heap := by rw [hhp]; exact vx_Zq.moved hW0.alike (hN.kept hS.2.1)
  obtain ⟨S, q, ce, st, Z, hce, hcl', hv⟩ := vx_vmAt Y hexec htr (cls := cls) (names := names) (text := text) hcls hnames hsoe hoom (vx_own hat' (vx_isRefq hU'.1) (vx_isRefq hN'.1) hU'.2.word hN'.2.word) (fun x hx => nomatch hx) htext
    (by rw [Launch.admits_arrayLengthLimit X.admits]; omega) (by rw [Launch.admits_maxHeapBytes X.admits]; simp only [componentBytes]; omega)
    (g := F0 m pc ls rest) rfl hsize hRframes (by show 2 * 0 + (rest.map fun v => v.category).sum + 10240 ≤ R.locals; omega) hshort (by show 0 + 3 ≤ 3; omega) (by show 0 + (_ + 4 + 6) ≤ nb + 10; omega) hlocks
  obtain ⟨f1, f2⟩ := vx_frame Z.same
  have f1' : H.size ≤ S.heap.size := by rw [← hT]; exact f1
  have f2' : ∀ q : Nat, q < H.size → S.heap[q]? = H[q]? := fun q hq => by
    rw [← hT]
    exact f2 q (by rw [← hT] at hq; exact hq) (fun z hz => nomatch hz)
  have X5 := vx_back9 X Y Z
  have X6 : Stand p l e R s m args below meth c S locs (cells + 3) (slots + (nb + 10)) := { X5 with same := X5.same.mono (by omega) (by omega) }
  obtain ⟨t, a1, b1⟩ := k S.heap q ce f1' f2' ⟨Nat.le_trans hS.1 f1', fun q h1 h2 => (f2' q (Nat.lt_of_lt_of_le h1 hS.1)).trans (hS.2.1 q h1 h2), hS.2.2⟩ hce hv hcl' S rfl X6
  exact ⟨t, st t a1, b1⟩
/-- from the machine's note that NullPointerException is thrown here -/
def vx_NoteN (p : Program) (l : Launch) (e : Env) (R : Room) (s : State) (m : MethodId) (args : Array Value) (below : List Frame) (meth : Method) (c : Code) (H : Heap) (locs : List Loc) (cells slots : Nat) (Q : State → Prop) (g : JFrame) : Prop :=
  ∀ T : State, T.heap = H → Stand p l e R s m args below meth c T locs cells slots → ∃ t, Steps p.tables e below ((T.setTop g).pushFrame (.throwNew "java/lang/NullPointerException" none none)) t ∧ Q t
theorem vx_npe {pc : Nat} {ls : Array Slot} {rest : List Value} {Q : State → Prop} (hexec : p.tables.exec = Jvm.exec) (hl : l.stackTraces = false) {nb : Nat} {A : Nat → Prop}
    (hat : ∀ w ∈ vx_atN nb, w.before args s = true) (hgood : ∀ w ∈ vx_atN nb, vx_ot w = true)
    (hU : vx_Zq Bundle.tN "UNASSIGNED_STACK" Bundle.steD A s s.heap) (hN : vx_Zq Bundle.tN "SUPPRESSED_SENTINEL" Bundle.listD A s s.heap) (hS : va_S A s.heap H locs) (hsize : ls.size = c.maxLocals)
    (hRframes : 7 < R.frames) (hRlocals : (rest.map fun v => v.category).sum + 10240 ≤ R.locals) (hRcells : cells + 1 ≤ R.cells) (hRslots : slots + nb ≤ R.slots) (hlocks : meth.locks = false)
    (k : ∀ (H1 : Heap) (q9 : Addr) (ce : Cell), H.size ≤ H1.size → (∀ q : Nat, q < H.size → H1[q]? = H[q]?) → va_S A s.heap H1 locs → H1[q9]? = some ce → ce.vm = .none → s.vm.findClass "java/lang/NullPointerException" = some ce.cls → vx_W p l e R s m args below meth c H1 locs (cells + 1) (slots + nb) Q (F0 m pc ls rest) q9) :
    vx_NoteN p l e R s m args below meth c H locs cells slots Q (F0 m pc ls rest) := by
  intro T hT X
  have htr : e.platform.stackTraces = false := (show e.platform.stackTraces = l.stackTraces by rw [X.admits.platform]).trans hl
  have Y := vx_rebase X (R' := { frames := R.frames, locals := R.locals, cells := 1, slots := nb }) (Nat.le_refl _) (Nat.le_refl _) hRcells hRslots
  have hhp : ((T.setVm s.vm).setFrames (.invoking m args :: below)).heap = H := hT
  have hW0 : s.WarmedH ((T.setVm s.vm).setFrames (.invoking m args :: below)).vm := State.WarmedH.refl s
  have hat' : ∀ w ∈ vx_atN nb, w.before args ((T.setVm s.vm).setFrames (.invoking m args :: below)) = true := fun w hw => vx_ot_at hW0 rfl (hgood w hw) (hat w hw)
  have hU' : vx_Zq Bundle.tN "UNASSIGNED_STACK" Bundle.steD A ((T.setVm s.vm).setFrames (.invoking m args :: below)) ((T.setVm s.vm).setFrames (.invoking m args :: below)).heap := by rw [hhp]; exact vx_Zq.moved hW0.alike (hU.kept hS.2.1)
  have hN' : vx_Zq Bundle.tN "SUPPRESSED_SENTINEL" Bundle.listD A ((T.setVm s.vm).setFrames (.invoking m args :: below)) ((T.setVm s.vm).setFrames (.invoking m args :: below)).heap := by rw [hhp]; exact vx_Zq.moved hW0.alike (hN.kept hS.2.1)
  obtain ⟨S, q, ce, st, Z, hce, hcl', hv⟩ := vx_npeAt Y hexec htr (n := nb) (vx_own hat' (vx_isRefq hU'.1) (vx_isRefq hN'.1) hU'.2.word hN'.2.word) (fun x hx => nomatch hx)
    (g := F0 m pc ls rest) rfl hsize hRframes (by show 2 * 0 + (rest.map fun v => v.category).sum + 10240 ≤ R.locals; omega) (by show 0 + 1 ≤ 1; omega) (by show 0 + nb ≤ nb; omega) hlocks
  obtain ⟨f1, f2⟩ := vx_frame Z.same
  have f1' : H.size ≤ S.heap.size := by rw [← hT]; exact f1
  have f2' : ∀ q : Nat, q < H.size → S.heap[q]? = H[q]? := fun q hq => by
    rw [← hT]
    exact f2 q (by rw [← hT] at hq; exact hq) (fun z hz => nomatch hz)
  have X5 := vx_back9 X Y Z
  have X6 : Stand p l e R s m args below meth c S locs (cells + 1) (slots + nb) := { X5 with same := X5.same.mono (by omega) (by omega) }
  obtain ⟨t, a1, b1⟩ := k S.heap q ce f1' f2' ⟨Nat.le_trans hS.1 f1', fun q h1 h2 => (f2' q (Nat.lt_of_lt_of_le h1 hS.1)).trans (hS.2.1 q h1 h2), hS.2.2⟩ hce hv hcl' S rfl X6
  exact ⟨t, st t a1, b1⟩
variable {Q : State → Prop} {cc : ByteArray} {pc : Nat} {ls : Array Slot} {rest : List Value}
theorem vx_idivZ (hexec : p.tables.exec = Jvm.exec) (hb : c.code = cc) {a b : Int32} (h0 : b = 0) (d : decode cc pc = .ok (.idiv, 1)) (k : vx_Note p l e R s m args below meth c H locs cells slots Q (F0 m pc ls rest) "java/lang/ArithmeticException" "/ by zero") :
    W p l e R s m args below meth c H locs cells slots Q (F0 m pc ls (.int b :: .int a :: rest)) := by
  intro T hT X
  obtain ⟨t, st, q⟩ := k T hT X
  exact ⟨t, X.idivZero hexec (g := F0 m pc ls (.int b :: .int a :: rest)) rfl (a := a) (rest := rest) (by rw [h0]) (by rw [hb]; exact d) t st, q⟩
theorem vx_iremZ (hexec : p.tables.exec = Jvm.exec) (hb : c.code = cc) {a b : Int32} (h0 : b = 0) (d : decode cc pc = .ok (.irem, 1)) (k : vx_Note p l e R s m args below meth c H locs cells slots Q (F0 m pc ls rest) "java/lang/ArithmeticException" "/ by zero") :
    W p l e R s m args below meth c H locs cells slots Q (F0 m pc ls (.int b :: .int a :: rest)) := by
  intro T hT X
  obtain ⟨t, st, q⟩ := k T hT X
  exact ⟨t, X.iremZero hexec (g := F0 m pc ls (.int b :: .int a :: rest)) rfl (a := a) (rest := rest) (by rw [h0]) (by rw [hb]; exact d) t st, q⟩
theorem vx_ldivZ (hexec : p.tables.exec = Jvm.exec) (hb : c.code = cc) {a b : Int64} (h0 : b = 0) (d : decode cc pc = .ok (.ldiv, 1)) (k : vx_Note p l e R s m args below meth c H locs cells slots Q (F0 m pc ls rest) "java/lang/ArithmeticException" "/ by zero") :
    W p l e R s m args below meth c H locs cells slots Q (F0 m pc ls (.long b :: .long a :: rest)) := by
  intro T hT X
  obtain ⟨t, st, q⟩ := k T hT X
  exact ⟨t, X.ldivZero hexec (g := F0 m pc ls (.long b :: .long a :: rest)) rfl (a := a) (rest := rest) (by rw [h0]) (by rw [hb]; exact d) t st, q⟩
theorem vx_lremZ (hexec : p.tables.exec = Jvm.exec) (hb : c.code = cc) {a b : Int64} (h0 : b = 0) (d : decode cc pc = .ok (.lrem, 1)) (k : vx_Note p l e R s m args below meth c H locs cells slots Q (F0 m pc ls rest) "java/lang/ArithmeticException" "/ by zero") :
    W p l e R s m args below meth c H locs cells slots Q (F0 m pc ls (.long b :: .long a :: rest)) := by
  intro T hT X
  obtain ⟨t, st, q⟩ := k T hT X
  exact ⟨t, X.lremZero hexec (g := F0 m pc ls (.long b :: .long a :: rest)) rfl (a := a) (rest := rest) (by rw [h0]) (by rw [hb]; exact d) t st, q⟩
theorem vx_ialdZ {D : va_G} {cl : List vw_C} {ws : va_W} {tys : List (ClassId × FieldType)} {a : Nat} (hexec : p.tables.exec = Jvm.exec) (hb : c.code = cc) (hK : va_K D cl tys s) (hP : va_P D cl ws H) (q0 t0 : Nat) {cA : ClassId} {n : Nat} {f : Nat → Int32} (ha : ws[q0]? = some (a, .inl (cA, n, .inl f))) (ht : tys[t0]? = some (cA, .int)) {i : Int32} (hout : ¬ vp_in i n) (hdg : decode cc pc = .ok (.iaload, 1))
    (k : ∀ tx : String, tx = (toString "Index " ++ toString i ++ toString " out of bounds for length " ++ toString n : String) → vx_Note p l e R s m args below meth c H locs cells slots Q (F0 m pc ls rest) "java/lang/ArrayIndexOutOfBoundsException" tx) : W p l e R s m args below meth c H locs cells slots Q (F0 m pc ls (.int i :: .ref a :: rest)) := by
  intro T hT X
  obtain ⟨t, st, q⟩ := k _ rfl T hT X
  refine ⟨t, ?_, q⟩
  have h1 := X.ialoadOut hexec (by rw [hT]; exact hP q0 _ ha) ((hK.2 t0 _ ht).1 n (fun j => .int (f j))) (j := i) (by show (i < 0 ∨ (arrV _ _ _).slots.size ≤ _); rw [arrV_size]; exact Classical.byContradiction hout) (g := F0 m pc ls (.int i :: .ref a :: rest)) rfl (rest := rest) rfl (by rw [hb]; exact hdg) t
  simp only [arrV_size] at h1
  exact h1 st
theorem vx_iastZ {D : va_G} {cl : List vw_C} {ws : va_W} {tys : List (ClassId × FieldType)} {a : Nat} (hexec : p.tables.exec = Jvm.exec) (hb : c.code = cc) (hK : va_K D cl tys s) (hP : va_P D cl ws H) (q0 t0 : Nat) {cA : ClassId} {n : Nat} {f : Nat → Int32} (ha : ws[q0]? = some (a, .inl (cA, n, .inl f))) (ht : tys[t0]? = some (cA, .int)) {i : Int32} {x : Int32} (hout : ¬ vp_in i n) (hdg : decode cc pc = .ok (.iastore, 1))
    (k : ∀ tx : String, tx = (toString "Index " ++ toString i ++ toString " out of bounds for length " ++ toString n : String) → vx_Note p l e R s m args below meth c H locs cells slots Q (F0 m pc ls rest) "java/lang/ArrayIndexOutOfBoundsException" tx) : W p l e R s m args below meth c H locs cells slots Q (F0 m pc ls (.int x :: .int i :: .ref a :: rest)) := by
  intro T hT X
  obtain ⟨t, st, q⟩ := k _ rfl T hT X
  refine ⟨t, ?_, q⟩
  have h1 := X.iastoreOut hexec (by rw [hT]; exact hP q0 _ ha) ((hK.2 t0 _ ht).1 n (fun j => .int (f j))) (j := i) (by show (i < 0 ∨ (arrV _ _ _).slots.size ≤ _); rw [arrV_size]; exact Classical.byContradiction hout) (g := F0 m pc ls (.int x :: .int i :: .ref a :: rest)) rfl (rest := rest) rfl (by rw [hb]; exact hdg) t
  simp only [arrV_size] at h1
  exact h1 st
theorem vx_baldZ {D : va_G} {cl : List vw_C} {ws : va_W} {tys : List (ClassId × FieldType)} {a : Nat} (hexec : p.tables.exec = Jvm.exec) (hb : c.code = cc) (hK : va_K D cl tys s) (hP : va_P D cl ws H) (q0 t0 : Nat) {cA : ClassId} {n : Nat} {f : Nat → Int32} (ha : ws[q0]? = some (a, .inl (cA, n, .inl f))) (ht : tys[t0]? = some (cA, .byte)) {i : Int32} (hout : ¬ vp_in i n) (hdg : decode cc pc = .ok (.baload, 1))
    (k : ∀ tx : String, tx = (toString "Index " ++ toString i ++ toString " out of bounds for length " ++ toString n : String) → vx_Note p l e R s m args below meth c H locs cells slots Q (F0 m pc ls rest) "java/lang/ArrayIndexOutOfBoundsException" tx) : W p l e R s m args below meth c H locs cells slots Q (F0 m pc ls (.int i :: .ref a :: rest)) := by
  intro T hT X
  obtain ⟨t, st, q⟩ := k _ rfl T hT X
  refine ⟨t, ?_, q⟩
  have h1 := X.baloadOut hexec (by rw [hT]; exact hP q0 _ ha) ((hK.2 t0 _ ht).1 n (fun j => .int (f j))) (j := i) (by show (i < 0 ∨ (arrV _ _ _).slots.size ≤ _); rw [arrV_size]; exact Classical.byContradiction hout) (g := F0 m pc ls (.int i :: .ref a :: rest)) rfl (rest := rest) rfl (by rw [hb]; exact hdg) t
  simp only [arrV_size] at h1
  exact h1 st
theorem vx_bastZ {D : va_G} {cl : List vw_C} {ws : va_W} {tys : List (ClassId × FieldType)} {a : Nat} (hexec : p.tables.exec = Jvm.exec) (hb : c.code = cc) (hK : va_K D cl tys s) (hP : va_P D cl ws H) (q0 t0 : Nat) {cA : ClassId} {n : Nat} {f : Nat → Int32} (ha : ws[q0]? = some (a, .inl (cA, n, .inl f))) (ht : tys[t0]? = some (cA, .byte)) {i : Int32} {x : Int32} (hout : ¬ vp_in i n) (hdg : decode cc pc = .ok (.bastore, 1))
    (k : ∀ tx : String, tx = (toString "Index " ++ toString i ++ toString " out of bounds for length " ++ toString n : String) → vx_Note p l e R s m args below meth c H locs cells slots Q (F0 m pc ls rest) "java/lang/ArrayIndexOutOfBoundsException" tx) : W p l e R s m args below meth c H locs cells slots Q (F0 m pc ls (.int x :: .int i :: .ref a :: rest)) := by
  intro T hT X
  obtain ⟨t, st, q⟩ := k _ rfl T hT X
  refine ⟨t, ?_, q⟩
  have h1 := X.bastoreOut hexec (by rw [hT]; exact hP q0 _ ha) ((hK.2 t0 _ ht).1 n (fun j => .int (f j))) (j := i) (by show (i < 0 ∨ (arrV _ _ _).slots.size ≤ _); rw [arrV_size]; exact Classical.byContradiction hout) (g := F0 m pc ls (.int x :: .int i :: .ref a :: rest)) rfl (rest := rest) rfl (by rw [hb]; exact hdg) t
  simp only [arrV_size] at h1
  exact h1 st
theorem vx_zaldZ {D : va_G} {cl : List vw_C} {ws : va_W} {tys : List (ClassId × FieldType)} {a : Nat} (hexec : p.tables.exec = Jvm.exec) (hb : c.code = cc) (hK : va_K D cl tys s) (hP : va_P D cl ws H) (q0 t0 : Nat) {cA : ClassId} {n : Nat} {f : Nat → Int32} (ha : ws[q0]? = some (a, .inl (cA, n, .inl f))) (ht : tys[t0]? = some (cA, .boolean)) {i : Int32} (hout : ¬ vp_in i n) (hdg : decode cc pc = .ok (.baload, 1))
    (k : ∀ tx : String, tx = (toString "Index " ++ toString i ++ toString " out of bounds for length " ++ toString n : String) → vx_Note p l e R s m args below meth c H locs cells slots Q (F0 m pc ls rest) "java/lang/ArrayIndexOutOfBoundsException" tx) : W p l e R s m args below meth c H locs cells slots Q (F0 m pc ls (.int i :: .ref a :: rest)) := by
  intro T hT X
  obtain ⟨t, st, q⟩ := k _ rfl T hT X
  refine ⟨t, ?_, q⟩
  have h1 := X.baloadOut hexec (by rw [hT]; exact hP q0 _ ha) ((hK.2 t0 _ ht).1 n (fun j => .int (f j))) (j := i) (by show (i < 0 ∨ (arrV _ _ _).slots.size ≤ _); rw [arrV_size]; exact Classical.byContradiction hout) (g := F0 m pc ls (.int i :: .ref a :: rest)) rfl (rest := rest) rfl (by rw [hb]; exact hdg) t
  simp only [arrV_size] at h1
  exact h1 st
theorem vx_zastZ {D : va_G} {cl : List vw_C} {ws : va_W} {tys : List (ClassId × FieldType)} {a : Nat} (hexec : p.tables.exec = Jvm.exec) (hb : c.code = cc) (hK : va_K D cl tys s) (hP : va_P D cl ws H) (q0 t0 : Nat) {cA : ClassId} {n : Nat} {f : Nat → Int32} (ha : ws[q0]? = some (a, .inl (cA, n, .inl f))) (ht : tys[t0]? = some (cA, .boolean)) {i : Int32} {x : Int32} (hout : ¬ vp_in i n) (hdg : decode cc pc = .ok (.bastore, 1))
    (k : ∀ tx : String, tx = (toString "Index " ++ toString i ++ toString " out of bounds for length " ++ toString n : String) → vx_Note p l e R s m args below meth c H locs cells slots Q (F0 m pc ls rest) "java/lang/ArrayIndexOutOfBoundsException" tx) : W p l e R s m args below meth c H locs cells slots Q (F0 m pc ls (.int x :: .int i :: .ref a :: rest)) := by
  intro T hT X
  obtain ⟨t, st, q⟩ := k _ rfl T hT X
  refine ⟨t, ?_, q⟩
  have h1 := X.bastoreOut hexec (by rw [hT]; exact hP q0 _ ha) ((hK.2 t0 _ ht).1 n (fun j => .int (f j))) (j := i) (by show (i < 0 ∨ (arrV _ _ _).slots.size ≤ _); rw [arrV_size]; exact Classical.byContradiction hout) (g := F0 m pc ls (.int x :: .int i :: .ref a :: rest)) rfl (rest := rest) rfl (by rw [hb]; exact hdg) t
  simp only [arrV_size] at h1
  exact h1 st
theorem vx_caldZ {D : va_G} {cl : List vw_C} {ws : va_W} {tys : List (ClassId × FieldType)} {a : Nat} (hexec : p.tables.exec = Jvm.exec) (hb : c.code = cc) (hK : va_K D cl tys s) (hP : va_P D cl ws H) (q0 t0 : Nat) {cA : ClassId} {n : Nat} {f : Nat → Int32} (ha : ws[q0]? = some (a, .inl (cA, n, .inl f))) (ht : tys[t0]? = some (cA, .char)) {i : Int32} (hout : ¬ vp_in i n) (hdg : decode cc pc = .ok (.caload, 1))
    (k : ∀ tx : String, tx = (toString "Index " ++ toString i ++ toString " out of bounds for length " ++ toString n : String) → vx_Note p l e R s m args below meth c H locs cells slots Q (F0 m pc ls rest) "java/lang/ArrayIndexOutOfBoundsException" tx) : W p l e R s m args below meth c H locs cells slots Q (F0 m pc ls (.int i :: .ref a :: rest)) := by
  intro T hT X
  obtain ⟨t, st, q⟩ := k _ rfl T hT X
  refine ⟨t, ?_, q⟩
  have h1 := X.caloadOut hexec (by rw [hT]; exact hP q0 _ ha) ((hK.2 t0 _ ht).1 n (fun j => .int (f j))) (j := i) (by show (i < 0 ∨ (arrV _ _ _).slots.size ≤ _); rw [arrV_size]; exact Classical.byContradiction hout) (g := F0 m pc ls (.int i :: .ref a :: rest)) rfl (rest := rest) rfl (by rw [hb]; exact hdg) t
  simp only [arrV_size] at h1
  exact h1 st
theorem vx_castZ {D : va_G} {cl : List vw_C} {ws : va_W} {tys : List (ClassId × FieldType)} {a : Nat} (hexec : p.tables.exec = Jvm.exec) (hb : c.code = cc) (hK : va_K D cl tys s) (hP : va_P D cl ws H) (q0 t0 : Nat) {cA : ClassId} {n : Nat} {f : Nat → Int32} (ha : ws[q0]? = some (a, .inl (cA, n, .inl f))) (ht : tys[t0]? = some (cA, .char)) {i : Int32} {x : Int32} (hout : ¬ vp_in i n) (hdg : decode cc pc = .ok (.castore, 1))
    (k : ∀ tx : String, tx = (toString "Index " ++ toString i ++ toString " out of bounds for length " ++ toString n : String) → vx_Note p l e R s m args below meth c H locs cells slots Q (F0 m pc ls rest) "java/lang/ArrayIndexOutOfBoundsException" tx) : W p l e R s m args below meth c H locs cells slots Q (F0 m pc ls (.int x :: .int i :: .ref a :: rest)) := by
  intro T hT X
  obtain ⟨t, st, q⟩ := k _ rfl T hT X
  refine ⟨t, ?_, q⟩
  have h1 := X.castoreOut hexec (by rw [hT]; exact hP q0 _ ha) ((hK.2 t0 _ ht).1 n (fun j => .int (f j))) (j := i) (by show (i < 0 ∨ (arrV _ _ _).slots.size ≤ _); rw [arrV_size]; exact Classical.byContradiction hout) (g := F0 m pc ls (.int x :: .int i :: .ref a :: rest)) rfl (rest := rest) rfl (by rw [hb]; exact hdg) t
  simp only [arrV_size] at h1
  exact h1 st
theorem vx_saldZ {D : va_G} {cl : List vw_C} {ws : va_W} {tys : List (ClassId × FieldType)} {a : Nat} (hexec : p.tables.exec = Jvm.exec) (hb : c.code = cc) (hK : va_K D cl tys s) (hP : va_P D cl ws H) (q0 t0 : Nat) {cA : ClassId} {n : Nat} {f : Nat → Int32} (ha : ws[q0]? = some (a, .inl (cA, n, .inl f))) (ht : tys[t0]? = some (cA, .short)) {i : Int32} (hout : ¬ vp_in i n) (hdg : decode cc pc = .ok (.saload, 1))
    (k : ∀ tx : String, tx = (toString "Index " ++ toString i ++ toString " out of bounds for length " ++ toString n : String) → vx_Note p l e R s m args below meth c H locs cells slots Q (F0 m pc ls rest) "java/lang/ArrayIndexOutOfBoundsException" tx) : W p l e R s m args below meth c H locs cells slots Q (F0 m pc ls (.int i :: .ref a :: rest)) := by
  intro T hT X
  obtain ⟨t, st, q⟩ := k _ rfl T hT X
  refine ⟨t, ?_, q⟩
  have h1 := X.saloadOut hexec (by rw [hT]; exact hP q0 _ ha) ((hK.2 t0 _ ht).1 n (fun j => .int (f j))) (j := i) (by show (i < 0 ∨ (arrV _ _ _).slots.size ≤ _); rw [arrV_size]; exact Classical.byContradiction hout) (g := F0 m pc ls (.int i :: .ref a :: rest)) rfl (rest := rest) rfl (by rw [hb]; exact hdg) t
  simp only [arrV_size] at h1
  exact h1 st
theorem vx_sastZ {D : va_G} {cl : List vw_C} {ws : va_W} {tys : List (ClassId × FieldType)} {a : Nat} (hexec : p.tables.exec = Jvm.exec) (hb : c.code = cc) (hK : va_K D cl tys s) (hP : va_P D cl ws H) (q0 t0 : Nat) {cA : ClassId} {n : Nat} {f : Nat → Int32} (ha : ws[q0]? = some (a, .inl (cA, n, .inl f))) (ht : tys[t0]? = some (cA, .short)) {i : Int32} {x : Int32} (hout : ¬ vp_in i n) (hdg : decode cc pc = .ok (.sastore, 1))
    (k : ∀ tx : String, tx = (toString "Index " ++ toString i ++ toString " out of bounds for length " ++ toString n : String) → vx_Note p l e R s m args below meth c H locs cells slots Q (F0 m pc ls rest) "java/lang/ArrayIndexOutOfBoundsException" tx) : W p l e R s m args below meth c H locs cells slots Q (F0 m pc ls (.int x :: .int i :: .ref a :: rest)) := by
  intro T hT X
  obtain ⟨t, st, q⟩ := k _ rfl T hT X
  refine ⟨t, ?_, q⟩
  have h1 := X.sastoreOut hexec (by rw [hT]; exact hP q0 _ ha) ((hK.2 t0 _ ht).1 n (fun j => .int (f j))) (j := i) (by show (i < 0 ∨ (arrV _ _ _).slots.size ≤ _); rw [arrV_size]; exact Classical.byContradiction hout) (g := F0 m pc ls (.int x :: .int i :: .ref a :: rest)) rfl (rest := rest) rfl (by rw [hb]; exact hdg) t
  simp only [arrV_size] at h1
  exact h1 st
theorem vx_laldZ {D : va_G} {cl : List vw_C} {ws : va_W} {tys : List (ClassId × FieldType)} {a : Nat} (hexec : p.tables.exec = Jvm.exec) (hb : c.code = cc) (hK : va_K D cl tys s) (hP : va_P D cl ws H) (q0 t0 : Nat) {cA : ClassId} {n : Nat} {f : Nat → Int64} (ha : ws[q0]? = some (a, .inl (cA, n, .inr (.inl f)))) (ht : tys[t0]? = some (cA, .long)) {i : Int32} (hout : ¬ vp_in i n) (hdg : decode cc pc = .ok (.laload, 1))
    (k : ∀ tx : String, tx = (toString "Index " ++ toString i ++ toString " out of bounds for length " ++ toString n : String) → vx_Note p l e R s m args below meth c H locs cells slots Q (F0 m pc ls rest) "java/lang/ArrayIndexOutOfBoundsException" tx) : W p l e R s m args below meth c H locs cells slots Q (F0 m pc ls (.int i :: .ref a :: rest)) := by
  intro T hT X
  obtain ⟨t, st, q⟩ := k _ rfl T hT X
  refine ⟨t, ?_, q⟩
  have h1 := X.laloadOut hexec (by rw [hT]; exact hP q0 _ ha) ((hK.2 t0 _ ht).1 n (fun j => .long (f j))) (j := i) (by show (i < 0 ∨ (arrV _ _ _).slots.size ≤ _); rw [arrV_size]; exact Classical.byContradiction hout) (g := F0 m pc ls (.int i :: .ref a :: rest)) rfl (rest := rest) rfl (by rw [hb]; exact hdg) t
  simp only [arrV_size] at h1
  exact h1 st
theorem vx_lastZ {D : va_G} {cl : List vw_C} {ws : va_W} {tys : List (ClassId × FieldType)} {a : Nat} (hexec : p.tables.exec = Jvm.exec) (hb : c.code = cc) (hK : va_K D cl tys s) (hP : va_P D cl ws H) (q0 t0 : Nat) {cA : ClassId} {n : Nat} {f : Nat → Int64} (ha : ws[q0]? = some (a, .inl (cA, n, .inr (.inl f)))) (ht : tys[t0]? = some (cA, .long)) {i : Int32} {x : Int64} (hout : ¬ vp_in i n) (hdg : decode cc pc = .ok (.lastore, 1))
    (k : ∀ tx : String, tx = (toString "Index " ++ toString i ++ toString " out of bounds for length " ++ toString n : String) → vx_Note p l e R s m args below meth c H locs cells slots Q (F0 m pc ls rest) "java/lang/ArrayIndexOutOfBoundsException" tx) : W p l e R s m args below meth c H locs cells slots Q (F0 m pc ls (.long x :: .int i :: .ref a :: rest)) := by
  intro T hT X
  obtain ⟨t, st, q⟩ := k _ rfl T hT X
  refine ⟨t, ?_, q⟩
  have h1 := X.lastoreOut hexec (by rw [hT]; exact hP q0 _ ha) ((hK.2 t0 _ ht).1 n (fun j => .long (f j))) (j := i) (by show (i < 0 ∨ (arrV _ _ _).slots.size ≤ _); rw [arrV_size]; exact Classical.byContradiction hout) (g := F0 m pc ls (.long x :: .int i :: .ref a :: rest)) rfl (rest := rest) rfl (by rw [hb]; exact hdg) t
  simp only [arrV_size] at h1
  exact h1 st
theorem vx_faldZ {D : va_G} {cl : List vw_C} {ws : va_W} {tys : List (ClassId × FieldType)} {a : Nat} (hexec : p.tables.exec = Jvm.exec) (hb : c.code = cc) (hK : va_K D cl tys s) (hP : va_P D cl ws H) (q0 t0 : Nat) {cA : ClassId} {n : Nat} {f : Nat → UInt32} (ha : ws[q0]? = some (a, .inl (cA, n, .inr (.inr (.inl f))))) (ht : tys[t0]? = some (cA, .float)) {i : Int32} (hout : ¬ vp_in i n) (hdg : decode cc pc = .ok (.faload, 1))
    (k : ∀ tx : String, tx = (toString "Index " ++ toString i ++ toString " out of bounds for length " ++ toString n : String) → vx_Note p l e R s m args below meth c H locs cells slots Q (F0 m pc ls rest) "java/lang/ArrayIndexOutOfBoundsException" tx) : W p l e R s m args below meth c H locs cells slots Q (F0 m pc ls (.int i :: .ref a :: rest)) := by
  intro T hT X
  obtain ⟨t, st, q⟩ := k _ rfl T hT X
  refine ⟨t, ?_, q⟩
  have h1 := X.faloadOut hexec (by rw [hT]; exact hP q0 _ ha) ((hK.2 t0 _ ht).1 n (fun j => .float (f j))) (j := i) (by show (i < 0 ∨ (arrV _ _ _).slots.size ≤ _); rw [arrV_size]; exact Classical.byContradiction hout) (g := F0 m pc ls (.int i :: .ref a :: rest)) rfl (rest := rest) rfl (by rw [hb]; exact hdg) t
  simp only [arrV_size] at h1
  exact h1 st
theorem vx_fastZ {D : va_G} {cl : List vw_C} {ws : va_W} {tys : List (ClassId × FieldType)} {a : Nat} (hexec : p.tables.exec = Jvm.exec) (hb : c.code = cc) (hK : va_K D cl tys s) (hP : va_P D cl ws H) (q0 t0 : Nat) {cA : ClassId} {n : Nat} {f : Nat → UInt32} (ha : ws[q0]? = some (a, .inl (cA, n, .inr (.inr (.inl f))))) (ht : tys[t0]? = some (cA, .float)) {i : Int32} {x : UInt32} (hout : ¬ vp_in i n) (hdg : decode cc pc = .ok (.fastore, 1))
    (k : ∀ tx : String, tx = (toString "Index " ++ toString i ++ toString " out of bounds for length " ++ toString n : String) → vx_Note p l e R s m args below meth c H locs cells slots Q (F0 m pc ls rest) "java/lang/ArrayIndexOutOfBoundsException" tx) : W p l e R s m args below meth c H locs cells slots Q (F0 m pc ls (.float x :: .int i :: .ref a :: rest)) := by
  intro T hT X
  obtain ⟨t, st, q⟩ := k _ rfl T hT X
  refine ⟨t, ?_, q⟩
  have h1 := X.fastoreOut hexec (by rw [hT]; exact hP q0 _ ha) ((hK.2 t0 _ ht).1 n (fun j => .float (f j))) (j := i) (by show (i < 0 ∨ (arrV _ _ _).slots.size ≤ _); rw [arrV_size]; exact Classical.byContradiction hout) (g := F0 m pc ls (.float x :: .int i :: .ref a :: rest)) rfl (rest := rest) rfl (by rw [hb]; exact hdg) t
  simp only [arrV_size] at h1
  exact h1 st
theorem vx_daldZ {D : va_G} {cl : List vw_C} {ws : va_W} {tys : List (ClassId × FieldType)} {a : Nat} (hexec : p.tables.exec = Jvm.exec) (hb : c.code = cc) (hK : va_K D cl tys s) (hP : va_P D cl ws H) (q0 t0 : Nat) {cA : ClassId} {n : Nat} {f : Nat → UInt64} (ha : ws[q0]? = some (a, .inl (cA, n, .inr (.inr (.inr (.inl f)))))) (ht : tys[t0]? = some (cA, .double)) {i : Int32} (hout : ¬ vp_in i n) (hdg : decode cc pc = .ok (.daload, 1))
    (k : ∀ tx : String, tx = (toString "Index " ++ toString i ++ toString " out of bounds for length " ++ toString n : String) → vx_Note p l e R s m args below meth c H locs cells slots Q (F0 m pc ls rest) "java/lang/ArrayIndexOutOfBoundsException" tx) : W p l e R s m args below meth c H locs cells slots Q (F0 m pc ls (.int i :: .ref a :: rest)) := by
  intro T hT X
  obtain ⟨t, st, q⟩ := k _ rfl T hT X
  refine ⟨t, ?_, q⟩
  have h1 := X.daloadOut hexec (by rw [hT]; exact hP q0 _ ha) ((hK.2 t0 _ ht).1 n (fun j => .double (f j))) (j := i) (by show (i < 0 ∨ (arrV _ _ _).slots.size ≤ _); rw [arrV_size]; exact Classical.byContradiction hout) (g := F0 m pc ls (.int i :: .ref a :: rest)) rfl (rest := rest) rfl (by rw [hb]; exact hdg) t
  simp only [arrV_size] at h1
  exact h1 st
theorem vx_dastZ {D : va_G} {cl : List vw_C} {ws : va_W} {tys : List (ClassId × FieldType)} {a : Nat} (hexec : p.tables.exec = Jvm.exec) (hb : c.code = cc) (hK : va_K D cl tys s) (hP : va_P D cl ws H) (q0 t0 : Nat) {cA : ClassId} {n : Nat} {f : Nat → UInt64} (ha : ws[q0]? = some (a, .inl (cA, n, .inr (.inr (.inr (.inl f)))))) (ht : tys[t0]? = some (cA, .double)) {i : Int32} {x : UInt64} (hout : ¬ vp_in i n) (hdg : decode cc pc = .ok (.dastore, 1))
    (k : ∀ tx : String, tx = (toString "Index " ++ toString i ++ toString " out of bounds for length " ++ toString n : String) → vx_Note p l e R s m args below meth c H locs cells slots Q (F0 m pc ls rest) "java/lang/ArrayIndexOutOfBoundsException" tx) : W p l e R s m args below meth c H locs cells slots Q (F0 m pc ls (.double x :: .int i :: .ref a :: rest)) := by
  intro T hT X
  obtain ⟨t, st, q⟩ := k _ rfl T hT X
  refine ⟨t, ?_, q⟩
  have h1 := X.dastoreOut hexec (by rw [hT]; exact hP q0 _ ha) ((hK.2 t0 _ ht).1 n (fun j => .double (f j))) (j := i) (by show (i < 0 ∨ (arrV _ _ _).slots.size ≤ _); rw [arrV_size]; exact Classical.byContradiction hout) (g := F0 m pc ls (.double x :: .int i :: .ref a :: rest)) rfl (rest := rest) rfl (by rw [hb]; exact hdg) t
  simp only [arrV_size] at h1
  exact h1 st
theorem vx_arraylengthN (hexec : p.tables.exec = Jvm.exec) (hb : c.code = cc) (hdg : decode cc pc = .ok (.arraylength, 1)) (k : vx_NoteN p l e R s m args below meth c H locs cells slots Q (F0 m pc ls rest)) : W p l e R s m args below meth c H locs cells slots Q (F0 m pc ls (.null :: rest)) := by
  intro T hT X
  obtain ⟨t, st, q⟩ := k T hT X
  exact ⟨t, X.arraylengthNull hexec (g := F0 m pc ls (.null :: rest)) rfl (rest := rest) rfl (by rw [hb]; exact hdg) t st, q⟩
theorem vx_ialoadN (hexec : p.tables.exec = Jvm.exec) (hb : c.code = cc) {i : Int32} (hdg : decode cc pc = .ok (.iaload, 1)) (k : vx_NoteN p l e R s m args below meth c H locs cells slots Q (F0 m pc ls rest)) : W p l e R s m args below meth c H locs cells slots Q (F0 m pc ls (.int i :: .null :: rest)) := by
  intro T hT X
  obtain ⟨t, st, q⟩ := k T hT X
  exact ⟨t, X.ialoadNull hexec (g := F0 m pc ls (.int i :: .null :: rest)) rfl (rest := rest) rfl (by rw [hb]; exact hdg) t st, q⟩
theorem vx_laloadN (hexec : p.tables.exec = Jvm.exec) (hb : c.code = cc) {i : Int32} (hdg : decode cc pc = .ok (.laload, 1)) (k : vx_NoteN p l e R s m args below meth c H locs cells slots Q (F0 m pc ls rest)) : W p l e R s m args below meth c H locs cells slots Q (F0 m pc ls (.int i :: .null :: rest)) := by
  intro T hT X
  obtain ⟨t, st, q⟩ := k T hT X
  exact ⟨t, X.laloadNull hexec (g := F0 m pc ls (.int i :: .null :: rest)) rfl (rest := rest) rfl (by rw [hb]; exact hdg) t st, q⟩
theorem vx_faloadN (hexec : p.tables.exec = Jvm.exec) (hb : c.code = cc) {i : Int32} (hdg : decode cc pc = .ok (.faload, 1)) (k : vx_NoteN p l e R s m args below meth c H locs cells slots Q (F0 m pc ls rest)) : W p l e R s m args below meth c H locs cells slots Q (F0 m pc ls (.int i :: .null :: rest)) := by
  intro T hT X
  obtain ⟨t, st, q⟩ := k T hT X
  exact ⟨t, X.faloadNull hexec (g := F0 m pc ls (.int i :: .null :: rest)) rfl (rest := rest) rfl (by rw [hb]; exact hdg) t st, q⟩
theorem vx_daloadN (hexec : p.tables.exec = Jvm.exec) (hb : c.code = cc) {i : Int32} (hdg : decode cc pc = .ok (.daload, 1)) (k : vx_NoteN p l e R s m args below meth c H locs cells slots Q (F0 m pc ls rest)) : W p l e R s m args below meth c H locs cells slots Q (F0 m pc ls (.int i :: .null :: rest)) := by
  intro T hT X
  obtain ⟨t, st, q⟩ := k T hT X
  exact ⟨t, X.daloadNull hexec (g := F0 m pc ls (.int i :: .null :: rest)) rfl (rest := rest) rfl (by rw [hb]; exact hdg) t st, q⟩
theorem vx_aaloadN (hexec : p.tables.exec = Jvm.exec) (hb : c.code = cc) {i : Int32} (hdg : decode cc pc = .ok (.aaload, 1)) (k : vx_NoteN p l e R s m args below meth c H locs cells slots Q (F0 m pc ls rest)) : W p l e R s m args below meth c H locs cells slots Q (F0 m pc ls (.int i :: .null :: rest)) := by
  intro T hT X
  obtain ⟨t, st, q⟩ := k T hT X
  exact ⟨t, X.aaloadNull hexec (g := F0 m pc ls (.int i :: .null :: rest)) rfl (rest := rest) rfl (by rw [hb]; exact hdg) t st, q⟩
theorem vx_baloadN (hexec : p.tables.exec = Jvm.exec) (hb : c.code = cc) {i : Int32} (hdg : decode cc pc = .ok (.baload, 1)) (k : vx_NoteN p l e R s m args below meth c H locs cells slots Q (F0 m pc ls rest)) : W p l e R s m args below meth c H locs cells slots Q (F0 m pc ls (.int i :: .null :: rest)) := by
  intro T hT X
  obtain ⟨t, st, q⟩ := k T hT X
  exact ⟨t, X.baloadNull hexec (g := F0 m pc ls (.int i :: .null :: rest)) rfl (rest := rest) rfl (by rw [hb]; exact hdg) t st, q⟩
theorem vx_caloadN (hexec : p.tables.exec = Jvm.exec) (hb : c.code = cc) {i : Int32} (hdg : decode cc pc = .ok (.caload, 1)) (k : vx_NoteN p l e R s m args below meth c H locs cells slots Q (F0 m pc ls rest)) : W p l e R s m args below meth c H locs cells slots Q (F0 m pc ls (.int i :: .null :: rest)) := by
  intro T hT X
  obtain ⟨t, st, q⟩ := k T hT X
  exact ⟨t, X.caloadNull hexec (g := F0 m pc ls (.int i :: .null :: rest)) rfl (rest := rest) rfl (by rw [hb]; exact hdg) t st, q⟩
theorem vx_saloadN (hexec : p.tables.exec = Jvm.exec) (hb : c.code = cc) {i : Int32} (hdg : decode cc pc = .ok (.saload, 1)) (k : vx_NoteN p l e R s m args below meth c H locs cells slots Q (F0 m pc ls rest)) : W p l e R s m args below meth c H locs cells slots Q (F0 m pc ls (.int i :: .null :: rest)) := by
  intro T hT X
  obtain ⟨t, st, q⟩ := k T hT X
  exact ⟨t, X.saloadNull hexec (g := F0 m pc ls (.int i :: .null :: rest)) rfl (rest := rest) rfl (by rw [hb]; exact hdg) t st, q⟩
theorem vx_iastoreN (hexec : p.tables.exec = Jvm.exec) (hb : c.code = cc) {x : Int32} {i : Int32} (hdg : decode cc pc = .ok (.iastore, 1)) (k : vx_NoteN p l e R s m args below meth c H locs cells slots Q (F0 m pc ls rest)) : W p l e R s m args below meth c H locs cells slots Q (F0 m pc ls (.int x :: .int i :: .null :: rest)) := by
  intro T hT X
  obtain ⟨t, st, q⟩ := k T hT X
  exact ⟨t, X.iastoreNull hexec (g := F0 m pc ls (.int x :: .int i :: .null :: rest)) rfl (rest := rest) rfl (by rw [hb]; exact hdg) t st, q⟩
theorem vx_lastoreN (hexec : p.tables.exec = Jvm.exec) (hb : c.code = cc) {x : Int64} {i : Int32} (hdg : decode cc pc = .ok (.lastore, 1)) (k : vx_NoteN p l e R s m args below meth c H locs cells slots Q (F0 m pc ls rest)) : W p l e R s m args below meth c H locs cells slots Q (F0 m pc ls (.long x :: .int i :: .null :: rest)) := by
  intro T hT X
  obtain ⟨t, st, q⟩ := k T hT X
  exact ⟨t, X.lastoreNull hexec (g := F0 m pc ls (.long x :: .int i :: .null :: rest)) rfl (rest := rest) rfl (by rw [hb]; exact hdg) t st, q⟩
theorem vx_fastoreN (hexec : p.tables.exec = Jvm.exec) (hb : c.code = cc) {x : UInt32} {i : Int32} (hdg : decode cc pc = .ok (.fastore, 1)) (k : vx_NoteN p l e R s m args below meth c H locs cells slots Q (F0 m pc ls rest)) : W p l e R s m args below meth c H locs cells slots Q (F0 m pc ls (.float x :: .int i :: .null :: rest)) := by
  intro T hT X
  obtain ⟨t, st, q⟩ := k T hT X
  exact ⟨t, X.fastoreNull hexec (g := F0 m pc ls (.float x :: .int i :: .null :: rest)) rfl (rest := rest) rfl (by rw [hb]; exact hdg) t st, q⟩
theorem vx_dastoreN (hexec : p.tables.exec = Jvm.exec) (hb : c.code = cc) {x : UInt64} {i : Int32} (hdg : decode cc pc = .ok (.dastore, 1)) (k : vx_NoteN p l e R s m args below meth c H locs cells slots Q (F0 m pc ls rest)) : W p l e R s m args below meth c H locs cells slots Q (F0 m pc ls (.double x :: .int i :: .null :: rest)) := by
  intro T hT X
  obtain ⟨t, st, q⟩ := k T hT X
  exact ⟨t, X.dastoreNull hexec (g := F0 m pc ls (.double x :: .int i :: .null :: rest)) rfl (rest := rest) rfl (by rw [hb]; exact hdg) t st, q⟩
theorem vx_bastoreN (hexec : p.tables.exec = Jvm.exec) (hb : c.code = cc) {x : Int32} {i : Int32} (hdg : decode cc pc = .ok (.bastore, 1)) (k : vx_NoteN p l e R s m args below meth c H locs cells slots Q (F0 m pc ls rest)) : W p l e R s m args below meth c H locs cells slots Q (F0 m pc ls (.int x :: .int i :: .null :: rest)) := by
  intro T hT X
  obtain ⟨t, st, q⟩ := k T hT X
  exact ⟨t, X.bastoreNull hexec (g := F0 m pc ls (.int x :: .int i :: .null :: rest)) rfl (rest := rest) rfl (by rw [hb]; exact hdg) t st, q⟩
theorem vx_castoreN (hexec : p.tables.exec = Jvm.exec) (hb : c.code = cc) {x : Int32} {i : Int32} (hdg : decode cc pc = .ok (.castore, 1)) (k : vx_NoteN p l e R s m args below meth c H locs cells slots Q (F0 m pc ls rest)) : W p l e R s m args below meth c H locs cells slots Q (F0 m pc ls (.int x :: .int i :: .null :: rest)) := by
  intro T hT X
  obtain ⟨t, st, q⟩ := k T hT X
  exact ⟨t, X.castoreNull hexec (g := F0 m pc ls (.int x :: .int i :: .null :: rest)) rfl (rest := rest) rfl (by rw [hb]; exact hdg) t st, q⟩
theorem vx_sastoreN (hexec : p.tables.exec = Jvm.exec) (hb : c.code = cc) {x : Int32} {i : Int32} (hdg : decode cc pc = .ok (.sastore, 1)) (k : vx_NoteN p l e R s m args below meth c H locs cells slots Q (F0 m pc ls rest)) : W p l e R s m args below meth c H locs cells slots Q (F0 m pc ls (.int x :: .int i :: .null :: rest)) := by
  intro T hT X
  obtain ⟨t, st, q⟩ := k T hT X
  exact ⟨t, X.sastoreNull hexec (g := F0 m pc ls (.int x :: .int i :: .null :: rest)) rfl (rest := rest) rfl (by rw [hb]; exact hdg) t st, q⟩
theorem vx_invokeN {own C : String} {index maxL : Nat} {y : MethodName} {bytes : ByteArray} {ret : Option FieldType} (hexec : p.tables.exec = Jvm.exec) (hb : c.code = cc) (hown : s.vm.findClass own = some m.cls) (hlink : (Cond.methodLink own index y).before args s = true) (hinst : (Cond.instanceMethod y).before args s = true) (hcode : (Cond.code y bytes maxL ret).before args s = true) (hsel : (Cond.selects C y y).before args s = true)
    (hx : y.cls ≠ "java/lang/invoke/MethodHandle" ∧ y.cls ≠ "java/lang/invoke/VarHandle") {As : List Value} (hlen : (parseMethodDescriptor y.desc).map (fun d => d.parameters.length) = some As.length) (hdg : decode cc pc = .ok (.invokevirtual index, 3))
    (k : vx_NoteN p l e R s m args below meth c H locs cells slots Q (F0 m pc ls rest)) {st0 : List Value} (hst : st0 = As.reverse ++ .null :: rest) : W p l e R s m args below meth c H locs cells slots Q (F0 m pc ls st0) := by
  intro T hT X
  obtain ⟨r0, r, hn, hrm, hstR, hsigR⟩ := va_Decl.of hinst hcode
  obtain ⟨c2, r2, m2, q1, q2, q3, q4, kP, hkP, hkPi⟩ := Cond.selects_spec hsel
  cases hn.symm.trans q3
  have hl9 : As.length = r.sig.parameters.length := by
    rw [hsigR] at hlen
    exact (Option.some.inj hlen).symm
  obtain ⟨vm', X1, st1⟩ := X.invokevirtualNull hexec hown hlink hn hrm hstR hkP hkPi hx (g := F0 m pc ls st0) rfl (argsL := As) (rest := rest) hl9 hst (by rw [hb]; exact hdg)
  obtain ⟨t, st, q⟩ := k (T.setVm vm') hT X1
  exact ⟨t, st1 t st, q⟩
theorem vx_newarrayZ {atype : ArrayType} (hexec : p.tables.exec = Jvm.exec) (hb : c.code = cc) {n : Int32} (h0 : n < 0) (hdg : decode cc pc = .ok (.newarray atype, 2)) (k : ∀ tx : String, tx = toString n → vx_Note p l e R s m args below meth c H locs cells slots Q (F0 m pc ls rest) "java/lang/NegativeArraySizeException" tx) : W p l e R s m args below meth c H locs cells slots Q (F0 m pc ls (.int n :: rest)) := by
  intro T hT X
  obtain ⟨t, st, q⟩ := k _ rfl T hT X
  exact ⟨t, X.newarrayNegative hexec (g := F0 m pc ls (.int n :: rest)) rfl h0 (rest := rest) rfl (by rw [hb]; exact hdg) t st, q⟩
end
end VXM
/-! ===== END ===== -/
/-! ===== BEGIN an exception as an object: made, kept, thrown later (no traces kept) ===== -/
section VXK
variable {p : Program} {l : Launch} {e : Env} {R : Room} {s : State} {m₀ : MethodId} {args : Array Value} {below : List Frame} {meth : Method} {c : Code} {W : State} {locs : List Loc} {cells slots : Nat}
set_option maxHeartbeats 1000000 in
theorem vx_ctorMadeS (X : Stand p l e R s m₀ args below meth c W locs cells slots) (hexec : p.tables.exec = Jvm.exec) (htr : e.platform.stackTraces = false) {own cls : String} {names : List String} {ic : Nat}
    (hown : s.vm.findClass own = some m₀.cls) (hcls : Bundle.fit cls = true) (hnames : ∀ n ∈ names, Bundle.fit n = true)
    (h : ∀ a ∈ Bundle.ownAtoms own ic cls names, a.before args s = true)
    (hlocs : ∀ x ∈ locs, ∀ cell, s.heap[x.base]? = some cell → cell.vm.isStatics = false)
    {a : Addr} {cX : ClassId} {kX : Class} (hfoundX : s.vm.findClass cls = some cX) (hkX : s.vm.classes[cX]? = some kX) (hcell : W.heap[a]? = some (freshCell cX kX)) (hnew : s.heap.size ≤ a)
    {msg : Value} (hmsg : msg.isRef = true)
    {g : JFrame} (hg : g.method = m₀) (hsize : g.locals.size = c.maxLocals) {rest : List Value} (hstack : g.stack = msg :: .ref a :: .ref a :: rest)
    (hd6 : decode c.code g.pc = .ok (.invokespecial ic, 3))
    (hRframes : names.length + 3 < R.frames) (hRlocals : 2 * g.monitorRoom + ((Value.ref a :: rest).map fun v => v.category).sum + (13 * (names.length + 1) + 42) ≤ R.locals) :
    ∃ (V : State) (ce : Cell) (L : List Loc), Stand p l e R s m₀ args below meth c (V.setCell a ce) (locs ++ L) cells slots ∧ (∀ y ∈ L, y.base = a) ∧ a < V.heap.size ∧ ce.cls = cX ∧ ce.vm = .none ∧
      ∀ target, Steps p.tables e below ((V.setCell a ce).setTop { g with stack := .ref a :: rest, pc := g.pc + 3 }) target → Steps p.tables e below (W.setTop g) target := by
  have howns : e.platform.frameOwnsMonitors = true := by rw [X.admits.platform]
  have hfin : e.platform.finalization = false := by rw [X.admits.platform]
  have hpl : e.platform.magicAccessors = ({} : Platform).magicAccessors := by rw [X.admits.platform]
  have a' : ∀ x, x ∈ Bundle.ownAtoms own ic cls names → x.holds args s none s [] = true := fun x hx => h x hx
  obtain ⟨T, Z0, L, -, Y⟩ := ThrowableC.of_atoms (args := args) howns hfin hpl (fun x hx => h x (by simp [Bundle.ownAtoms, hx]))
  obtain ⟨Z, M, LZ, LM, hnZ⟩ := Init0T.ofS_atoms (args := args) hpl L Y (fun x hx => h x (by simp [Bundle.ownAtoms, hx]))
  obtain ⟨P1, Ps, hlen, L1, hL, hP1m, hlink1, hlink⟩ := Bundle.chainS (args := args) hpl hnZ names cls hcls hnames (fun x hx => h x (by simp [Bundle.ownAtoms, hx]))
  have hfound : s.vm.findClass cls = some P1.m.cls := findClass_of_methodNamed hP1m
  cases Option.some.inj (hfoundX.symm.trans hfound)
  obtain ⟨c1, kX', hc1, hk, hord, -, -, hn6⟩ := Cond.instantiable_spec (a' (.instantiable cls 6) (by simp [Bundle.ownAtoms]))
  cases Option.some.inj (hc1.symm.trans hfound)
  cases Option.some.inj (hkX.symm.trans hk)
  have hsel0 : selectMethod e.platform s.vm P1.m.cls T.fill0 = .method T.fill0 := by
    obtain ⟨c2, r2, m2, q1, q2, q3, q4, -⟩ := Cond.selects_spec (a' (.selects cls Bundle.tFill0 Bundle.tFill0) (by simp [Bundle.ownAtoms]))
    cases Option.some.inj (q1.symm.trans hfound)
    cases Option.some.inj (q2.symm.trans (State.methodFound?_of_named Y.fill0 (by decide)))
    cases Option.some.inj (q3.symm.trans Y.fill0)
    rw [Launch.admits_selectMethod X.admits]; exact q4
  have hselF : selectMethod e.platform s.vm P1.m.cls T.fill = .method T.fill := by
    obtain ⟨c2, r2, m2, q1, q2, q3, q4, -⟩ := Cond.selects_spec (a' (.selects cls Bundle.tFill Bundle.tFill) (by simp [Bundle.ownAtoms]))
    cases Option.some.inj (q1.symm.trans hfound)
    cases Option.some.inj (q2.symm.trans (State.methodFound?_of_named Y.fill (by decide)))
    cases Option.some.inj (q3.symm.trans Y.fill)
    rw [Launch.admits_selectMethod X.admits]; exact q4
  obtain ⟨cellS0, hcS0, hiss⟩ := Y.statics
  obtain ⟨u0, hu0⟩ := Cond.staticRefV Y.unassigned L.unassignedStatic L.statics hcS0 hiss (a' (.isRef (.static Bundle.tN "UNASSIGNED_STACK" Bundle.steD)) (by simp [Bundle.ownAtoms]))
  obtain ⟨sen, hsen⟩ := Cond.staticRefV Y.sentinel L.sentinelStatic L.statics hcS0 hiss (a' (.isRef (.static Bundle.tN "SUPPRESSED_SENTINEL" Bundle.listD)) (by simp [Bundle.ownAtoms]))
  obtain ⟨ci198, i198, fB, hk198, hg198, ha198, hsB, -, hnB, htB, hffB⟩ := Cond.ownField (t := .object "java/lang/Object") Y.found L.cls (by decide +kernel) (a' (.fieldLink Bundle.tN 198 Bundle.tN "backtrace" "Ljava/lang/Object;") (by simp [Bundle.ownAtoms])) (a' (.lays Bundle.tN Bundle.tN "backtrace" "Ljava/lang/Object;") (by simp [Bundle.ownAtoms])) e.platform hpl
  obtain ⟨cellS, hcS', heS, -, hkeep⟩ := X.same.2.2.2.2.2 T.aS cellS0 hcS0
  have hcellS : W.heap[T.aS]? = some cellS := hcS'
  have hout' : ∀ i, (⟨T.aS, i⟩ : Loc) ∉ locs := fun i hmem => by
    have := hlocs _ hmem cellS0 hcS0
    rw [hiss] at this; cases this
  have hknownS : cellS.vm ≠ .unknown := by
    rw [heS]; intro hu
    rw [show cellS0.vm = .unknown from hu] at hiss
    cases hiss
  have hneS : T.aS ≠ a := Nat.ne_of_lt (Nat.lt_of_lt_of_le (Array.getElem?_eq_some_iff.mp hcS0).1 hnew)
  obtain ⟨iM, hffM⟩ := Y.msg
  obtain ⟨tyC, dC, hdC, hdnC⟩ := Cond.laysAt hfound hk Y.cause (a' (.lays cls Bundle.tN "cause" "Ljava/lang/Throwable;") (by simp [Bundle.ownAtoms]))
  obtain ⟨tyS, dS, hdS, hdnS⟩ := Cond.laysAt hfound hk Y.stack (a' (.lays cls Bundle.tN "stackTrace" Bundle.steD) (by simp [Bundle.ownAtoms]))
  obtain ⟨tyP, dP, hdP, hdnP⟩ := Cond.laysAt hfound hk Y.supp (a' (.lays cls Bundle.tN "suppressedExceptions" Bundle.listD) (by simp [Bundle.ownAtoms]))
  obtain ⟨tyM, dM, hdM, hdnM⟩ := Cond.laysAt hfound hk hffM (a' (.lays cls Bundle.tN "detailMessage" "Ljava/lang/String;") (by simp [Bundle.ownAtoms]))
  obtain ⟨tyB, dB, hdB, hdnB⟩ := Cond.laysAt hfound hk hffB (a' (.lays cls Bundle.tN "backtrace" "Ljava/lang/Object;") (by simp [Bundle.ownAtoms]))
  have bC := Cond.laysApart hdB hdC hdnB hdnC (by rw [hnB, Y.causeName]; decide)
  have bS := Cond.laysApart hdB hdS hdnB hdnS (by rw [hnB, Y.stackName]; decide)
  have bP := Cond.laysApart hdB hdP hdnB hdnP (by rw [hnB, Y.suppName]; decide)
  have hskip : SkipFacts T e.platform s (fun u => u) u0 ((preparedCellV T.toThrowableT (freshCell P1.m.cls kX) a u0 sen).withEntry W.cur) :=
    ⟨{ ci198 := ci198, i198 := i198, fBack := fB }, ⟨hk198, hg198, ha198, hsB⟩, by
      have := fresh_default (c := P1.m.cls) tyB
      rw [htB] at this
      simpa [preparedCellV, Cell.setSlot, Cell.withEntry, Array.getElem?_setIfInBounds, bC, bS, bP, bC.symm, bS.symm, bP.symm, defaultValue] using this, fun _ _ => rfl⟩
  obtain ⟨tm, methC, cdC, kC, vm₁, hnC, -, -, -, -, -, -, -, hW₁, st1⟩ := Steps.initColdS (tb := p.tables) (e := e) (below := below) (s := s) (U := W) X.here hexec X.warmed hpl hown (t := Bundle.initS cls) rfl rfl (Bundle.fit_spec hcls).2
    (a' (.methodLink own ic (Bundle.initS cls)) (by simp [Bundle.ownAtoms])) (h (.instanceMethod (Bundle.initS cls)) (by cases names <;> simp [Bundle.ownAtoms, Bundle.chainSAtoms, Bundle.passSAtoms])) (bytes := Bundle.six) (maxL := 2) (h (.code (Bundle.initS cls) Bundle.six 2 none) (by cases names <;> simp [Bundle.ownAtoms, Bundle.chainSAtoms, Bundle.passSAtoms]))
    (f := g) hg (a := a) (msg := msg) (rest := .ref a :: rest) hstack hd6
  cases Option.some.inj (hnC.symm.trans hP1m)
  have X₁ := X.noted hW₁
  obtain ⟨vm₂, X₂, st2⟩ := X₁.ctorMessageOffV hexec (g := { g with stack := .ref a :: rest }) hg hsize T L Z LZ M LM (P1 :: Ps)
    (fun P hP => by rcases List.mem_cons.mp hP with rfl | hP; exact L1; exact hL P hP) ⟨hlink1, hlink⟩ (u0 := u0) (sen := sen) (self := a) hmsg (cell := freshCell P1.m.cls kX) (cellS := cellS)
    hcell (fun _ => by simp) (by simp) rfl rfl hsel0 hselF hcellS hneS hknownS (by rw [hkeep _ (hout' _)]; exact hu0) (by rw [hkeep _ (hout' _)]; exact hsen)
    (Takes.of_laid hk hord tyC (by rw [Y.causeType]; rfl)) (Takes.of_laid hk hord tyS (by rw [Y.stackType]; exact fits_refV_array _ u0)) (Takes.of_laid hk hord tyP (by rw [Y.suppType]; exact fits_refV_object _ sen))
    (Takes.of_laid hk hord tyM (by rw [Y.msgType]; exact fits_refV_object _ ⟨msg, hmsg⟩)) Y.objLocals hskip htr [] hd6
    (by simp only [List.length_cons, hlen]; omega) (by simp only [List.length_cons, hlen]; exact hRlocals)
  have hlt : a < ((W.setVm vm₁).setVm vm₂).heap.size := (Array.getElem?_eq_some_iff.mp hcell).1
  refine ⟨(W.setVm vm₁).setVm vm₂, _, _, X₂, fun y hy => ?_, hlt, rfl, rfl, fun target hwalk => st1 _ (fun acts => ?_)⟩
  · simp only [List.mem_cons, List.not_mem_nil, or_false] at hy
    rcases hy with rfl | rfl | rfl | rfl | rfl <;> rfl
  · rw [doInvoke_state]
    exact st2 _ hwalk
set_option maxHeartbeats 1000000 in
theorem vx_ctorMade0 (X : Stand p l e R s m₀ args below meth c W locs cells slots) (hexec : p.tables.exec = Jvm.exec) (htr : e.platform.stackTraces = false) {own cls : String} {names : List String} {ic : Nat}
    (hown : s.vm.findClass own = some m₀.cls) (hcls : Bundle.fit cls = true) (hnames : ∀ n ∈ names, Bundle.fit n = true)
    (h : ∀ a ∈ Bundle.ownAtoms0 own ic cls names, a.before args s = true)
    (hlocs : ∀ x ∈ locs, ∀ cell, s.heap[x.base]? = some cell → cell.vm.isStatics = false)
    {a : Addr} {cX : ClassId} {kX : Class} (hfoundX : s.vm.findClass cls = some cX) (hkX : s.vm.classes[cX]? = some kX) (hcell : W.heap[a]? = some (freshCell cX kX)) (hnew : s.heap.size ≤ a)
    {g : JFrame} (hg : g.method = m₀) (hsize : g.locals.size = c.maxLocals) {rest : List Value} (hstack : g.stack = .ref a :: .ref a :: rest)
    (hd6 : decode c.code g.pc = .ok (.invokespecial ic, 3))
    (hRframes : names.length + 3 < R.frames) (hRlocals : 2 * g.monitorRoom + ((Value.ref a :: rest).map fun v => v.category).sum + (13 * (names.length + 1) + 41) ≤ R.locals) :
    ∃ (V : State) (ce : Cell) (L : List Loc), Stand p l e R s m₀ args below meth c (V.setCell a ce) (locs ++ L) cells slots ∧ (∀ y ∈ L, y.base = a) ∧ a < V.heap.size ∧ ce.cls = cX ∧ ce.vm = .none ∧
      ∀ target, Steps p.tables e below ((V.setCell a ce).setTop { g with stack := .ref a :: rest, pc := g.pc + 3 }) target → Steps p.tables e below (W.setTop g) target := by
  have howns : e.platform.frameOwnsMonitors = true := by rw [X.admits.platform]
  have hfin : e.platform.finalization = false := by rw [X.admits.platform]
  have hpl : e.platform.magicAccessors = ({} : Platform).magicAccessors := by rw [X.admits.platform]
  have a' : ∀ x, x ∈ Bundle.ownAtoms0 own ic cls names → x.holds args s none s [] = true := fun x hx => h x hx
  obtain ⟨T, Z, L, LZ, Y⟩ := ThrowableC.of_atoms (args := args) howns hfin hpl (fun x hx => h x (by simp [Bundle.ownAtoms0, hx]))
  obtain ⟨P1, Ps, hlen, L1, hL, hP1m, hlink1, hlink⟩ := Bundle.chain0 (args := args) hpl Y.init0 names cls hcls hnames (fun x hx => h x (by simp [Bundle.ownAtoms0, hx]))
  have hfound : s.vm.findClass cls = some P1.m.cls := findClass_of_methodNamed hP1m
  cases Option.some.inj (hfoundX.symm.trans hfound)
  obtain ⟨c1, kX', hc1, hk, hord, -, -, hn6⟩ := Cond.instantiable_spec (a' (.instantiable cls 6) (by simp [Bundle.ownAtoms0]))
  cases Option.some.inj (hc1.symm.trans hfound)
  cases Option.some.inj (hkX.symm.trans hk)
  have hsel0 : selectMethod e.platform s.vm P1.m.cls T.fill0 = .method T.fill0 := by
    obtain ⟨c2, r2, m2, q1, q2, q3, q4, -⟩ := Cond.selects_spec (a' (.selects cls Bundle.tFill0 Bundle.tFill0) (by simp [Bundle.ownAtoms0]))
    cases Option.some.inj (q1.symm.trans hfound)
    cases Option.some.inj (q2.symm.trans (State.methodFound?_of_named Y.fill0 (by decide)))
    cases Option.some.inj (q3.symm.trans Y.fill0)
    rw [Launch.admits_selectMethod X.admits]; exact q4
  have hselF : selectMethod e.platform s.vm P1.m.cls T.fill = .method T.fill := by
    obtain ⟨c2, r2, m2, q1, q2, q3, q4, -⟩ := Cond.selects_spec (a' (.selects cls Bundle.tFill Bundle.tFill) (by simp [Bundle.ownAtoms0]))
    cases Option.some.inj (q1.symm.trans hfound)
    cases Option.some.inj (q2.symm.trans (State.methodFound?_of_named Y.fill (by decide)))
    cases Option.some.inj (q3.symm.trans Y.fill)
    rw [Launch.admits_selectMethod X.admits]; exact q4
  obtain ⟨cellS0, hcS0, hiss⟩ := Y.statics
  obtain ⟨u0, hu0⟩ := Cond.staticRefV Y.unassigned L.unassignedStatic L.statics hcS0 hiss (a' (.isRef (.static Bundle.tN "UNASSIGNED_STACK" Bundle.steD)) (by simp [Bundle.ownAtoms0]))
  obtain ⟨sen, hsen⟩ := Cond.staticRefV Y.sentinel L.sentinelStatic L.statics hcS0 hiss (a' (.isRef (.static Bundle.tN "SUPPRESSED_SENTINEL" Bundle.listD)) (by simp [Bundle.ownAtoms0]))
  obtain ⟨ci198, i198, fB, hk198, hg198, ha198, hsB, -, hnB, htB, hffB⟩ := Cond.ownField (t := .object "java/lang/Object") Y.found L.cls (by decide +kernel) (a' (.fieldLink Bundle.tN 198 Bundle.tN "backtrace" "Ljava/lang/Object;") (by simp [Bundle.ownAtoms0])) (a' (.lays Bundle.tN Bundle.tN "backtrace" "Ljava/lang/Object;") (by simp [Bundle.ownAtoms0])) e.platform hpl
  obtain ⟨cellS, hcS', heS, -, hkeep⟩ := X.same.2.2.2.2.2 T.aS cellS0 hcS0
  have hcellS : W.heap[T.aS]? = some cellS := hcS'
  have hout' : ∀ i, (⟨T.aS, i⟩ : Loc) ∉ locs := fun i hmem => by
    have := hlocs _ hmem cellS0 hcS0
    rw [hiss] at this; cases this
  have hknownS : cellS.vm ≠ .unknown := by
    rw [heS]; intro hu
    rw [show cellS0.vm = .unknown from hu] at hiss
    cases hiss
  have hneS : T.aS ≠ a := Nat.ne_of_lt (Nat.lt_of_lt_of_le (Array.getElem?_eq_some_iff.mp hcS0).1 hnew)
  obtain ⟨iM, hffM⟩ := Y.msg
  obtain ⟨tyC, dC, hdC, hdnC⟩ := Cond.laysAt hfound hk Y.cause (a' (.lays cls Bundle.tN "cause" "Ljava/lang/Throwable;") (by simp [Bundle.ownAtoms0]))
  obtain ⟨tyS, dS, hdS, hdnS⟩ := Cond.laysAt hfound hk Y.stack (a' (.lays cls Bundle.tN "stackTrace" Bundle.steD) (by simp [Bundle.ownAtoms0]))
  obtain ⟨tyP, dP, hdP, hdnP⟩ := Cond.laysAt hfound hk Y.supp (a' (.lays cls Bundle.tN "suppressedExceptions" Bundle.listD) (by simp [Bundle.ownAtoms0]))
  obtain ⟨tyM, dM, hdM, hdnM⟩ := Cond.laysAt hfound hk hffM (a' (.lays cls Bundle.tN "detailMessage" "Ljava/lang/String;") (by simp [Bundle.ownAtoms0]))
  obtain ⟨tyB, dB, hdB, hdnB⟩ := Cond.laysAt hfound hk hffB (a' (.lays cls Bundle.tN "backtrace" "Ljava/lang/Object;") (by simp [Bundle.ownAtoms0]))
  have bC := Cond.laysApart hdB hdC hdnB hdnC (by rw [hnB, Y.causeName]; decide)
  have bS := Cond.laysApart hdB hdS hdnB hdnS (by rw [hnB, Y.stackName]; decide)
  have bP := Cond.laysApart hdB hdP hdnB hdnP (by rw [hnB, Y.suppName]; decide)
  have hskip : SkipFacts T e.platform s (fun u => u) u0 ((preparedCellV T.toThrowableT (freshCell P1.m.cls kX) a u0 sen).withEntry W.cur) :=
    ⟨{ ci198 := ci198, i198 := i198, fBack := fB }, ⟨hk198, hg198, ha198, hsB⟩, by
      have := fresh_default (c := P1.m.cls) tyB
      rw [htB] at this
      simpa [preparedCellV, Cell.setSlot, Cell.withEntry, Array.getElem?_setIfInBounds, bC, bS, bP, bC.symm, bS.symm, bP.symm, defaultValue] using this, fun _ _ => rfl⟩
  obtain ⟨tm, methC, cdC, kC, vm₁, hnC, -, -, -, -, -, -, -, hW₁, st1⟩ := Steps.initCold (tb := p.tables) (e := e) (below := below) (s := s) (U := W) X.here hexec X.warmed hpl hown (t := Bundle.init0 cls) rfl rfl (Bundle.fit_spec hcls).2
    (a' (.methodLink own ic (Bundle.init0 cls)) (by simp [Bundle.ownAtoms0])) (h (.instanceMethod (Bundle.init0 cls)) (by cases names <;> simp [Bundle.ownAtoms0, Bundle.chain0Atoms, Bundle.passAtoms])) (bytes := Bundle.five) (maxL := 1) (h (.code (Bundle.init0 cls) Bundle.five 1 none) (by cases names <;> simp [Bundle.ownAtoms0, Bundle.chain0Atoms, Bundle.passAtoms]))
    (f := g) hg (a := a) (rest := .ref a :: rest) hstack hd6
  cases Option.some.inj (hnC.symm.trans hP1m)
  have X₁ := X.noted hW₁
  obtain ⟨vm₂, X₂, st2⟩ := X₁.ctorPlainOffV hexec (g := { g with stack := .ref a :: rest }) hg hsize T L Z LZ (P1 :: Ps)
    (fun P hP => by rcases List.mem_cons.mp hP with rfl | hP; exact L1; exact hL P hP) ⟨hlink1, hlink⟩ (u0 := u0) (sen := sen) (self := a) (cell := freshCell P1.m.cls kX) (cellS := cellS)
    hcell (fun _ => by simp) (by simp) rfl rfl hsel0 hselF hcellS hneS hknownS (by rw [hkeep _ (hout' _)]; exact hu0) (by rw [hkeep _ (hout' _)]; exact hsen)
    (Takes.of_laid hk hord tyC (by rw [Y.causeType]; rfl)) (Takes.of_laid hk hord tyS (by rw [Y.stackType]; exact fits_refV_array _ u0)) (Takes.of_laid hk hord tyP (by rw [Y.suppType]; exact fits_refV_object _ sen)) Y.objLocals hskip htr [] hd6
    (by simp only [List.length_cons, hlen]; omega) (by simp only [List.length_cons, hlen]; exact hRlocals)
  have hlt : a < ((W.setVm vm₁).setVm vm₂).heap.size := (Array.getElem?_eq_some_iff.mp hcell).1
  refine ⟨(W.setVm vm₁).setVm vm₂, _, _, X₂, fun y hy => ?_, hlt, rfl, rfl, fun target hwalk => st1 _ (fun acts => ?_)⟩
  · simp only [List.mem_cons, List.not_mem_nil, or_false] at hy
    rcases hy with rfl | rfl | rfl | rfl <;> rfl
  · rw [doInvoke_state]
    exact st2 _ hwalk
end VXK
section VXK2
variable {p : Program} {l : Launch} {e : Env} {R : Room} {s : State} {m : MethodId} {args : Array Value} {below : List Frame} {meth : Method} {c : Code} {H : Heap} {locs : List Loc} {cells slots : Nat} {Q : State → Prop}
variable {ls : Array Slot} {rest : List Value} {D : va_G} {cl : List vw_C} {tys : List (ClassId × FieldType)} {ws : va_W}
/-- 'new E("text")' that isn't thrown at once: the object goes on the stack -/
theorem vx_makeS {cc : ByteArray} {pc : Nat} (hexec : p.tables.exec = Jvm.exec) (hb : c.code = cc) (hl : l.stackTraces = false) {own cls text : String} {names : List String} {ik is ic sa ci : Nat} {A : Nat → Prop} {T0 : u_T}
    (hown : s.vm.findClass own = some m.cls) (hcls : Bundle.fit cls = true) (hnames : ∀ n ∈ names, Bundle.fit n = true)
    (hk : (Cond.classLink own ik cls).before args s = true) (hini : (Cond.initialized cls).before args s = true) (hstr : vk_R own is text sa s) (hat : ∀ w ∈ vx_atS own ic cls names, w.before args s = true)
    (hgood : ∀ w ∈ Cond.classLink own ik cls :: Cond.initialized cls :: vx_atS own ic cls names, vx_ot w = true)
    (hU : vx_Zq Bundle.tN "UNASSIGNED_STACK" Bundle.steD A s s.heap) (hN : vx_Zq Bundle.tN "SUPPRESSED_SENTINEL" Bundle.listD A s s.heap) (hS : va_S A s.heap H locs) (hsize : ls.size = c.maxLocals)
    (d0 : decode cc pc = .ok (.new ik, 3)) (d3 : decode cc (pc + 3) = .ok (.dup, 1)) (d4 : decode cc (pc + 4) = .ok (.ldc is, 2)) (d6 : decode cc (pc + 6) = .ok (.invokespecial ic, 3))
    (hK : va_K D cl tys s) (hP : va_P D cl ws H) (hD : va_D A ws) (hA : ∀ q, s.heap.size ≤ q → A q) (hc : cl[ci]? = some (cls, T0, 0))
    (hRframes : names.length + 3 < R.frames) (hRlocals : (rest.map fun v => v.category).sum + (13 * (names.length + 1) + 43) ≤ R.locals) (hRcells : cells + 1 ≤ R.cells) (hRslots : slots + 6 ≤ R.slots)
    (kk : ∀ (q : Nat) (H1 : Heap), va_P D cl (ws ++ [(q, .inr (ci, []))]) H1 → va_D A (ws ++ [(q, .inr (ci, []))]) → va_S A s.heap H1 locs → W p l e R s m args below meth c H1 locs (cells + 1) (slots + 6) Q (F0 m (pc + 9) ls (.ref q :: rest))) :
    W p l e R s m args below meth c H locs cells slots Q (F0 m pc ls rest) := by
  intro T hT X
  subst hT
  have htr : e.platform.stackTraces = false := (show e.platform.stackTraces = l.stackTraces by rw [X.admits.platform]).trans hl
  have Y := vx_rebase X (R' := { frames := R.frames, locals := R.locals, cells := 1, slots := 6 }) (Nat.le_refl _) (Nat.le_refl _) hRcells hRslots
  obtain ⟨s', hA'⟩ : ∃ z, z = (T.setVm s.vm).setFrames (.invoking m args :: below) := ⟨_, rfl⟩
  rw [← hA'] at Y
  have hvm : s'.vm = s.vm := by rw [hA']; rfl
  have hhp : s'.heap = T.heap := by rw [hA']; rfl
  have hW0 : s.WarmedH s'.vm := by rw [hvm]; exact State.WarmedH.refl s
  have hat' : ∀ w ∈ vx_atS own ic cls names, w.before args s' = true := fun w hw => vx_ot_at hW0 hvm.symm (hgood w (List.mem_cons_of_mem _ (List.mem_cons_of_mem _ hw))) (hat w hw)
  have hk' : (Cond.classLink own ik cls).before args s' = true := vx_ot_at hW0 hvm.symm (hgood _ List.mem_cons_self) hk
  have hini' : (Cond.initialized cls).before args s' = true := vx_ot_at hW0 hvm.symm (hgood _ (List.mem_cons_of_mem _ List.mem_cons_self)) hini
  have hU' : vx_Zq Bundle.tN "UNASSIGNED_STACK" Bundle.steD A s' s'.heap := by rw [hhp]; exact vx_Zq.moved hW0.alike (hU.kept hS.2.1)
  have hN' : vx_Zq Bundle.tN "SUPPRESSED_SENTINEL" Bundle.listD A s' s'.heap := by rw [hhp]; exact vx_Zq.moved hW0.alike (hN.kept hS.2.1)
  have h : ∀ w ∈ Bundle.ownAtoms own ic cls names, w.before args s' = true := vx_own hat' (vx_isRefq hU'.1) (vx_isRefq hN'.1) hU'.2.word hN'.2.word
  have hown' : s'.vm.findClass own = some m.cls := by rw [hvm]; exact hown
  have hins : (Cond.instantiable cls 6).before args s' = true := h _ (by simp [Bundle.ownAtoms])
  obtain ⟨vm₁, cX, kX, hfX, hkX, -, -, X₁, st1⟩ := Y.newCold hexec (own := own) (C := cls) (index := ik) (n := 6) hown' hk' hins hini'
    (g := F0 m pc ls rest) rfl (by rw [hb]; exact d0) (Nat.le_refl _) (Nat.le_refl _)
  generalize hT1 : (T.setVm vm₁).pushCell { cls := cX, slots := kX.instanceTypes.map defaultValue, vm := .none } = T1 at X₁ st1
  have hcat : (Value.ref T.heap.size).category = 1 := rfl
  have hcellA : T1.heap[T.heap.size]? = some (freshCell cX kX) := by rw [← hT1]; exact State.heap_pushCell_size _ _
  have d3' : decode c.code (pc + 3) = .ok (.dup, 1) := by rw [hb]; exact d3
  have d4' : decode c.code (pc + 4) = .ok (.ldc is, 2) := by rw [hb]; exact d4
  have hstr' : vk_R own is text sa s' := vk_R.warm hW0 hstr
  obtain ⟨V, ce, L, Z, hL, hlt, hcl9, hvm9, st⟩ := vx_ctorMadeS X₁ hexec htr (own := own) (cls := cls) (names := names) (ic := ic) hown' hcls hnames h (fun x hx => nomatch hx) hfX hkX hcellA (by rw [hhp]; exact Nat.le_refl _) (msg := .ref sa) rfl
    (g := { method := m, pc := pc + 6, locals := ls, stack := .ref sa :: .ref T.heap.size :: .ref T.heap.size :: rest, locked := none }) rfl hsize (rest := rest) rfl
    (by rw [hb]; exact d6) hRframes (by simp only [List.map_cons, List.sum_cons, hcat]; omega)
  have Z0 := Stand.forget (locs := []) Z (fun y hy => by rw [hL y hy, hhp]; exact Nat.le_refl _)
  obtain ⟨f1, f2⟩ := vx_frame Z0.same
  rw [hhp] at f1 f2
  have hcid : ce.cls = D.1 ci := by
    rw [hcl9]
    have h1 := (hK.1 ci _ hc).2.1
    rw [hvm] at hfX
    exact Option.some.inj (hfX.symm.trans h1)
  have hh : (V.setCell T.heap.size ce).heap[T.heap.size]? = some ce := heapAt_setCell_self (s := V) ce hlt
  subst hA'
  have X5 := vx_back9 X Y Z0
  have X6 : Stand p l e R s m args below meth c (V.setCell T.heap.size ce) locs (cells + 1) (slots + 6) := { X5 with same := X5.same.mono (by omega) (by omega) }
  have hk9 : ∀ (k : Nat) (x : Nat × va_E), ws[k]? = some x → (V.setCell T.heap.size ce).heap[x.1]? = T.heap[x.1]? := fun k x hx => f2 x.1 ((hP k x hx).lt) (fun z hz => nomatch hz)
  obtain ⟨t, a1, b1⟩ := kk T.heap.size (V.setCell T.heap.size ce).heap ((hP.kept hk9).app (fun k x hx => by
      have hz : k < 1 := (List.getElem?_eq_some_iff.mp hx).1
      rw [show k = 0 by omega] at hx
      cases hx
      exact ⟨_, hc, ce, hh, hcid, hvm9, fun k hk => absurd hk (Nat.not_lt_zero k)⟩)) (hD.push hP rfl (hA _ hS.1)) ⟨Nat.le_trans hS.1 f1, fun q h1 h2 => (f2 q (Nat.lt_of_lt_of_le h1 hS.1) (fun z hz => nomatch hz)).trans (hS.2.1 q h1 h2), hS.2.2⟩ _ rfl X6
  refine ⟨t, st1 _ ?_, b1⟩
  show Steps p.tables e below (T1.setTop { method := m, pc := pc + 3, locals := ls, stack := .ref T.heap.size :: rest, locked := none }) _
  jvm_step X₁.here [X₁.here.top, hexec, d3', Value.category]
  exact X₁.ldcString hexec (own := own) (text := text) (index := is) (a := sa) hown' hstr'.1 hstr'.2
    (g := { method := m, pc := pc + 4, locals := ls, stack := .ref T.heap.size :: .ref T.heap.size :: rest, locked := none }) rfl d4' _ (st _ a1)
/-- 'new E()' that isn't thrown at once: the object goes on the stack -/
theorem vx_make0 {cc : ByteArray} {pc : Nat} (hexec : p.tables.exec = Jvm.exec) (hb : c.code = cc) (hl : l.stackTraces = false) {own cls : String} {names : List String} {ik ic ci : Nat} {A : Nat → Prop} {T0 : u_T}
    (hown : s.vm.findClass own = some m.cls) (hcls : Bundle.fit cls = true) (hnames : ∀ n ∈ names, Bundle.fit n = true)
    (hk : (Cond.classLink own ik cls).before args s = true) (hini : (Cond.initialized cls).before args s = true) (hat : ∀ w ∈ vx_at0 own ic cls names, w.before args s = true)
    (hgood : ∀ w ∈ Cond.classLink own ik cls :: Cond.initialized cls :: vx_at0 own ic cls names, vx_ot w = true)
    (hU : vx_Zq Bundle.tN "UNASSIGNED_STACK" Bundle.steD A s s.heap) (hN : vx_Zq Bundle.tN "SUPPRESSED_SENTINEL" Bundle.listD A s s.heap) (hS : va_S A s.heap H locs) (hsize : ls.size = c.maxLocals)
    (d0 : decode cc pc = .ok (.new ik, 3)) (d3 : decode cc (pc + 3) = .ok (.dup, 1)) (d4 : decode cc (pc + 4) = .ok (.invokespecial ic, 3))
    (hK : va_K D cl tys s) (hP : va_P D cl ws H) (hD : va_D A ws) (hA : ∀ q, s.heap.size ≤ q → A q) (hc : cl[ci]? = some (cls, T0, 0))
    (hRframes : names.length + 3 < R.frames) (hRlocals : (rest.map fun v => v.category).sum + (13 * (names.length + 1) + 42) ≤ R.locals) (hRcells : cells + 1 ≤ R.cells) (hRslots : slots + 6 ≤ R.slots)
    (kk : ∀ (q : Nat) (H1 : Heap), va_P D cl (ws ++ [(q, .inr (ci, []))]) H1 → va_D A (ws ++ [(q, .inr (ci, []))]) → va_S A s.heap H1 locs → W p l e R s m args below meth c H1 locs (cells + 1) (slots + 6) Q (F0 m (pc + 7) ls (.ref q :: rest))) :
    W p l e R s m args below meth c H locs cells slots Q (F0 m pc ls rest) := by
  intro T hT X
  subst hT
  have htr : e.platform.stackTraces = false := (show e.platform.stackTraces = l.stackTraces by rw [X.admits.platform]).trans hl
  have Y := vx_rebase X (R' := { frames := R.frames, locals := R.locals, cells := 1, slots := 6 }) (Nat.le_refl _) (Nat.le_refl _) hRcells hRslots
  obtain ⟨s', hA'⟩ : ∃ z, z = (T.setVm s.vm).setFrames (.invoking m args :: below) := ⟨_, rfl⟩
  rw [← hA'] at Y
  have hvm : s'.vm = s.vm := by rw [hA']; rfl
  have hhp : s'.heap = T.heap := by rw [hA']; rfl
  have hW0 : s.WarmedH s'.vm := by rw [hvm]; exact State.WarmedH.refl s
  have hat' : ∀ w ∈ vx_at0 own ic cls names, w.before args s' = true := fun w hw => vx_ot_at hW0 hvm.symm (hgood w (List.mem_cons_of_mem _ (List.mem_cons_of_mem _ hw))) (hat w hw)
  have hk' : (Cond.classLink own ik cls).before args s' = true := vx_ot_at hW0 hvm.symm (hgood _ List.mem_cons_self) hk
  have hini' : (Cond.initialized cls).before args s' = true := vx_ot_at hW0 hvm.symm (hgood _ (List.mem_cons_of_mem _ List.mem_cons_self)) hini
  have hU' : vx_Zq Bundle.tN "UNASSIGNED_STACK" Bundle.steD A s' s'.heap := by rw [hhp]; exact vx_Zq.moved hW0.alike (hU.kept hS.2.1)
  have hN' : vx_Zq Bundle.tN "SUPPRESSED_SENTINEL" Bundle.listD A s' s'.heap := by rw [hhp]; exact vx_Zq.moved hW0.alike (hN.kept hS.2.1)
  have h : ∀ w ∈ Bundle.ownAtoms0 own ic cls names, w.before args s' = true := vx_own hat' (vx_isRefq hU'.1) (vx_isRefq hN'.1) hU'.2.word hN'.2.word
  have hown' : s'.vm.findClass own = some m.cls := by rw [hvm]; exact hown
  have hins : (Cond.instantiable cls 6).before args s' = true := h _ (by simp [Bundle.ownAtoms0])
  obtain ⟨vm₁, cX, kX, hfX, hkX, -, -, X₁, st1⟩ := Y.newCold hexec (own := own) (C := cls) (index := ik) (n := 6) hown' hk' hins hini'
    (g := F0 m pc ls rest) rfl (by rw [hb]; exact d0) (Nat.le_refl _) (Nat.le_refl _)
  generalize hT1 : (T.setVm vm₁).pushCell { cls := cX, slots := kX.instanceTypes.map defaultValue, vm := .none } = T1 at X₁ st1
  have hcat : (Value.ref T.heap.size).category = 1 := rfl
  have hcellA : T1.heap[T.heap.size]? = some (freshCell cX kX) := by rw [← hT1]; exact State.heap_pushCell_size _ _
  have d3' : decode c.code (pc + 3) = .ok (.dup, 1) := by rw [hb]; exact d3
  obtain ⟨V, ce, L, Z, hL, hlt, hcl9, hvm9, st⟩ := vx_ctorMade0 X₁ hexec htr (own := own) (cls := cls) (names := names) (ic := ic) hown' hcls hnames h (fun x hx => nomatch hx) hfX hkX hcellA (by rw [hhp]; exact Nat.le_refl _)
    (g := { method := m, pc := pc + 4, locals := ls, stack := .ref T.heap.size :: .ref T.heap.size :: rest, locked := none }) rfl hsize (rest := rest) rfl
    (by rw [hb]; exact d4) hRframes (by simp only [List.map_cons, List.sum_cons, hcat]; omega)
  have Z0 := Stand.forget (locs := []) Z (fun y hy => by rw [hL y hy, hhp]; exact Nat.le_refl _)
  obtain ⟨f1, f2⟩ := vx_frame Z0.same
  rw [hhp] at f1 f2
  have hcid : ce.cls = D.1 ci := by
    rw [hcl9]
    have h1 := (hK.1 ci _ hc).2.1
    rw [hvm] at hfX
    exact Option.some.inj (hfX.symm.trans h1)
  have hh : (V.setCell T.heap.size ce).heap[T.heap.size]? = some ce := heapAt_setCell_self (s := V) ce hlt
  subst hA'
  have X5 := vx_back9 X Y Z0
  have X6 : Stand p l e R s m args below meth c (V.setCell T.heap.size ce) locs (cells + 1) (slots + 6) := { X5 with same := X5.same.mono (by omega) (by omega) }
  have hk9 : ∀ (k : Nat) (x : Nat × va_E), ws[k]? = some x → (V.setCell T.heap.size ce).heap[x.1]? = T.heap[x.1]? := fun k x hx => f2 x.1 ((hP k x hx).lt) (fun z hz => nomatch hz)
  obtain ⟨t, a1, b1⟩ := kk T.heap.size (V.setCell T.heap.size ce).heap ((hP.kept hk9).app (fun k x hx => by
      have hz : k < 1 := (List.getElem?_eq_some_iff.mp hx).1
      rw [show k = 0 by omega] at hx
      cases hx
      exact ⟨_, hc, ce, hh, hcid, hvm9, fun k hk => absurd hk (Nat.not_lt_zero k)⟩)) (hD.push hP rfl (hA _ hS.1)) ⟨Nat.le_trans hS.1 f1, fun q h1 h2 => (f2 q (Nat.lt_of_lt_of_le h1 hS.1) (fun z hz => nomatch hz)).trans (hS.2.1 q h1 h2), hS.2.2⟩ _ rfl X6
  refine ⟨t, st1 _ ?_, b1⟩
  show Steps p.tables e below (T1.setTop { method := m, pc := pc + 3, locals := ls, stack := .ref T.heap.size :: rest, locked := none }) _
  jvm_step X₁.here [X₁.here.top, hexec, d3', Value.category]
  exact st _ a1
/-- 'throw x' of an object that was made before -/
theorem vx_athrow {cc : ByteArray} {pc : Nat} (hexec : p.tables.exec = Jvm.exec) (hb : c.code = cc) {q : Addr} (hdg : decode cc pc = .ok (.athrow, 1)) (k : vx_W p l e R s m args below meth c H locs cells slots Q (F0 m pc ls rest) q) : W p l e R s m args below meth c H locs cells slots Q (F0 m pc ls (.ref q :: rest)) := by
  intro T hT X
  obtain ⟨t, st, hq⟩ := k T hT X
  refine ⟨t, ?_, hq⟩
  have hdg' : decode c.code pc = .ok (.athrow, 1) := by rw [hb]; exact hdg
  jvm_step X.here [X.here.top, hexec, hdg', athrow.wp_sem]
  exact st
end VXK2
/-! ===== END ===== -/
/-! ===== BEGIN a constructor that throws (launches without stack traces) ===== -/
section VXIA
variable {p : Program} {l : Launch} {e : Env} {R : Room} {s : State} {m : MethodId} {args : Array Value} {below : List Frame} {meth : Method} {c : Code} {T : State} {locs : List Loc} {cells slots : Nat}
theorem vx_callI (X : Stand p l e R s m args below meth c T locs cells slots) (hexec : p.tables.exec = Jvm.exec) {own : String} {index : Nat} {y : MethodName} {bytes : ByteArray} {maxL : Nat}
    (hown : s.vm.findClass own = some m.cls) (hy1 : y.name = "<init>") (hlink : (Cond.methodLink own index y).before args s = true) (hinst : (Cond.instanceMethod y).before args s = true)
    (hcode : (Cond.code y bytes maxL none).before args s = true) (hy : y.cls ≠ "java/lang/invoke/MethodHandle" ∧ y.cls ≠ "java/lang/invoke/VarHandle")
    {W9 : Nat} {Pre : Pt → Array Value → Prop} {Post : Pt → Array Value → Option Value → Pt → Prop} {PostX : Pt → Array Value → Addr → Pt → Prop} (hK : vx_Back l R p e below s args y 3 W9 Pre Post PostX)
    {g : JFrame} (hg : g.method = m) (hsize : g.locals.size = c.maxLocals) {a : Addr} {argsL rest : List Value} (hlen : ∀ sig, parseMethodDescriptor y.desc = some sig → argsL.length = sig.parameters.length)
    (hstack : g.stack = argsL.reverse ++ .ref a :: rest) (hW : 2 * g.monitorRoom + (rest.map fun v => v.category).sum ≤ W9) (hdg : decode c.code g.pc = .ok (.invokespecial index, 3))
    (hpre : ∀ vm₁, s.WarmedH vm₁ → Pre ⟨T.setVm vm₁, locs, cells, slots⟩ (Value.ref a :: argsL).toArray) :
    (∃ (v : Option Value) (vm₁ : Vm) (B : Pt), s.WarmedH vm₁ ∧ Stand p l e R s m args below meth c B.U B.locs B.cells B.slots ∧ Post ⟨T.setVm vm₁, locs, cells, slots⟩ (Value.ref a :: argsL).toArray v B ∧
      ∀ target, Steps p.tables e below (B.U.setTop { g with pc := g.pc + 3, stack := v.toList ++ rest }) target → Steps p.tables e below (T.setTop g) target) ∨
    (∃ (q : Addr) (vm₁ : Vm) (B : Pt), s.WarmedH vm₁ ∧ Stand p l e R s m args below meth c B.U B.locs B.cells B.slots ∧ PostX ⟨T.setVm vm₁, locs, cells, slots⟩ (Value.ref a :: argsL).toArray q B ∧
      Steps p.tables e below (T.setTop g) ((B.U.setTop { g with stack := rest }).pushFrame (.throwing q))) := by
  subst hg
  have hpl : e.platform.magicAccessors = ({} : Platform).magicAccessors := by rw [X.admits.platform]
  obtain ⟨mk, methM, cM, kP, vm₁, hnamed, hmethM, hcodeM, -, hlocalsM, -, hkP, -, hW₁, hstep₁⟩ := Steps.initColdArgs (e := e) X.here hexec X.warmed hpl hown hy1 hy hlink hinst hcode (f := g) rfl hlen hstack hdg
  have X₁ := X.noted hW₁
  rcases hK g.method meth c ⟨T.setVm vm₁, locs, cells, slots⟩ { g with stack := rest } (.invokespecial index) mk (Value.ref a :: argsL).toArray X₁ rfl hsize hdg hW (X₁.named hnamed) (hpre vm₁ X₁.warmed) with ⟨v, B, X', hpost, hsteps⟩ | ⟨q, B, X', hpost, hsteps⟩
  · exact Or.inl ⟨v, vm₁, B, X₁.warmed, X', hpost, fun target h => hstep₁ _ fun acts => by rw [doInvoke_state]; exact hsteps.trans h⟩
  · exact Or.inr ⟨q, vm₁, B, X₁.warmed, X', hpost, hstep₁ _ fun acts => by rw [doInvoke_state]; exact hsteps⟩
end VXIA
section VXIB
variable {p : Program} {l : Launch} {e : Env} {R : Room} {s : State} {m : MethodId} {args : Array Value} {below : List Frame} {meth : Method} {c : Code} {H : Heap} {locs : List Loc} {cells slots : Nat}
variable {y : MethodName} {bytes cc : ByteArray} {maxL nL mc ms n index : Nat} {ret : Option FieldType} {ws : List Cond} {rm : Room} {Pc : Array Value → State → Prop} {Qc : Array Value → State → Outcome → State → Prop} {XC : String → State → State → Prop} {free : Addr → Prop} {Ts : List Cond} {own C : String} {b : Addr} {As rest : List Value} {g : JFrame}
theorem vx_runI (S : CallFix p m c cc nL s args Ts own) (hM : vx_Met l y ws rm Pc Qc XC mc ms free) (cw : CallB R s args own index y bytes maxL none ws rm mc ms n ∧ y.name = "<init>" ∧ (Cond.instanceMethod y).before args s = true) (hp : PreS s H Pc (.ref b :: As))
    (hg : g.method = m) (hn : As.length = n) (hsize : g.locals.size = nL) (hstack : g.stack = As.reverse ++ .ref b :: rest) (hW : 2 * g.monitorRoom + (rest.map fun v => v.category).sum ≤ 8) (hdg : decode cc g.pc = .ok (.invokespecial index, 3)) (hf : cells + mc ≤ R.cells ∧ slots + ms ≤ R.slots) :
    vx_Run p l e R s m args below meth c H locs cells slots mc ms g rest (Qc (Value.ref b :: As).toArray) XC free := by
  have hK : vx_Back l R p e below s args y 3 8 (PreOf R mc ms Pc) (PostOf Qc mc ms free) (vx_Post XC mc ms free) := vx_callBack cw.1 hM hp.1
  obtain ⟨⟨-, -, -, -, -, -, hcode, -, hy, hlen, hl⟩, hy1, hin⟩ := cw
  obtain ⟨hx, hb, hml, ho, -⟩ := S
  have hPc := hp.2
  intro T hT X
  rcases vx_callI X hx (bytes := bytes) (maxL := maxL) ho hy1 hl hin hcode hy hK hg (hsize.trans hml.symm) (a := b) (argsL := As) (rest := rest) (fun sig h => hn.trans (hlen sig h)) hstack hW (by rw [hb]; exact hdg)
    (fun vm₁ hW₁ => ⟨hf.1, hf.2, hPc (T.setVm vm₁) hT hW₁⟩) with ⟨v, vm₁, ⟨U', l2, c2, s2⟩, hW₁, X', ⟨g', mk, t, L, e1, e2, hq, h1, hL, h2, h3⟩, st⟩ | ⟨q, vm₁, ⟨U', l2, c2, s2⟩, hW₁, X', ⟨g', mk, t, L, E, ce, e1, e2, hq, hce, hcv, hcl, h1, hL, h2, h3⟩, st⟩
  · dsimp only [Pt.U, Pt.locs, Pt.cells, Pt.slots] at X' e1 e2 h1 h2 h3 st
    subst h1; subst h2; subst h3
    exact Or.inl ⟨v, (T.setVm vm₁).calling g' mk (Value.ref b :: As).toArray, t, U', L, hT, X', hL, e1, e2, hq, st⟩
  · dsimp only [Pt.U, Pt.locs, Pt.cells, Pt.slots] at X' e1 e2 h1 h2 h3 st hcl
    subst h1; subst h2; subst h3
    exact Or.inr ⟨q, (T.setVm vm₁).calling g' mk (Value.ref b :: As).toArray, t, U', L, E, ce, hT, X', hL, e1, e2, hq, hce, hcv, vx_cls hW₁ hcl, st⟩
end VXIB
/-! ===== END ===== -/
/-! ===== BEGIN a private constructor of a nest mate that throws ===== -/
section VXIC
variable {p : Program} {l : Launch} {e : Env} {R : Room} {s : State} {m : MethodId} {args : Array Value} {below : List Frame} {meth : Method} {c : Code} {T : State} {locs : List Loc} {cells slots : Nat}
theorem vx_callIN (X : Stand p l e R s m args below meth c T locs cells slots) (hexec : p.tables.exec = Jvm.exec) {own : String} {index : Nat} {host : String} {y : MethodName} {bytes : ByteArray} {maxL : Nat}
    (hown : s.vm.findClass own = some m.cls) (hy1 : y.name = "<init>") (hlink : (Cond.methodLinkNest own index y host).before args s = true) (hinst : (Cond.instanceMethod y).before args s = true)
    (hcode : (Cond.code y bytes maxL none).before args s = true) (hy : y.cls ≠ "java/lang/invoke/MethodHandle" ∧ y.cls ≠ "java/lang/invoke/VarHandle")
    {W9 : Nat} {Pre : Pt → Array Value → Prop} {Post : Pt → Array Value → Option Value → Pt → Prop} {PostX : Pt → Array Value → Addr → Pt → Prop} (hK : vx_Back l R p e below s args y 3 W9 Pre Post PostX)
    {g : JFrame} (hg : g.method = m) (hsize : g.locals.size = c.maxLocals) {a : Addr} {argsL rest : List Value} (hlen : ∀ sig, parseMethodDescriptor y.desc = some sig → argsL.length = sig.parameters.length)
    (hstack : g.stack = argsL.reverse ++ .ref a :: rest) (hW : 2 * g.monitorRoom + (rest.map fun v => v.category).sum ≤ W9) (hdg : decode c.code g.pc = .ok (.invokespecial index, 3))
    (hpre : ∀ vm₁, s.WarmedH vm₁ → Pre ⟨T.setVm vm₁, locs, cells, slots⟩ (Value.ref a :: argsL).toArray) :
    (∃ (v : Option Value) (vm₁ : Vm) (B : Pt), s.WarmedH vm₁ ∧ Stand p l e R s m args below meth c B.U B.locs B.cells B.slots ∧ Post ⟨T.setVm vm₁, locs, cells, slots⟩ (Value.ref a :: argsL).toArray v B ∧
      ∀ target, Steps p.tables e below (B.U.setTop { g with pc := g.pc + 3, stack := v.toList ++ rest }) target → Steps p.tables e below (T.setTop g) target) ∨
    (∃ (q : Addr) (vm₁ : Vm) (B : Pt), s.WarmedH vm₁ ∧ Stand p l e R s m args below meth c B.U B.locs B.cells B.slots ∧ PostX ⟨T.setVm vm₁, locs, cells, slots⟩ (Value.ref a :: argsL).toArray q B ∧
      Steps p.tables e below (T.setTop g) ((B.U.setTop { g with stack := rest }).pushFrame (.throwing q))) := by
  subst hg
  have hpl : e.platform.magicAccessors = ({} : Platform).magicAccessors := by rw [X.admits.platform]
  obtain ⟨mk, methM, cM, kP, vm₁, hnamed, hmethM, hcodeM, -, hlocalsM, -, hkP, -, hW₁, hstep₁⟩ := Steps.initColdArgsNest (e := e) X.here hexec X.warmed hpl hown hy1 hy hlink hinst hcode (f := g) rfl hlen hstack hdg
  have X₁ := X.noted hW₁
  rcases hK g.method meth c ⟨T.setVm vm₁, locs, cells, slots⟩ { g with stack := rest } (.invokespecial index) mk (Value.ref a :: argsL).toArray X₁ rfl hsize hdg hW (X₁.named hnamed) (hpre vm₁ X₁.warmed) with ⟨v, B, X', hpost, hsteps⟩ | ⟨q, B, X', hpost, hsteps⟩
  · exact Or.inl ⟨v, vm₁, B, X₁.warmed, X', hpost, fun target h => hstep₁ _ fun acts => by rw [doInvoke_state]; exact hsteps.trans h⟩
  · exact Or.inr ⟨q, vm₁, B, X₁.warmed, X', hpost, hstep₁ _ fun acts => by rw [doInvoke_state]; exact hsteps⟩
end VXIC
section VXID
variable {p : Program} {l : Launch} {e : Env} {R : Room} {s : State} {m : MethodId} {args : Array Value} {below : List Frame} {meth : Method} {c : Code} {H : Heap} {locs : List Loc} {cells slots : Nat}
theorem vx_runIN {y : MethodName} {bytes cc : ByteArray} {maxL nL mc ms n index : Nat} {ws : List Cond} {rm : Room} {Pc : Array Value → State → Prop} {Qc : Array Value → State → Outcome → State → Prop} {XC : String → State → State → Prop} {free : Addr → Prop} {Ts : List Cond} {own host : String} {b : Addr} {As rest : List Value} {g : JFrame}
    (S : CallFix p m c cc nL s args Ts own) (hM : vx_Met l y ws rm Pc Qc XC mc ms free) (cw : va_CN R s args own index y host bytes maxL none ws rm mc ms n ∧ y.name = "<init>" ∧ (Cond.instanceMethod y).before args s = true) (hp : PreS s H Pc (.ref b :: As))
    (hg : g.method = m) (hn : As.length = n) (hsize : g.locals.size = nL) (hstack : g.stack = As.reverse ++ .ref b :: rest) (hW : 2 * g.monitorRoom + (rest.map fun v => v.category).sum ≤ 8) (hdg : decode cc g.pc = .ok (.invokespecial index, 3)) (hf : cells + mc ≤ R.cells ∧ slots + ms ≤ R.slots) :
    vx_Run p l e R s m args below meth c H locs cells slots mc ms g rest (Qc (Value.ref b :: As).toArray) XC free := by
  obtain ⟨⟨⟨hrc, hrs, hfr, hlo, hws, hcw⟩, hcode, hini, hy, hlen, hl⟩, hx1, hx2⟩ := cw
  have hK : vx_Back l R p e below s args y 3 8 (PreOf R mc ms Pc) (PostOf Qc mc ms free) (vx_Post XC mc ms free) := vx_back (bytes := bytes) (maxL := maxL) (ret := none) hM hp.1 hrc hrs hfr hlo hws hcw (fun a' U hW => word_at hW (Or.inl (by first | rfl | simp [Cond.onTables, Cond.keeps, Cond.steady])) hini)
  obtain ⟨hx, hb, hml, ho, -⟩ := S
  have hPc := hp.2
  intro T hT X
  rcases vx_callIN X hx (bytes := bytes) (maxL := maxL) ho hx1 hl hx2 hcode hy hK hg (hsize.trans hml.symm) (a := b) (argsL := As) (rest := rest) (fun sig h => hn.trans (hlen sig h)) hstack hW (by rw [hb]; exact hdg)
    (fun vm₁ hW₁ => ⟨hf.1, hf.2, hPc (T.setVm vm₁) hT hW₁⟩) with ⟨v, vm₁, ⟨U', l2, c2, s2⟩, hW₁, X', ⟨g', mk, t, L, e1, e2, hq, h1, hL, h2, h3⟩, st⟩ | ⟨q, vm₁, ⟨U', l2, c2, s2⟩, hW₁, X', ⟨g', mk, t, L, E, ce, e1, e2, hq, hce, hcv, hcl, h1, hL, h2, h3⟩, st⟩
  · dsimp only [Pt.U, Pt.locs, Pt.cells, Pt.slots] at X' e1 e2 h1 h2 h3 st
    subst h1; subst h2; subst h3
    exact Or.inl ⟨v, (T.setVm vm₁).calling g' mk (Value.ref b :: As).toArray, t, U', L, hT, X', hL, e1, e2, hq, st⟩
  · dsimp only [Pt.U, Pt.locs, Pt.cells, Pt.slots] at X' e1 e2 h1 h2 h3 st hcl
    subst h1; subst h2; subst h3
    exact Or.inr ⟨q, (T.setVm vm₁).calling g' mk (Value.ref b :: As).toArray, t, U', L, E, ce, hT, X', hL, e1, e2, hq, hce, hcv, vx_cls hW₁ hcl, st⟩
end VXID
/-! ===== END ===== -/
/-! ===== BEGIN a method of a class above, found by the receiver, that may throw (follows va_callVU, va_runU of this kit) ===== -/
section
variable {p : Program} {l : Launch} {e : Env} {R : Room} {s : State} {m : MethodId} {args : Array Value} {below : List Frame} {meth : Method} {c : Code} {H : Heap} {locs : List Loc} {cells slots : Nat}
theorem vx_callVU {T : State} {locs : List Loc} {cells slots : Nat} (X : Stand p l e R s m args below meth c T locs cells slots) (hexec : p.tables.exec = Jvm.exec) {own C owner : String} {index : Nat} {x y : MethodName} {bytes : ByteArray} {maxL : Nat} {ret : Option FieldType}
    (hown : s.vm.findClass own = some m.cls) (hlink : (Cond.methodLink own index x).before args s = true) (hsame : (Cond.sameMethod x.cls owner x.name x.desc).before args s = true)
    (hd0 : va_Decl s ⟨owner, x.name, x.desc⟩) (howner : owner ≠ "java/lang/invoke/MethodHandle" ∧ owner ≠ "java/lang/invoke/VarHandle")
    (hsel : (Cond.selects C x y).before args s = true) (hinst : (Cond.instanceMethod y).before args s = true) (hcode : (Cond.code y bytes maxL ret).before args s = true)
    {W : Nat} {Pre : Pt → Array Value → Prop} {Post : Pt → Array Value → Option Value → Pt → Prop} {PostX : Pt → Array Value → Addr → Pt → Prop} (hK : vx_Back l R p e below s args y 3 W Pre Post PostX)
    {b : Addr} {cellB : Cell} (hcell : T.heap[b]? = some cellB) (hobj : cellB.vm.isStatics = false) (hcls : s.vm.findClass C = some cellB.cls)
    {g : JFrame} (hg : g.method = m) (hsize : g.locals.size = c.maxLocals) {argsL rest : List Value} (hlen : ∀ sig, parseMethodDescriptor x.desc = some sig → argsL.length = sig.parameters.length)
    (hstack : g.stack = argsL.reverse ++ .ref b :: rest) (hW : 2 * g.monitorRoom + (rest.map fun v => v.category).sum ≤ W) (hdg : decode c.code g.pc = .ok (.invokevirtual index, 3))
    (hpre : ∀ vm₁, s.WarmedH vm₁ → Pre ⟨T.setVm vm₁, locs, cells, slots⟩ (Value.ref b :: argsL).toArray) :
    (∃ (v : Option Value) (vm₁ : Vm) (B : Pt), s.WarmedH vm₁ ∧ Stand p l e R s m args below meth c B.U B.locs B.cells B.slots ∧ Post ⟨T.setVm vm₁, locs, cells, slots⟩ (Value.ref b :: argsL).toArray v B ∧
      ∀ target, Steps p.tables e below (B.U.setTop { g with pc := g.pc + 3, stack := v.toList ++ rest }) target → Steps p.tables e below (T.setTop g) target) ∨
    (∃ (q : Addr) (vm₁ : Vm) (B : Pt), s.WarmedH vm₁ ∧ Stand p l e R s m args below meth c B.U B.locs B.cells B.slots ∧ PostX ⟨T.setVm vm₁, locs, cells, slots⟩ (Value.ref b :: argsL).toArray q B ∧
      Steps p.tables e below (T.setTop g) ((B.U.setTop { g with stack := rest }).pushFrame (.throwing q))) := by
  obtain ⟨r0, r, hn, hrm, hstR, hsigR⟩ := hd0
  obtain ⟨cn, ck, r1, hcn, hck, hni, hf, hn1⟩ := Cond.sameMethod_found hsame
  cases hn.symm.trans hn1
  obtain ⟨mk, methM, hnamed, hmethM, -, habM⟩ := Cond.instanceMethod_spec hinst
  obtain ⟨c2, r2, m2, q1, q2, q3, q4, kP, hkP, hkPi⟩ := Cond.selects_spec hsel
  cases hcls.symm.trans q1
  cases hf.symm.trans q2
  cases hnamed.symm.trans q3
  have hselP : selectMethod e.platform s.vm cellB.cls r0 = .method mk := by rw [Launch.admits_selectMethod X.admits]; exact q4
  obtain ⟨vm₁, X₁, hstep₁⟩ := X.invokevirtualUp hexec hown hlink hsame howner hn hrm hstR (a := b) (cell := cellB) hcell
    (fun z h => by rw [h] at hobj; cases hobj) hselP hmethM habM hkP hkPi (g := g) hg (argsL := argsL) (rest := rest) (hlen _ hsigR) hstack hdg
  rcases hK m meth c ⟨T.setVm vm₁, locs, cells, slots⟩ { g with stack := rest } (.invokevirtual index) mk (Value.ref b :: argsL).toArray X₁ hg hsize hdg hW (X₁.named hnamed) (hpre vm₁ X₁.warmed) with ⟨v, B, X', hpost, hsteps⟩ | ⟨q, B, X', hpost, hsteps⟩
  · exact Or.inl ⟨v, vm₁, B, X₁.warmed, X', hpost, fun target h => hstep₁ _ fun acts => by rw [doInvoke_state]; exact hsteps.trans h⟩
  · exact Or.inr ⟨q, vm₁, B, X₁.warmed, X', hpost, hstep₁ _ fun acts => by rw [doInvoke_state]; exact hsteps⟩
theorem vx_runU {x y : MethodName} {bytes cc : ByteArray} {maxL nL mc ms n index : Nat} {ret : Option FieldType} {ws : List Cond} {rm : Room} {Pc : Array Value → State → Prop} {Qc : Array Value → State → Outcome → State → Prop} {XC : String → State → State → Prop} {free : Addr → Prop} {Ts : List Cond} {own C owner : String} {b : Addr} {As rest : List Value} {g : JFrame}
    (S : CallFix p m c cc nL s args Ts own) (hM : vx_Met l y ws rm Pc Qc XC mc ms free) (cw : va_CU R s args own C owner index x y bytes maxL ret ws rm mc ms n) (hp : PreV s H C b Pc As)
    (hg : g.method = m) (hn : As.length = n) (hsize : g.locals.size = nL) (hstack : g.stack = As.reverse ++ .ref b :: rest) (hW : 2 * g.monitorRoom + (rest.map fun v => v.category).sum ≤ 8) (hdg : decode cc g.pc = .ok (.invokevirtual index, 3)) (hf : cells + mc ≤ R.cells ∧ slots + ms ≤ R.slots) :
    vx_Run p l e R s m args below meth c H locs cells slots mc ms g rest (Qc (Value.ref b :: As).toArray) XC free := by
  obtain ⟨hrc, hrs, hfr, hlo, hws, hcw⟩ := cw.back
  have hini := cw.init
  have hK : vx_Back l R p e below s args y 3 8 (PreOf R mc ms Pc) (PostOf Qc mc ms free) (vx_Post XC mc ms free) := vx_back (bytes := bytes) (maxL := maxL) (ret := ret) hM hp.1 hrc hrs hfr hlo hws hcw (fun a' U hW => word_at hW (Or.inl (by first | rfl | simp [Cond.onTables, Cond.keeps, Cond.steady])) hini)
  obtain ⟨hx, hb, hml, ho, -⟩ := S
  obtain ⟨-, ⟨cellB, hcB, hoB, hclB⟩, hPc⟩ := hp
  intro T hT X
  rcases vx_callVU X hx (C := C) (owner := owner) (bytes := bytes) (maxL := maxL) (ret := ret) ho cw.link cw.same cw.decl cw.notMH cw.sel cw.inst cw.code hK (by rw [hT]; exact hcB) hoB hclB hg (hsize.trans hml.symm) (argsL := As) (rest := rest) (fun sig h => hn.trans (cw.len sig h)) hstack hW (by rw [hb]; exact hdg)
    (fun vm₁ hW₁ => ⟨hf.1, hf.2, hPc (T.setVm vm₁) hT hW₁⟩) with ⟨v, vm₁, ⟨U', l2, c2, s2⟩, hW₁, X', ⟨g', mk, t, L, e1, e2, hq, h1, hL, h2, h3⟩, st⟩ | ⟨q, vm₁, ⟨U', l2, c2, s2⟩, hW₁, X', ⟨g', mk, t, L, E, ce, e1, e2, hq, hce, hcv, hcl, h1, hL, h2, h3⟩, st⟩
  · dsimp only [Pt.U, Pt.locs, Pt.cells, Pt.slots] at X' e1 e2 h1 h2 h3 st
    subst h1; subst h2; subst h3
    exact Or.inl ⟨v, (T.setVm vm₁).calling g' mk (Value.ref b :: As).toArray, t, U', L, hT, X', hL, e1, e2, hq, st⟩
  · dsimp only [Pt.U, Pt.locs, Pt.cells, Pt.slots] at X' e1 e2 h1 h2 h3 st hcl
    subst h1; subst h2; subst h3
    exact Or.inr ⟨q, (T.setVm vm₁).calling g' mk (Value.ref b :: As).toArray, t, U', L, E, ce, hT, X', hL, e1, e2, hq, hce, hcv, vx_cls hW₁ hcl, st⟩
end
/-! ===== END ===== -/
/-! ===== BEGIN super.m(..) that may throw (follows va_callSU, va_runSU) ===== -/
section
variable {p : Program} {l : Launch} {e : Env} {R : Room} {s : State} {m : MethodId} {args : Array Value} {below : List Frame} {meth : Method} {c : Code} {H : Heap} {locs : List Loc} {cells slots : Nat}
theorem vx_callSU {T : State} {locs : List Loc} {cells slots : Nat} (X : Stand p l e R s m args below meth c T locs cells slots) (hexec : p.tables.exec = Jvm.exec) {own : String} {index : Nat} {y : MethodName} {bytes : ByteArray} {maxL : Nat} {ret : Option FieldType}
    (hown : s.vm.findClass own = some m.cls) (hlink : (Cond.methodLink own index y).before args s = true) (hsame : (Cond.sameMethod y.cls y.cls y.name y.desc).before args s = true) (hsup : (Cond.superclass own y.cls).before args s = true)
    (hinst : (Cond.instanceMethod y).before args s = true) (hcode : (Cond.code y bytes maxL ret).before args s = true) (hno : y.name ≠ "<init>")
    {W : Nat} {Pre : Pt → Array Value → Prop} {Post : Pt → Array Value → Option Value → Pt → Prop} {PostX : Pt → Array Value → Addr → Pt → Prop} (hK : vx_Back l R p e below s args y 3 W Pre Post PostX)
    {b : Addr} {cellB : Cell} {kB : Class} (hcell : T.heap[b]? = some cellB) (hobj : cellB.vm.isStatics = false) (hkB : s.vm.classes[cellB.cls]? = some kB)
    {g : JFrame} (hg : g.method = m) (hsize : g.locals.size = c.maxLocals) {argsL rest : List Value} (hlen : ∀ sig, parseMethodDescriptor y.desc = some sig → argsL.length = sig.parameters.length)
    (hstack : g.stack = argsL.reverse ++ .ref b :: rest) (hW : 2 * g.monitorRoom + (rest.map fun v => v.category).sum ≤ W) (hdg : decode c.code g.pc = .ok (.invokespecial index, 3))
    (hpre : ∀ vm₁, s.WarmedH vm₁ → Pre ⟨T.setVm vm₁, locs, cells, slots⟩ (Value.ref b :: argsL).toArray) :
    (∃ (v : Option Value) (vm₁ : Vm) (B : Pt), s.WarmedH vm₁ ∧ Stand p l e R s m args below meth c B.U B.locs B.cells B.slots ∧ Post ⟨T.setVm vm₁, locs, cells, slots⟩ (Value.ref b :: argsL).toArray v B ∧
      ∀ target, Steps p.tables e below (B.U.setTop { g with pc := g.pc + 3, stack := v.toList ++ rest }) target → Steps p.tables e below (T.setTop g) target) ∨
    (∃ (q : Addr) (vm₁ : Vm) (B : Pt), s.WarmedH vm₁ ∧ Stand p l e R s m args below meth c B.U B.locs B.cells B.slots ∧ PostX ⟨T.setVm vm₁, locs, cells, slots⟩ (Value.ref b :: argsL).toArray q B ∧
      Steps p.tables e below (T.setTop g) ((B.U.setTop { g with stack := rest }).pushFrame (.throwing q))) := by
  obtain ⟨mk, methM, hnamed, hmethM, hstM, habM⟩ := Cond.instanceMethod_spec hinst
  obtain ⟨methM', cM, hmethM', -, -, -, -, -, -, hsigM⟩ := Cond.code_spec hnamed hcode
  cases hmethM.symm.trans hmethM'
  obtain ⟨ps, dk, kp, hps, hdk, hkp, hsuper, -, -, hnid⟩ := Cond.superclass_spec hown hsup
  have hn : s.methodNamed? ⟨y.cls, y.name, y.desc⟩ = some mk := hnamed
  have hpm : ps = mk.cls := Option.some.inj (hps.symm.trans (findClass_of_methodNamed hnamed))
  have hsub : s.vm.isSubclass ps mk.cls = true := by rw [hpm]; simp [Vm.isSubclass, Vm.isSubclassAux]
  obtain ⟨vm₁, X₁, hstep₁⟩ := X.invokespecialUp hexec hown hlink hsame hn hmethM hstM habM hno hdk hnid hps hsuper hsub (a := b) (cell := cellB) hcell
    (fun z h => by rw [h] at hobj; cases hobj) hkB (g := g) hg (argsL := argsL) (rest := rest) (hlen _ hsigM) hstack hdg
  rcases hK m meth c ⟨T.setVm vm₁, locs, cells, slots⟩ { g with stack := rest } (.invokespecial index) mk (Value.ref b :: argsL).toArray X₁ hg hsize hdg hW (X₁.named hnamed) (hpre vm₁ X₁.warmed) with ⟨v, B, X', hpost, hsteps⟩ | ⟨q, B, X', hpost, hsteps⟩
  · exact Or.inl ⟨v, vm₁, B, X₁.warmed, X', hpost, fun target h => hstep₁ _ (by rw [doInvoke_state]; exact hsteps.trans h)⟩
  · exact Or.inr ⟨q, vm₁, B, X₁.warmed, X', hpost, hstep₁ _ (by rw [doInvoke_state]; exact hsteps)⟩
theorem vx_runSU {y : MethodName} {bytes cc : ByteArray} {maxL nL mc ms n index : Nat} {ret : Option FieldType} {ws : List Cond} {rm : Room} {Pc : Array Value → State → Prop} {Qc : Array Value → State → Outcome → State → Prop} {XC : String → State → State → Prop} {free : Addr → Prop} {Ts : List Cond} {own C : String} {cC : ClassId} {b : Addr} {As rest : List Value} {g : JFrame}
    (hat : ClassAt s C cC) (S : CallFix p m c cc nL s args Ts own) (hM : vx_Met l y ws rm Pc Qc XC mc ms free) (cw : va_CS R s args own index y bytes maxL ret ws rm mc ms n) (hp : PreV s H C b Pc As)
    (hg : g.method = m) (hn : As.length = n) (hsize : g.locals.size = nL) (hstack : g.stack = As.reverse ++ .ref b :: rest) (hW : 2 * g.monitorRoom + (rest.map fun v => v.category).sum ≤ 8) (hdg : decode cc g.pc = .ok (.invokespecial index, 3)) (hf : cells + mc ≤ R.cells ∧ slots + ms ≤ R.slots) :
    vx_Run p l e R s m args below meth c H locs cells slots mc ms g rest (Qc (Value.ref b :: As).toArray) XC free := by
  obtain ⟨⟨hrc, hrs, hfr, hlo, hws, hcw⟩, hl1, hl2, hl3, hl4, hini, hcode, hno, hlen⟩ := cw
  have hK : vx_Back l R p e below s args y 3 8 (PreOf R mc ms Pc) (PostOf Qc mc ms free) (vx_Post XC mc ms free) := vx_back (bytes := bytes) (maxL := maxL) (ret := ret) hM hp.1 hrc hrs hfr hlo hws hcw (fun a' U hW => word_at hW (Or.inl (by first | rfl | simp [Cond.onTables, Cond.keeps, Cond.steady])) hini)
  obtain ⟨hx, hb, hml, ho, -⟩ := S
  obtain ⟨-, ⟨cellB, hcB, hoB, hclB⟩, hPc⟩ := hp
  obtain ⟨hfc, kB, hkB, -⟩ := hat
  cases hfc.symm.trans hclB
  intro T hT X
  rcases vx_callSU X hx (bytes := bytes) (maxL := maxL) (ret := ret) ho hl1 hl2 hl3 hl4 hcode hno hK (by rw [hT]; exact hcB) hoB hkB hg (hsize.trans hml.symm) (argsL := As) (rest := rest) (fun sig h => hn.trans (hlen sig h)) hstack hW (by rw [hb]; exact hdg)
    (fun vm₁ hW₁ => ⟨hf.1, hf.2, hPc (T.setVm vm₁) hT hW₁⟩) with ⟨v, vm₁, ⟨U', l2, c2, s2⟩, hW₁, X', ⟨g', mk, t, L, e1, e2, hq, h1, hL, h2, h3⟩, st⟩ | ⟨q, vm₁, ⟨U', l2, c2, s2⟩, hW₁, X', ⟨g', mk, t, L, E, ce, e1, e2, hq, hce, hcv, hcl, h1, hL, h2, h3⟩, st⟩
  · dsimp only [Pt.U, Pt.locs, Pt.cells, Pt.slots] at X' e1 e2 h1 h2 h3 st
    subst h1; subst h2; subst h3
    exact Or.inl ⟨v, (T.setVm vm₁).calling g' mk (Value.ref b :: As).toArray, t, U', L, hT, X', hL, e1, e2, hq, st⟩
  · dsimp only [Pt.U, Pt.locs, Pt.cells, Pt.slots] at X' e1 e2 h1 h2 h3 st hcl
    subst h1; subst h2; subst h3
    exact Or.inr ⟨q, (T.setVm vm₁).calling g' mk (Value.ref b :: As).toArray, t, U', L, E, ce, hT, X', hL, e1, e2, hq, hce, hcv, vx_cls hW₁ hcl, st⟩
end
/-! ===== END ===== -/
/-! ===== BEGIN a private method of a nest mate that may throw (follows va_callVN, va_callSN, va_runVN, va_runSN) ===== -/
section
variable {p : Program} {l : Launch} {e : Env} {R : Room} {s : State} {m : MethodId} {args : Array Value} {below : List Frame} {meth : Method} {c : Code} {H : Heap} {locs : List Loc} {cells slots : Nat}
variable {T : State}
theorem vx_callVN (X : Stand p l e R s m args below meth c T locs cells slots) (hexec : p.tables.exec = Jvm.exec) {own C : String} {index : Nat} {host : String} {y : MethodName} {bytes : ByteArray} {maxL : Nat} {ret : Option FieldType}
    (hown : s.vm.findClass own = some m.cls) (hlink : (Cond.methodLinkNest own index y host).before args s = true) (hinst : (Cond.instanceMethod y).before args s = true) (hsel : (Cond.selects C y y).before args s = true)
    (hcode : (Cond.code y bytes maxL ret).before args s = true) (hy : y.cls ≠ "java/lang/invoke/MethodHandle" ∧ y.cls ≠ "java/lang/invoke/VarHandle")
    {W : Nat} {Pre : Pt → Array Value → Prop} {Post : Pt → Array Value → Option Value → Pt → Prop} {PostX : Pt → Array Value → Addr → Pt → Prop} (hK : vx_Back l R p e below s args y 3 W Pre Post PostX)
    {b : Addr} {cellB : Cell} (hcell : T.heap[b]? = some cellB) (hobj : cellB.vm.isStatics = false) (hcls : s.vm.findClass C = some cellB.cls)
    {g : JFrame} (hg : g.method = m) (hsize : g.locals.size = c.maxLocals) {argsL rest : List Value} (hlen : ∀ sig, parseMethodDescriptor y.desc = some sig → argsL.length = sig.parameters.length)
    (hstack : g.stack = argsL.reverse ++ .ref b :: rest) (hW : 2 * g.monitorRoom + (rest.map fun v => v.category).sum ≤ W) (hdg : decode c.code g.pc = .ok (.invokevirtual index, 3))
    (hpre : ∀ vm₁, s.WarmedH vm₁ → Pre ⟨T.setVm vm₁, locs, cells, slots⟩ (Value.ref b :: argsL).toArray) :
    (∃ (v : Option Value) (vm₁ : Vm) (B : Pt), s.WarmedH vm₁ ∧ Stand p l e R s m args below meth c B.U B.locs B.cells B.slots ∧ Post ⟨T.setVm vm₁, locs, cells, slots⟩ (Value.ref b :: argsL).toArray v B ∧
      ∀ target, Steps p.tables e below (B.U.setTop { g with pc := g.pc + 3, stack := v.toList ++ rest }) target → Steps p.tables e below (T.setTop g) target) ∨
    (∃ (q : Addr) (vm₁ : Vm) (B : Pt), s.WarmedH vm₁ ∧ Stand p l e R s m args below meth c B.U B.locs B.cells B.slots ∧ PostX ⟨T.setVm vm₁, locs, cells, slots⟩ (Value.ref b :: argsL).toArray q B ∧
      Steps p.tables e below (T.setTop g) ((B.U.setTop { g with stack := rest }).pushFrame (.throwing q))) := by
  obtain ⟨mk, methM, hnamed, hmethM, hstM, habM⟩ := Cond.instanceMethod_spec hinst
  obtain ⟨methM', cM, hmethM', -, -, -, -, -, -, hsigM⟩ := Cond.code_spec hnamed hcode
  cases hmethM.symm.trans hmethM'
  obtain ⟨c2, r2, m2, q1, q2, q3, q4, kP, hkP, hkPi⟩ := Cond.selects_spec hsel
  cases hcls.symm.trans q1
  cases (State.methodFound?_of_named hnamed hy).symm.trans q2
  cases hnamed.symm.trans q3
  have hselP : selectMethod e.platform s.vm cellB.cls mk = .method mk := by rw [Launch.admits_selectMethod X.admits]; exact q4
  obtain ⟨vm₁, X₁, hstep₁⟩ := X.invokevirtualNest hexec hown hlink hnamed hmethM hstM hkP hkPi hy (a := b) (cell := cellB) hcell
    (fun z h => by rw [h] at hobj; cases hobj) hselP hmethM habM hkP hkPi (g := g) hg (argsL := argsL) (rest := rest) (hlen _ hsigM) hstack hdg
  rcases hK m meth c ⟨T.setVm vm₁, locs, cells, slots⟩ { g with stack := rest } (.invokevirtual index) mk (Value.ref b :: argsL).toArray X₁ hg hsize hdg hW (X₁.named hnamed) (hpre vm₁ X₁.warmed) with ⟨v, B, X', hpost, hsteps⟩ | ⟨q, B, X', hpost, hsteps⟩
  · exact Or.inl ⟨v, vm₁, B, X₁.warmed, X', hpost, fun target h => hstep₁ _ fun acts => by rw [doInvoke_state]; exact hsteps.trans h⟩
  · exact Or.inr ⟨q, vm₁, B, X₁.warmed, X', hpost, hstep₁ _ fun acts => by rw [doInvoke_state]; exact hsteps⟩
theorem vx_callSN (X : Stand p l e R s m args below meth c T locs cells slots) (hexec : p.tables.exec = Jvm.exec) {own : String} {index : Nat} {host : String} {y : MethodName} {bytes : ByteArray} {maxL : Nat} {ret : Option FieldType}
    (hown : s.vm.findClass own = some m.cls) (hlink : (Cond.methodLinkNest own index y host).before args s = true) (hstat : (Cond.static y).before args s = true) (hinit : (Cond.initialized y.cls).before args s = true)
    (hcode : (Cond.code y bytes maxL ret).before args s = true) (hy : y.cls ≠ "java/lang/invoke/MethodHandle" ∧ y.cls ≠ "java/lang/invoke/VarHandle")
    {W : Nat} {Pre : Pt → Array Value → Prop} {Post : Pt → Array Value → Option Value → Pt → Prop} {PostX : Pt → Array Value → Addr → Pt → Prop} (hK : vx_Back l R p e below s args y 3 W Pre Post PostX)
    {g : JFrame} (hg : g.method = m) (hsize : g.locals.size = c.maxLocals) {argsL rest : List Value} (hlen : ∀ sig, parseMethodDescriptor y.desc = some sig → argsL.length = sig.parameters.length)
    (hstack : g.stack = argsL.reverse ++ rest) (hW : 2 * g.monitorRoom + (rest.map fun v => v.category).sum ≤ W) (hdg : decode c.code g.pc = .ok (.invokestatic index, 3))
    (hpre : ∀ vm₁, s.WarmedH vm₁ → Pre ⟨T.setVm vm₁, locs, cells, slots⟩ argsL.toArray) :
    (∃ (v : Option Value) (vm₁ : Vm) (B : Pt), s.WarmedH vm₁ ∧ Stand p l e R s m args below meth c B.U B.locs B.cells B.slots ∧ Post ⟨T.setVm vm₁, locs, cells, slots⟩ argsL.toArray v B ∧
      ∀ target, Steps p.tables e below (B.U.setTop { g with pc := g.pc + 3, stack := v.toList ++ rest }) target → Steps p.tables e below (T.setTop g) target) ∨
    (∃ (q : Addr) (vm₁ : Vm) (B : Pt), s.WarmedH vm₁ ∧ Stand p l e R s m args below meth c B.U B.locs B.cells B.slots ∧ PostX ⟨T.setVm vm₁, locs, cells, slots⟩ argsL.toArray q B ∧
      Steps p.tables e below (T.setTop g) ((B.U.setTop { g with stack := rest }).pushFrame (.throwing q))) := by
  obtain ⟨mk, hnamed⟩ := Cond.code_named hcode
  obtain ⟨methM, cM, hmethM, -, -, -, -, -, -, hsigM⟩ := Cond.code_spec hnamed hcode
  have hstatic : methM.isStatic = true := Cond.static_spec hnamed hmethM hstat
  obtain ⟨kP, hkP, -⟩ := className_of_methodNamed hnamed
  have hinitP : kP.init = .initialized := Cond.initialized_spec (findClass_of_methodNamed hnamed) hkP hinit
  obtain ⟨vm₁, X₁, hstep₁⟩ := X.invokestaticNest hexec hown hlink hnamed hmethM hstatic hkP hinitP hy (g := g) hg (argsL := argsL) (rest := rest) (hlen _ hsigM) hstack hdg
  rcases hK m meth c ⟨T.setVm vm₁, locs, cells, slots⟩ { g with stack := rest } (.invokestatic index) mk argsL.toArray X₁ hg hsize hdg hW (X₁.named hnamed) (hpre vm₁ X₁.warmed) with ⟨v, B, X', hpost, hsteps⟩ | ⟨q, B, X', hpost, hsteps⟩
  · exact Or.inl ⟨v, vm₁, B, X₁.warmed, X', hpost, fun target h => hstep₁ _ fun acts => by rw [doInvoke_state]; exact hsteps.trans h⟩
  · exact Or.inr ⟨q, vm₁, B, X₁.warmed, X', hpost, hstep₁ _ fun acts => by rw [doInvoke_state]; exact hsteps⟩
theorem vx_runVN {y : MethodName} {bytes cc : ByteArray} {maxL nL mc ms n index : Nat} {ret : Option FieldType} {ws : List Cond} {rm : Room} {Pc : Array Value → State → Prop} {Qc : Array Value → State → Outcome → State → Prop} {XC : String → State → State → Prop} {free : Addr → Prop} {Ts : List Cond} {own C host : String} {b : Addr} {As rest : List Value} {g : JFrame}
    (S : CallFix p m c cc nL s args Ts own) (hM : vx_Met l y ws rm Pc Qc XC mc ms free) (cw : va_CN R s args own index y host bytes maxL ret ws rm mc ms n ∧ (Cond.instanceMethod y).before args s = true ∧ (Cond.selects C y y).before args s = true) (hp : PreV s H C b Pc As)
    (hg : g.method = m) (hn : As.length = n) (hsize : g.locals.size = nL) (hstack : g.stack = As.reverse ++ .ref b :: rest) (hW : 2 * g.monitorRoom + (rest.map fun v => v.category).sum ≤ 8) (hdg : decode cc g.pc = .ok (.invokevirtual index, 3)) (hf : cells + mc ≤ R.cells ∧ slots + ms ≤ R.slots) :
    vx_Run p l e R s m args below meth c H locs cells slots mc ms g rest (Qc (Value.ref b :: As).toArray) XC free := by
  obtain ⟨⟨⟨hrc, hrs, hfr, hlo, hws, hcw⟩, hcode, hini, hy, hlen, hl⟩, hx1, hx2⟩ := cw
  have hK : vx_Back l R p e below s args y 3 8 (PreOf R mc ms Pc) (PostOf Qc mc ms free) (vx_Post XC mc ms free) := vx_back (bytes := bytes) (maxL := maxL) (ret := ret) hM hp.1 hrc hrs hfr hlo hws hcw (fun a' U hW => word_at hW (Or.inl (by first | rfl | simp [Cond.onTables, Cond.keeps, Cond.steady])) hini)
  obtain ⟨hx, hb, hml, ho, -⟩ := S
  obtain ⟨-, ⟨cellB, hcB, hoB, hclB⟩, hPc⟩ := hp
  intro T hT X
  rcases vx_callVN X hx (C := C) (bytes := bytes) (maxL := maxL) (ret := ret) ho hl hx1 hx2 hcode hy hK (by rw [hT]; exact hcB) hoB hclB hg (hsize.trans hml.symm) (argsL := As) (rest := rest) (fun sig h => hn.trans (hlen sig h)) hstack hW (by rw [hb]; exact hdg)
    (fun vm₁ hW₁ => ⟨hf.1, hf.2, hPc (T.setVm vm₁) hT hW₁⟩) with ⟨v, vm₁, ⟨U', l2, c2, s2⟩, hW₁, X', ⟨g', mk, t, L, e1, e2, hq, h1, hL, h2, h3⟩, st⟩ | ⟨q, vm₁, ⟨U', l2, c2, s2⟩, hW₁, X', ⟨g', mk, t, L, E, ce, e1, e2, hq, hce, hcv, hcl, h1, hL, h2, h3⟩, st⟩
  · dsimp only [Pt.U, Pt.locs, Pt.cells, Pt.slots] at X' e1 e2 h1 h2 h3 st
    subst h1; subst h2; subst h3
    exact Or.inl ⟨v, (T.setVm vm₁).calling g' mk (Value.ref b :: As).toArray, t, U', L, hT, X', hL, e1, e2, hq, st⟩
  · dsimp only [Pt.U, Pt.locs, Pt.cells, Pt.slots] at X' e1 e2 h1 h2 h3 st hcl
    subst h1; subst h2; subst h3
    exact Or.inr ⟨q, (T.setVm vm₁).calling g' mk (Value.ref b :: As).toArray, t, U', L, E, ce, hT, X', hL, e1, e2, hq, hce, hcv, vx_cls hW₁ hcl, st⟩
theorem vx_runSN {y : MethodName} {bytes cc : ByteArray} {maxL nL mc ms n index : Nat} {ret : Option FieldType} {ws : List Cond} {rm : Room} {Pc : Array Value → State → Prop} {Qc : Array Value → State → Outcome → State → Prop} {XC : String → State → State → Prop} {free : Addr → Prop} {Ts : List Cond} {own host : String} {As rest : List Value} {g : JFrame}
    (S : CallFix p m c cc nL s args Ts own) (hM : vx_Met l y ws rm Pc Qc XC mc ms free) (cw : va_CN R s args own index y host bytes maxL ret ws rm mc ms n ∧ (Cond.static y).before args s = true ∧ True) (hp : PreS s H Pc As)
    (hg : g.method = m) (hn : As.length = n) (hsize : g.locals.size = nL) (hstack : g.stack = As.reverse ++ rest) (hW : 2 * g.monitorRoom + (rest.map fun v => v.category).sum ≤ 8) (hdg : decode cc g.pc = .ok (.invokestatic index, 3)) (hf : cells + mc ≤ R.cells ∧ slots + ms ≤ R.slots) :
    vx_Run p l e R s m args below meth c H locs cells slots mc ms g rest (Qc As.toArray) XC free := by
  obtain ⟨⟨⟨hrc, hrs, hfr, hlo, hws, hcw⟩, hcode, hini, hy, hlen, hl⟩, hx1, hx2⟩ := cw
  have hK : vx_Back l R p e below s args y 3 8 (PreOf R mc ms Pc) (PostOf Qc mc ms free) (vx_Post XC mc ms free) := vx_back (bytes := bytes) (maxL := maxL) (ret := ret) hM hp.1 hrc hrs hfr hlo hws hcw (fun a' U hW => word_at hW (Or.inl (by first | rfl | simp [Cond.onTables, Cond.keeps, Cond.steady])) hini)
  obtain ⟨hx, hb, hml, ho, -⟩ := S
  have hPc := hp.2
  intro T hT X
  rcases vx_callSN X hx (bytes := bytes) (maxL := maxL) (ret := ret) ho hl hx1 hini hcode hy hK hg (hsize.trans hml.symm) (argsL := As) (rest := rest) (fun sig h => hn.trans (hlen sig h)) hstack hW (by rw [hb]; exact hdg)
    (fun vm₁ hW₁ => ⟨hf.1, hf.2, hPc (T.setVm vm₁) hT hW₁⟩) with ⟨v, vm₁, ⟨U', l2, c2, s2⟩, hW₁, X', ⟨g', mk, t, L, e1, e2, hq, h1, hL, h2, h3⟩, st⟩ | ⟨q, vm₁, ⟨U', l2, c2, s2⟩, hW₁, X', ⟨g', mk, t, L, E, ce, e1, e2, hq, hce, hcv, hcl, h1, hL, h2, h3⟩, st⟩
  · dsimp only [Pt.U, Pt.locs, Pt.cells, Pt.slots] at X' e1 e2 h1 h2 h3 st
    subst h1; subst h2; subst h3
    exact Or.inl ⟨v, (T.setVm vm₁).calling g' mk As.toArray, t, U', L, hT, X', hL, e1, e2, hq, st⟩
  · dsimp only [Pt.U, Pt.locs, Pt.cells, Pt.slots] at X' e1 e2 h1 h2 h3 st hcl
    subst h1; subst h2; subst h3
    exact Or.inr ⟨q, (T.setVm vm₁).calling g' mk As.toArray, t, U', L, E, ce, hT, X', hL, e1, e2, hq, hce, hcv, vx_cls hW₁ hcl, st⟩
end
/-! ===== END ===== -/
/-! ===== BEGIN calls by an interface of methods that may throw (vx_callIF, vx_runF follow va_callIF, va_runF of this kit) ===== -/
section
variable {p : Program} {l : Launch} {e : Env} {R : Room} {s : State} {m : MethodId} {args : Array Value} {below : List Frame} {meth : Method} {c : Code} {H : Heap} {locs : List Loc} {cells slots : Nat} {Q : State → Prop}
variable {mc ms : Nat} {free : Addr → Prop} {A0 A1 : Nat → Prop} {H0 : Heap} {a : Array Value} {pc : Nat} {ls : Array Slot} {st0 rest : List Value}
def vx_Run5 (p : Program) (l : Launch) (e : Env) (R : Room) (s : State) (m : MethodId) (args : Array Value) (below : List Frame) (meth : Method) (c : Code) (H : Heap) (locs : List Loc) (cells slots mc ms : Nat) (g : JFrame) (rest : List Value) (Qa : State → Outcome → State → Prop) (XC : String → State → State → Prop) (free : Addr → Prop) : Prop :=
  ∀ T : State, T.heap = H → Stand p l e R s m args below meth c T locs cells slots →
    (∃ (v : Option Value) (st₀ t T' : State) (L : List Loc), st₀.heap = H ∧ Stand p l e R s m args below meth c T' (locs ++ L) (cells + mc) (slots + ms) ∧ (∀ q ∈ L, free q.base) ∧ T'.heap = t.heap ∧ T'.vm = t.vm ∧ Qa st₀ (.returned v) t ∧
      Goes p e below T g T' { g with pc := g.pc + 5, stack := v.toList ++ rest }) ∨
    (∃ (q : Addr) (st₀ t T' : State) (L : List Loc) (E : String) (ce : Cell), st₀.heap = H ∧ Stand p l e R s m args below meth c T' (locs ++ L) (cells + mc) (slots + ms) ∧ (∀ z ∈ L, free z.base) ∧ T'.heap = t.heap ∧ T'.vm = t.vm ∧ XC E st₀ t ∧ t.heap[q]? = some ce ∧ ce.vm = .none ∧ s.vm.findClass E = some ce.cls ∧
      Steps p.tables e below (T.setTop g) ((T'.setTop { g with stack := rest }).pushFrame (.throwing q)))
theorem vx_callIF {T : State} (X : Stand p l e R s m args below meth c T locs cells slots) (hexec : p.tables.exec = Jvm.exec) {own C : String} {index count : Nat} {x y : MethodName} {bytes : ByteArray} {maxL : Nat} {ret : Option FieldType}
    (hown : s.vm.findClass own = some m.cls) (hlink : (Cond.methodLink own index x).before args s = true) (hdecl : (Cond.declares x).before args s = true) (hface : (Cond.interfaceMethod x.cls x.cls x.name x.desc).before args s = true)
    (hsel : (Cond.selects C x y).before args s = true) (hinst : (Cond.instanceMethod y).before args s = true) (hpub : (Cond.publicMethod y).before args s = true) (hunh : (Cond.unhidden C x.name x.desc).before args s = true)
    (hcast : (Cond.castable C x.cls).before args s = true) (hcode : (Cond.code y bytes maxL ret).before args s = true) (hx : x.cls ≠ "java/lang/invoke/MethodHandle" ∧ x.cls ≠ "java/lang/invoke/VarHandle")
    {W9 : Nat} {Pre : Pt → Array Value → Prop} {Post : Pt → Array Value → Option Value → Pt → Prop} {PostX : Pt → Array Value → Addr → Pt → Prop} (hK : vx_Back l R p e below s args y 5 W9 Pre Post PostX)
    {b : Addr} {cellB : Cell} {kB : Class} (hcell : T.heap[b]? = some cellB) (hobj : cellB.vm.isStatics = false) (hcls : s.vm.findClass C = some cellB.cls) (hkB : s.vm.classes[cellB.cls]? = some kB)
    {g : JFrame} (hg : g.method = m) (hsize : g.locals.size = c.maxLocals) {argsL rest : List Value} (hlen : ∀ sig, parseMethodDescriptor x.desc = some sig → argsL.length = sig.parameters.length)
    (hstack : g.stack = argsL.reverse ++ .ref b :: rest) (hW : 2 * g.monitorRoom + (rest.map fun v => v.category).sum ≤ W9) (hdg : decode c.code g.pc = .ok (.invokeinterface index count, 5))
    (hpre : ∀ vm₁, s.WarmedH vm₁ → Pre ⟨T.setVm vm₁, locs, cells, slots⟩ (Value.ref b :: argsL).toArray) :
    (∃ (v : Option Value) (vm₁ : Vm) (B : Pt), s.WarmedH vm₁ ∧ Stand p l e R s m args below meth c B.U B.locs B.cells B.slots ∧ Post ⟨T.setVm vm₁, locs, cells, slots⟩ (Value.ref b :: argsL).toArray v B ∧
      ∀ target, Steps p.tables e below (B.U.setTop { g with pc := g.pc + 5, stack := v.toList ++ rest }) target → Steps p.tables e below (T.setTop g) target) ∨
    (∃ (q : Addr) (vm₁ : Vm) (B : Pt), s.WarmedH vm₁ ∧ Stand p l e R s m args below meth c B.U B.locs B.cells B.slots ∧ PostX ⟨T.setVm vm₁, locs, cells, slots⟩ (Value.ref b :: argsL).toArray q B ∧
      Steps p.tables e below (T.setTop g) ((B.U.setTop { g with stack := rest }).pushFrame (.throwing q))) := by
  obtain ⟨r0, r, hn, hrm, hstR, hsigR⟩ := Cond.declares_spec hdecl
  obtain ⟨cL, kL, r1, hcL, hkL, hiL, hfoundL, hn1⟩ := Cond.interfaceMethod_spec hface
  cases hn.symm.trans hn1
  have hr0cls : r0.cls = cL := Option.some.inj ((findClass_of_methodNamed hn).symm.trans hcL)
  obtain ⟨hnameR, hdescR⟩ := name_of_methodNamed hn hrm
  obtain ⟨mk, methM, hnamed, hmethM, -, habM⟩ := Cond.instanceMethod_spec hinst
  obtain ⟨c2, r2, m2, q1, q2, q3, q4, -⟩ := Cond.selects_spec hsel
  cases hcls.symm.trans q1
  cases hfoundL.symm.trans q2
  cases hnamed.symm.trans q3
  have hselP : selectMethod e.platform s.vm cellB.cls r0 = .method mk := by rw [Launch.admits_selectMethod X.admits]; exact q4
  have hpubM : hasFlag methM.accessFlags Acc.public_ = true := Cond.publicMethod_spec hnamed hmethM hpub
  have hway : ((cellB.cls :: s.vm.superclasses cellB.cls).any fun k => (declaredIn s.vm r.name r.desc k).any fun (_, z) => z.isPrivate || z.isStatic) = false := by
    rw [hnameR, hdescR]; exact Cond.unhidden_spec hcls hunh
  obtain ⟨c3, t3, w1, w2, w3⟩ := Cond.castable_spec hcast
  cases hcls.symm.trans w1
  cases hcL.symm.trans w2
  obtain ⟨vm₁, X₁, hstep₁⟩ := X.invokeinterface hexec hown hlink hn hrm hstR (by rw [hr0cls]; exact hkL) hiL hx (a := b) (cell := cellB) (kcell := kB) hcell
    (fun z h => by rw [h] at hobj; cases hobj) hkB (by rw [hr0cls]; exact w3) hselP hmethM hway hpubM habM (g := g) hg (argsL := argsL) (rest := rest) (hlen _ hsigR) hstack hdg
  rcases hK m meth c ⟨T.setVm vm₁, locs, cells, slots⟩ { g with stack := rest } (.invokeinterface index count) mk (Value.ref b :: argsL).toArray X₁ hg hsize hdg hW (X₁.named hnamed) (hpre vm₁ X₁.warmed) with ⟨v, B, X', hpost, hsteps⟩ | ⟨q, B, X', hpost, hsteps⟩
  · exact Or.inl ⟨v, vm₁, B, X₁.warmed, X', hpost, fun target h => hstep₁ _ fun acts => by rw [doInvoke_state]; exact hsteps.trans h⟩
  · exact Or.inr ⟨q, vm₁, B, X₁.warmed, X', hpost, hstep₁ _ fun acts => by rw [doInvoke_state]; exact hsteps⟩
theorem vx_runF {x y : MethodName} {bytes cc : ByteArray} {maxL nL mc ms n index count : Nat} {ret : Option FieldType} {ws : List Cond} {rm : Room} {Pc : Array Value → State → Prop} {Qc : Array Value → State → Outcome → State → Prop} {XC : String → State → State → Prop} {free : Addr → Prop} {Ts : List Cond} {own C : String} {cC : ClassId} {b : Addr} {As rest : List Value} {g : JFrame}
    (hat : ClassAt s C cC) (S : CallFix p m c cc nL s args Ts own) (hM : vx_Met l y ws rm Pc Qc XC mc ms free) (cw : va_CI R s args own C index x y bytes maxL ret ws rm mc ms n) (hp : PreV s H C b Pc As)
    (hg : g.method = m) (hn : As.length = n) (hsize : g.locals.size = nL) (hstack : g.stack = As.reverse ++ .ref b :: rest) (hW : 2 * g.monitorRoom + (rest.map fun v => v.category).sum ≤ 8) (hdg : decode cc g.pc = .ok (.invokeinterface index count, 5)) (hf : cells + mc ≤ R.cells ∧ slots + ms ≤ R.slots) :
    vx_Run5 p l e R s m args below meth c H locs cells slots mc ms g rest (Qc (Value.ref b :: As).toArray) XC free := by
  obtain ⟨hrc, hrs, hfr, hlo, hws, hcw⟩ := cw.back
  have hini := cw.init
  have hK : vx_Back l R p e below s args y 5 8 (PreOf R mc ms Pc) (PostOf Qc mc ms free) (vx_Post XC mc ms free) := vx_back (bytes := bytes) (maxL := maxL) (ret := ret) hM hp.1 hrc hrs hfr hlo hws hcw (fun a' U hW => word_at hW (Or.inl (by first | rfl | simp [Cond.onTables, Cond.keeps, Cond.steady])) hini)
  obtain ⟨hx, hb, hml, ho, -⟩ := S
  obtain ⟨-, ⟨cellB, hcB, hoB, hclB⟩, hPc⟩ := hp
  obtain ⟨hfc, kB, hkB, -⟩ := hat
  cases hfc.symm.trans hclB
  intro T hT X
  rcases vx_callIF X hx (C := C) (bytes := bytes) (maxL := maxL) (ret := ret) ho cw.link cw.decl cw.face cw.sel cw.inst cw.pub cw.unh cw.cast cw.code cw.notMH hK (by rw [hT]; exact hcB) hoB hclB hkB hg (hsize.trans hml.symm) (argsL := As) (rest := rest) (fun sig h => hn.trans (cw.len sig h)) hstack hW (by rw [hb]; exact hdg)
    (fun vm₁ hW₁ => ⟨hf.1, hf.2, hPc (T.setVm vm₁) hT hW₁⟩) with ⟨v, vm₁, ⟨U', l2, c2, s2⟩, hW₁, X', ⟨g', mk, t, L, e1, e2, hq, h1, hL, h2, h3⟩, st⟩ | ⟨q, vm₁, ⟨U', l2, c2, s2⟩, hW₁, X', ⟨g', mk, t, L, E, ce, e1, e2, hq, hce, hcv, hcl, h1, hL, h2, h3⟩, st⟩
  · dsimp only [Pt.U, Pt.locs, Pt.cells, Pt.slots] at X' e1 e2 h1 h2 h3 st
    subst h1; subst h2; subst h3
    exact Or.inl ⟨v, (T.setVm vm₁).calling g' mk (Value.ref b :: As).toArray, t, U', L, hT, X', hL, e1, e2, hq, st⟩
  · dsimp only [Pt.U, Pt.locs, Pt.cells, Pt.slots] at X' e1 e2 h1 h2 h3 st hcl
    subst h1; subst h2; subst h3
    exact Or.inr ⟨q, (T.setVm vm₁).calling g' mk (Value.ref b :: As).toArray, t, U', L, E, ce, hT, X', hL, e1, e2, hq, hce, hcv, vx_cls hW₁ hcl, st⟩
theorem vx_callFv {S SX : Type} {post : S → Prop} {px : SX → Prop} {B : S → State → Prop} {BX : String → SX → State → Prop} {AX : Nat → Prop} (hr : vx_Run5 p l e R s m args below meth c H locs cells slots mc ms (F0 m pc ls st0) rest (va_Qv post B A1 a) (vx_X px BX AX) free) (hS : va_S A0 H0 H locs) (hA : ∀ q, q < H.size → A1 q → A0 q) (hf : ∀ q, free q → A0 q) (hAX : ∀ q, q < H.size → AX q → A0 q)
    (kx : ∀ (E : String) (ce : Cell) (q9 : Addr) (u : SX) (t : State) (H1 : Heap) (locs1 : List Loc), t.heap = H1 → s.vm.Alike t.vm → px u → BX E u t → H.size ≤ H1.size → (∀ q : Nat, q < H.size → ¬ AX q → H1[q]? = H[q]?) → va_S A0 H0 H1 locs1 → H1[q9]? = some ce → ce.vm = .none → s.vm.findClass E = some ce.cls → vx_W p l e R s m args below meth c H1 locs1 (cells + mc) (slots + ms) Q (F0 m pc ls rest) q9)
    (kk : ∀ (u : S) (t : State) (H1 : Heap) (locs1 : List Loc), t.heap = H1 → s.vm.Alike t.vm → post u → B u t → H.size ≤ H1.size → (∀ q : Nat, q < H.size → ¬ A1 q → H1[q]? = H[q]?) → va_S A0 H0 H1 locs1 → W p l e R s m args below meth c H1 locs1 (cells + mc) (slots + ms) Q (F0 m (pc + 5) ls (rest))) : W p l e R s m args below meth c H locs cells slots Q (F0 m pc ls st0) := by
  intro T hT X
  rcases hr T hT X with ⟨v, st₀, t, T', L, h0, X', hL, e1, e2, ⟨⟨u, hv, hp, hb⟩, hF⟩, st⟩ | ⟨q, st₀, t, T', L, E, ce, h0, X', hL, e1, e2, ⟨u, hp, hb, hF⟩, hce, hcv, hcl, st⟩
  · cases hv
    obtain ⟨k1, k2, k3⟩ := vx_keep h0 e1 hS hA hf hL hF
    obtain ⟨t2, a1, b1⟩ := kk u t T'.heap (locs ++ L) e1.symm (by rw [← e2]; exact X'.warmed.alike) hp hb k1 k2 k3 T' rfl X'
    exact ⟨t2, st t2 a1, b1⟩
  · obtain ⟨k1, k2, k3⟩ := vx_keep h0 e1 hS hAX hf hL hF
    obtain ⟨t2, a1, b1⟩ := kx E ce q u t T'.heap (locs ++ L) e1.symm (by rw [← e2]; exact X'.warmed.alike) hp hb k1 k2 k3 (by rw [e1]; exact hce) hcv hcl T' rfl X'
    exact ⟨t2, st.trans a1, b1⟩
theorem vx_callFi {S SX : Type} {post : Int32 → S → Prop} {px : SX → Prop} {B : S → State → Prop} {BX : String → SX → State → Prop} {AX : Nat → Prop} (hr : vx_Run5 p l e R s m args below meth c H locs cells slots mc ms (F0 m pc ls st0) rest (va_Qi post B A1 a) (vx_X px BX AX) free) (hS : va_S A0 H0 H locs) (hA : ∀ q, q < H.size → A1 q → A0 q) (hf : ∀ q, free q → A0 q) (hAX : ∀ q, q < H.size → AX q → A0 q)
    (kx : ∀ (E : String) (ce : Cell) (q9 : Addr) (u : SX) (t : State) (H1 : Heap) (locs1 : List Loc), t.heap = H1 → s.vm.Alike t.vm → px u → BX E u t → H.size ≤ H1.size → (∀ q : Nat, q < H.size → ¬ AX q → H1[q]? = H[q]?) → va_S A0 H0 H1 locs1 → H1[q9]? = some ce → ce.vm = .none → s.vm.findClass E = some ce.cls → vx_W p l e R s m args below meth c H1 locs1 (cells + mc) (slots + ms) Q (F0 m pc ls rest) q9)
    (kk : ∀ (r : Int32) (u : S) (t : State) (H1 : Heap) (locs1 : List Loc), t.heap = H1 → s.vm.Alike t.vm → post r u → B u t → H.size ≤ H1.size → (∀ q : Nat, q < H.size → ¬ A1 q → H1[q]? = H[q]?) → va_S A0 H0 H1 locs1 → W p l e R s m args below meth c H1 locs1 (cells + mc) (slots + ms) Q (F0 m (pc + 5) ls (.int r :: rest))) : W p l e R s m args below meth c H locs cells slots Q (F0 m pc ls st0) := by
  intro T hT X
  rcases hr T hT X with ⟨v, st₀, t, T', L, h0, X', hL, e1, e2, ⟨⟨r, u, hv, hp, hb⟩, hF⟩, st⟩ | ⟨q, st₀, t, T', L, E, ce, h0, X', hL, e1, e2, ⟨u, hp, hb, hF⟩, hce, hcv, hcl, st⟩
  · cases hv
    obtain ⟨k1, k2, k3⟩ := vx_keep h0 e1 hS hA hf hL hF
    obtain ⟨t2, a1, b1⟩ := kk r u t T'.heap (locs ++ L) e1.symm (by rw [← e2]; exact X'.warmed.alike) hp hb k1 k2 k3 T' rfl X'
    exact ⟨t2, st t2 a1, b1⟩
  · obtain ⟨k1, k2, k3⟩ := vx_keep h0 e1 hS hAX hf hL hF
    obtain ⟨t2, a1, b1⟩ := kx E ce q u t T'.heap (locs ++ L) e1.symm (by rw [← e2]; exact X'.warmed.alike) hp hb k1 k2 k3 (by rw [e1]; exact hce) hcv hcl T' rfl X'
    exact ⟨t2, st.trans a1, b1⟩
theorem vx_callFl {S SX : Type} {post : Int64 → S → Prop} {px : SX → Prop} {B : S → State → Prop} {BX : String → SX → State → Prop} {AX : Nat → Prop} (hr : vx_Run5 p l e R s m args below meth c H locs cells slots mc ms (F0 m pc ls st0) rest (va_Ql post B A1 a) (vx_X px BX AX) free) (hS : va_S A0 H0 H locs) (hA : ∀ q, q < H.size → A1 q → A0 q) (hf : ∀ q, free q → A0 q) (hAX : ∀ q, q < H.size → AX q → A0 q)
    (kx : ∀ (E : String) (ce : Cell) (q9 : Addr) (u : SX) (t : State) (H1 : Heap) (locs1 : List Loc), t.heap = H1 → s.vm.Alike t.vm → px u → BX E u t → H.size ≤ H1.size → (∀ q : Nat, q < H.size → ¬ AX q → H1[q]? = H[q]?) → va_S A0 H0 H1 locs1 → H1[q9]? = some ce → ce.vm = .none → s.vm.findClass E = some ce.cls → vx_W p l e R s m args below meth c H1 locs1 (cells + mc) (slots + ms) Q (F0 m pc ls rest) q9)
    (kk : ∀ (r : Int64) (u : S) (t : State) (H1 : Heap) (locs1 : List Loc), t.heap = H1 → s.vm.Alike t.vm → post r u → B u t → H.size ≤ H1.size → (∀ q : Nat, q < H.size → ¬ A1 q → H1[q]? = H[q]?) → va_S A0 H0 H1 locs1 → W p l e R s m args below meth c H1 locs1 (cells + mc) (slots + ms) Q (F0 m (pc + 5) ls (.long r :: rest))) : W p l e R s m args below meth c H locs cells slots Q (F0 m pc ls st0) := by
  intro T hT X
  rcases hr T hT X with ⟨v, st₀, t, T', L, h0, X', hL, e1, e2, ⟨⟨r, u, hv, hp, hb⟩, hF⟩, st⟩ | ⟨q, st₀, t, T', L, E, ce, h0, X', hL, e1, e2, ⟨u, hp, hb, hF⟩, hce, hcv, hcl, st⟩
  · cases hv
    obtain ⟨k1, k2, k3⟩ := vx_keep h0 e1 hS hA hf hL hF
    obtain ⟨t2, a1, b1⟩ := kk r u t T'.heap (locs ++ L) e1.symm (by rw [← e2]; exact X'.warmed.alike) hp hb k1 k2 k3 T' rfl X'
    exact ⟨t2, st t2 a1, b1⟩
  · obtain ⟨k1, k2, k3⟩ := vx_keep h0 e1 hS hAX hf hL hF
    obtain ⟨t2, a1, b1⟩ := kx E ce q u t T'.heap (locs ++ L) e1.symm (by rw [← e2]; exact X'.warmed.alike) hp hb k1 k2 k3 (by rw [e1]; exact hce) hcv hcl T' rfl X'
    exact ⟨t2, st.trans a1, b1⟩
theorem vx_callFf {S SX : Type} {post : UInt32 → S → Prop} {px : SX → Prop} {B : S → State → Prop} {BX : String → SX → State → Prop} {AX : Nat → Prop} (hr : vx_Run5 p l e R s m args below meth c H locs cells slots mc ms (F0 m pc ls st0) rest (va_Qf post B A1 a) (vx_X px BX AX) free) (hS : va_S A0 H0 H locs) (hA : ∀ q, q < H.size → A1 q → A0 q) (hf : ∀ q, free q → A0 q) (hAX : ∀ q, q < H.size → AX q → A0 q)
    (kx : ∀ (E : String) (ce : Cell) (q9 : Addr) (u : SX) (t : State) (H1 : Heap) (locs1 : List Loc), t.heap = H1 → s.vm.Alike t.vm → px u → BX E u t → H.size ≤ H1.size → (∀ q : Nat, q < H.size → ¬ AX q → H1[q]? = H[q]?) → va_S A0 H0 H1 locs1 → H1[q9]? = some ce → ce.vm = .none → s.vm.findClass E = some ce.cls → vx_W p l e R s m args below meth c H1 locs1 (cells + mc) (slots + ms) Q (F0 m pc ls rest) q9)
    (kk : ∀ (r : UInt32) (u : S) (t : State) (H1 : Heap) (locs1 : List Loc), t.heap = H1 → s.vm.Alike t.vm → post r u → B u t → H.size ≤ H1.size → (∀ q : Nat, q < H.size → ¬ A1 q → H1[q]? = H[q]?) → va_S A0 H0 H1 locs1 → W p l e R s m args below meth c H1 locs1 (cells + mc) (slots + ms) Q (F0 m (pc + 5) ls (.float r :: rest))) : W p l e R s m args below meth c H locs cells slots Q (F0 m pc ls st0) := by
  intro T hT X
  rcases hr T hT X with ⟨v, st₀, t, T', L, h0, X', hL, e1, e2, ⟨⟨r, u, hv, hp, hb⟩, hF⟩, st⟩ | ⟨q, st₀, t, T', L, E, ce, h0, X', hL, e1, e2, ⟨u, hp, hb, hF⟩, hce, hcv, hcl, st⟩
  · cases hv
    obtain ⟨k1, k2, k3⟩ := vx_keep h0 e1 hS hA hf hL hF
    obtain ⟨t2, a1, b1⟩ := kk r u t T'.heap (locs ++ L) e1.symm (by rw [← e2]; exact X'.warmed.alike) hp hb k1 k2 k3 T' rfl X'
    exact ⟨t2, st t2 a1, b1⟩
  · obtain ⟨k1, k2, k3⟩ := vx_keep h0 e1 hS hAX hf hL hF
    obtain ⟨t2, a1, b1⟩ := kx E ce q u t T'.heap (locs ++ L) e1.symm (by rw [← e2]; exact X'.warmed.alike) hp hb k1 k2 k3 (by rw [e1]; exact hce) hcv hcl T' rfl X'
    exact ⟨t2, st.trans a1, b1⟩
theorem vx_callFd {S SX : Type} {post : UInt64 → S → Prop} {px : SX → Prop} {B : S → State → Prop} {BX : String → SX → State → Prop} {AX : Nat → Prop} (hr : vx_Run5 p l e R s m args below meth c H locs cells slots mc ms (F0 m pc ls st0) rest (va_Qd post B A1 a) (vx_X px BX AX) free) (hS : va_S A0 H0 H locs) (hA : ∀ q, q < H.size → A1 q → A0 q) (hf : ∀ q, free q → A0 q) (hAX : ∀ q, q < H.size → AX q → A0 q)
    (kx : ∀ (E : String) (ce : Cell) (q9 : Addr) (u : SX) (t : State) (H1 : Heap) (locs1 : List Loc), t.heap = H1 → s.vm.Alike t.vm → px u → BX E u t → H.size ≤ H1.size → (∀ q : Nat, q < H.size → ¬ AX q → H1[q]? = H[q]?) → va_S A0 H0 H1 locs1 → H1[q9]? = some ce → ce.vm = .none → s.vm.findClass E = some ce.cls → vx_W p l e R s m args below meth c H1 locs1 (cells + mc) (slots + ms) Q (F0 m pc ls rest) q9)
    (kk : ∀ (r : UInt64) (u : S) (t : State) (H1 : Heap) (locs1 : List Loc), t.heap = H1 → s.vm.Alike t.vm → post r u → B u t → H.size ≤ H1.size → (∀ q : Nat, q < H.size → ¬ A1 q → H1[q]? = H[q]?) → va_S A0 H0 H1 locs1 → W p l e R s m args below meth c H1 locs1 (cells + mc) (slots + ms) Q (F0 m (pc + 5) ls (.double r :: rest))) : W p l e R s m args below meth c H locs cells slots Q (F0 m pc ls st0) := by
  intro T hT X
  rcases hr T hT X with ⟨v, st₀, t, T', L, h0, X', hL, e1, e2, ⟨⟨r, u, hv, hp, hb⟩, hF⟩, st⟩ | ⟨q, st₀, t, T', L, E, ce, h0, X', hL, e1, e2, ⟨u, hp, hb, hF⟩, hce, hcv, hcl, st⟩
  · cases hv
    obtain ⟨k1, k2, k3⟩ := vx_keep h0 e1 hS hA hf hL hF
    obtain ⟨t2, a1, b1⟩ := kk r u t T'.heap (locs ++ L) e1.symm (by rw [← e2]; exact X'.warmed.alike) hp hb k1 k2 k3 T' rfl X'
    exact ⟨t2, st t2 a1, b1⟩
  · obtain ⟨k1, k2, k3⟩ := vx_keep h0 e1 hS hAX hf hL hF
    obtain ⟨t2, a1, b1⟩ := kx E ce q u t T'.heap (locs ++ L) e1.symm (by rw [← e2]; exact X'.warmed.alike) hp hb k1 k2 k3 (by rw [e1]; exact hce) hcv hcl T' rfl X'
    exact ⟨t2, st.trans a1, b1⟩
end
/-! ===== END ===== -/
/-! ===== BEGIN by an interface, a method with a table of its own that may throw (follows va_callIFW, va_runFW) ===== -/
section
variable {p : Program} {l : Launch} {e : Env} {R : Room} {s : State} {m : MethodId} {args : Array Value} {below : List Frame} {meth : Method} {c : Code} {H : Heap} {locs : List Loc} {cells slots : Nat}
theorem vx_callIFW {T : State} (X : Stand p l e R s m args below meth c T locs cells slots) (hexec : p.tables.exec = Jvm.exec) {own C : String} {index count : Nat} {x y : MethodName} {bytes : ByteArray} {maxL : Nat} {ret : Option FieldType} {hh : List (Nat × Nat × Nat × Nat)}
    (hown : s.vm.findClass own = some m.cls) (hlink : (Cond.methodLink own index x).before args s = true) (hdecl : (Cond.declares x).before args s = true) (hface : (Cond.interfaceMethod x.cls x.cls x.name x.desc).before args s = true)
    (hsel : (Cond.selects C x y).before args s = true) (hinst : (Cond.instanceMethod y).before args s = true) (hpub : (Cond.publicMethod y).before args s = true) (hunh : (Cond.unhidden C x.name x.desc).before args s = true)
    (hcast : (Cond.castable C x.cls).before args s = true) (hcode : (Cond.codeWith y bytes maxL ret hh).before args s = true) (hx : x.cls ≠ "java/lang/invoke/MethodHandle" ∧ x.cls ≠ "java/lang/invoke/VarHandle")
    {W : Nat} {Pre : Pt → Array Value → Prop} {Post : Pt → Array Value → Option Value → Pt → Prop} {PostX : Pt → Array Value → Addr → Pt → Prop} (hK : vx_Back l R p e below s args y 5 W Pre Post PostX)
    {b : Addr} {cellB : Cell} {kB : Class} (hcell : T.heap[b]? = some cellB) (hobj : cellB.vm.isStatics = false) (hcls : s.vm.findClass C = some cellB.cls) (hkB : s.vm.classes[cellB.cls]? = some kB)
    {g : JFrame} (hg : g.method = m) (hsize : g.locals.size = c.maxLocals) {argsL rest : List Value} (hlen : ∀ sig, parseMethodDescriptor x.desc = some sig → argsL.length = sig.parameters.length)
    (hstack : g.stack = argsL.reverse ++ .ref b :: rest) (hW : 2 * g.monitorRoom + (rest.map fun v => v.category).sum ≤ W) (hdg : decode c.code g.pc = .ok (.invokeinterface index count, 5))
    (hpre : ∀ vm₁, s.WarmedH vm₁ → Pre ⟨T.setVm vm₁, locs, cells, slots⟩ (Value.ref b :: argsL).toArray) :
    (∃ (v : Option Value) (vm₁ : Vm) (B : Pt), s.WarmedH vm₁ ∧ Stand p l e R s m args below meth c B.U B.locs B.cells B.slots ∧ Post ⟨T.setVm vm₁, locs, cells, slots⟩ (Value.ref b :: argsL).toArray v B ∧
      ∀ target, Steps p.tables e below (B.U.setTop { g with pc := g.pc + 5, stack := v.toList ++ rest }) target → Steps p.tables e below (T.setTop g) target) ∨
    (∃ (q : Addr) (vm₁ : Vm) (B : Pt), s.WarmedH vm₁ ∧ Stand p l e R s m args below meth c B.U B.locs B.cells B.slots ∧ PostX ⟨T.setVm vm₁, locs, cells, slots⟩ (Value.ref b :: argsL).toArray q B ∧
      Steps p.tables e below (T.setTop g) ((B.U.setTop { g with stack := rest }).pushFrame (.throwing q))) := by
  obtain ⟨r0, r, hn, hrm, hstR, hsigR⟩ := Cond.declares_spec hdecl
  obtain ⟨cL, kL, r1, hcL, hkL, hiL, hfoundL, hn1⟩ := Cond.interfaceMethod_spec hface
  cases hn.symm.trans hn1
  have hr0cls : r0.cls = cL := Option.some.inj ((findClass_of_methodNamed hn).symm.trans hcL)
  obtain ⟨hnameR, hdescR⟩ := name_of_methodNamed hn hrm
  obtain ⟨mk, methM, hnamed, hmethM, -, habM⟩ := Cond.instanceMethod_spec hinst
  obtain ⟨c2, r2, m2, q1, q2, q3, q4, -⟩ := Cond.selects_spec hsel
  cases hcls.symm.trans q1
  cases hfoundL.symm.trans q2
  cases hnamed.symm.trans q3
  have hselP : selectMethod e.platform s.vm cellB.cls r0 = .method mk := by rw [Launch.admits_selectMethod X.admits]; exact q4
  have hpubM : hasFlag methM.accessFlags Acc.public_ = true := Cond.publicMethod_spec hnamed hmethM hpub
  have hway : ((cellB.cls :: s.vm.superclasses cellB.cls).any fun k => (declaredIn s.vm r.name r.desc k).any fun (_, z) => z.isPrivate || z.isStatic) = false := by
    rw [hnameR, hdescR]; exact Cond.unhidden_spec hcls hunh
  obtain ⟨c3, t3, w1, w2, w3⟩ := Cond.castable_spec hcast
  cases hcls.symm.trans w1
  cases hcL.symm.trans w2
  obtain ⟨vm₁, X₁, hstep₁⟩ := X.invokeinterface hexec hown hlink hn hrm hstR (by rw [hr0cls]; exact hkL) hiL hx (a := b) (cell := cellB) (kcell := kB) hcell
    (fun z h => by rw [h] at hobj; cases hobj) hkB (by rw [hr0cls]; exact w3) hselP hmethM hway hpubM habM (g := g) hg (argsL := argsL) (rest := rest) (hlen _ hsigR) hstack hdg
  rcases hK m meth c ⟨T.setVm vm₁, locs, cells, slots⟩ { g with stack := rest } (.invokeinterface index count) mk (Value.ref b :: argsL).toArray X₁ hg hsize hdg hW (X₁.named hnamed) (hpre vm₁ X₁.warmed) with ⟨v, B, X', hpost, hsteps⟩ | ⟨q, B, X', hpost, hsteps⟩
  · exact Or.inl ⟨v, vm₁, B, X₁.warmed, X', hpost, fun target h => hstep₁ _ fun acts => by rw [doInvoke_state]; exact hsteps.trans h⟩
  · exact Or.inr ⟨q, vm₁, B, X₁.warmed, X', hpost, hstep₁ _ fun acts => by rw [doInvoke_state]; exact hsteps⟩
theorem vx_runFW {x y : MethodName} {bytes cc : ByteArray} {maxL nL mc ms n index count : Nat} {ret : Option FieldType} {hh : List (Nat × Nat × Nat × Nat)} {ws : List Cond} {rm : Room} {Pc : Array Value → State → Prop} {Qc : Array Value → State → Outcome → State → Prop} {XC : String → State → State → Prop} {free : Addr → Prop} {Ts : List Cond} {own C : String} {cC : ClassId} {b : Addr} {As rest : List Value} {g : JFrame}
    (hat : ClassAt s C cC) (S : CallFix p m c cc nL s args Ts own) (hM : vx_Met l y ws rm Pc Qc XC mc ms free) (cw : va_CIW R s args own C index x y bytes maxL ret hh ws rm mc ms n) (hp : PreV s H C b Pc As)
    (hg : g.method = m) (hn : As.length = n) (hsize : g.locals.size = nL) (hstack : g.stack = As.reverse ++ .ref b :: rest) (hW : 2 * g.monitorRoom + (rest.map fun v => v.category).sum ≤ 8) (hdg : decode cc g.pc = .ok (.invokeinterface index count, 5)) (hf : cells + mc ≤ R.cells ∧ slots + ms ≤ R.slots) :
    vx_Run5 p l e R s m args below meth c H locs cells slots mc ms g rest (Qc (Value.ref b :: As).toArray) XC free := by
  obtain ⟨hrc, hrs, hfr, hlo, hws, hcw⟩ := cw.back
  have hini := cw.init
  have hK : vx_Back l R p e below s args y 5 8 (PreOf R mc ms Pc) (PostOf Qc mc ms free) (vx_Post XC mc ms free) := vx_backW (hh := hh) (bytes := bytes) (maxL := maxL) (ret := ret) hM hp.1 hrc hrs hfr hlo hws hcw (fun a' U hW => word_at hW (Or.inl (by first | rfl | simp [Cond.onTables, Cond.keeps, Cond.steady])) hini)
  obtain ⟨hx, hb, hml, ho, -⟩ := S
  obtain ⟨-, ⟨cellB, hcB, hoB, hclB⟩, hPc⟩ := hp
  obtain ⟨hfc, kB, hkB, -⟩ := hat
  cases hfc.symm.trans hclB
  intro T hT X
  rcases vx_callIFW X hx (C := C) (hh := hh) (bytes := bytes) (maxL := maxL) (ret := ret) ho cw.link cw.decl cw.face cw.sel cw.inst cw.pub cw.unh cw.cast cw.code cw.notMH hK (by rw [hT]; exact hcB) hoB hclB hkB hg (hsize.trans hml.symm) (argsL := As) (rest := rest) (fun sig h => hn.trans (cw.len sig h)) hstack hW (by rw [hb]; exact hdg)
    (fun vm₁ hW₁ => ⟨hf.1, hf.2, hPc (T.setVm vm₁) hT hW₁⟩) with ⟨v, vm₁, ⟨U', l2, c2, s2⟩, hW₁, X', ⟨g', mk, t, L, e1, e2, hq, h1, hL, h2, h3⟩, st⟩ | ⟨q, vm₁, ⟨U', l2, c2, s2⟩, hW₁, X', ⟨g', mk, t, L, E, ce, e1, e2, hq, hce, hcv, hcl, h1, hL, h2, h3⟩, st⟩
  · dsimp only [Pt.U, Pt.locs, Pt.cells, Pt.slots] at X' e1 e2 h1 h2 h3 st
    subst h1; subst h2; subst h3
    exact Or.inl ⟨v, (T.setVm vm₁).calling g' mk (Value.ref b :: As).toArray, t, U', L, hT, X', hL, e1, e2, hq, st⟩
  · dsimp only [Pt.U, Pt.locs, Pt.cells, Pt.slots] at X' e1 e2 h1 h2 h3 st hcl
    subst h1; subst h2; subst h3
    exact Or.inr ⟨q, (T.setVm vm₁).calling g' mk (Value.ref b :: As).toArray, t, U', L, E, ce, hT, X', hL, e1, e2, hq, hce, hcv, vx_cls hW₁ hcl, st⟩
end
/-! ===== END ===== -/
/-! ===== BEGIN .. of methods that hand back an object of the pool ===== -/
section
variable {p : Program} {l : Launch} {e : Env} {R : Room} {s : State} {m : MethodId} {args : Array Value} {below : List Frame} {meth : Method} {c : Code} {H : Heap} {locs : List Loc} {cells slots : Nat} {Q : State → Prop}
variable {mc ms : Nat} {free : Addr → Prop} {A0 A1 : Nat → Prop} {H0 : Heap} {a : Array Value} {pc : Nat} {ls : Array Slot} {st0 rest : List Value}
theorem vx_callq {S SX : Type} {post : Option Nat → S → Prop} {px : SX → Prop} {B : S → State → Prop} {BX : String → SX → State → Prop} {AX : Nat → Prop} (hr : vx_Run p l e R s m args below meth c H locs cells slots mc ms (F0 m pc ls st0) rest (va_Qq post B A1 a) (vx_X px BX AX) free) (hS : va_S A0 H0 H locs) (hA : ∀ q, q < H.size → A1 q → A0 q) (hf : ∀ q, free q → A0 q) (hAX : ∀ q, q < H.size → AX q → A0 q)
    (kx : ∀ (E : String) (ce : Cell) (q9 : Addr) (u : SX) (t : State) (H1 : Heap) (locs1 : List Loc), t.heap = H1 → s.vm.Alike t.vm → px u → BX E u t → H.size ≤ H1.size → (∀ q : Nat, q < H.size → ¬ AX q → H1[q]? = H[q]?) → va_S A0 H0 H1 locs1 → H1[q9]? = some ce → ce.vm = .none → s.vm.findClass E = some ce.cls → vx_W p l e R s m args below meth c H1 locs1 (cells + mc) (slots + ms) Q (F0 m pc ls rest) q9)
    (kk : ∀ (r : Option Nat) (u : S) (t : State) (H1 : Heap) (locs1 : List Loc), t.heap = H1 → s.vm.Alike t.vm → post r u → B u t → H.size ≤ H1.size → (∀ q : Nat, q < H.size → ¬ A1 q → H1[q]? = H[q]?) → va_S A0 H0 H1 locs1 → W p l e R s m args below meth c H1 locs1 (cells + mc) (slots + ms) Q (F0 m (pc + 3) ls (va_rf r :: rest))) : W p l e R s m args below meth c H locs cells slots Q (F0 m pc ls st0) := by
  intro T hT X
  rcases hr T hT X with ⟨v, st₀, t, T', L, h0, X', hL, e1, e2, ⟨⟨r, u, hv, hp, hb⟩, hF⟩, st⟩ | ⟨q, st₀, t, T', L, E, ce, h0, X', hL, e1, e2, ⟨u, hp, hb, hF⟩, hce, hcv, hcl, st⟩
  · cases hv
    obtain ⟨k1, k2, k3⟩ := vx_keep h0 e1 hS hA hf hL hF
    obtain ⟨t2, a1, b1⟩ := kk r u t T'.heap (locs ++ L) e1.symm (by rw [← e2]; exact X'.warmed.alike) hp hb k1 k2 k3 T' rfl X'
    exact ⟨t2, st t2 a1, b1⟩
  · obtain ⟨k1, k2, k3⟩ := vx_keep h0 e1 hS hAX hf hL hF
    obtain ⟨t2, a1, b1⟩ := kx E ce q u t T'.heap (locs ++ L) e1.symm (by rw [← e2]; exact X'.warmed.alike) hp hb k1 k2 k3 (by rw [e1]; exact hce) hcv hcl T' rfl X'
    exact ⟨t2, st.trans a1, b1⟩
end
/-! ===== END ===== -/
/-! ===== BEGIN .. a constant ===== -/
section
variable {p : Program} {l : Launch} {e : Env} {R : Room} {s : State} {m : MethodId} {args : Array Value} {below : List Frame} {meth : Method} {c : Code} {H : Heap} {locs : List Loc} {cells slots : Nat} {Q : State → Prop}
variable {mc ms : Nat} {free : Addr → Prop} {A0 A1 : Nat → Prop} {H0 : Heap} {a : Array Value} {pc : Nat} {ls : Array Slot} {st0 rest : List Value}
theorem vx_calle {ad : Nat → Nat} {S SX : Type} {post : Option Nat → S → Prop} {px : SX → Prop} {B : S → State → Prop} {BX : String → SX → State → Prop} {AX : Nat → Prop} (hr : vx_Run p l e R s m args below meth c H locs cells slots mc ms (F0 m pc ls st0) rest (va_Qe ad post B A1 a) (vx_X px BX AX) free) (hS : va_S A0 H0 H locs) (hA : ∀ q, q < H.size → A1 q → A0 q) (hf : ∀ q, free q → A0 q) (hAX : ∀ q, q < H.size → AX q → A0 q)
    (kx : ∀ (E : String) (ce : Cell) (q9 : Addr) (u : SX) (t : State) (H1 : Heap) (locs1 : List Loc), t.heap = H1 → s.vm.Alike t.vm → px u → BX E u t → H.size ≤ H1.size → (∀ q : Nat, q < H.size → ¬ AX q → H1[q]? = H[q]?) → va_S A0 H0 H1 locs1 → H1[q9]? = some ce → ce.vm = .none → s.vm.findClass E = some ce.cls → vx_W p l e R s m args below meth c H1 locs1 (cells + mc) (slots + ms) Q (F0 m pc ls rest) q9)
    (kk : ∀ (r : Option Nat) (u : S) (t : State) (H1 : Heap) (locs1 : List Loc), t.heap = H1 → s.vm.Alike t.vm → post r u → B u t → H.size ≤ H1.size → (∀ q : Nat, q < H.size → ¬ A1 q → H1[q]? = H[q]?) → va_S A0 H0 H1 locs1 → W p l e R s m args below meth c H1 locs1 (cells + mc) (slots + ms) Q (F0 m (pc + 3) ls (va_re ad r :: rest))) : W p l e R s m args below meth c H locs cells slots Q (F0 m pc ls st0) := by
  intro T hT X
  rcases hr T hT X with ⟨v, st₀, t, T', L, h0, X', hL, e1, e2, ⟨⟨r, u, hv, hp, hb⟩, hF⟩, st⟩ | ⟨q, st₀, t, T', L, E, ce, h0, X', hL, e1, e2, ⟨u, hp, hb, hF⟩, hce, hcv, hcl, st⟩
  · cases hv
    obtain ⟨k1, k2, k3⟩ := vx_keep h0 e1 hS hA hf hL hF
    obtain ⟨t2, a1, b1⟩ := kk r u t T'.heap (locs ++ L) e1.symm (by rw [← e2]; exact X'.warmed.alike) hp hb k1 k2 k3 T' rfl X'
    exact ⟨t2, st t2 a1, b1⟩
  · obtain ⟨k1, k2, k3⟩ := vx_keep h0 e1 hS hAX hf hL hF
    obtain ⟨t2, a1, b1⟩ := kx E ce q u t T'.heap (locs ++ L) e1.symm (by rw [← e2]; exact X'.warmed.alike) hp hb k1 k2 k3 (by rw [e1]; exact hce) hcv hcl T' rfl X'
    exact ⟨t2, st.trans a1, b1⟩
end
/-! ===== END ===== -/
/-! ===== BEGIN .. by an interface, an object ===== -/
section
variable {p : Program} {l : Launch} {e : Env} {R : Room} {s : State} {m : MethodId} {args : Array Value} {below : List Frame} {meth : Method} {c : Code} {H : Heap} {locs : List Loc} {cells slots : Nat} {Q : State → Prop}
variable {mc ms : Nat} {free : Addr → Prop} {A0 A1 : Nat → Prop} {H0 : Heap} {a : Array Value} {pc : Nat} {ls : Array Slot} {st0 rest : List Value}
theorem vx_callFq {S SX : Type} {post : Option Nat → S → Prop} {px : SX → Prop} {B : S → State → Prop} {BX : String → SX → State → Prop} {AX : Nat → Prop} (hr : vx_Run5 p l e R s m args below meth c H locs cells slots mc ms (F0 m pc ls st0) rest (va_Qq post B A1 a) (vx_X px BX AX) free) (hS : va_S A0 H0 H locs) (hA : ∀ q, q < H.size → A1 q → A0 q) (hf : ∀ q, free q → A0 q) (hAX : ∀ q, q < H.size → AX q → A0 q)
    (kx : ∀ (E : String) (ce : Cell) (q9 : Addr) (u : SX) (t : State) (H1 : Heap) (locs1 : List Loc), t.heap = H1 → s.vm.Alike t.vm → px u → BX E u t → H.size ≤ H1.size → (∀ q : Nat, q < H.size → ¬ AX q → H1[q]? = H[q]?) → va_S A0 H0 H1 locs1 → H1[q9]? = some ce → ce.vm = .none → s.vm.findClass E = some ce.cls → vx_W p l e R s m args below meth c H1 locs1 (cells + mc) (slots + ms) Q (F0 m pc ls rest) q9)
    (kk : ∀ (r : Option Nat) (u : S) (t : State) (H1 : Heap) (locs1 : List Loc), t.heap = H1 → s.vm.Alike t.vm → post r u → B u t → H.size ≤ H1.size → (∀ q : Nat, q < H.size → ¬ A1 q → H1[q]? = H[q]?) → va_S A0 H0 H1 locs1 → W p l e R s m args below meth c H1 locs1 (cells + mc) (slots + ms) Q (F0 m (pc + 5) ls (va_rf r :: rest))) : W p l e R s m args below meth c H locs cells slots Q (F0 m pc ls st0) := by
  intro T hT X
  rcases hr T hT X with ⟨v, st₀, t, T', L, h0, X', hL, e1, e2, ⟨⟨r, u, hv, hp, hb⟩, hF⟩, st⟩ | ⟨q, st₀, t, T', L, E, ce, h0, X', hL, e1, e2, ⟨u, hp, hb, hF⟩, hce, hcv, hcl, st⟩
  · cases hv
    obtain ⟨k1, k2, k3⟩ := vx_keep h0 e1 hS hA hf hL hF
    obtain ⟨t2, a1, b1⟩ := kk r u t T'.heap (locs ++ L) e1.symm (by rw [← e2]; exact X'.warmed.alike) hp hb k1 k2 k3 T' rfl X'
    exact ⟨t2, st t2 a1, b1⟩
  · obtain ⟨k1, k2, k3⟩ := vx_keep h0 e1 hS hAX hf hL hF
    obtain ⟨t2, a1, b1⟩ := kx E ce q u t T'.heap (locs ++ L) e1.symm (by rw [← e2]; exact X'.warmed.alike) hp hb k1 k2 k3 (by rw [e1]; exact hce) hcv hcl T' rfl X'
    exact ⟨t2, st.trans a1, b1⟩
end
/-! ===== END ===== -/
/-! ===== BEGIN .. by an interface, a constant ===== -/
section
variable {p : Program} {l : Launch} {e : Env} {R : Room} {s : State} {m : MethodId} {args : Array Value} {below : List Frame} {meth : Method} {c : Code} {H : Heap} {locs : List Loc} {cells slots : Nat} {Q : State → Prop}
variable {mc ms : Nat} {free : Addr → Prop} {A0 A1 : Nat → Prop} {H0 : Heap} {a : Array Value} {pc : Nat} {ls : Array Slot} {st0 rest : List Value}
theorem vx_callFe {ad : Nat → Nat} {S SX : Type} {post : Option Nat → S → Prop} {px : SX → Prop} {B : S → State → Prop} {BX : String → SX → State → Prop} {AX : Nat → Prop} (hr : vx_Run5 p l e R s m args below meth c H locs cells slots mc ms (F0 m pc ls st0) rest (va_Qe ad post B A1 a) (vx_X px BX AX) free) (hS : va_S A0 H0 H locs) (hA : ∀ q, q < H.size → A1 q → A0 q) (hf : ∀ q, free q → A0 q) (hAX : ∀ q, q < H.size → AX q → A0 q)
    (kx : ∀ (E : String) (ce : Cell) (q9 : Addr) (u : SX) (t : State) (H1 : Heap) (locs1 : List Loc), t.heap = H1 → s.vm.Alike t.vm → px u → BX E u t → H.size ≤ H1.size → (∀ q : Nat, q < H.size → ¬ AX q → H1[q]? = H[q]?) → va_S A0 H0 H1 locs1 → H1[q9]? = some ce → ce.vm = .none → s.vm.findClass E = some ce.cls → vx_W p l e R s m args below meth c H1 locs1 (cells + mc) (slots + ms) Q (F0 m pc ls rest) q9)
    (kk : ∀ (r : Option Nat) (u : S) (t : State) (H1 : Heap) (locs1 : List Loc), t.heap = H1 → s.vm.Alike t.vm → post r u → B u t → H.size ≤ H1.size → (∀ q : Nat, q < H.size → ¬ A1 q → H1[q]? = H[q]?) → va_S A0 H0 H1 locs1 → W p l e R s m args below meth c H1 locs1 (cells + mc) (slots + ms) Q (F0 m (pc + 5) ls (va_re ad r :: rest))) : W p l e R s m args below meth c H locs cells slots Q (F0 m pc ls st0) := by
  intro T hT X
  rcases hr T hT X with ⟨v, st₀, t, T', L, h0, X', hL, e1, e2, ⟨⟨r, u, hv, hp, hb⟩, hF⟩, st⟩ | ⟨q, st₀, t, T', L, E, ce, h0, X', hL, e1, e2, ⟨u, hp, hb, hF⟩, hce, hcv, hcl, st⟩
  · cases hv
    obtain ⟨k1, k2, k3⟩ := vx_keep h0 e1 hS hA hf hL hF
    obtain ⟨t2, a1, b1⟩ := kk r u t T'.heap (locs ++ L) e1.symm (by rw [← e2]; exact X'.warmed.alike) hp hb k1 k2 k3 T' rfl X'
    exact ⟨t2, st t2 a1, b1⟩
  · obtain ⟨k1, k2, k3⟩ := vx_keep h0 e1 hS hAX hf hL hF
    obtain ⟨t2, a1, b1⟩ := kx E ce q u t T'.heap (locs ++ L) e1.symm (by rw [← e2]; exact X'.warmed.alike) hp hb k1 k2 k3 (by rw [e1]; exact hce) hcv hcl T' rfl X'
    exact ⟨t2, st.trans a1, b1⟩
end
/-! ===== END ===== -/
/-! ===== BEGIN what the machine throws by itself: null at a field, at athrow ===== -/
section VXM2
variable {p : Program} {l : Launch} {e : Env} {R : Room} {s : State} {m : MethodId} {args : Array Value} {below : List Frame} {meth : Method} {c : Code} {H : Heap} {locs : List Loc} {cells slots : Nat}
variable {Q : State → Prop} {cc : ByteArray} {pc : Nat} {ls : Array Slot} {rest : List Value}
theorem vx_getfN {D cl tys} {own ref C : String} {T : u_T} {N ci index : Nat} {Ts : List Cond} (hexec : p.tables.exec = Jvm.exec) (hb : c.code = cc) (hts : ∀ w ∈ Ts, w.before args s = true) (hin : ∀ w ∈ u_ws C T N, w ∈ Ts) (hown : s.vm.findClass own = some m.cls) (hK : va_K D cl tys s) (hc : cl[ci]? = some (C, T, N)) (k : Nat) (hk : k < N) (hlink : (Cond.fieldLink own index ref (T k).2.1 (T k).2.2.1).before args s = true) (hsame : ∀ x, s.fieldFound? (T k).1 (T k).2.1 (T k).2.2.1 = some x → s.fieldFound? ref (T k).2.1 (T k).2.2.1 = some x) (hdg : decode cc pc = .ok (.getfield index, 3)) (kk : vx_NoteN p l e R s m args below meth c H locs cells slots Q (F0 m pc ls rest)) : W p l e R s m args below meth c H locs cells slots Q (F0 m pc ls (.null :: rest)) := by
  obtain ⟨hS, hfc, kC, hkC, -⟩ := hK.1 ci _ hc
  obtain ⟨cf, kf, fi, f, hi, -⟩ := hS k hk
  intro U hU X
  obtain ⟨vm', X1, st1⟩ := X.getfieldNull hexec hown hlink (hsame _ hi) (u_facts hfc hkC (u_lays hts hin hk) hi).1 (g := F0 m pc ls (.null :: rest)) rfl (rest := rest) rfl (by rw [hb]; exact hdg)
  obtain ⟨t, st, q⟩ := kk (U.setVm vm') hU X1
  exact ⟨t, st1 t st, q⟩
theorem vx_getfNN {D cl tys} {own ref C host : String} {T : u_T} {N ci index : Nat} {Ts : List Cond} (hexec : p.tables.exec = Jvm.exec) (hb : c.code = cc) (hts : ∀ w ∈ Ts, w.before args s = true) (hin : ∀ w ∈ u_ws C T N, w ∈ Ts) (hown : s.vm.findClass own = some m.cls) (hK : va_K D cl tys s) (hc : cl[ci]? = some (C, T, N)) (k : Nat) (hk : k < N) (hlink : (Cond.fieldLinkNest own index ref (T k).2.1 (T k).2.2.1 host).before args s = true) (hsame : ∀ x, s.fieldFound? (T k).1 (T k).2.1 (T k).2.2.1 = some x → s.fieldFound? ref (T k).2.1 (T k).2.2.1 = some x) (hdg : decode cc pc = .ok (.getfield index, 3)) (kk : vx_NoteN p l e R s m args below meth c H locs cells slots Q (F0 m pc ls rest)) : W p l e R s m args below meth c H locs cells slots Q (F0 m pc ls (.null :: rest)) := by
  obtain ⟨hS, hfc, kC, hkC, -⟩ := hK.1 ci _ hc
  obtain ⟨cf, kf, fi, f, hi, -⟩ := hS k hk
  intro U hU X
  obtain ⟨vm', X1, st1⟩ := X.getfieldNullNest hexec hown hlink (hsame _ hi) (u_facts hfc hkC (u_lays hts hin hk) hi).1 (g := F0 m pc ls (.null :: rest)) rfl (rest := rest) rfl (by rw [hb]; exact hdg)
  obtain ⟨t, st, q⟩ := kk (U.setVm vm') hU X1
  exact ⟨t, st1 t st, q⟩
theorem vx_putfN {D cl tys} {own ref C : String} {T : u_T} {N ci index : Nat} {Ts : List Cond} (hexec : p.tables.exec = Jvm.exec) (hb : c.code = cc) (hts : ∀ w ∈ Ts, w.before args s = true) (hin : ∀ w ∈ u_ws C T N, w ∈ Ts) (hown : s.vm.findClass own = some m.cls) (hK : va_K D cl tys s) (hc : cl[ci]? = some (C, T, N)) (k : Nat) (hk : k < N) (hlink : (Cond.fieldLink own index ref (T k).2.1 (T k).2.2.1).before args s = true) (hsame : ∀ x, s.fieldFound? (T k).1 (T k).2.1 (T k).2.2.1 = some x → s.fieldFound? ref (T k).2.1 (T k).2.2.1 = some x) (hfin : (T k).2.2.2 = false) {v : Value} (hdg : decode cc pc = .ok (.putfield index, 3)) (kk : vx_NoteN p l e R s m args below meth c H locs cells slots Q (F0 m pc ls rest)) : W p l e R s m args below meth c H locs cells slots Q (F0 m pc ls (v :: .null :: rest)) := by
  obtain ⟨hS, hfc, kC, hkC, -⟩ := hK.1 ci _ hc
  obtain ⟨cf, kf, fi, f, hi, -⟩ := hS k hk
  have hlay := hts _ (hin _ (u_in_lay hk))
  unfold u_lay at hlay
  rw [if_neg (by rw [hfin]; decide)] at hlay
  obtain ⟨c9, k9, cf9, kf9, fi9, f9, -, -, hi9, hst9, hnf9, -⟩ := Cond.lays_spec hlay
  cases hi.symm.trans hi9
  intro U hU X
  obtain ⟨vm', X1, st1⟩ := X.putfieldNull hexec hown hlink (hsame _ hi) hst9 hnf9 (g := F0 m pc ls (v :: .null :: rest)) rfl (v := v) (rest := rest) rfl (by rw [hb]; exact hdg)
  obtain ⟨t, st, q⟩ := kk (U.setVm vm') hU X1
  exact ⟨t, st1 t st, q⟩
theorem vx_putfNN {D cl tys} {own ref C host : String} {T : u_T} {N ci index : Nat} {Ts : List Cond} (hexec : p.tables.exec = Jvm.exec) (hb : c.code = cc) (hts : ∀ w ∈ Ts, w.before args s = true) (hin : ∀ w ∈ u_ws C T N, w ∈ Ts) (hown : s.vm.findClass own = some m.cls) (hK : va_K D cl tys s) (hc : cl[ci]? = some (C, T, N)) (k : Nat) (hk : k < N) (hlink : (Cond.fieldLinkNest own index ref (T k).2.1 (T k).2.2.1 host).before args s = true) (hsame : ∀ x, s.fieldFound? (T k).1 (T k).2.1 (T k).2.2.1 = some x → s.fieldFound? ref (T k).2.1 (T k).2.2.1 = some x) (hfin : (T k).2.2.2 = false) {v : Value} (hdg : decode cc pc = .ok (.putfield index, 3)) (kk : vx_NoteN p l e R s m args below meth c H locs cells slots Q (F0 m pc ls rest)) : W p l e R s m args below meth c H locs cells slots Q (F0 m pc ls (v :: .null :: rest)) := by
  obtain ⟨hS, hfc, kC, hkC, -⟩ := hK.1 ci _ hc
  obtain ⟨cf, kf, fi, f, hi, -⟩ := hS k hk
  have hlay := hts _ (hin _ (u_in_lay hk))
  unfold u_lay at hlay
  rw [if_neg (by rw [hfin]; decide)] at hlay
  obtain ⟨c9, k9, cf9, kf9, fi9, f9, -, -, hi9, hst9, hnf9, -⟩ := Cond.lays_spec hlay
  cases hi.symm.trans hi9
  intro U hU X
  obtain ⟨vm', X1, st1⟩ := X.putfieldNullNest hexec hown hlink (hsame _ hi) hst9 hnf9 (g := F0 m pc ls (v :: .null :: rest)) rfl (v := v) (rest := rest) rfl (by rw [hb]; exact hdg)
  obtain ⟨t, st, q⟩ := kk (U.setVm vm') hU X1
  exact ⟨t, st1 t st, q⟩
theorem vx_athrowN (hexec : p.tables.exec = Jvm.exec) (hb : c.code = cc) (hdg : decode cc pc = .ok (.athrow, 1)) (k : vx_NoteN p l e R s m args below meth c H locs cells slots Q (F0 m pc ls rest)) : W p l e R s m args below meth c H locs cells slots Q (F0 m pc ls (.null :: rest)) := by
  intro T hT X
  obtain ⟨t, st, q⟩ := k T hT X
  exact ⟨t, X.athrowNull hexec (g := F0 m pc ls (.null :: rest)) rfl (rest := rest) rfl (by rw [hb]; exact hdg) t st, q⟩
end VXM2
/-! ===== END ===== -/
end
section
/-! ===== BEGIN printed: names, fields, word lists, decode rows ===== -/
def RX0 : String := "DiamondBook$Gem"
def TX0 : u_T := fun k => match k with
  | 0 => ("DiamondBook$Gem", "rough", "I", true)
  | 1 => ("DiamondBook$Gem", "clarity", "I", true)
  | 2 => ("DiamondBook$Gem", "origin", "I", true)
  | 3 => ("DiamondBook$Gem", "owner", "I", true)
  | 4 => ("DiamondBook$Gem", "firstCell", "I", true)
  | 5 => ("DiamondBook$Gem", "cells", "I", true)
  | 6 => ("DiamondBook$Gem", "looks", "LDiamondBook$Opinions;", true)
  | 7 => ("DiamondBook$Gem", "weight", "I", false)
  | _ => ("DiamondBook$Gem", "paperPit", "I", false)
def tyX0 : Nat → FieldType := fun k => match k with
  | 0 => .int
  | 1 => .int
  | 2 => .int
  | 3 => .int
  | 4 => .int
  | 5 => .int
  | 6 => .object "DiamondBook$Opinions"
  | 7 => .int
  | _ => .int
abbrev wsX00 : List Cond := u_ws RX0 TX0 9
theorem nmX0 : ∀ a, a < 9 → ∀ b, b < 9 → a ≠ b → (TX0 a).2.1 ≠ (TX0 b).2.1 := by decide +kernel
theorem tyX0_ok : ∀ k, k < 9 → parseFieldDescriptor (TX0 k).2.2.1 = some (tyX0 k) := by decide +kernel
abbrev cX0_init : ByteArray := prog_2_method_1_code
def yX0_init : MethodName := ⟨RX0, "<init>", "(LDiamondBook$Rough;II)V"⟩
abbrev cX0_grade : ByteArray := prog_2_method_2_code
def yX0_grade : MethodName := ⟨RX0, "grade", "()I"⟩
abbrev cX0_gradedPrice : ByteArray := prog_2_method_3_code
def yX0_gradedPrice : MethodName := ⟨RX0, "gradedPrice", "()I"⟩
def RX1 : String := "DiamondBook$Opinions"
def TX1 : u_T := fun k => match k with
  | 0 => ("DiamondBook$Opinions", "tellers", "I", false)
  | 1 => ("DiamondBook$Opinions", "count", "I", false)
  | 2 => ("DiamondBook$Opinions", "first", "I", false)
  | 3 => ("DiamondBook$Opinions", "second", "I", false)
  | _ => ("DiamondBook$Opinions", "third", "I", false)
def tyX1 : Nat → FieldType := fun k => match k with
  | 0 => .int
  | 1 => .int
  | 2 => .int
  | 3 => .int
  | _ => .int
abbrev wsX10 : List Cond := u_ws RX1 TX1 5
theorem nmX1 : ∀ a, a < 5 → ∀ b, b < 5 → a ≠ b → (TX1 a).2.1 ≠ (TX1 b).2.1 := by decide +kernel
theorem tyX1_ok : ∀ k, k < 5 → parseFieldDescriptor (TX1 k).2.2.1 = some (tyX1 k) := by decide +kernel
abbrev cX1_init : ByteArray := prog_3_method_1_code
def yX1_init : MethodName := ⟨RX1, "<init>", "()V"⟩
abbrev cX1_isBy : ByteArray := prog_3_method_2_code
def yX1_isBy : MethodName := ⟨RX1, "isBy", "(I)Z"⟩
abbrev cX1_isFull : ByteArray := prog_3_method_3_code
def yX1_isFull : MethodName := ⟨RX1, "isFull", "()Z"⟩
abbrev cX1_add : ByteArray := prog_3_method_4_code
def yX1_add : MethodName := ⟨RX1, "add", "(II)V"⟩
abbrev cX1_middle : ByteArray := prog_3_method_5_code
def yX1_middle : MethodName := ⟨RX1, "middle", "()I"⟩
def RX2 : String := "DiamondBook$PriceBook"
def TX2 : u_T := fun k => match k with
  | _ => ("DiamondBook$PriceBook", "caratPrices", "[I", true)
def tyX2 : Nat → FieldType := fun k => match k with
  | _ => .array .int
abbrev wsX20 : List Cond := u_ws RX2 TX2 1
theorem nmX2 : ∀ a, a < 1 → ∀ b, b < 1 → a ≠ b → (TX2 a).2.1 ≠ (TX2 b).2.1 := by decide +kernel
theorem tyX2_ok : ∀ k, k < 1 → parseFieldDescriptor (TX2 k).2.2.1 = some (tyX2 k) := by decide +kernel
abbrev cX2_init : ByteArray := prog_4_method_1_code
def yX2_init : MethodName := ⟨RX2, "<init>", "()V"⟩
abbrev cX2_caratPrice : ByteArray := prog_4_method_2_code
def yX2_caratPrice : MethodName := ⟨RX2, "caratPrice", "(II)I"⟩
abbrev cX2_setCaratPrice : ByteArray := prog_4_method_3_code
def yX2_setCaratPrice : MethodName := ⟨RX2, "setCaratPrice", "(III)V"⟩
abbrev cX2_worthOf : ByteArray := prog_4_method_4_code
def yX2_worthOf : MethodName := ⟨RX2, "worthOf", "(LDiamondBook$Rough;)I"⟩
def RX3 : String := "DiamondBook$Rough"
def TX3 : u_T := fun k => match k with
  | 0 => ("DiamondBook$Rough", "number", "I", true)
  | 1 => ("DiamondBook$Rough", "lot", "I", true)
  | 2 => ("DiamondBook$Rough", "pit", "I", true)
  | 3 => ("DiamondBook$Rough", "weight", "I", true)
  | 4 => ("DiamondBook$Rough", "colour", "I", true)
  | 5 => ("DiamondBook$Rough", "clarity", "I", true)
  | 6 => ("DiamondBook$Rough", "flaws", "I", true)
  | 7 => ("DiamondBook$Rough", "sorts", "LDiamondBook$Opinions;", true)
  | 8 => ("DiamondBook$Rough", "state", "I", false)
  | 9 => ("DiamondBook$Rough", "owner", "I", false)
  | 10 => ("DiamondBook$Rough", "box", "I", false)
  | _ => ("DiamondBook$Rough", "paid", "I", false)
def tyX3 : Nat → FieldType := fun k => match k with
  | 0 => .int
  | 1 => .int
  | 2 => .int
  | 3 => .int
  | 4 => .int
  | 5 => .int
  | 6 => .int
  | 7 => .object "DiamondBook$Opinions"
  | 8 => .int
  | 9 => .int
  | 10 => .int
  | _ => .int
abbrev wsX30 : List Cond := u_ws RX3 TX3 12
theorem nmX3 : ∀ a, a < 12 → ∀ b, b < 12 → a ≠ b → (TX3 a).2.1 ≠ (TX3 b).2.1 := by decide +kernel
theorem tyX3_ok : ∀ k, k < 12 → parseFieldDescriptor (TX3 k).2.2.1 = some (tyX3 k) := by decide +kernel
abbrev cX3_init : ByteArray := prog_5_method_1_code
def yX3_init : MethodName := ⟨RX3, "<init>", "(IIIIIII)V"⟩
abbrev cX3_size : ByteArray := prog_5_method_2_code
def yX3_size : MethodName := ⟨RX3, "size", "()I"⟩
abbrev cX3_quality : ByteArray := prog_5_method_3_code
def yX3_quality : MethodName := ⟨RX3, "quality", "()I"⟩
abbrev cX3_isDoubtful : ByteArray := prog_5_method_4_code
def yX3_isDoubtful : MethodName := ⟨RX3, "isDoubtful", "()Z"⟩
abbrev cX3_canBeBoxed : ByteArray := prog_5_method_5_code
def yX3_canBeBoxed : MethodName := ⟨RX3, "canBeBoxed", "()Z"⟩
abbrev cX3_enterBox : ByteArray := prog_5_method_6_code
def yX3_enterBox : MethodName := ⟨RX3, "enterBox", "(I)V"⟩
abbrev cX3_leaveBox : ByteArray := prog_5_method_7_code
def yX3_leaveBox : MethodName := ⟨RX3, "leaveBox", "()V"⟩
abbrev cX3_sellTo : ByteArray := prog_5_method_8_code
def yX3_sellTo : MethodName := ⟨RX3, "sellTo", "(I)V"⟩
def RX4 : String := "DiamondBook$Tender"
def TX4 : u_T := fun k => match k with
  | 0 => ("DiamondBook$Tender", "rough", "LDiamondBook$Rough;", false)
  | 1 => ("DiamondBook$Tender", "reserve", "I", false)
  | _ => ("DiamondBook$Tender", "bids", "[I", true)
def tyX4 : Nat → FieldType := fun k => match k with
  | 0 => .object "DiamondBook$Rough"
  | 1 => .int
  | _ => .array .int
abbrev wsX40 : List Cond := u_ws RX4 TX4 3
theorem nmX4 : ∀ a, a < 3 → ∀ b, b < 3 → a ≠ b → (TX4 a).2.1 ≠ (TX4 b).2.1 := by decide +kernel
theorem tyX4_ok : ∀ k, k < 3 → parseFieldDescriptor (TX4 k).2.2.1 = some (tyX4 k) := by decide +kernel
abbrev cX4_init : ByteArray := prog_6_method_1_code
def yX4_init : MethodName := ⟨RX4, "<init>", "()V"⟩
abbrev cX4_isOn : ByteArray := prog_6_method_2_code
def yX4_isOn : MethodName := ⟨RX4, "isOn", "()Z"⟩
abbrev cX4_begin : ByteArray := prog_6_method_3_code
def yX4_begin : MethodName := ⟨RX4, "begin", "(LDiamondBook$Rough;I)V"⟩
abbrev cX4_end : ByteArray := prog_6_method_4_code
def yX4_end : MethodName := ⟨RX4, "end", "()V"⟩
abbrev cX4_bidOf : ByteArray := prog_6_method_5_code
def yX4_bidOf : MethodName := ⟨RX4, "bidOf", "(I)I"⟩
abbrev cX4_setBid : ByteArray := prog_6_method_6_code
def yX4_setBid : MethodName := ⟨RX4, "setBid", "(II)V"⟩
abbrev cX4_paymentOf : ByteArray := prog_6_method_7_code
def yX4_paymentOf : MethodName := ⟨RX4, "paymentOf", "(I)I"⟩
def RX5 : String := "DiamondBook"
def TX5 : u_T := fun k => match k with
  | 0 => ("DiamondBook", "parcelPits", "[I", true)
  | 1 => ("DiamondBook", "parcelCount", "I", false)
  | 2 => ("DiamondBook", "roughs", "[LDiamondBook$Rough;", true)
  | 3 => ("DiamondBook", "roughCount", "I", false)
  | 4 => ("DiamondBook", "drifts", "[I", true)
  | 5 => ("DiamondBook", "book", "LDiamondBook$PriceBook;", true)
  | 6 => ("DiamondBook", "conducts", "[I", true)
  | 7 => ("DiamondBook", "offers", "[I", true)
  | 8 => ("DiamondBook", "boxSums", "[I", true)
  | 9 => ("DiamondBook", "boxCount", "I", false)
  | 10 => ("DiamondBook", "sale", "LDiamondBook$Tender;", true)
  | 11 => ("DiamondBook", "gems", "[LDiamondBook$Gem;", true)
  | 12 => ("DiamondBook", "gemCount", "I", false)
  | 13 => ("DiamondBook", "dust", "I", false)
  | 14 => ("DiamondBook", "scales", "[I", true)
  | 15 => ("DiamondBook", "came", "[I", true)
  | _ => ("DiamondBook", "covered", "[I", true)
def tyX5 : Nat → FieldType := fun k => match k with
  | 0 => .array .int
  | 1 => .int
  | 2 => .array (.object "DiamondBook$Rough")
  | 3 => .int
  | 4 => .array .int
  | 5 => .object "DiamondBook$PriceBook"
  | 6 => .array .int
  | 7 => .array .int
  | 8 => .array .int
  | 9 => .int
  | 10 => .object "DiamondBook$Tender"
  | 11 => .array (.object "DiamondBook$Gem")
  | 12 => .int
  | 13 => .int
  | 14 => .array .int
  | 15 => .array .int
  | _ => .array .int
abbrev wsX50 : List Cond := u_ws RX5 TX5 17
theorem nmX5 : ∀ a, a < 17 → ∀ b, b < 17 → a ≠ b → (TX5 a).2.1 ≠ (TX5 b).2.1 := by decide +kernel
theorem tyX5_ok : ∀ k, k < 17 → parseFieldDescriptor (TX5 k).2.2.1 = some (tyX5 k) := by decide +kernel
abbrev cX5_init : ByteArray := prog_1_method_1_code
def yX5_init : MethodName := ⟨RX5, "<init>", "()V"⟩
abbrev cX5_parcel : ByteArray := prog_1_method_2_code
def yX5_parcel : MethodName := ⟨RX5, "parcel", "(I)I"⟩
abbrev cX5_stone : ByteArray := prog_1_method_3_code
def yX5_stone : MethodName := ⟨RX5, "stone", "(IIIII)I"⟩
abbrev cX5_drift : ByteArray := prog_1_method_4_code
def yX5_drift : MethodName := ⟨RX5, "drift", "(II)I"⟩
abbrev cX5_sort : ByteArray := prog_1_method_5_code
def yX5_sort : MethodName := ⟨RX5, "sort", "(II)I"⟩
abbrev cX5_price : ByteArray := prog_1_method_6_code
def yX5_price : MethodName := ⟨RX5, "price", "(III)I"⟩
abbrev cX5_value : ByteArray := prog_1_method_7_code
def yX5_value : MethodName := ⟨RX5, "value", "(I)I"⟩
abbrev cX5_stoneIs : ByteArray := prog_1_method_8_code
def yX5_stoneIs : MethodName := ⟨RX5, "stoneIs", "(II)I"⟩
abbrev cX5_boxes : ByteArray := prog_1_method_9_code
def yX5_boxes : MethodName := ⟨RX5, "boxes", "(I)I"⟩
abbrev cX5_boxValue : ByteArray := prog_1_method_10_code
def yX5_boxValue : MethodName := ⟨RX5, "boxValue", "(I)I"⟩
abbrev cX5_offered : ByteArray := prog_1_method_11_code
def yX5_offered : MethodName := ⟨RX5, "offered", "(I)I"⟩
abbrev cX5_take : ByteArray := prog_1_method_12_code
def yX5_take : MethodName := ⟨RX5, "take", "(IZ)I"⟩
abbrev cX5_tender : ByteArray := prog_1_method_13_code
def yX5_tender : MethodName := ⟨RX5, "tender", "(II)V"⟩
abbrev cX5_bid : ByteArray := prog_1_method_14_code
def yX5_bid : MethodName := ⟨RX5, "bid", "(II)I"⟩
abbrev cX5_close : ByteArray := prog_1_method_15_code
def yX5_close : MethodName := ⟨RX5, "close", "()I"⟩
abbrev cX5_plan : ByteArray := prog_1_method_16_code
def yX5_plan : MethodName := ⟨RX5, "plan", "(I)I"⟩
abbrev cX5_planAnew : ByteArray := prog_1_method_17_code
def yX5_planAnew : MethodName := ⟨RX5, "planAnew", "(I)I"⟩
abbrev cX5_cut : ByteArray := prog_1_method_18_code
def yX5_cut : MethodName := ⟨RX5, "cut", "(I)I"⟩
abbrev cX5_recut : ByteArray := prog_1_method_19_code
def yX5_recut : MethodName := ⟨RX5, "recut", "(II)I"⟩
abbrev cX5_polished : ByteArray := prog_1_method_20_code
def yX5_polished : MethodName := ⟨RX5, "polished", "(II)I"⟩
abbrev cX5_scale : ByteArray := prog_1_method_21_code
def yX5_scale : MethodName := ⟨RX5, "scale", "(II)I"⟩
abbrev cX5_look : ByteArray := prog_1_method_22_code
def yX5_look : MethodName := ⟨RX5, "look", "(II)I"⟩
abbrev cX5_paper : ByteArray := prog_1_method_23_code
def yX5_paper : MethodName := ⟨RX5, "paper", "(II)I"⟩
abbrev cX5_all : ByteArray := prog_1_method_24_code
def yX5_all : MethodName := ⟨RX5, "all", "(I)I"⟩
abbrev cX5_isIn : ByteArray := prog_1_method_25_code
def yX5_isIn : MethodName := ⟨RX5, "isIn", "(II)Z"⟩
abbrev cX5_needIndex : ByteArray := prog_1_method_26_code
def yX5_needIndex : MethodName := ⟨RX5, "needIndex", "(II)V"⟩
abbrev cX5_needRange : ByteArray := prog_1_method_27_code
def yX5_needRange : MethodName := ⟨RX5, "needRange", "(III)V"⟩
abbrev cX5_within : ByteArray := prog_1_method_28_code
def yX5_within : MethodName := ⟨RX5, "within", "(III)I"⟩
abbrev cX5_knownStone : ByteArray := prog_1_method_29_code
def yX5_knownStone : MethodName := ⟨RX5, "knownStone", "(I)LDiamondBook$Rough;"⟩
abbrev cX5_knownGem : ByteArray := prog_1_method_30_code
def yX5_knownGem : MethodName := ⟨RX5, "knownGem", "(I)LDiamondBook$Gem;"⟩
abbrev cX5_pitOf : ByteArray := prog_1_method_31_code
def yX5_pitOf : MethodName := ⟨RX5, "pitOf", "(I)I"⟩
abbrev cX5_addTo : ByteArray := prog_1_method_32_code
def yX5_addTo : MethodName := ⟨RX5, "addTo", "([III)V"⟩
abbrev cX5_sumOf : ByteArray := prog_1_method_33_code
def yX5_sumOf : MethodName := ⟨RX5, "sumOf", "([I)I"⟩
abbrev cX5_roughWeight : ByteArray := prog_1_method_34_code
def yX5_roughWeight : MethodName := ⟨RX5, "roughWeight", "()I"⟩
abbrev cX5_polishedWeight : ByteArray := prog_1_method_35_code
def yX5_polishedWeight : MethodName := ⟨RX5, "polishedWeight", "()I"⟩
abbrev cX5_wrongPapers : ByteArray := prog_1_method_36_code
def yX5_wrongPapers : MethodName := ⟨RX5, "wrongPapers", "()I"⟩
abbrev cX5_openBoxes : ByteArray := prog_1_method_37_code
def yX5_openBoxes : MethodName := ⟨RX5, "openBoxes", "()V"⟩
abbrev cX5_fillBoxes : ByteArray := prog_1_method_38_code
def yX5_fillBoxes : MethodName := ⟨RX5, "fillBoxes", "()I"⟩
abbrev cX5_dearestToBox : ByteArray := prog_1_method_39_code
def yX5_dearestToBox : MethodName := ⟨RX5, "dearestToBox", "()LDiamondBook$Rough;"⟩
abbrev cX5_poorestBox : ByteArray := prog_1_method_40_code
def yX5_poorestBox : MethodName := ⟨RX5, "poorestBox", "()I"⟩
abbrev cX5_offerBoxes : ByteArray := prog_1_method_41_code
def yX5_offerBoxes : MethodName := ⟨RX5, "offerBoxes", "()V"⟩
abbrev cX5_bestFreeBuyer : ByteArray := prog_1_method_42_code
def yX5_bestFreeBuyer : MethodName := ⟨RX5, "bestFreeBuyer", "()I"⟩
abbrev cX5_richestFreeBox : ByteArray := prog_1_method_43_code
def yX5_richestFreeBox : MethodName := ⟨RX5, "richestFreeBox", "()I"⟩
abbrev cX5_isOffered : ByteArray := prog_1_method_44_code
def yX5_isOffered : MethodName := ⟨RX5, "isOffered", "(I)Z"⟩
abbrev cX5_changeConduct : ByteArray := prog_1_method_45_code
def yX5_changeConduct : MethodName := ⟨RX5, "changeConduct", "(II)I"⟩
abbrev cX5_endTenderOf : ByteArray := prog_1_method_46_code
def yX5_endTenderOf : MethodName := ⟨RX5, "endTenderOf", "(LDiamondBook$Rough;)V"⟩
abbrev cX5_tenderWinner : ByteArray := prog_1_method_47_code
def yX5_tenderWinner : MethodName := ⟨RX5, "tenderWinner", "()I"⟩
abbrev cX5_outbids : ByteArray := prog_1_method_48_code
def yX5_outbids : MethodName := ⟨RX5, "outbids", "(II)Z"⟩
abbrev cX5_isClear : ByteArray := prog_1_method_49_code
def yX5_isClear : MethodName := ⟨RX5, "isClear", "(II)Z"⟩
abbrev cX5_plannedAt : ByteArray := prog_1_method_50_code
def yX5_plannedAt : MethodName := ⟨RX5, "plannedAt", "(II)I"⟩
abbrev cX5_plannedCount : ByteArray := prog_1_method_51_code
def yX5_plannedCount : MethodName := ⟨RX5, "plannedCount", "(I)I"⟩
abbrev cX5_worthwhile : ByteArray := prog_1_method_52_code
def yX5_worthwhile : MethodName := ⟨RX5, "worthwhile", "(I)I"⟩
abbrev cX5_worthBetween : ByteArray := prog_1_method_53_code
def yX5_worthBetween : MethodName := ⟨RX5, "worthBetween", "(I)I"⟩
abbrev cX5_keepGem : ByteArray := prog_1_method_54_code
def yX5_keepGem : MethodName := ⟨RX5, "keepGem", "(LDiamondBook$Gem;)V"⟩
def RX6 : String := "DiamondBookModel"
def TX6 : u_T := fun k => match k with
  | 0 => ("DiamondBookModel", "thrown", "I", false)
  | 1 => ("DiamondBookModel", "parcels", "I", false)
  | 2 => ("DiamondBookModel", "pitOf", "[I", true)
  | 3 => ("DiamondBookModel", "stones", "I", false)
  | 4 => ("DiamondBookModel", "parcelOf", "[I", true)
  | 5 => ("DiamondBookModel", "weight", "[I", true)
  | 6 => ("DiamondBookModel", "colour", "[I", true)
  | 7 => ("DiamondBookModel", "clarity", "[I", true)
  | 8 => ("DiamondBookModel", "flaws", "[I", true)
  | 9 => ("DiamondBookModel", "state", "[I", true)
  | 10 => ("DiamondBookModel", "owner", "[I", true)
  | 11 => ("DiamondBookModel", "boxOf", "[I", true)
  | 12 => ("DiamondBookModel", "paid", "[I", true)
  | 13 => ("DiamondBookModel", "sorts", "[I", true)
  | 14 => ("DiamondBookModel", "sorted", "[I", true)
  | 15 => ("DiamondBookModel", "sorters", "[I", true)
  | 16 => ("DiamondBookModel", "drift", "[I", true)
  | 17 => ("DiamondBookModel", "price", "[I", true)
  | 18 => ("DiamondBookModel", "boxes", "I", false)
  | 19 => ("DiamondBookModel", "worth", "[I", true)
  | 20 => ("DiamondBookModel", "gone", "[Z", true)
  | 21 => ("DiamondBookModel", "offer", "[I", true)
  | 22 => ("DiamondBookModel", "conduct", "[I", true)
  | 23 => ("DiamondBookModel", "tendered", "I", false)
  | 24 => ("DiamondBookModel", "reserve", "I", false)
  | 25 => ("DiamondBookModel", "bid", "[I", true)
  | 26 => ("DiamondBookModel", "polished", "I", false)
  | 27 => ("DiamondBookModel", "rough", "[I", true)
  | 28 => ("DiamondBookModel", "left", "[I", true)
  | 29 => ("DiamondBookModel", "first", "[I", true)
  | 30 => ("DiamondBookModel", "cells", "[I", true)
  | 31 => ("DiamondBookModel", "has", "[I", true)
  | 32 => ("DiamondBookModel", "paper", "[I", true)
  | 33 => ("DiamondBookModel", "looks", "[I", true)
  | 34 => ("DiamondBookModel", "look", "[I", true)
  | 35 => ("DiamondBookModel", "looked", "[I", true)
  | 36 => ("DiamondBookModel", "scale", "[I", true)
  | 37 => ("DiamondBookModel", "covered", "[I", true)
  | _ => ("DiamondBookModel", "dust", "I", false)
def tyX6 : Nat → FieldType := fun k => match k with
  | 0 => .int
  | 1 => .int
  | 2 => .array .int
  | 3 => .int
  | 4 => .array .int
  | 5 => .array .int
  | 6 => .array .int
  | 7 => .array .int
  | 8 => .array .int
  | 9 => .array .int
  | 10 => .array .int
  | 11 => .array .int
  | 12 => .array .int
  | 13 => .array .int
  | 14 => .array .int
  | 15 => .array .int
  | 16 => .array .int
  | 17 => .array .int
  | 18 => .int
  | 19 => .array .int
  | 20 => .array .boolean
  | 21 => .array .int
  | 22 => .array .int
  | 23 => .int
  | 24 => .int
  | 25 => .array .int
  | 26 => .int
  | 27 => .array .int
  | 28 => .array .int
  | 29 => .array .int
  | 30 => .array .int
  | 31 => .array .int
  | 32 => .array .int
  | 33 => .array .int
  | 34 => .array .int
  | 35 => .array .int
  | 36 => .array .int
  | 37 => .array .int
  | _ => .int
abbrev wsX60 : List Cond := u_ws RX6 TX6 39
theorem nmX6 : ∀ a, a < 39 → ∀ b, b < 39 → a ≠ b → (TX6 a).2.1 ≠ (TX6 b).2.1 := by decide +kernel
theorem tyX6_ok : ∀ k, k < 39 → parseFieldDescriptor (TX6 k).2.2.1 = some (tyX6 k) := by decide +kernel
abbrev cX6_init : ByteArray := prog_8_method_1_code
def yX6_init : MethodName := ⟨RX6, "<init>", "()V"⟩
abbrev cX6_thrown : ByteArray := prog_8_method_2_code
def yX6_thrown : MethodName := ⟨RX6, "thrown", "()I"⟩
abbrev cX6_asked : ByteArray := prog_8_method_3_code
def yX6_asked : MethodName := ⟨RX6, "asked", "(Z)Z"⟩
abbrev cX6_asked_ : ByteArray := prog_8_method_4_code
def yX6_asked_ : MethodName := ⟨RX6, "asked", "(ZZ)Z"⟩
abbrev cX6_asked__ : ByteArray := prog_8_method_5_code
def yX6_asked__ : MethodName := ⟨RX6, "asked", "(ZZZ)Z"⟩
abbrev cX6_in : ByteArray := prog_8_method_6_code
def yX6_in : MethodName := ⟨RX6, "in", "(III)Z"⟩
abbrev cX6_isStone : ByteArray := prog_8_method_7_code
def yX6_isStone : MethodName := ⟨RX6, "isStone", "(I)Z"⟩
abbrev cX6_isPolished : ByteArray := prog_8_method_8_code
def yX6_isPolished : MethodName := ⟨RX6, "isPolished", "(I)Z"⟩
abbrev cX6_isBuyer : ByteArray := prog_8_method_9_code
def yX6_isBuyer : MethodName := ⟨RX6, "isBuyer", "(I)Z"⟩
abbrev cX6_within : ByteArray := prog_8_method_10_code
def yX6_within : MethodName := ⟨RX6, "within", "(II)I"⟩
abbrev cX6_middle : ByteArray := prog_8_method_11_code
def yX6_middle : MethodName := ⟨RX6, "middle", "(III)I"⟩
abbrev cX6_parcel : ByteArray := prog_8_method_12_code
def yX6_parcel : MethodName := ⟨RX6, "parcel", "(I)I"⟩
abbrev cX6_stone : ByteArray := prog_8_method_13_code
def yX6_stone : MethodName := ⟨RX6, "stone", "(IIIII)I"⟩
abbrev cX6_drift : ByteArray := prog_8_method_14_code
def yX6_drift : MethodName := ⟨RX6, "drift", "(II)I"⟩
abbrev cX6_sort : ByteArray := prog_8_method_15_code
def yX6_sort : MethodName := ⟨RX6, "sort", "(II)I"⟩
abbrev cX6_qualityOf : ByteArray := prog_8_method_16_code
def yX6_qualityOf : MethodName := ⟨RX6, "qualityOf", "(I)I"⟩
abbrev cX6_isDoubtful : ByteArray := prog_8_method_17_code
def yX6_isDoubtful : MethodName := ⟨RX6, "isDoubtful", "(I)Z"⟩
abbrev cX6_price : ByteArray := prog_8_method_18_code
def yX6_price : MethodName := ⟨RX6, "price", "(III)I"⟩
abbrev cX6_valueOf : ByteArray := prog_8_method_19_code
def yX6_valueOf : MethodName := ⟨RX6, "valueOf", "(I)I"⟩
abbrev cX6_value : ByteArray := prog_8_method_20_code
def yX6_value : MethodName := ⟨RX6, "value", "(I)I"⟩
abbrev cX6_stoneIs : ByteArray := prog_8_method_21_code
def yX6_stoneIs : MethodName := ⟨RX6, "stoneIs", "(II)I"⟩
abbrev cX6_ends : ByteArray := prog_8_method_22_code
def yX6_ends : MethodName := ⟨RX6, "ends", "(I)V"⟩
abbrev cX6_nextStone : ByteArray := prog_8_method_23_code
def yX6_nextStone : MethodName := ⟨RX6, "nextStone", "()I"⟩
abbrev cX6_boxes : ByteArray := prog_8_method_24_code
def yX6_boxes : MethodName := ⟨RX6, "boxes", "(I)I"⟩
abbrev cX6_rankOf : ByteArray := prog_8_method_25_code
def yX6_rankOf : MethodName := ⟨RX6, "rankOf", "(I)I"⟩
abbrev cX6_boxAt : ByteArray := prog_8_method_26_code
def yX6_boxAt : MethodName := ⟨RX6, "boxAt", "(I)I"⟩
abbrev cX6_boxValue : ByteArray := prog_8_method_27_code
def yX6_boxValue : MethodName := ⟨RX6, "boxValue", "(I)I"⟩
abbrev cX6_offered : ByteArray := prog_8_method_28_code
def yX6_offered : MethodName := ⟨RX6, "offered", "(I)I"⟩
abbrev cX6_take : ByteArray := prog_8_method_29_code
def yX6_take : MethodName := ⟨RX6, "take", "(IZ)I"⟩
abbrev cX6_tender : ByteArray := prog_8_method_30_code
def yX6_tender : MethodName := ⟨RX6, "tender", "(II)V"⟩
abbrev cX6_bid : ByteArray := prog_8_method_31_code
def yX6_bid : MethodName := ⟨RX6, "bid", "(II)I"⟩
abbrev cX6_close : ByteArray := prog_8_method_32_code
def yX6_close : MethodName := ⟨RX6, "close", "()I"⟩
abbrev cX6_isFree : ByteArray := prog_8_method_33_code
def yX6_isFree : MethodName := ⟨RX6, "isFree", "(II)Z"⟩
abbrev cX6_rowAt : ByteArray := prog_8_method_34_code
def yX6_rowAt : MethodName := ⟨RX6, "rowAt", "(II)I"⟩
abbrev cX6_planOf : ByteArray := prog_8_method_35_code
def yX6_planOf : MethodName := ⟨RX6, "planOf", "(I)I"⟩
abbrev cX6_plan : ByteArray := prog_8_method_36_code
def yX6_plan : MethodName := ⟨RX6, "plan", "(I)I"⟩
abbrev cX6_planAnew : ByteArray := prog_8_method_37_code
def yX6_planAnew : MethodName := ⟨RX6, "planAnew", "(I)I"⟩
abbrev cX6_cut : ByteArray := prog_8_method_38_code
def yX6_cut : MethodName := ⟨RX6, "cut", "(I)I"⟩
abbrev cX6_recut : ByteArray := prog_8_method_39_code
def yX6_recut : MethodName := ⟨RX6, "recut", "(II)I"⟩
abbrev cX6_gradeOf : ByteArray := prog_8_method_40_code
def yX6_gradeOf : MethodName := ⟨RX6, "gradeOf", "(I)I"⟩
abbrev cX6_priceOf : ByteArray := prog_8_method_41_code
def yX6_priceOf : MethodName := ⟨RX6, "priceOf", "(I)I"⟩
abbrev cX6_originOf : ByteArray := prog_8_method_42_code
def yX6_originOf : MethodName := ⟨RX6, "originOf", "(I)I"⟩
abbrev cX6_polished : ByteArray := prog_8_method_43_code
def yX6_polished : MethodName := ⟨RX6, "polished", "(II)I"⟩
abbrev cX6_scale : ByteArray := prog_8_method_44_code
def yX6_scale : MethodName := ⟨RX6, "scale", "(II)I"⟩
abbrev cX6_look : ByteArray := prog_8_method_45_code
def yX6_look : MethodName := ⟨RX6, "look", "(II)I"⟩
abbrev cX6_cameOf : ByteArray := prog_8_method_46_code
def yX6_cameOf : MethodName := ⟨RX6, "cameOf", "(I)I"⟩
abbrev cX6_paper : ByteArray := prog_8_method_47_code
def yX6_paper : MethodName := ⟨RX6, "paper", "(II)I"⟩
abbrev cX6_all : ByteArray := prog_8_method_48_code
def yX6_all : MethodName := ⟨RX6, "all", "(I)I"⟩
def RJx145de : String := "java/io/Serializable"
def TJx145de : u_T := fun k => match k with
  | _ => ("", "", "", false)
def tyJx145de : Nat → FieldType := fun k => match k with
  | _ => .int
abbrev wsJx145de0 : List Cond := u_ws RJx145de TJx145de 0
theorem nmJx145de : ∀ a, a < 0 → ∀ b, b < 0 → a ≠ b → (TJx145de a).2.1 ≠ (TJx145de b).2.1 := by decide +kernel
theorem tyJx145de_ok : ∀ k, k < 0 → parseFieldDescriptor (TJx145de k).2.2.1 = some (tyJx145de k) := by decide +kernel
def RJ9 : String := "java/lang/Math"
def TJ9 : u_T := fun k => match k with
  | _ => ("", "", "", false)
def tyJ9 : Nat → FieldType := fun k => match k with
  | _ => .int
abbrev wsJ90 : List Cond := u_ws RJ9 TJ9 0
theorem nmJ9 : ∀ a, a < 0 → ∀ b, b < 0 → a ≠ b → (TJ9 a).2.1 ≠ (TJ9 b).2.1 := by decide +kernel
theorem tyJ9_ok : ∀ k, k < 0 → parseFieldDescriptor (TJ9 k).2.2.1 = some (tyJ9 k) := by decide +kernel
abbrev cJ9_abs_0f7a4 : ByteArray := prog_13_method_59_code
def yJ9_abs_0f7a4 : MethodName := ⟨RJ9, "abs", "(I)I"⟩
abbrev cJ9_max_7cf53 : ByteArray := prog_13_method_65_code
def yJ9_max_7cf53 : MethodName := ⟨RJ9, "max", "(II)I"⟩
abbrev cJ9_min_7cf53 : ByteArray := prog_13_method_69_code
def yJ9_min_7cf53 : MethodName := ⟨RJ9, "min", "(II)I"⟩
def RJ0 : String := "java/lang/String"
def TJ0 : u_T := fun k => match k with
  | _ => ("", "", "", false)
def tyJ0 : Nat → FieldType := fun k => match k with
  | _ => .int
abbrev wsJ00 : List Cond := u_ws RJ0 TJ0 0
theorem nmJ0 : ∀ a, a < 0 → ∀ b, b < 0 → a ≠ b → (TJ0 a).2.1 ≠ (TJ0 b).2.1 := by decide +kernel
theorem tyJ0_ok : ∀ k, k < 0 → parseFieldDescriptor (TJ0 k).2.2.1 = some (tyJ0 k) := by decide +kernel
def RJ7 : String := "java/util/Arrays"
def TJ7 : u_T := fun k => match k with
  | _ => ("", "", "", false)
def tyJ7 : Nat → FieldType := fun k => match k with
  | _ => .int
abbrev wsJ70 : List Cond := u_ws RJ7 TJ7 0
theorem nmJ7 : ∀ a, a < 0 → ∀ b, b < 0 → a ≠ b → (TJ7 a).2.1 ≠ (TJ7 b).2.1 := by decide +kernel
theorem tyJ7_ok : ∀ k, k < 0 → parseFieldDescriptor (TJ7 k).2.2.1 = some (tyJ7 k) := by decide +kernel
abbrev cJ7_fill_53178 : ByteArray := prog_17_method_103_code
def yJ7_fill_53178 : MethodName := ⟨RJ7, "fill", "([II)V"⟩
def RL : String := "DiamondBookLaw"
abbrev cL_parcel : ByteArray := method_3_code
def yL_parcel : MethodName := ⟨RL, "parcel", "(LDiamondBook;I[J)I"⟩
abbrev cL_stone : ByteArray := method_4_code
def yL_stone : MethodName := ⟨RL, "stone", "(LDiamondBook;IIIII[J)I"⟩
abbrev cL_drift : ByteArray := method_5_code
def yL_drift : MethodName := ⟨RL, "drift", "(LDiamondBook;II[J)I"⟩
abbrev cL_sort : ByteArray := method_6_code
def yL_sort : MethodName := ⟨RL, "sort", "(LDiamondBook;II[J)I"⟩
abbrev cL_price : ByteArray := method_7_code
def yL_price : MethodName := ⟨RL, "price", "(LDiamondBook;III[J)I"⟩
abbrev cL_value : ByteArray := method_8_code
def yL_value : MethodName := ⟨RL, "value", "(LDiamondBook;I[J)I"⟩
abbrev cL_stoneIs : ByteArray := method_9_code
def yL_stoneIs : MethodName := ⟨RL, "stoneIs", "(LDiamondBook;II[J)I"⟩
abbrev cL_boxes : ByteArray := method_10_code
def yL_boxes : MethodName := ⟨RL, "boxes", "(LDiamondBook;I[J)I"⟩
abbrev cL_boxValue : ByteArray := method_11_code
def yL_boxValue : MethodName := ⟨RL, "boxValue", "(LDiamondBook;I[J)I"⟩
abbrev cL_offered : ByteArray := method_12_code
def yL_offered : MethodName := ⟨RL, "offered", "(LDiamondBook;I[J)I"⟩
abbrev cL_take : ByteArray := method_13_code
def yL_take : MethodName := ⟨RL, "take", "(LDiamondBook;IZ[J)I"⟩
abbrev cL_tender : ByteArray := method_14_code
def yL_tender : MethodName := ⟨RL, "tender", "(LDiamondBook;II)I"⟩
abbrev cL_bid : ByteArray := method_15_code
def yL_bid : MethodName := ⟨RL, "bid", "(LDiamondBook;II[J)I"⟩
abbrev cL_close : ByteArray := method_16_code
def yL_close : MethodName := ⟨RL, "close", "(LDiamondBook;[J)I"⟩
abbrev cL_plan : ByteArray := method_17_code
def yL_plan : MethodName := ⟨RL, "plan", "(LDiamondBook;I[J)I"⟩
abbrev cL_planAnew : ByteArray := method_18_code
def yL_planAnew : MethodName := ⟨RL, "planAnew", "(LDiamondBook;I[J)I"⟩
abbrev cL_cut : ByteArray := method_19_code
def yL_cut : MethodName := ⟨RL, "cut", "(LDiamondBook;I[J)I"⟩
abbrev cL_recut : ByteArray := method_20_code
def yL_recut : MethodName := ⟨RL, "recut", "(LDiamondBook;II[J)I"⟩
abbrev cL_polished : ByteArray := method_21_code
def yL_polished : MethodName := ⟨RL, "polished", "(LDiamondBook;II[J)I"⟩
abbrev cL_scale : ByteArray := method_22_code
def yL_scale : MethodName := ⟨RL, "scale", "(LDiamondBook;II[J)I"⟩
abbrev cL_look : ByteArray := method_23_code
def yL_look : MethodName := ⟨RL, "look", "(LDiamondBook;II[J)I"⟩
abbrev cL_paper : ByteArray := method_24_code
def yL_paper : MethodName := ⟨RL, "paper", "(LDiamondBook;II[J)I"⟩
abbrev cL_all : ByteArray := method_25_code
def yL_all : MethodName := ⟨RL, "all", "(LDiamondBook;I[J)I"⟩
abbrev cL_law : ByteArray := code
def yL_law : MethodName := ⟨RL, "law", "([I)Z"⟩
abbrev vwCl : List vw_C := [(RX0, TX0, 9), (RX1, TX1, 5), (RX2, TX2, 1), (RX3, TX3, 12), (RX4, TX4, 3), (RX5, TX5, 17), (RX6, TX6, 39)]
end
section
theorem dX5_init_0 : decode cX5_init 0 = .ok (.aload_n 0, 1) := by decide +kernel
theorem dX5_init_1 : decode cX5_init 1 = .ok (.invokespecial 1, 3) := by decide +kernel
theorem dX5_init_4 : decode cX5_init 4 = .ok (.aload_n 0, 1) := by decide +kernel
theorem dX5_init_5 : decode cX5_init 5 = .ok (.bipush 12, 2) := by decide +kernel
theorem dX5_init_7 : decode cX5_init 7 = .ok (.newarray .int, 2) := by decide +kernel
theorem dX5_init_9 : decode cX5_init 9 = .ok (.putfield 9, 3) := by decide +kernel
theorem dX5_init_12 : decode cX5_init 12 = .ok (.aload_n 0, 1) := by decide +kernel
theorem dX5_init_13 : decode cX5_init 13 = .ok (.bipush 40, 2) := by decide +kernel
theorem dX5_init_15 : decode cX5_init 15 = .ok (.anewarray 13, 3) := by decide +kernel
theorem dX5_init_18 : decode cX5_init 18 = .ok (.putfield 15, 3) := by decide +kernel
theorem dX5_init_21 : decode cX5_init 21 = .ok (.aload_n 0, 1) := by decide +kernel
theorem dX5_init_22 : decode cX5_init 22 = .ok (.iconst 4, 1) := by decide +kernel
theorem dX5_init_23 : decode cX5_init 23 = .ok (.newarray .int, 2) := by decide +kernel
theorem dX5_init_25 : decode cX5_init 25 = .ok (.putfield 19, 3) := by decide +kernel
theorem dX5_init_28 : decode cX5_init 28 = .ok (.aload_n 0, 1) := by decide +kernel
theorem dX5_init_29 : decode cX5_init 29 = .ok (.new 22, 3) := by decide +kernel
theorem dX5_init_32 : decode cX5_init 32 = .ok (.dup, 1) := by decide +kernel
theorem dX5_init_33 : decode cX5_init 33 = .ok (.invokespecial 24, 3) := by decide +kernel
theorem dX5_init_36 : decode cX5_init 36 = .ok (.putfield 25, 3) := by decide +kernel
theorem dX5_init_39 : decode cX5_init 39 = .ok (.aload_n 0, 1) := by decide +kernel
theorem dX5_init_40 : decode cX5_init 40 = .ok (.iconst 5, 1) := by decide +kernel
theorem dX5_init_41 : decode cX5_init 41 = .ok (.newarray .int, 2) := by decide +kernel
theorem dX5_init_43 : decode cX5_init 43 = .ok (.putfield 29, 3) := by decide +kernel
theorem dX5_init_46 : decode cX5_init 46 = .ok (.aload_n 0, 1) := by decide +kernel
theorem dX5_init_47 : decode cX5_init 47 = .ok (.iconst 5, 1) := by decide +kernel
theorem dX5_init_48 : decode cX5_init 48 = .ok (.newarray .int, 2) := by decide +kernel
theorem dX5_init_50 : decode cX5_init 50 = .ok (.putfield 32, 3) := by decide +kernel
theorem dX5_init_53 : decode cX5_init 53 = .ok (.aload_n 0, 1) := by decide +kernel
theorem dX5_init_54 : decode cX5_init 54 = .ok (.iconst 5, 1) := by decide +kernel
theorem dX5_init_55 : decode cX5_init 55 = .ok (.newarray .int, 2) := by decide +kernel
theorem dX5_init_57 : decode cX5_init 57 = .ok (.putfield 35, 3) := by decide +kernel
theorem dX5_init_60 : decode cX5_init 60 = .ok (.aload_n 0, 1) := by decide +kernel
theorem dX5_init_61 : decode cX5_init 61 = .ok (.new 38, 3) := by decide +kernel
theorem dX5_init_64 : decode cX5_init 64 = .ok (.dup, 1) := by decide +kernel
theorem dX5_init_65 : decode cX5_init 65 = .ok (.invokespecial 40, 3) := by decide +kernel
theorem dX5_init_68 : decode cX5_init 68 = .ok (.putfield 41, 3) := by decide +kernel
theorem dX5_init_71 : decode cX5_init 71 = .ok (.aload_n 0, 1) := by decide +kernel
theorem dX5_init_72 : decode cX5_init 72 = .ok (.bipush 80, 2) := by decide +kernel
theorem dX5_init_74 : decode cX5_init 74 = .ok (.anewarray 45, 3) := by decide +kernel
theorem dX5_init_77 : decode cX5_init 77 = .ok (.putfield 47, 3) := by decide +kernel
theorem dX5_init_80 : decode cX5_init 80 = .ok (.aload_n 0, 1) := by decide +kernel
theorem dX5_init_81 : decode cX5_init 81 = .ok (.iconst 3, 1) := by decide +kernel
theorem dX5_init_82 : decode cX5_init 82 = .ok (.newarray .int, 2) := by decide +kernel
theorem dX5_init_84 : decode cX5_init 84 = .ok (.putfield 51, 3) := by decide +kernel
theorem dX5_init_87 : decode cX5_init 87 = .ok (.aload_n 0, 1) := by decide +kernel
theorem dX5_init_88 : decode cX5_init 88 = .ok (.iconst 4, 1) := by decide +kernel
theorem dX5_init_89 : decode cX5_init 89 = .ok (.newarray .int, 2) := by decide +kernel
theorem dX5_init_91 : decode cX5_init 91 = .ok (.putfield 54, 3) := by decide +kernel
theorem dX5_init_94 : decode cX5_init 94 = .ok (.aload_n 0, 1) := by decide +kernel
theorem dX5_init_95 : decode cX5_init 95 = .ok (.iconst 4, 1) := by decide +kernel
theorem dX5_init_96 : decode cX5_init 96 = .ok (.newarray .int, 2) := by decide +kernel
theorem dX5_init_98 : decode cX5_init 98 = .ok (.putfield 57, 3) := by decide +kernel
theorem dX5_init_101 : decode cX5_init 101 = .ok (.aload_n 0, 1) := by decide +kernel
theorem dX5_init_102 : decode cX5_init 102 = .ok (.getfield 29, 3) := by decide +kernel
theorem dX5_init_105 : decode cX5_init 105 = .ok (.bipush 50, 2) := by decide +kernel
theorem dX5_init_107 : decode cX5_init 107 = .ok (.invokestatic 60, 3) := by decide +kernel
theorem dX5_init_110 : decode cX5_init 110 = .ok (.aload_n 0, 1) := by decide +kernel
theorem dX5_init_111 : decode cX5_init 111 = .ok (.getfield 32, 3) := by decide +kernel
theorem dX5_init_114 : decode cX5_init 114 = .ok (.iconst (-1), 1) := by decide +kernel
theorem dX5_init_115 : decode cX5_init 115 = .ok (.invokestatic 60, 3) := by decide +kernel
theorem dX5_init_118 : decode cX5_init 118 = .ok (.return_, 1) := by decide +kernel
theorem dX5_parcel_0 : decode cX5_parcel 0 = .ok (.iload_n 1, 1) := by decide +kernel
theorem dX5_parcel_1 : decode cX5_parcel 1 = .ok (.iconst 4, 1) := by decide +kernel
theorem dX5_parcel_2 : decode cX5_parcel 2 = .ok (.invokestatic 66, 3) := by decide +kernel
theorem dX5_parcel_5 : decode cX5_parcel 5 = .ok (.aload_n 0, 1) := by decide +kernel
theorem dX5_parcel_6 : decode cX5_parcel 6 = .ok (.getfield 70, 3) := by decide +kernel
theorem dX5_parcel_9 : decode cX5_parcel 9 = .ok (.aload_n 0, 1) := by decide +kernel
theorem dX5_parcel_10 : decode cX5_parcel 10 = .ok (.getfield 9, 3) := by decide +kernel
theorem dX5_parcel_13 : decode cX5_parcel 13 = .ok (.arraylength, 1) := by decide +kernel
theorem dX5_parcel_14 : decode cX5_parcel 14 = .ok (.invokestatic 74, 3) := by decide +kernel
theorem dX5_parcel_17 : decode cX5_parcel 17 = .ok (.ifCond .ne 13, 3) := by decide +kernel
theorem dX5_parcel_20 : decode cX5_parcel 20 = .ok (.new 78, 3) := by decide +kernel
theorem dX5_parcel_23 : decode cX5_parcel 23 = .ok (.dup, 1) := by decide +kernel
theorem dX5_parcel_24 : decode cX5_parcel 24 = .ok (.ldc 80, 2) := by decide +kernel
theorem dX5_parcel_26 : decode cX5_parcel 26 = .ok (.invokespecial 82, 3) := by decide +kernel
theorem dX5_parcel_29 : decode cX5_parcel 29 = .ok (.athrow, 1) := by decide +kernel
theorem dX5_parcel_30 : decode cX5_parcel 30 = .ok (.aload_n 0, 1) := by decide +kernel
theorem dX5_parcel_31 : decode cX5_parcel 31 = .ok (.getfield 70, 3) := by decide +kernel
theorem dX5_parcel_34 : decode cX5_parcel 34 = .ok (.istore_n 2, 1) := by decide +kernel
theorem dX5_parcel_35 : decode cX5_parcel 35 = .ok (.aload_n 0, 1) := by decide +kernel
theorem dX5_parcel_36 : decode cX5_parcel 36 = .ok (.getfield 9, 3) := by decide +kernel
theorem dX5_parcel_39 : decode cX5_parcel 39 = .ok (.iload_n 2, 1) := by decide +kernel
theorem dX5_parcel_40 : decode cX5_parcel 40 = .ok (.iload_n 1, 1) := by decide +kernel
theorem dX5_parcel_41 : decode cX5_parcel 41 = .ok (.iastore, 1) := by decide +kernel
theorem dX5_parcel_42 : decode cX5_parcel 42 = .ok (.aload_n 0, 1) := by decide +kernel
theorem dX5_parcel_43 : decode cX5_parcel 43 = .ok (.dup, 1) := by decide +kernel
theorem dX5_parcel_44 : decode cX5_parcel 44 = .ok (.getfield 70, 3) := by decide +kernel
theorem dX5_parcel_47 : decode cX5_parcel 47 = .ok (.iconst 1, 1) := by decide +kernel
theorem dX5_parcel_48 : decode cX5_parcel 48 = .ok (.iadd, 1) := by decide +kernel
theorem dX5_parcel_49 : decode cX5_parcel 49 = .ok (.putfield 70, 3) := by decide +kernel
theorem dX5_parcel_52 : decode cX5_parcel 52 = .ok (.iload_n 2, 1) := by decide +kernel
theorem dX5_parcel_53 : decode cX5_parcel 53 = .ok (.ireturn, 1) := by decide +kernel
theorem dX5_stone_0 : decode cX5_stone 0 = .ok (.iload_n 1, 1) := by decide +kernel
theorem dX5_stone_1 : decode cX5_stone 1 = .ok (.aload_n 0, 1) := by decide +kernel
theorem dX5_stone_2 : decode cX5_stone 2 = .ok (.getfield 70, 3) := by decide +kernel
theorem dX5_stone_5 : decode cX5_stone 5 = .ok (.invokestatic 66, 3) := by decide +kernel
theorem dX5_stone_8 : decode cX5_stone 8 = .ok (.iload_n 2, 1) := by decide +kernel
theorem dX5_stone_9 : decode cX5_stone 9 = .ok (.bipush 12, 2) := by decide +kernel
theorem dX5_stone_11 : decode cX5_stone 11 = .ok (.sipush 9999, 3) := by decide +kernel
theorem dX5_stone_14 : decode cX5_stone 14 = .ok (.invokestatic 85, 3) := by decide +kernel
theorem dX5_stone_17 : decode cX5_stone 17 = .ok (.iload_n 3, 1) := by decide +kernel
theorem dX5_stone_18 : decode cX5_stone 18 = .ok (.iconst 0, 1) := by decide +kernel
theorem dX5_stone_19 : decode cX5_stone 19 = .ok (.bipush 9, 2) := by decide +kernel
theorem dX5_stone_21 : decode cX5_stone 21 = .ok (.invokestatic 85, 3) := by decide +kernel
theorem dX5_stone_24 : decode cX5_stone 24 = .ok (.iload 4, 2) := by decide +kernel
theorem dX5_stone_26 : decode cX5_stone 26 = .ok (.iconst 0, 1) := by decide +kernel
theorem dX5_stone_27 : decode cX5_stone 27 = .ok (.bipush 9, 2) := by decide +kernel
theorem dX5_stone_29 : decode cX5_stone 29 = .ok (.invokestatic 85, 3) := by decide +kernel
theorem dX5_stone_32 : decode cX5_stone 32 = .ok (.iload 5, 2) := by decide +kernel
theorem dX5_stone_34 : decode cX5_stone 34 = .ok (.iconst 0, 1) := by decide +kernel
theorem dX5_stone_35 : decode cX5_stone 35 = .ok (.sipush 4095, 3) := by decide +kernel
theorem dX5_stone_38 : decode cX5_stone 38 = .ok (.invokestatic 85, 3) := by decide +kernel
theorem dX5_stone_41 : decode cX5_stone 41 = .ok (.aload_n 0, 1) := by decide +kernel
theorem dX5_stone_42 : decode cX5_stone 42 = .ok (.getfield 89, 3) := by decide +kernel
theorem dX5_stone_45 : decode cX5_stone 45 = .ok (.aload_n 0, 1) := by decide +kernel
theorem dX5_stone_46 : decode cX5_stone 46 = .ok (.getfield 15, 3) := by decide +kernel
theorem dX5_stone_49 : decode cX5_stone 49 = .ok (.arraylength, 1) := by decide +kernel
theorem dX5_stone_50 : decode cX5_stone 50 = .ok (.invokestatic 74, 3) := by decide +kernel
theorem dX5_stone_53 : decode cX5_stone 53 = .ok (.ifCond .ne 13, 3) := by decide +kernel
theorem dX5_stone_56 : decode cX5_stone 56 = .ok (.new 78, 3) := by decide +kernel
theorem dX5_stone_59 : decode cX5_stone 59 = .ok (.dup, 1) := by decide +kernel
theorem dX5_stone_60 : decode cX5_stone 60 = .ok (.ldc 92, 2) := by decide +kernel
theorem dX5_stone_62 : decode cX5_stone 62 = .ok (.invokespecial 82, 3) := by decide +kernel
theorem dX5_stone_65 : decode cX5_stone 65 = .ok (.athrow, 1) := by decide +kernel
theorem dX5_stone_66 : decode cX5_stone 66 = .ok (.aload_n 0, 1) := by decide +kernel
theorem dX5_stone_67 : decode cX5_stone 67 = .ok (.getfield 89, 3) := by decide +kernel
theorem dX5_stone_70 : decode cX5_stone 70 = .ok (.istore 6, 2) := by decide +kernel
theorem dX5_stone_72 : decode cX5_stone 72 = .ok (.aload_n 0, 1) := by decide +kernel
theorem dX5_stone_73 : decode cX5_stone 73 = .ok (.iload_n 1, 1) := by decide +kernel
theorem dX5_stone_74 : decode cX5_stone 74 = .ok (.invokevirtual 94, 3) := by decide +kernel
theorem dX5_stone_77 : decode cX5_stone 77 = .ok (.istore 7, 2) := by decide +kernel
theorem dX5_stone_79 : decode cX5_stone 79 = .ok (.aload_n 0, 1) := by decide +kernel
theorem dX5_stone_80 : decode cX5_stone 80 = .ok (.getfield 15, 3) := by decide +kernel
theorem dX5_stone_83 : decode cX5_stone 83 = .ok (.iload 6, 2) := by decide +kernel
theorem dX5_stone_85 : decode cX5_stone 85 = .ok (.new 13, 3) := by decide +kernel
theorem dX5_stone_88 : decode cX5_stone 88 = .ok (.dup, 1) := by decide +kernel
theorem dX5_stone_89 : decode cX5_stone 89 = .ok (.iload 6, 2) := by decide +kernel
theorem dX5_stone_91 : decode cX5_stone 91 = .ok (.iload_n 1, 1) := by decide +kernel
theorem dX5_stone_92 : decode cX5_stone 92 = .ok (.iload 7, 2) := by decide +kernel
theorem dX5_stone_94 : decode cX5_stone 94 = .ok (.iload_n 2, 1) := by decide +kernel
theorem dX5_stone_95 : decode cX5_stone 95 = .ok (.iload_n 3, 1) := by decide +kernel
theorem dX5_stone_96 : decode cX5_stone 96 = .ok (.iload 4, 2) := by decide +kernel
theorem dX5_stone_98 : decode cX5_stone 98 = .ok (.iload 5, 2) := by decide +kernel
theorem dX5_stone_100 : decode cX5_stone 100 = .ok (.invokespecial 98, 3) := by decide +kernel
theorem dX5_stone_103 : decode cX5_stone 103 = .ok (.aastore, 1) := by decide +kernel
theorem dX5_stone_104 : decode cX5_stone 104 = .ok (.aload_n 0, 1) := by decide +kernel
theorem dX5_stone_105 : decode cX5_stone 105 = .ok (.dup, 1) := by decide +kernel
theorem dX5_stone_106 : decode cX5_stone 106 = .ok (.getfield 89, 3) := by decide +kernel
theorem dX5_stone_109 : decode cX5_stone 109 = .ok (.iconst 1, 1) := by decide +kernel
theorem dX5_stone_110 : decode cX5_stone 110 = .ok (.iadd, 1) := by decide +kernel
theorem dX5_stone_111 : decode cX5_stone 111 = .ok (.putfield 89, 3) := by decide +kernel
theorem dX5_stone_114 : decode cX5_stone 114 = .ok (.aload_n 0, 1) := by decide +kernel
theorem dX5_stone_115 : decode cX5_stone 115 = .ok (.getfield 54, 3) := by decide +kernel
theorem dX5_stone_118 : decode cX5_stone 118 = .ok (.iload 7, 2) := by decide +kernel
theorem dX5_stone_120 : decode cX5_stone 120 = .ok (.iload_n 2, 1) := by decide +kernel
theorem dX5_stone_121 : decode cX5_stone 121 = .ok (.invokestatic 101, 3) := by decide +kernel
theorem dX5_stone_124 : decode cX5_stone 124 = .ok (.iload 6, 2) := by decide +kernel
theorem dX5_stone_126 : decode cX5_stone 126 = .ok (.ireturn, 1) := by decide +kernel
theorem dX5_drift_0 : decode cX5_drift 0 = .ok (.iload_n 1, 1) := by decide +kernel
theorem dX5_drift_1 : decode cX5_drift 1 = .ok (.aload_n 0, 1) := by decide +kernel
theorem dX5_drift_2 : decode cX5_drift 2 = .ok (.getfield 19, 3) := by decide +kernel
theorem dX5_drift_5 : decode cX5_drift 5 = .ok (.arraylength, 1) := by decide +kernel
theorem dX5_drift_6 : decode cX5_drift 6 = .ok (.invokestatic 66, 3) := by decide +kernel
theorem dX5_drift_9 : decode cX5_drift 9 = .ok (.iload_n 2, 1) := by decide +kernel
theorem dX5_drift_10 : decode cX5_drift 10 = .ok (.bipush (-2), 2) := by decide +kernel
theorem dX5_drift_12 : decode cX5_drift 12 = .ok (.iconst 2, 1) := by decide +kernel
theorem dX5_drift_13 : decode cX5_drift 13 = .ok (.invokestatic 85, 3) := by decide +kernel
theorem dX5_drift_16 : decode cX5_drift 16 = .ok (.aload_n 0, 1) := by decide +kernel
theorem dX5_drift_17 : decode cX5_drift 17 = .ok (.getfield 19, 3) := by decide +kernel
theorem dX5_drift_20 : decode cX5_drift 20 = .ok (.iload_n 1, 1) := by decide +kernel
theorem dX5_drift_21 : decode cX5_drift 21 = .ok (.iaload, 1) := by decide +kernel
theorem dX5_drift_22 : decode cX5_drift 22 = .ok (.istore_n 3, 1) := by decide +kernel
theorem dX5_drift_23 : decode cX5_drift 23 = .ok (.aload_n 0, 1) := by decide +kernel
theorem dX5_drift_24 : decode cX5_drift 24 = .ok (.getfield 19, 3) := by decide +kernel
theorem dX5_drift_27 : decode cX5_drift 27 = .ok (.iload_n 1, 1) := by decide +kernel
theorem dX5_drift_28 : decode cX5_drift 28 = .ok (.iload_n 2, 1) := by decide +kernel
theorem dX5_drift_29 : decode cX5_drift 29 = .ok (.iastore, 1) := by decide +kernel
theorem dX5_drift_30 : decode cX5_drift 30 = .ok (.iload_n 3, 1) := by decide +kernel
theorem dX5_drift_31 : decode cX5_drift 31 = .ok (.ireturn, 1) := by decide +kernel
theorem dX5_sort_0 : decode cX5_sort 0 = .ok (.iload_n 1, 1) := by decide +kernel
theorem dX5_sort_1 : decode cX5_sort 1 = .ok (.aload_n 0, 1) := by decide +kernel
theorem dX5_sort_2 : decode cX5_sort 2 = .ok (.getfield 19, 3) := by decide +kernel
theorem dX5_sort_5 : decode cX5_sort 5 = .ok (.arraylength, 1) := by decide +kernel
theorem dX5_sort_6 : decode cX5_sort 6 = .ok (.invokestatic 66, 3) := by decide +kernel
theorem dX5_sort_9 : decode cX5_sort 9 = .ok (.aload_n 0, 1) := by decide +kernel
theorem dX5_sort_10 : decode cX5_sort 10 = .ok (.iload_n 2, 1) := by decide +kernel
theorem dX5_sort_11 : decode cX5_sort 11 = .ok (.invokevirtual 105, 3) := by decide +kernel
theorem dX5_sort_14 : decode cX5_sort 14 = .ok (.astore_n 3, 1) := by decide +kernel
theorem dX5_sort_15 : decode cX5_sort 15 = .ok (.aload_n 3, 1) := by decide +kernel
theorem dX5_sort_16 : decode cX5_sort 16 = .ok (.getfield 109, 3) := by decide +kernel
theorem dX5_sort_19 : decode cX5_sort 19 = .ok (.ifCond .ne 24, 3) := by decide +kernel
theorem dX5_sort_22 : decode cX5_sort 22 = .ok (.aload_n 3, 1) := by decide +kernel
theorem dX5_sort_23 : decode cX5_sort 23 = .ok (.getfield 112, 3) := by decide +kernel
theorem dX5_sort_26 : decode cX5_sort 26 = .ok (.invokevirtual 116, 3) := by decide +kernel
theorem dX5_sort_29 : decode cX5_sort 29 = .ok (.ifCond .ne 14, 3) := by decide +kernel
theorem dX5_sort_32 : decode cX5_sort 32 = .ok (.aload_n 3, 1) := by decide +kernel
theorem dX5_sort_33 : decode cX5_sort 33 = .ok (.getfield 112, 3) := by decide +kernel
theorem dX5_sort_36 : decode cX5_sort 36 = .ok (.iload_n 1, 1) := by decide +kernel
theorem dX5_sort_37 : decode cX5_sort 37 = .ok (.invokevirtual 122, 3) := by decide +kernel
theorem dX5_sort_40 : decode cX5_sort 40 = .ok (.ifCond .eq 13, 3) := by decide +kernel
theorem dX5_sort_43 : decode cX5_sort 43 = .ok (.new 78, 3) := by decide +kernel
theorem dX5_sort_46 : decode cX5_sort 46 = .ok (.dup, 1) := by decide +kernel
theorem dX5_sort_47 : decode cX5_sort 47 = .ok (.ldc 126, 2) := by decide +kernel
theorem dX5_sort_49 : decode cX5_sort 49 = .ok (.invokespecial 82, 3) := by decide +kernel
theorem dX5_sort_52 : decode cX5_sort 52 = .ok (.athrow, 1) := by decide +kernel
theorem dX5_sort_53 : decode cX5_sort 53 = .ok (.aload_n 3, 1) := by decide +kernel
theorem dX5_sort_54 : decode cX5_sort 54 = .ok (.getfield 128, 3) := by decide +kernel
theorem dX5_sort_57 : decode cX5_sort 57 = .ok (.aload_n 3, 1) := by decide +kernel
theorem dX5_sort_58 : decode cX5_sort 58 = .ok (.getfield 131, 3) := by decide +kernel
theorem dX5_sort_61 : decode cX5_sort 61 = .ok (.iadd, 1) := by decide +kernel
theorem dX5_sort_62 : decode cX5_sort 62 = .ok (.aload_n 0, 1) := by decide +kernel
theorem dX5_sort_63 : decode cX5_sort 63 = .ok (.getfield 19, 3) := by decide +kernel
theorem dX5_sort_66 : decode cX5_sort 66 = .ok (.iload_n 1, 1) := by decide +kernel
theorem dX5_sort_67 : decode cX5_sort 67 = .ok (.iaload, 1) := by decide +kernel
theorem dX5_sort_68 : decode cX5_sort 68 = .ok (.iadd, 1) := by decide +kernel
theorem dX5_sort_69 : decode cX5_sort 69 = .ok (.iconst 0, 1) := by decide +kernel
theorem dX5_sort_70 : decode cX5_sort 70 = .ok (.bipush 18, 2) := by decide +kernel
theorem dX5_sort_72 : decode cX5_sort 72 = .ok (.invokestatic 134, 3) := by decide +kernel
theorem dX5_sort_75 : decode cX5_sort 75 = .ok (.istore 4, 2) := by decide +kernel
theorem dX5_sort_77 : decode cX5_sort 77 = .ok (.aload_n 3, 1) := by decide +kernel
theorem dX5_sort_78 : decode cX5_sort 78 = .ok (.getfield 112, 3) := by decide +kernel
theorem dX5_sort_81 : decode cX5_sort 81 = .ok (.iload_n 1, 1) := by decide +kernel
theorem dX5_sort_82 : decode cX5_sort 82 = .ok (.iload 4, 2) := by decide +kernel
theorem dX5_sort_84 : decode cX5_sort 84 = .ok (.invokevirtual 138, 3) := by decide +kernel
theorem dX5_sort_87 : decode cX5_sort 87 = .ok (.iload 4, 2) := by decide +kernel
theorem dX5_sort_89 : decode cX5_sort 89 = .ok (.ireturn, 1) := by decide +kernel
theorem dX5_price_0 : decode cX5_price 0 = .ok (.iload_n 1, 1) := by decide +kernel
theorem dX5_price_1 : decode cX5_price 1 = .ok (.iconst 4, 1) := by decide +kernel
theorem dX5_price_2 : decode cX5_price 2 = .ok (.invokestatic 66, 3) := by decide +kernel
theorem dX5_price_5 : decode cX5_price 5 = .ok (.iload_n 2, 1) := by decide +kernel
theorem dX5_price_6 : decode cX5_price 6 = .ok (.bipush 19, 2) := by decide +kernel
theorem dX5_price_8 : decode cX5_price 8 = .ok (.invokestatic 66, 3) := by decide +kernel
theorem dX5_price_11 : decode cX5_price 11 = .ok (.iload_n 3, 1) := by decide +kernel
theorem dX5_price_12 : decode cX5_price 12 = .ok (.iconst 1, 1) := by decide +kernel
theorem dX5_price_13 : decode cX5_price 13 = .ok (.ldc 141, 2) := by decide +kernel
theorem dX5_price_15 : decode cX5_price 15 = .ok (.invokestatic 85, 3) := by decide +kernel
theorem dX5_price_18 : decode cX5_price 18 = .ok (.aload_n 0, 1) := by decide +kernel
theorem dX5_price_19 : decode cX5_price 19 = .ok (.getfield 25, 3) := by decide +kernel
theorem dX5_price_22 : decode cX5_price 22 = .ok (.iload_n 1, 1) := by decide +kernel
theorem dX5_price_23 : decode cX5_price 23 = .ok (.iload_n 2, 1) := by decide +kernel
theorem dX5_price_24 : decode cX5_price 24 = .ok (.invokevirtual 142, 3) := by decide +kernel
theorem dX5_price_27 : decode cX5_price 27 = .ok (.istore 4, 2) := by decide +kernel
theorem dX5_price_29 : decode cX5_price 29 = .ok (.aload_n 0, 1) := by decide +kernel
theorem dX5_price_30 : decode cX5_price 30 = .ok (.getfield 25, 3) := by decide +kernel
theorem dX5_price_33 : decode cX5_price 33 = .ok (.iload_n 1, 1) := by decide +kernel
theorem dX5_price_34 : decode cX5_price 34 = .ok (.iload_n 2, 1) := by decide +kernel
theorem dX5_price_35 : decode cX5_price 35 = .ok (.iload_n 3, 1) := by decide +kernel
theorem dX5_price_36 : decode cX5_price 36 = .ok (.invokevirtual 146, 3) := by decide +kernel
theorem dX5_price_39 : decode cX5_price 39 = .ok (.iload 4, 2) := by decide +kernel
theorem dX5_price_41 : decode cX5_price 41 = .ok (.ireturn, 1) := by decide +kernel
theorem dX5_value_0 : decode cX5_value 0 = .ok (.aload_n 0, 1) := by decide +kernel
theorem dX5_value_1 : decode cX5_value 1 = .ok (.getfield 25, 3) := by decide +kernel
theorem dX5_value_4 : decode cX5_value 4 = .ok (.aload_n 0, 1) := by decide +kernel
theorem dX5_value_5 : decode cX5_value 5 = .ok (.iload_n 1, 1) := by decide +kernel
theorem dX5_value_6 : decode cX5_value 6 = .ok (.invokevirtual 105, 3) := by decide +kernel
theorem dX5_value_9 : decode cX5_value 9 = .ok (.invokevirtual 149, 3) := by decide +kernel
theorem dX5_value_12 : decode cX5_value 12 = .ok (.ireturn, 1) := by decide +kernel
theorem dX5_stoneIs_0 : decode cX5_stoneIs 0 = .ok (.aload_n 0, 1) := by decide +kernel
theorem dX5_stoneIs_1 : decode cX5_stoneIs 1 = .ok (.iload_n 1, 1) := by decide +kernel
theorem dX5_stoneIs_2 : decode cX5_stoneIs 2 = .ok (.invokevirtual 105, 3) := by decide +kernel
theorem dX5_stoneIs_5 : decode cX5_stoneIs 5 = .ok (.astore_n 3, 1) := by decide +kernel
theorem dX5_stoneIs_6 : decode cX5_stoneIs 6 = .ok (.iload_n 2, 1) := by decide +kernel
theorem dX5_stoneIs_7 : decode cX5_stoneIs 7 = .ok (.tableswitch 84 0 6 #[41, 46, 51, 64, 69, 74, 79], 41) := by decide +kernel
theorem dX5_stoneIs_48 : decode cX5_stoneIs 48 = .ok (.aload_n 3, 1) := by decide +kernel
theorem dX5_stoneIs_49 : decode cX5_stoneIs 49 = .ok (.getfield 109, 3) := by decide +kernel
theorem dX5_stoneIs_52 : decode cX5_stoneIs 52 = .ok (.ireturn, 1) := by decide +kernel
theorem dX5_stoneIs_53 : decode cX5_stoneIs 53 = .ok (.aload_n 3, 1) := by decide +kernel
theorem dX5_stoneIs_54 : decode cX5_stoneIs 54 = .ok (.invokevirtual 153, 3) := by decide +kernel
theorem dX5_stoneIs_57 : decode cX5_stoneIs 57 = .ok (.ireturn, 1) := by decide +kernel
theorem dX5_stoneIs_58 : decode cX5_stoneIs 58 = .ok (.aload_n 3, 1) := by decide +kernel
theorem dX5_stoneIs_59 : decode cX5_stoneIs 59 = .ok (.invokevirtual 157, 3) := by decide +kernel
theorem dX5_stoneIs_62 : decode cX5_stoneIs 62 = .ok (.ifCond .eq 7, 3) := by decide +kernel
theorem dX5_stoneIs_65 : decode cX5_stoneIs 65 = .ok (.iconst 1, 1) := by decide +kernel
theorem dX5_stoneIs_66 : decode cX5_stoneIs 66 = .ok (.goto 4, 3) := by decide +kernel
theorem dX5_stoneIs_69 : decode cX5_stoneIs 69 = .ok (.iconst 0, 1) := by decide +kernel
theorem dX5_stoneIs_70 : decode cX5_stoneIs 70 = .ok (.ireturn, 1) := by decide +kernel
theorem dX5_stoneIs_71 : decode cX5_stoneIs 71 = .ok (.aload_n 3, 1) := by decide +kernel
theorem dX5_stoneIs_72 : decode cX5_stoneIs 72 = .ok (.getfield 160, 3) := by decide +kernel
theorem dX5_stoneIs_75 : decode cX5_stoneIs 75 = .ok (.ireturn, 1) := by decide +kernel
theorem dX5_stoneIs_76 : decode cX5_stoneIs 76 = .ok (.aload_n 3, 1) := by decide +kernel
theorem dX5_stoneIs_77 : decode cX5_stoneIs 77 = .ok (.getfield 163, 3) := by decide +kernel
theorem dX5_stoneIs_80 : decode cX5_stoneIs 80 = .ok (.ireturn, 1) := by decide +kernel
theorem dX5_stoneIs_81 : decode cX5_stoneIs 81 = .ok (.aload_n 3, 1) := by decide +kernel
theorem dX5_stoneIs_82 : decode cX5_stoneIs 82 = .ok (.getfield 166, 3) := by decide +kernel
theorem dX5_stoneIs_85 : decode cX5_stoneIs 85 = .ok (.ireturn, 1) := by decide +kernel
theorem dX5_stoneIs_86 : decode cX5_stoneIs 86 = .ok (.aload_n 3, 1) := by decide +kernel
theorem dX5_stoneIs_87 : decode cX5_stoneIs 87 = .ok (.getfield 169, 3) := by decide +kernel
theorem dX5_stoneIs_90 : decode cX5_stoneIs 90 = .ok (.ireturn, 1) := by decide +kernel
theorem dX5_stoneIs_91 : decode cX5_stoneIs 91 = .ok (.new 172, 3) := by decide +kernel
theorem dX5_stoneIs_94 : decode cX5_stoneIs 94 = .ok (.dup, 1) := by decide +kernel
theorem dX5_stoneIs_95 : decode cX5_stoneIs 95 = .ok (.ldc 174, 2) := by decide +kernel
theorem dX5_stoneIs_97 : decode cX5_stoneIs 97 = .ok (.invokespecial 176, 3) := by decide +kernel
theorem dX5_stoneIs_100 : decode cX5_stoneIs 100 = .ok (.athrow, 1) := by decide +kernel
theorem dX5_boxes_0 : decode cX5_boxes 0 = .ok (.iload_n 1, 1) := by decide +kernel
theorem dX5_boxes_1 : decode cX5_boxes 1 = .ok (.iconst 1, 1) := by decide +kernel
theorem dX5_boxes_2 : decode cX5_boxes 2 = .ok (.iconst 5, 1) := by decide +kernel
theorem dX5_boxes_3 : decode cX5_boxes 3 = .ok (.invokestatic 85, 3) := by decide +kernel
theorem dX5_boxes_6 : decode cX5_boxes 6 = .ok (.aload_n 0, 1) := by decide +kernel
theorem dX5_boxes_7 : decode cX5_boxes 7 = .ok (.invokevirtual 177, 3) := by decide +kernel
theorem dX5_boxes_10 : decode cX5_boxes 10 = .ok (.aload_n 0, 1) := by decide +kernel
theorem dX5_boxes_11 : decode cX5_boxes 11 = .ok (.iload_n 1, 1) := by decide +kernel
theorem dX5_boxes_12 : decode cX5_boxes 12 = .ok (.putfield 180, 3) := by decide +kernel
theorem dX5_boxes_15 : decode cX5_boxes 15 = .ok (.aload_n 0, 1) := by decide +kernel
theorem dX5_boxes_16 : decode cX5_boxes 16 = .ok (.invokevirtual 183, 3) := by decide +kernel
theorem dX5_boxes_19 : decode cX5_boxes 19 = .ok (.istore_n 2, 1) := by decide +kernel
theorem dX5_boxes_20 : decode cX5_boxes 20 = .ok (.aload_n 0, 1) := by decide +kernel
theorem dX5_boxes_21 : decode cX5_boxes 21 = .ok (.invokevirtual 186, 3) := by decide +kernel
theorem dX5_boxes_24 : decode cX5_boxes 24 = .ok (.iload_n 2, 1) := by decide +kernel
theorem dX5_boxes_25 : decode cX5_boxes 25 = .ok (.ireturn, 1) := by decide +kernel
theorem dX5_boxValue_0 : decode cX5_boxValue 0 = .ok (.iload_n 1, 1) := by decide +kernel
theorem dX5_boxValue_1 : decode cX5_boxValue 1 = .ok (.aload_n 0, 1) := by decide +kernel
theorem dX5_boxValue_2 : decode cX5_boxValue 2 = .ok (.getfield 180, 3) := by decide +kernel
theorem dX5_boxValue_5 : decode cX5_boxValue 5 = .ok (.invokestatic 66, 3) := by decide +kernel
theorem dX5_boxValue_8 : decode cX5_boxValue 8 = .ok (.aload_n 0, 1) := by decide +kernel
theorem dX5_boxValue_9 : decode cX5_boxValue 9 = .ok (.iload_n 1, 1) := by decide +kernel
theorem dX5_boxValue_10 : decode cX5_boxValue 10 = .ok (.invokevirtual 189, 3) := by decide +kernel
theorem dX5_boxValue_13 : decode cX5_boxValue 13 = .ok (.ifCond .ne 5, 3) := by decide +kernel
theorem dX5_boxValue_16 : decode cX5_boxValue 16 = .ok (.iconst (-1), 1) := by decide +kernel
theorem dX5_boxValue_17 : decode cX5_boxValue 17 = .ok (.ireturn, 1) := by decide +kernel
theorem dX5_boxValue_18 : decode cX5_boxValue 18 = .ok (.iconst 0, 1) := by decide +kernel
theorem dX5_boxValue_19 : decode cX5_boxValue 19 = .ok (.istore_n 2, 1) := by decide +kernel
theorem dX5_boxValue_20 : decode cX5_boxValue 20 = .ok (.aload_n 0, 1) := by decide +kernel
theorem dX5_boxValue_21 : decode cX5_boxValue 21 = .ok (.getfield 15, 3) := by decide +kernel
theorem dX5_boxValue_24 : decode cX5_boxValue 24 = .ok (.astore_n 3, 1) := by decide +kernel
theorem dX5_boxValue_25 : decode cX5_boxValue 25 = .ok (.aload_n 3, 1) := by decide +kernel
theorem dX5_boxValue_26 : decode cX5_boxValue 26 = .ok (.arraylength, 1) := by decide +kernel
theorem dX5_boxValue_27 : decode cX5_boxValue 27 = .ok (.istore 4, 2) := by decide +kernel
theorem dX5_boxValue_29 : decode cX5_boxValue 29 = .ok (.iconst 0, 1) := by decide +kernel
theorem dX5_boxValue_30 : decode cX5_boxValue 30 = .ok (.istore 5, 2) := by decide +kernel
theorem dX5_boxValue_32 : decode cX5_boxValue 32 = .ok (.iload 5, 2) := by decide +kernel
theorem dX5_boxValue_34 : decode cX5_boxValue 34 = .ok (.iload 4, 2) := by decide +kernel
theorem dX5_boxValue_36 : decode cX5_boxValue 36 = .ok (.if_icmp .ge 41, 3) := by decide +kernel
theorem dX5_boxValue_39 : decode cX5_boxValue 39 = .ok (.aload_n 3, 1) := by decide +kernel
theorem dX5_boxValue_40 : decode cX5_boxValue 40 = .ok (.iload 5, 2) := by decide +kernel
theorem dX5_boxValue_42 : decode cX5_boxValue 42 = .ok (.aaload, 1) := by decide +kernel
theorem dX5_boxValue_43 : decode cX5_boxValue 43 = .ok (.astore 6, 2) := by decide +kernel
theorem dX5_boxValue_45 : decode cX5_boxValue 45 = .ok (.aload 6, 2) := by decide +kernel
theorem dX5_boxValue_47 : decode cX5_boxValue 47 = .ok (.ifnull 24, 3) := by decide +kernel
theorem dX5_boxValue_50 : decode cX5_boxValue 50 = .ok (.aload 6, 2) := by decide +kernel
theorem dX5_boxValue_52 : decode cX5_boxValue 52 = .ok (.getfield 163, 3) := by decide +kernel
theorem dX5_boxValue_55 : decode cX5_boxValue 55 = .ok (.iload_n 1, 1) := by decide +kernel
theorem dX5_boxValue_56 : decode cX5_boxValue 56 = .ok (.if_icmp .ne 15, 3) := by decide +kernel
theorem dX5_boxValue_59 : decode cX5_boxValue 59 = .ok (.iload_n 2, 1) := by decide +kernel
theorem dX5_boxValue_60 : decode cX5_boxValue 60 = .ok (.aload_n 0, 1) := by decide +kernel
theorem dX5_boxValue_61 : decode cX5_boxValue 61 = .ok (.getfield 25, 3) := by decide +kernel
theorem dX5_boxValue_64 : decode cX5_boxValue 64 = .ok (.aload 6, 2) := by decide +kernel
theorem dX5_boxValue_66 : decode cX5_boxValue 66 = .ok (.invokevirtual 149, 3) := by decide +kernel
theorem dX5_boxValue_69 : decode cX5_boxValue 69 = .ok (.iadd, 1) := by decide +kernel
theorem dX5_boxValue_70 : decode cX5_boxValue 70 = .ok (.istore_n 2, 1) := by decide +kernel
theorem dX5_boxValue_71 : decode cX5_boxValue 71 = .ok (.iinc 5 1, 3) := by decide +kernel
theorem dX5_boxValue_74 : decode cX5_boxValue 74 = .ok (.goto (-42), 3) := by decide +kernel
theorem dX5_boxValue_77 : decode cX5_boxValue 77 = .ok (.iload_n 2, 1) := by decide +kernel
theorem dX5_boxValue_78 : decode cX5_boxValue 78 = .ok (.ireturn, 1) := by decide +kernel
theorem dX5_offered_0 : decode cX5_offered 0 = .ok (.iload_n 1, 1) := by decide +kernel
theorem dX5_offered_1 : decode cX5_offered 1 = .ok (.aload_n 0, 1) := by decide +kernel
theorem dX5_offered_2 : decode cX5_offered 2 = .ok (.getfield 32, 3) := by decide +kernel
theorem dX5_offered_5 : decode cX5_offered 5 = .ok (.arraylength, 1) := by decide +kernel
theorem dX5_offered_6 : decode cX5_offered 6 = .ok (.invokestatic 66, 3) := by decide +kernel
theorem dX5_offered_9 : decode cX5_offered 9 = .ok (.aload_n 0, 1) := by decide +kernel
theorem dX5_offered_10 : decode cX5_offered 10 = .ok (.getfield 32, 3) := by decide +kernel
theorem dX5_offered_13 : decode cX5_offered 13 = .ok (.iload_n 1, 1) := by decide +kernel
theorem dX5_offered_14 : decode cX5_offered 14 = .ok (.iaload, 1) := by decide +kernel
theorem dX5_offered_15 : decode cX5_offered 15 = .ok (.ireturn, 1) := by decide +kernel
theorem dX5_take_0 : decode cX5_take 0 = .ok (.iload_n 1, 1) := by decide +kernel
theorem dX5_take_1 : decode cX5_take 1 = .ok (.aload_n 0, 1) := by decide +kernel
theorem dX5_take_2 : decode cX5_take 2 = .ok (.getfield 32, 3) := by decide +kernel
theorem dX5_take_5 : decode cX5_take 5 = .ok (.arraylength, 1) := by decide +kernel
theorem dX5_take_6 : decode cX5_take 6 = .ok (.invokestatic 66, 3) := by decide +kernel
theorem dX5_take_9 : decode cX5_take 9 = .ok (.aload_n 0, 1) := by decide +kernel
theorem dX5_take_10 : decode cX5_take 10 = .ok (.getfield 32, 3) := by decide +kernel
theorem dX5_take_13 : decode cX5_take 13 = .ok (.iload_n 1, 1) := by decide +kernel
theorem dX5_take_14 : decode cX5_take 14 = .ok (.iaload, 1) := by decide +kernel
theorem dX5_take_15 : decode cX5_take 15 = .ok (.istore_n 3, 1) := by decide +kernel
theorem dX5_take_16 : decode cX5_take 16 = .ok (.iload_n 3, 1) := by decide +kernel
theorem dX5_take_17 : decode cX5_take 17 = .ok (.iconst (-1), 1) := by decide +kernel
theorem dX5_take_18 : decode cX5_take 18 = .ok (.if_icmp .ne 13, 3) := by decide +kernel
theorem dX5_take_21 : decode cX5_take 21 = .ok (.new 78, 3) := by decide +kernel
theorem dX5_take_24 : decode cX5_take 24 = .ok (.dup, 1) := by decide +kernel
theorem dX5_take_25 : decode cX5_take 25 = .ok (.ldc 192, 2) := by decide +kernel
theorem dX5_take_27 : decode cX5_take 27 = .ok (.invokespecial 82, 3) := by decide +kernel
theorem dX5_take_30 : decode cX5_take 30 = .ok (.athrow, 1) := by decide +kernel
theorem dX5_take_31 : decode cX5_take 31 = .ok (.aload_n 0, 1) := by decide +kernel
theorem dX5_take_32 : decode cX5_take 32 = .ok (.getfield 15, 3) := by decide +kernel
theorem dX5_take_35 : decode cX5_take 35 = .ok (.astore 4, 2) := by decide +kernel
theorem dX5_take_37 : decode cX5_take 37 = .ok (.aload 4, 2) := by decide +kernel
theorem dX5_take_39 : decode cX5_take 39 = .ok (.arraylength, 1) := by decide +kernel
theorem dX5_take_40 : decode cX5_take 40 = .ok (.istore 5, 2) := by decide +kernel
theorem dX5_take_42 : decode cX5_take 42 = .ok (.iconst 0, 1) := by decide +kernel
theorem dX5_take_43 : decode cX5_take 43 = .ok (.istore 6, 2) := by decide +kernel
theorem dX5_take_45 : decode cX5_take 45 = .ok (.iload 6, 2) := by decide +kernel
theorem dX5_take_47 : decode cX5_take 47 = .ok (.iload 5, 2) := by decide +kernel
theorem dX5_take_49 : decode cX5_take 49 = .ok (.if_icmp .ge 45, 3) := by decide +kernel
theorem dX5_take_52 : decode cX5_take 52 = .ok (.aload 4, 2) := by decide +kernel
theorem dX5_take_54 : decode cX5_take 54 = .ok (.iload 6, 2) := by decide +kernel
theorem dX5_take_56 : decode cX5_take 56 = .ok (.aaload, 1) := by decide +kernel
theorem dX5_take_57 : decode cX5_take 57 = .ok (.astore 7, 2) := by decide +kernel
theorem dX5_take_59 : decode cX5_take 59 = .ok (.aload 7, 2) := by decide +kernel
theorem dX5_take_61 : decode cX5_take 61 = .ok (.ifnull 27, 3) := by decide +kernel
theorem dX5_take_64 : decode cX5_take 64 = .ok (.aload 7, 2) := by decide +kernel
theorem dX5_take_66 : decode cX5_take 66 = .ok (.getfield 163, 3) := by decide +kernel
theorem dX5_take_69 : decode cX5_take 69 = .ok (.iload_n 3, 1) := by decide +kernel
theorem dX5_take_70 : decode cX5_take 70 = .ok (.if_icmp .ne 18, 3) := by decide +kernel
theorem dX5_take_73 : decode cX5_take 73 = .ok (.aload 7, 2) := by decide +kernel
theorem dX5_take_75 : decode cX5_take 75 = .ok (.invokevirtual 194, 3) := by decide +kernel
theorem dX5_take_78 : decode cX5_take 78 = .ok (.iload_n 2, 1) := by decide +kernel
theorem dX5_take_79 : decode cX5_take 79 = .ok (.ifCond .eq 9, 3) := by decide +kernel
theorem dX5_take_82 : decode cX5_take 82 = .ok (.aload 7, 2) := by decide +kernel
theorem dX5_take_84 : decode cX5_take 84 = .ok (.iload_n 1, 1) := by decide +kernel
theorem dX5_take_85 : decode cX5_take 85 = .ok (.invokevirtual 197, 3) := by decide +kernel
theorem dX5_take_88 : decode cX5_take 88 = .ok (.iinc 6 1, 3) := by decide +kernel
theorem dX5_take_91 : decode cX5_take 91 = .ok (.goto (-46), 3) := by decide +kernel
theorem dX5_take_94 : decode cX5_take 94 = .ok (.aload_n 0, 1) := by decide +kernel
theorem dX5_take_95 : decode cX5_take 95 = .ok (.getfield 32, 3) := by decide +kernel
theorem dX5_take_98 : decode cX5_take 98 = .ok (.iload_n 1, 1) := by decide +kernel
theorem dX5_take_99 : decode cX5_take 99 = .ok (.iconst (-1), 1) := by decide +kernel
theorem dX5_take_100 : decode cX5_take 100 = .ok (.iastore, 1) := by decide +kernel
theorem dX5_take_101 : decode cX5_take 101 = .ok (.aload_n 0, 1) := by decide +kernel
theorem dX5_take_102 : decode cX5_take 102 = .ok (.iload_n 1, 1) := by decide +kernel
theorem dX5_take_103 : decode cX5_take 103 = .ok (.iload_n 2, 1) := by decide +kernel
theorem dX5_take_104 : decode cX5_take 104 = .ok (.ifCond .eq 7, 3) := by decide +kernel
theorem dX5_take_107 : decode cX5_take 107 = .ok (.iconst 5, 1) := by decide +kernel
theorem dX5_take_108 : decode cX5_take 108 = .ok (.goto 5, 3) := by decide +kernel
theorem dX5_take_111 : decode cX5_take 111 = .ok (.bipush (-10), 2) := by decide +kernel
theorem dX5_take_113 : decode cX5_take 113 = .ok (.invokevirtual 201, 3) := by decide +kernel
theorem dX5_take_116 : decode cX5_take 116 = .ok (.ireturn, 1) := by decide +kernel
theorem dX5_tender_0 : decode cX5_tender 0 = .ok (.aload_n 0, 1) := by decide +kernel
theorem dX5_tender_1 : decode cX5_tender 1 = .ok (.iload_n 1, 1) := by decide +kernel
theorem dX5_tender_2 : decode cX5_tender 2 = .ok (.invokevirtual 105, 3) := by decide +kernel
theorem dX5_tender_5 : decode cX5_tender 5 = .ok (.astore_n 3, 1) := by decide +kernel
theorem dX5_tender_6 : decode cX5_tender 6 = .ok (.iload_n 2, 1) := by decide +kernel
theorem dX5_tender_7 : decode cX5_tender 7 = .ok (.iconst 0, 1) := by decide +kernel
theorem dX5_tender_8 : decode cX5_tender 8 = .ok (.ldc 204, 2) := by decide +kernel
theorem dX5_tender_10 : decode cX5_tender 10 = .ok (.invokestatic 85, 3) := by decide +kernel
theorem dX5_tender_13 : decode cX5_tender 13 = .ok (.aload_n 3, 1) := by decide +kernel
theorem dX5_tender_14 : decode cX5_tender 14 = .ok (.getfield 109, 3) := by decide +kernel
theorem dX5_tender_17 : decode cX5_tender 17 = .ok (.ifCond .ne 13, 3) := by decide +kernel
theorem dX5_tender_20 : decode cX5_tender 20 = .ok (.aload_n 0, 1) := by decide +kernel
theorem dX5_tender_21 : decode cX5_tender 21 = .ok (.getfield 41, 3) := by decide +kernel
theorem dX5_tender_24 : decode cX5_tender 24 = .ok (.invokevirtual 205, 3) := by decide +kernel
theorem dX5_tender_27 : decode cX5_tender 27 = .ok (.ifCond .eq 13, 3) := by decide +kernel
theorem dX5_tender_30 : decode cX5_tender 30 = .ok (.new 78, 3) := by decide +kernel
theorem dX5_tender_33 : decode cX5_tender 33 = .ok (.dup, 1) := by decide +kernel
theorem dX5_tender_34 : decode cX5_tender 34 = .ok (.ldc 208, 2) := by decide +kernel
theorem dX5_tender_36 : decode cX5_tender 36 = .ok (.invokespecial 82, 3) := by decide +kernel
theorem dX5_tender_39 : decode cX5_tender 39 = .ok (.athrow, 1) := by decide +kernel
theorem dX5_tender_40 : decode cX5_tender 40 = .ok (.aload_n 0, 1) := by decide +kernel
theorem dX5_tender_41 : decode cX5_tender 41 = .ok (.getfield 41, 3) := by decide +kernel
theorem dX5_tender_44 : decode cX5_tender 44 = .ok (.aload_n 3, 1) := by decide +kernel
theorem dX5_tender_45 : decode cX5_tender 45 = .ok (.iload_n 2, 1) := by decide +kernel
theorem dX5_tender_46 : decode cX5_tender 46 = .ok (.invokevirtual 210, 3) := by decide +kernel
theorem dX5_tender_49 : decode cX5_tender 49 = .ok (.return_, 1) := by decide +kernel
theorem dX5_bid_0 : decode cX5_bid 0 = .ok (.iload_n 1, 1) := by decide +kernel
theorem dX5_bid_1 : decode cX5_bid 1 = .ok (.iconst 5, 1) := by decide +kernel
theorem dX5_bid_2 : decode cX5_bid 2 = .ok (.invokestatic 66, 3) := by decide +kernel
theorem dX5_bid_5 : decode cX5_bid 5 = .ok (.iload_n 2, 1) := by decide +kernel
theorem dX5_bid_6 : decode cX5_bid 6 = .ok (.iconst 1, 1) := by decide +kernel
theorem dX5_bid_7 : decode cX5_bid 7 = .ok (.ldc 204, 2) := by decide +kernel
theorem dX5_bid_9 : decode cX5_bid 9 = .ok (.invokestatic 85, 3) := by decide +kernel
theorem dX5_bid_12 : decode cX5_bid 12 = .ok (.aload_n 0, 1) := by decide +kernel
theorem dX5_bid_13 : decode cX5_bid 13 = .ok (.getfield 41, 3) := by decide +kernel
theorem dX5_bid_16 : decode cX5_bid 16 = .ok (.invokevirtual 205, 3) := by decide +kernel
theorem dX5_bid_19 : decode cX5_bid 19 = .ok (.ifCond .ne 13, 3) := by decide +kernel
theorem dX5_bid_22 : decode cX5_bid 22 = .ok (.new 78, 3) := by decide +kernel
theorem dX5_bid_25 : decode cX5_bid 25 = .ok (.dup, 1) := by decide +kernel
theorem dX5_bid_26 : decode cX5_bid 26 = .ok (.ldc 214, 2) := by decide +kernel
theorem dX5_bid_28 : decode cX5_bid 28 = .ok (.invokespecial 82, 3) := by decide +kernel
theorem dX5_bid_31 : decode cX5_bid 31 = .ok (.athrow, 1) := by decide +kernel
theorem dX5_bid_32 : decode cX5_bid 32 = .ok (.aload_n 0, 1) := by decide +kernel
theorem dX5_bid_33 : decode cX5_bid 33 = .ok (.getfield 41, 3) := by decide +kernel
theorem dX5_bid_36 : decode cX5_bid 36 = .ok (.iload_n 1, 1) := by decide +kernel
theorem dX5_bid_37 : decode cX5_bid 37 = .ok (.invokevirtual 216, 3) := by decide +kernel
theorem dX5_bid_40 : decode cX5_bid 40 = .ok (.istore_n 3, 1) := by decide +kernel
theorem dX5_bid_41 : decode cX5_bid 41 = .ok (.aload_n 0, 1) := by decide +kernel
theorem dX5_bid_42 : decode cX5_bid 42 = .ok (.getfield 41, 3) := by decide +kernel
theorem dX5_bid_45 : decode cX5_bid 45 = .ok (.iload_n 1, 1) := by decide +kernel
theorem dX5_bid_46 : decode cX5_bid 46 = .ok (.iload_n 2, 1) := by decide +kernel
theorem dX5_bid_47 : decode cX5_bid 47 = .ok (.invokevirtual 219, 3) := by decide +kernel
theorem dX5_bid_50 : decode cX5_bid 50 = .ok (.iload_n 3, 1) := by decide +kernel
theorem dX5_bid_51 : decode cX5_bid 51 = .ok (.ireturn, 1) := by decide +kernel
theorem dX5_close_0 : decode cX5_close 0 = .ok (.aload_n 0, 1) := by decide +kernel
theorem dX5_close_1 : decode cX5_close 1 = .ok (.getfield 41, 3) := by decide +kernel
theorem dX5_close_4 : decode cX5_close 4 = .ok (.getfield 222, 3) := by decide +kernel
theorem dX5_close_7 : decode cX5_close 7 = .ok (.astore_n 1, 1) := by decide +kernel
theorem dX5_close_8 : decode cX5_close 8 = .ok (.aload_n 1, 1) := by decide +kernel
theorem dX5_close_9 : decode cX5_close 9 = .ok (.ifnonnull 13, 3) := by decide +kernel
theorem dX5_close_12 : decode cX5_close 12 = .ok (.new 78, 3) := by decide +kernel
theorem dX5_close_15 : decode cX5_close 15 = .ok (.dup, 1) := by decide +kernel
theorem dX5_close_16 : decode cX5_close 16 = .ok (.ldc 214, 2) := by decide +kernel
theorem dX5_close_18 : decode cX5_close 18 = .ok (.invokespecial 82, 3) := by decide +kernel
theorem dX5_close_21 : decode cX5_close 21 = .ok (.athrow, 1) := by decide +kernel
theorem dX5_close_22 : decode cX5_close 22 = .ok (.aload_n 0, 1) := by decide +kernel
theorem dX5_close_23 : decode cX5_close 23 = .ok (.invokevirtual 226, 3) := by decide +kernel
theorem dX5_close_26 : decode cX5_close 26 = .ok (.istore_n 2, 1) := by decide +kernel
theorem dX5_close_27 : decode cX5_close 27 = .ok (.iload_n 2, 1) := by decide +kernel
theorem dX5_close_28 : decode cX5_close 28 = .ok (.iconst (-1), 1) := by decide +kernel
theorem dX5_close_29 : decode cX5_close 29 = .ok (.if_icmp .eq 20, 3) := by decide +kernel
theorem dX5_close_32 : decode cX5_close 32 = .ok (.aload_n 1, 1) := by decide +kernel
theorem dX5_close_33 : decode cX5_close 33 = .ok (.aload_n 0, 1) := by decide +kernel
theorem dX5_close_34 : decode cX5_close 34 = .ok (.getfield 41, 3) := by decide +kernel
theorem dX5_close_37 : decode cX5_close 37 = .ok (.iload_n 2, 1) := by decide +kernel
theorem dX5_close_38 : decode cX5_close 38 = .ok (.invokevirtual 229, 3) := by decide +kernel
theorem dX5_close_41 : decode cX5_close 41 = .ok (.putfield 169, 3) := by decide +kernel
theorem dX5_close_44 : decode cX5_close 44 = .ok (.aload_n 1, 1) := by decide +kernel
theorem dX5_close_45 : decode cX5_close 45 = .ok (.iload_n 2, 1) := by decide +kernel
theorem dX5_close_46 : decode cX5_close 46 = .ok (.invokevirtual 197, 3) := by decide +kernel
theorem dX5_close_49 : decode cX5_close 49 = .ok (.aload_n 0, 1) := by decide +kernel
theorem dX5_close_50 : decode cX5_close 50 = .ok (.getfield 41, 3) := by decide +kernel
theorem dX5_close_53 : decode cX5_close 53 = .ok (.invokevirtual 232, 3) := by decide +kernel
theorem dX5_close_56 : decode cX5_close 56 = .ok (.iload_n 2, 1) := by decide +kernel
theorem dX5_close_57 : decode cX5_close 57 = .ok (.ireturn, 1) := by decide +kernel
theorem dX5_plan_0 : decode cX5_plan 0 = .ok (.aload_n 0, 1) := by decide +kernel
theorem dX5_plan_1 : decode cX5_plan 1 = .ok (.iload_n 1, 1) := by decide +kernel
theorem dX5_plan_2 : decode cX5_plan 2 = .ok (.invokevirtual 105, 3) := by decide +kernel
theorem dX5_plan_5 : decode cX5_plan 5 = .ok (.getfield 235, 3) := by decide +kernel
theorem dX5_plan_8 : decode cX5_plan 8 = .ok (.istore_n 2, 1) := by decide +kernel
theorem dX5_plan_9 : decode cX5_plan 9 = .ok (.iconst 0, 1) := by decide +kernel
theorem dX5_plan_10 : decode cX5_plan 10 = .ok (.istore_n 3, 1) := by decide +kernel
theorem dX5_plan_11 : decode cX5_plan 11 = .ok (.iconst 0, 1) := by decide +kernel
theorem dX5_plan_12 : decode cX5_plan 12 = .ok (.istore 4, 2) := by decide +kernel
theorem dX5_plan_14 : decode cX5_plan 14 = .ok (.iload 4, 2) := by decide +kernel
theorem dX5_plan_16 : decode cX5_plan 16 = .ok (.bipush 12, 2) := by decide +kernel
theorem dX5_plan_18 : decode cX5_plan 18 = .ok (.if_icmp .ge 25, 3) := by decide +kernel
theorem dX5_plan_21 : decode cX5_plan 21 = .ok (.iload_n 2, 1) := by decide +kernel
theorem dX5_plan_22 : decode cX5_plan 22 = .ok (.iload 4, 2) := by decide +kernel
theorem dX5_plan_24 : decode cX5_plan 24 = .ok (.invokestatic 238, 3) := by decide +kernel
theorem dX5_plan_27 : decode cX5_plan 27 = .ok (.istore 5, 2) := by decide +kernel
theorem dX5_plan_29 : decode cX5_plan 29 = .ok (.iload_n 3, 1) := by decide +kernel
theorem dX5_plan_30 : decode cX5_plan 30 = .ok (.iload 5, 2) := by decide +kernel
theorem dX5_plan_32 : decode cX5_plan 32 = .ok (.iload 5, 2) := by decide +kernel
theorem dX5_plan_34 : decode cX5_plan 34 = .ok (.imul, 1) := by decide +kernel
theorem dX5_plan_35 : decode cX5_plan 35 = .ok (.iadd, 1) := by decide +kernel
theorem dX5_plan_36 : decode cX5_plan 36 = .ok (.istore_n 3, 1) := by decide +kernel
theorem dX5_plan_37 : decode cX5_plan 37 = .ok (.iinc 4 1, 3) := by decide +kernel
theorem dX5_plan_40 : decode cX5_plan 40 = .ok (.goto (-26), 3) := by decide +kernel
theorem dX5_plan_43 : decode cX5_plan 43 = .ok (.iload_n 3, 1) := by decide +kernel
theorem dX5_plan_44 : decode cX5_plan 44 = .ok (.ireturn, 1) := by decide +kernel
theorem dX5_planAnew_0 : decode cX5_planAnew 0 = .ok (.aload_n 0, 1) := by decide +kernel
theorem dX5_planAnew_1 : decode cX5_planAnew 1 = .ok (.iload_n 1, 1) := by decide +kernel
theorem dX5_planAnew_2 : decode cX5_planAnew 2 = .ok (.invokevirtual 105, 3) := by decide +kernel
theorem dX5_planAnew_5 : decode cX5_planAnew 5 = .ok (.getfield 235, 3) := by decide +kernel
theorem dX5_planAnew_8 : decode cX5_planAnew 8 = .ok (.istore_n 2, 1) := by decide +kernel
theorem dX5_planAnew_9 : decode cX5_planAnew 9 = .ok (.iconst 0, 1) := by decide +kernel
theorem dX5_planAnew_10 : decode cX5_planAnew 10 = .ok (.istore_n 3, 1) := by decide +kernel
theorem dX5_planAnew_11 : decode cX5_planAnew 11 = .ok (.iconst 0, 1) := by decide +kernel
theorem dX5_planAnew_12 : decode cX5_planAnew 12 = .ok (.istore 4, 2) := by decide +kernel
theorem dX5_planAnew_14 : decode cX5_planAnew 14 = .ok (.iload 4, 2) := by decide +kernel
theorem dX5_planAnew_16 : decode cX5_planAnew 16 = .ok (.sipush 4095, 3) := by decide +kernel
theorem dX5_planAnew_19 : decode cX5_planAnew 19 = .ok (.if_icmp .gt 27, 3) := by decide +kernel
theorem dX5_planAnew_22 : decode cX5_planAnew 22 = .ok (.iload 4, 2) := by decide +kernel
theorem dX5_planAnew_24 : decode cX5_planAnew 24 = .ok (.iload_n 2, 1) := by decide +kernel
theorem dX5_planAnew_25 : decode cX5_planAnew 25 = .ok (.iand, 1) := by decide +kernel
theorem dX5_planAnew_26 : decode cX5_planAnew 26 = .ok (.iload_n 2, 1) := by decide +kernel
theorem dX5_planAnew_27 : decode cX5_planAnew 27 = .ok (.if_icmp .ne 13, 3) := by decide +kernel
theorem dX5_planAnew_30 : decode cX5_planAnew 30 = .ok (.iload_n 3, 1) := by decide +kernel
theorem dX5_planAnew_31 : decode cX5_planAnew 31 = .ok (.iload 4, 2) := by decide +kernel
theorem dX5_planAnew_33 : decode cX5_planAnew 33 = .ok (.invokestatic 241, 3) := by decide +kernel
theorem dX5_planAnew_36 : decode cX5_planAnew 36 = .ok (.invokestatic 244, 3) := by decide +kernel
theorem dX5_planAnew_39 : decode cX5_planAnew 39 = .ok (.istore_n 3, 1) := by decide +kernel
theorem dX5_planAnew_40 : decode cX5_planAnew 40 = .ok (.iinc 4 1, 3) := by decide +kernel
theorem dX5_planAnew_43 : decode cX5_planAnew 43 = .ok (.goto (-29), 3) := by decide +kernel
theorem dX5_planAnew_46 : decode cX5_planAnew 46 = .ok (.iload_n 3, 1) := by decide +kernel
theorem dX5_planAnew_47 : decode cX5_planAnew 47 = .ok (.ireturn, 1) := by decide +kernel
theorem dX5_cut_0 : decode cX5_cut 0 = .ok (.aload_n 0, 1) := by decide +kernel
theorem dX5_cut_1 : decode cX5_cut 1 = .ok (.iload_n 1, 1) := by decide +kernel
theorem dX5_cut_2 : decode cX5_cut 2 = .ok (.invokevirtual 105, 3) := by decide +kernel
theorem dX5_cut_5 : decode cX5_cut 5 = .ok (.astore_n 2, 1) := by decide +kernel
theorem dX5_cut_6 : decode cX5_cut 6 = .ok (.aload_n 2, 1) := by decide +kernel
theorem dX5_cut_7 : decode cX5_cut 7 = .ok (.getfield 109, 3) := by decide +kernel
theorem dX5_cut_10 : decode cX5_cut 10 = .ok (.iconst 1, 1) := by decide +kernel
theorem dX5_cut_11 : decode cX5_cut 11 = .ok (.if_icmp .eq 11, 3) := by decide +kernel
theorem dX5_cut_14 : decode cX5_cut 14 = .ok (.aload_n 2, 1) := by decide +kernel
theorem dX5_cut_15 : decode cX5_cut 15 = .ok (.getfield 109, 3) := by decide +kernel
theorem dX5_cut_18 : decode cX5_cut 18 = .ok (.iconst 3, 1) := by decide +kernel
theorem dX5_cut_19 : decode cX5_cut 19 = .ok (.if_icmp .ne 13, 3) := by decide +kernel
theorem dX5_cut_22 : decode cX5_cut 22 = .ok (.new 78, 3) := by decide +kernel
theorem dX5_cut_25 : decode cX5_cut 25 = .ok (.dup, 1) := by decide +kernel
theorem dX5_cut_26 : decode cX5_cut 26 = .ok (.ldc 249, 2) := by decide +kernel
theorem dX5_cut_28 : decode cX5_cut 28 = .ok (.invokespecial 82, 3) := by decide +kernel
theorem dX5_cut_31 : decode cX5_cut 31 = .ok (.athrow, 1) := by decide +kernel
theorem dX5_cut_32 : decode cX5_cut 32 = .ok (.aload_n 2, 1) := by decide +kernel
theorem dX5_cut_33 : decode cX5_cut 33 = .ok (.getfield 235, 3) := by decide +kernel
theorem dX5_cut_36 : decode cX5_cut 36 = .ok (.invokestatic 251, 3) := by decide +kernel
theorem dX5_cut_39 : decode cX5_cut 39 = .ok (.istore_n 3, 1) := by decide +kernel
theorem dX5_cut_40 : decode cX5_cut 40 = .ok (.aload_n 0, 1) := by decide +kernel
theorem dX5_cut_41 : decode cX5_cut 41 = .ok (.getfield 254, 3) := by decide +kernel
theorem dX5_cut_44 : decode cX5_cut 44 = .ok (.iload_n 3, 1) := by decide +kernel
theorem dX5_cut_45 : decode cX5_cut 45 = .ok (.iadd, 1) := by decide +kernel
theorem dX5_cut_46 : decode cX5_cut 46 = .ok (.bipush 80, 2) := by decide +kernel
theorem dX5_cut_48 : decode cX5_cut 48 = .ok (.if_icmp .le 14, 3) := by decide +kernel
theorem dX5_cut_51 : decode cX5_cut 51 = .ok (.new 78, 3) := by decide +kernel
theorem dX5_cut_54 : decode cX5_cut 54 = .ok (.dup, 1) := by decide +kernel
theorem dX5_cut_55 : decode cX5_cut 55 = .ok (.ldc_w 257, 3) := by decide +kernel
theorem dX5_cut_58 : decode cX5_cut 58 = .ok (.invokespecial 82, 3) := by decide +kernel
theorem dX5_cut_61 : decode cX5_cut 61 = .ok (.athrow, 1) := by decide +kernel
theorem dX5_cut_62 : decode cX5_cut 62 = .ok (.aload_n 0, 1) := by decide +kernel
theorem dX5_cut_63 : decode cX5_cut 63 = .ok (.dup, 1) := by decide +kernel
theorem dX5_cut_64 : decode cX5_cut 64 = .ok (.getfield 259, 3) := by decide +kernel
theorem dX5_cut_67 : decode cX5_cut 67 = .ok (.aload_n 2, 1) := by decide +kernel
theorem dX5_cut_68 : decode cX5_cut 68 = .ok (.getfield 262, 3) := by decide +kernel
theorem dX5_cut_71 : decode cX5_cut 71 = .ok (.iadd, 1) := by decide +kernel
theorem dX5_cut_72 : decode cX5_cut 72 = .ok (.putfield 259, 3) := by decide +kernel
theorem dX5_cut_75 : decode cX5_cut 75 = .ok (.iconst 0, 1) := by decide +kernel
theorem dX5_cut_76 : decode cX5_cut 76 = .ok (.istore 4, 2) := by decide +kernel
theorem dX5_cut_78 : decode cX5_cut 78 = .ok (.iload 4, 2) := by decide +kernel
theorem dX5_cut_80 : decode cX5_cut 80 = .ok (.bipush 12, 2) := by decide +kernel
theorem dX5_cut_82 : decode cX5_cut 82 = .ok (.if_icmp .ge 41, 3) := by decide +kernel
theorem dX5_cut_85 : decode cX5_cut 85 = .ok (.aload_n 2, 1) := by decide +kernel
theorem dX5_cut_86 : decode cX5_cut 86 = .ok (.getfield 235, 3) := by decide +kernel
theorem dX5_cut_89 : decode cX5_cut 89 = .ok (.iload 4, 2) := by decide +kernel
theorem dX5_cut_91 : decode cX5_cut 91 = .ok (.invokestatic 238, 3) := by decide +kernel
theorem dX5_cut_94 : decode cX5_cut 94 = .ok (.istore 5, 2) := by decide +kernel
theorem dX5_cut_96 : decode cX5_cut 96 = .ok (.iload 5, 2) := by decide +kernel
theorem dX5_cut_98 : decode cX5_cut 98 = .ok (.ifCond .le 19, 3) := by decide +kernel
theorem dX5_cut_101 : decode cX5_cut 101 = .ok (.aload_n 0, 1) := by decide +kernel
theorem dX5_cut_102 : decode cX5_cut 102 = .ok (.new 45, 3) := by decide +kernel
theorem dX5_cut_105 : decode cX5_cut 105 = .ok (.dup, 1) := by decide +kernel
theorem dX5_cut_106 : decode cX5_cut 106 = .ok (.aload_n 2, 1) := by decide +kernel
theorem dX5_cut_107 : decode cX5_cut 107 = .ok (.iload 4, 2) := by decide +kernel
theorem dX5_cut_109 : decode cX5_cut 109 = .ok (.iload 5, 2) := by decide +kernel
theorem dX5_cut_111 : decode cX5_cut 111 = .ok (.invokespecial 265, 3) := by decide +kernel
theorem dX5_cut_114 : decode cX5_cut 114 = .ok (.invokevirtual 268, 3) := by decide +kernel
theorem dX5_cut_117 : decode cX5_cut 117 = .ok (.iinc 4 1, 3) := by decide +kernel
theorem dX5_cut_120 : decode cX5_cut 120 = .ok (.goto (-42), 3) := by decide +kernel
theorem dX5_cut_123 : decode cX5_cut 123 = .ok (.aload_n 2, 1) := by decide +kernel
theorem dX5_cut_124 : decode cX5_cut 124 = .ok (.iconst 3, 1) := by decide +kernel
theorem dX5_cut_125 : decode cX5_cut 125 = .ok (.putfield 109, 3) := by decide +kernel
theorem dX5_cut_128 : decode cX5_cut 128 = .ok (.aload_n 0, 1) := by decide +kernel
theorem dX5_cut_129 : decode cX5_cut 129 = .ok (.aload_n 2, 1) := by decide +kernel
theorem dX5_cut_130 : decode cX5_cut 130 = .ok (.invokevirtual 272, 3) := by decide +kernel
theorem dX5_cut_133 : decode cX5_cut 133 = .ok (.iload_n 3, 1) := by decide +kernel
theorem dX5_cut_134 : decode cX5_cut 134 = .ok (.ireturn, 1) := by decide +kernel
theorem dX5_recut_0 : decode cX5_recut 0 = .ok (.aload_n 0, 1) := by decide +kernel
theorem dX5_recut_1 : decode cX5_recut 1 = .ok (.iload_n 1, 1) := by decide +kernel
theorem dX5_recut_2 : decode cX5_recut 2 = .ok (.invokevirtual 276, 3) := by decide +kernel
theorem dX5_recut_5 : decode cX5_recut 5 = .ok (.astore_n 3, 1) := by decide +kernel
theorem dX5_recut_6 : decode cX5_recut 6 = .ok (.iload_n 2, 1) := by decide +kernel
theorem dX5_recut_7 : decode cX5_recut 7 = .ok (.iconst 1, 1) := by decide +kernel
theorem dX5_recut_8 : decode cX5_recut 8 = .ok (.aload_n 3, 1) := by decide +kernel
theorem dX5_recut_9 : decode cX5_recut 9 = .ok (.getfield 280, 3) := by decide +kernel
theorem dX5_recut_12 : decode cX5_recut 12 = .ok (.iconst 1, 1) := by decide +kernel
theorem dX5_recut_13 : decode cX5_recut 13 = .ok (.isub, 1) := by decide +kernel
theorem dX5_recut_14 : decode cX5_recut 14 = .ok (.invokestatic 85, 3) := by decide +kernel
theorem dX5_recut_17 : decode cX5_recut 17 = .ok (.aload_n 3, 1) := by decide +kernel
theorem dX5_recut_18 : decode cX5_recut 18 = .ok (.getfield 280, 3) := by decide +kernel
theorem dX5_recut_21 : decode cX5_recut 21 = .ok (.iload_n 2, 1) := by decide +kernel
theorem dX5_recut_22 : decode cX5_recut 22 = .ok (.isub, 1) := by decide +kernel
theorem dX5_recut_23 : decode cX5_recut 23 = .ok (.istore 4, 2) := by decide +kernel
theorem dX5_recut_25 : decode cX5_recut 25 = .ok (.aload_n 3, 1) := by decide +kernel
theorem dX5_recut_26 : decode cX5_recut 26 = .ok (.iload_n 2, 1) := by decide +kernel
theorem dX5_recut_27 : decode cX5_recut 27 = .ok (.putfield 280, 3) := by decide +kernel
theorem dX5_recut_30 : decode cX5_recut 30 = .ok (.aload_n 0, 1) := by decide +kernel
theorem dX5_recut_31 : decode cX5_recut 31 = .ok (.dup, 1) := by decide +kernel
theorem dX5_recut_32 : decode cX5_recut 32 = .ok (.getfield 259, 3) := by decide +kernel
theorem dX5_recut_35 : decode cX5_recut 35 = .ok (.iload 4, 2) := by decide +kernel
theorem dX5_recut_37 : decode cX5_recut 37 = .ok (.iadd, 1) := by decide +kernel
theorem dX5_recut_38 : decode cX5_recut 38 = .ok (.putfield 259, 3) := by decide +kernel
theorem dX5_recut_41 : decode cX5_recut 41 = .ok (.iload 4, 2) := by decide +kernel
theorem dX5_recut_43 : decode cX5_recut 43 = .ok (.ireturn, 1) := by decide +kernel
theorem dX5_polished_0 : decode cX5_polished 0 = .ok (.aload_n 0, 1) := by decide +kernel
theorem dX5_polished_1 : decode cX5_polished 1 = .ok (.iload_n 1, 1) := by decide +kernel
theorem dX5_polished_2 : decode cX5_polished 2 = .ok (.invokevirtual 276, 3) := by decide +kernel
theorem dX5_polished_5 : decode cX5_polished 5 = .ok (.astore_n 3, 1) := by decide +kernel
theorem dX5_polished_6 : decode cX5_polished 6 = .ok (.iload_n 2, 1) := by decide +kernel
theorem dX5_polished_7 : decode cX5_polished 7 = .ok (.tableswitch 94 0 8 #[49, 54, 59, 64, 69, 74, 79, 84, 89], 49) := by decide +kernel
theorem dX5_polished_56 : decode cX5_polished 56 = .ok (.aload_n 3, 1) := by decide +kernel
theorem dX5_polished_57 : decode cX5_polished 57 = .ok (.getfield 281, 3) := by decide +kernel
theorem dX5_polished_60 : decode cX5_polished 60 = .ok (.ireturn, 1) := by decide +kernel
theorem dX5_polished_61 : decode cX5_polished 61 = .ok (.aload_n 3, 1) := by decide +kernel
theorem dX5_polished_62 : decode cX5_polished 62 = .ok (.getfield 280, 3) := by decide +kernel
theorem dX5_polished_65 : decode cX5_polished 65 = .ok (.ireturn, 1) := by decide +kernel
theorem dX5_polished_66 : decode cX5_polished 66 = .ok (.aload_n 3, 1) := by decide +kernel
theorem dX5_polished_67 : decode cX5_polished 67 = .ok (.getfield 283, 3) := by decide +kernel
theorem dX5_polished_70 : decode cX5_polished 70 = .ok (.ireturn, 1) := by decide +kernel
theorem dX5_polished_71 : decode cX5_polished 71 = .ok (.aload_n 3, 1) := by decide +kernel
theorem dX5_polished_72 : decode cX5_polished 72 = .ok (.getfield 286, 3) := by decide +kernel
theorem dX5_polished_75 : decode cX5_polished 75 = .ok (.ireturn, 1) := by decide +kernel
theorem dX5_polished_76 : decode cX5_polished 76 = .ok (.aload_n 3, 1) := by decide +kernel
theorem dX5_polished_77 : decode cX5_polished 77 = .ok (.getfield 289, 3) := by decide +kernel
theorem dX5_polished_80 : decode cX5_polished 80 = .ok (.ireturn, 1) := by decide +kernel
theorem dX5_polished_81 : decode cX5_polished 81 = .ok (.aload_n 3, 1) := by decide +kernel
theorem dX5_polished_82 : decode cX5_polished 82 = .ok (.invokevirtual 290, 3) := by decide +kernel
theorem dX5_polished_85 : decode cX5_polished 85 = .ok (.ireturn, 1) := by decide +kernel
theorem dX5_polished_86 : decode cX5_polished 86 = .ok (.aload_n 3, 1) := by decide +kernel
theorem dX5_polished_87 : decode cX5_polished 87 = .ok (.invokevirtual 293, 3) := by decide +kernel
theorem dX5_polished_90 : decode cX5_polished 90 = .ok (.ireturn, 1) := by decide +kernel
theorem dX5_polished_91 : decode cX5_polished 91 = .ok (.aload_n 3, 1) := by decide +kernel
theorem dX5_polished_92 : decode cX5_polished 92 = .ok (.getfield 296, 3) := by decide +kernel
theorem dX5_polished_95 : decode cX5_polished 95 = .ok (.ireturn, 1) := by decide +kernel
theorem dX5_polished_96 : decode cX5_polished 96 = .ok (.aload_n 3, 1) := by decide +kernel
theorem dX5_polished_97 : decode cX5_polished 97 = .ok (.getfield 299, 3) := by decide +kernel
theorem dX5_polished_100 : decode cX5_polished 100 = .ok (.ireturn, 1) := by decide +kernel
theorem dX5_polished_101 : decode cX5_polished 101 = .ok (.new 172, 3) := by decide +kernel
theorem dX5_polished_104 : decode cX5_polished 104 = .ok (.dup, 1) := by decide +kernel
theorem dX5_polished_105 : decode cX5_polished 105 = .ok (.ldc_w 302, 3) := by decide +kernel
theorem dX5_polished_108 : decode cX5_polished 108 = .ok (.invokespecial 176, 3) := by decide +kernel
theorem dX5_polished_111 : decode cX5_polished 111 = .ok (.athrow, 1) := by decide +kernel
theorem dX5_scale_0 : decode cX5_scale 0 = .ok (.iload_n 1, 1) := by decide +kernel
theorem dX5_scale_1 : decode cX5_scale 1 = .ok (.aload_n 0, 1) := by decide +kernel
theorem dX5_scale_2 : decode cX5_scale 2 = .ok (.getfield 51, 3) := by decide +kernel
theorem dX5_scale_5 : decode cX5_scale 5 = .ok (.arraylength, 1) := by decide +kernel
theorem dX5_scale_6 : decode cX5_scale 6 = .ok (.invokestatic 66, 3) := by decide +kernel
theorem dX5_scale_9 : decode cX5_scale 9 = .ok (.iload_n 2, 1) := by decide +kernel
theorem dX5_scale_10 : decode cX5_scale 10 = .ok (.iconst (-1), 1) := by decide +kernel
theorem dX5_scale_11 : decode cX5_scale 11 = .ok (.iconst 1, 1) := by decide +kernel
theorem dX5_scale_12 : decode cX5_scale 12 = .ok (.invokestatic 85, 3) := by decide +kernel
theorem dX5_scale_15 : decode cX5_scale 15 = .ok (.aload_n 0, 1) := by decide +kernel
theorem dX5_scale_16 : decode cX5_scale 16 = .ok (.getfield 51, 3) := by decide +kernel
theorem dX5_scale_19 : decode cX5_scale 19 = .ok (.iload_n 1, 1) := by decide +kernel
theorem dX5_scale_20 : decode cX5_scale 20 = .ok (.iaload, 1) := by decide +kernel
theorem dX5_scale_21 : decode cX5_scale 21 = .ok (.istore_n 3, 1) := by decide +kernel
theorem dX5_scale_22 : decode cX5_scale 22 = .ok (.aload_n 0, 1) := by decide +kernel
theorem dX5_scale_23 : decode cX5_scale 23 = .ok (.getfield 51, 3) := by decide +kernel
theorem dX5_scale_26 : decode cX5_scale 26 = .ok (.iload_n 1, 1) := by decide +kernel
theorem dX5_scale_27 : decode cX5_scale 27 = .ok (.iload_n 2, 1) := by decide +kernel
theorem dX5_scale_28 : decode cX5_scale 28 = .ok (.iastore, 1) := by decide +kernel
theorem dX5_scale_29 : decode cX5_scale 29 = .ok (.iload_n 3, 1) := by decide +kernel
theorem dX5_scale_30 : decode cX5_scale 30 = .ok (.ireturn, 1) := by decide +kernel
theorem dX5_look_0 : decode cX5_look 0 = .ok (.iload_n 1, 1) := by decide +kernel
theorem dX5_look_1 : decode cX5_look 1 = .ok (.aload_n 0, 1) := by decide +kernel
theorem dX5_look_2 : decode cX5_look 2 = .ok (.getfield 51, 3) := by decide +kernel
theorem dX5_look_5 : decode cX5_look 5 = .ok (.arraylength, 1) := by decide +kernel
theorem dX5_look_6 : decode cX5_look 6 = .ok (.invokestatic 66, 3) := by decide +kernel
theorem dX5_look_9 : decode cX5_look 9 = .ok (.aload_n 0, 1) := by decide +kernel
theorem dX5_look_10 : decode cX5_look 10 = .ok (.iload_n 2, 1) := by decide +kernel
theorem dX5_look_11 : decode cX5_look 11 = .ok (.invokevirtual 276, 3) := by decide +kernel
theorem dX5_look_14 : decode cX5_look 14 = .ok (.astore_n 3, 1) := by decide +kernel
theorem dX5_look_15 : decode cX5_look 15 = .ok (.aload_n 3, 1) := by decide +kernel
theorem dX5_look_16 : decode cX5_look 16 = .ok (.getfield 304, 3) := by decide +kernel
theorem dX5_look_19 : decode cX5_look 19 = .ok (.iload_n 1, 1) := by decide +kernel
theorem dX5_look_20 : decode cX5_look 20 = .ok (.invokevirtual 122, 3) := by decide +kernel
theorem dX5_look_23 : decode cX5_look 23 = .ok (.ifCond .ne 11, 3) := by decide +kernel
theorem dX5_look_26 : decode cX5_look 26 = .ok (.aload_n 3, 1) := by decide +kernel
theorem dX5_look_27 : decode cX5_look 27 = .ok (.invokevirtual 290, 3) := by decide +kernel
theorem dX5_look_30 : decode cX5_look 30 = .ok (.iconst (-1), 1) := by decide +kernel
theorem dX5_look_31 : decode cX5_look 31 = .ok (.if_icmp .eq 14, 3) := by decide +kernel
theorem dX5_look_34 : decode cX5_look 34 = .ok (.new 78, 3) := by decide +kernel
theorem dX5_look_37 : decode cX5_look 37 = .ok (.dup, 1) := by decide +kernel
theorem dX5_look_38 : decode cX5_look 38 = .ok (.ldc_w 307, 3) := by decide +kernel
theorem dX5_look_41 : decode cX5_look 41 = .ok (.invokespecial 82, 3) := by decide +kernel
theorem dX5_look_44 : decode cX5_look 44 = .ok (.athrow, 1) := by decide +kernel
theorem dX5_look_45 : decode cX5_look 45 = .ok (.aload_n 3, 1) := by decide +kernel
theorem dX5_look_46 : decode cX5_look 46 = .ok (.getfield 309, 3) := by decide +kernel
theorem dX5_look_49 : decode cX5_look 49 = .ok (.aload_n 0, 1) := by decide +kernel
theorem dX5_look_50 : decode cX5_look 50 = .ok (.getfield 51, 3) := by decide +kernel
theorem dX5_look_53 : decode cX5_look 53 = .ok (.iload_n 1, 1) := by decide +kernel
theorem dX5_look_54 : decode cX5_look 54 = .ok (.iaload, 1) := by decide +kernel
theorem dX5_look_55 : decode cX5_look 55 = .ok (.iadd, 1) := by decide +kernel
theorem dX5_look_56 : decode cX5_look 56 = .ok (.iconst 0, 1) := by decide +kernel
theorem dX5_look_57 : decode cX5_look 57 = .ok (.bipush 9, 2) := by decide +kernel
theorem dX5_look_59 : decode cX5_look 59 = .ok (.invokestatic 134, 3) := by decide +kernel
theorem dX5_look_62 : decode cX5_look 62 = .ok (.istore 4, 2) := by decide +kernel
theorem dX5_look_64 : decode cX5_look 64 = .ok (.aload_n 3, 1) := by decide +kernel
theorem dX5_look_65 : decode cX5_look 65 = .ok (.getfield 304, 3) := by decide +kernel
theorem dX5_look_68 : decode cX5_look 68 = .ok (.iload_n 1, 1) := by decide +kernel
theorem dX5_look_69 : decode cX5_look 69 = .ok (.iload 4, 2) := by decide +kernel
theorem dX5_look_71 : decode cX5_look 71 = .ok (.invokevirtual 138, 3) := by decide +kernel
theorem dX5_look_74 : decode cX5_look 74 = .ok (.iload 4, 2) := by decide +kernel
theorem dX5_look_76 : decode cX5_look 76 = .ok (.ireturn, 1) := by decide +kernel
theorem dX5_paper_0 : decode cX5_paper 0 = .ok (.aload_n 0, 1) := by decide +kernel
theorem dX5_paper_1 : decode cX5_paper 1 = .ok (.iload_n 1, 1) := by decide +kernel
theorem dX5_paper_2 : decode cX5_paper 2 = .ok (.invokevirtual 276, 3) := by decide +kernel
theorem dX5_paper_5 : decode cX5_paper 5 = .ok (.astore_n 3, 1) := by decide +kernel
theorem dX5_paper_6 : decode cX5_paper 6 = .ok (.iload_n 2, 1) := by decide +kernel
theorem dX5_paper_7 : decode cX5_paper 7 = .ok (.aload_n 0, 1) := by decide +kernel
theorem dX5_paper_8 : decode cX5_paper 8 = .ok (.getfield 57, 3) := by decide +kernel
theorem dX5_paper_11 : decode cX5_paper 11 = .ok (.arraylength, 1) := by decide +kernel
theorem dX5_paper_12 : decode cX5_paper 12 = .ok (.invokestatic 66, 3) := by decide +kernel
theorem dX5_paper_15 : decode cX5_paper 15 = .ok (.aload_n 0, 1) := by decide +kernel
theorem dX5_paper_16 : decode cX5_paper 16 = .ok (.getfield 54, 3) := by decide +kernel
theorem dX5_paper_19 : decode cX5_paper 19 = .ok (.iload_n 2, 1) := by decide +kernel
theorem dX5_paper_20 : decode cX5_paper 20 = .ok (.iaload, 1) := by decide +kernel
theorem dX5_paper_21 : decode cX5_paper 21 = .ok (.aload_n 0, 1) := by decide +kernel
theorem dX5_paper_22 : decode cX5_paper 22 = .ok (.getfield 57, 3) := by decide +kernel
theorem dX5_paper_25 : decode cX5_paper 25 = .ok (.iload_n 2, 1) := by decide +kernel
theorem dX5_paper_26 : decode cX5_paper 26 = .ok (.iaload, 1) := by decide +kernel
theorem dX5_paper_27 : decode cX5_paper 27 = .ok (.isub, 1) := by decide +kernel
theorem dX5_paper_28 : decode cX5_paper 28 = .ok (.aload_n 3, 1) := by decide +kernel
theorem dX5_paper_29 : decode cX5_paper 29 = .ok (.getfield 280, 3) := by decide +kernel
theorem dX5_paper_32 : decode cX5_paper 32 = .ok (.isub, 1) := by decide +kernel
theorem dX5_paper_33 : decode cX5_paper 33 = .ok (.istore 4, 2) := by decide +kernel
theorem dX5_paper_35 : decode cX5_paper 35 = .ok (.aload_n 3, 1) := by decide +kernel
theorem dX5_paper_36 : decode cX5_paper 36 = .ok (.getfield 296, 3) := by decide +kernel
theorem dX5_paper_39 : decode cX5_paper 39 = .ok (.iconst (-1), 1) := by decide +kernel
theorem dX5_paper_40 : decode cX5_paper 40 = .ok (.if_icmp .ne 8, 3) := by decide +kernel
theorem dX5_paper_43 : decode cX5_paper 43 = .ok (.iload 4, 2) := by decide +kernel
theorem dX5_paper_45 : decode cX5_paper 45 = .ok (.ifCond .ge 14, 3) := by decide +kernel
theorem dX5_paper_48 : decode cX5_paper 48 = .ok (.new 78, 3) := by decide +kernel
theorem dX5_paper_51 : decode cX5_paper 51 = .ok (.dup, 1) := by decide +kernel
theorem dX5_paper_52 : decode cX5_paper 52 = .ok (.ldc_w 310, 3) := by decide +kernel
theorem dX5_paper_55 : decode cX5_paper 55 = .ok (.invokespecial 82, 3) := by decide +kernel
theorem dX5_paper_58 : decode cX5_paper 58 = .ok (.athrow, 1) := by decide +kernel
theorem dX5_paper_59 : decode cX5_paper 59 = .ok (.aload_n 3, 1) := by decide +kernel
theorem dX5_paper_60 : decode cX5_paper 60 = .ok (.iload_n 2, 1) := by decide +kernel
theorem dX5_paper_61 : decode cX5_paper 61 = .ok (.putfield 296, 3) := by decide +kernel
theorem dX5_paper_64 : decode cX5_paper 64 = .ok (.aload_n 0, 1) := by decide +kernel
theorem dX5_paper_65 : decode cX5_paper 65 = .ok (.getfield 57, 3) := by decide +kernel
theorem dX5_paper_68 : decode cX5_paper 68 = .ok (.iload_n 2, 1) := by decide +kernel
theorem dX5_paper_69 : decode cX5_paper 69 = .ok (.dup2, 1) := by decide +kernel
theorem dX5_paper_70 : decode cX5_paper 70 = .ok (.iaload, 1) := by decide +kernel
theorem dX5_paper_71 : decode cX5_paper 71 = .ok (.aload_n 3, 1) := by decide +kernel
theorem dX5_paper_72 : decode cX5_paper 72 = .ok (.getfield 280, 3) := by decide +kernel
theorem dX5_paper_75 : decode cX5_paper 75 = .ok (.iadd, 1) := by decide +kernel
theorem dX5_paper_76 : decode cX5_paper 76 = .ok (.iastore, 1) := by decide +kernel
theorem dX5_paper_77 : decode cX5_paper 77 = .ok (.iload 4, 2) := by decide +kernel
theorem dX5_paper_79 : decode cX5_paper 79 = .ok (.ireturn, 1) := by decide +kernel
theorem dX5_all_0 : decode cX5_all 0 = .ok (.iload_n 1, 1) := by decide +kernel
theorem dX5_all_1 : decode cX5_all 1 = .ok (.tableswitch 75 0 5 #[39, 47, 52, 57, 62, 70], 39) := by decide +kernel
theorem dX5_all_40 : decode cX5_all 40 = .ok (.aload_n 0, 1) := by decide +kernel
theorem dX5_all_41 : decode cX5_all 41 = .ok (.getfield 54, 3) := by decide +kernel
theorem dX5_all_44 : decode cX5_all 44 = .ok (.invokestatic 312, 3) := by decide +kernel
theorem dX5_all_47 : decode cX5_all 47 = .ok (.ireturn, 1) := by decide +kernel
theorem dX5_all_48 : decode cX5_all 48 = .ok (.aload_n 0, 1) := by decide +kernel
theorem dX5_all_49 : decode cX5_all 49 = .ok (.invokevirtual 316, 3) := by decide +kernel
theorem dX5_all_52 : decode cX5_all 52 = .ok (.ireturn, 1) := by decide +kernel
theorem dX5_all_53 : decode cX5_all 53 = .ok (.aload_n 0, 1) := by decide +kernel
theorem dX5_all_54 : decode cX5_all 54 = .ok (.invokevirtual 319, 3) := by decide +kernel
theorem dX5_all_57 : decode cX5_all 57 = .ok (.ireturn, 1) := by decide +kernel
theorem dX5_all_58 : decode cX5_all 58 = .ok (.aload_n 0, 1) := by decide +kernel
theorem dX5_all_59 : decode cX5_all 59 = .ok (.getfield 259, 3) := by decide +kernel
theorem dX5_all_62 : decode cX5_all 62 = .ok (.ireturn, 1) := by decide +kernel
theorem dX5_all_63 : decode cX5_all 63 = .ok (.aload_n 0, 1) := by decide +kernel
theorem dX5_all_64 : decode cX5_all 64 = .ok (.getfield 57, 3) := by decide +kernel
theorem dX5_all_67 : decode cX5_all 67 = .ok (.invokestatic 312, 3) := by decide +kernel
theorem dX5_all_70 : decode cX5_all 70 = .ok (.ireturn, 1) := by decide +kernel
theorem dX5_all_71 : decode cX5_all 71 = .ok (.aload_n 0, 1) := by decide +kernel
theorem dX5_all_72 : decode cX5_all 72 = .ok (.invokevirtual 322, 3) := by decide +kernel
theorem dX5_all_75 : decode cX5_all 75 = .ok (.ireturn, 1) := by decide +kernel
theorem dX5_all_76 : decode cX5_all 76 = .ok (.new 172, 3) := by decide +kernel
theorem dX5_all_79 : decode cX5_all 79 = .ok (.dup, 1) := by decide +kernel
theorem dX5_all_80 : decode cX5_all 80 = .ok (.ldc_w 325, 3) := by decide +kernel
theorem dX5_all_83 : decode cX5_all 83 = .ok (.invokespecial 176, 3) := by decide +kernel
theorem dX5_all_86 : decode cX5_all 86 = .ok (.athrow, 1) := by decide +kernel
theorem dX5_isIn_0 : decode cX5_isIn 0 = .ok (.iload_n 0, 1) := by decide +kernel
theorem dX5_isIn_1 : decode cX5_isIn 1 = .ok (.ifCond .lt 12, 3) := by decide +kernel
theorem dX5_isIn_4 : decode cX5_isIn 4 = .ok (.iload_n 0, 1) := by decide +kernel
theorem dX5_isIn_5 : decode cX5_isIn 5 = .ok (.iload_n 1, 1) := by decide +kernel
theorem dX5_isIn_6 : decode cX5_isIn 6 = .ok (.if_icmp .ge 7, 3) := by decide +kernel
theorem dX5_isIn_9 : decode cX5_isIn 9 = .ok (.iconst 1, 1) := by decide +kernel
theorem dX5_isIn_10 : decode cX5_isIn 10 = .ok (.goto 4, 3) := by decide +kernel
theorem dX5_isIn_13 : decode cX5_isIn 13 = .ok (.iconst 0, 1) := by decide +kernel
theorem dX5_isIn_14 : decode cX5_isIn 14 = .ok (.ireturn, 1) := by decide +kernel
theorem dX5_needIndex_0 : decode cX5_needIndex 0 = .ok (.iload_n 0, 1) := by decide +kernel
theorem dX5_needIndex_1 : decode cX5_needIndex 1 = .ok (.iload_n 1, 1) := by decide +kernel
theorem dX5_needIndex_2 : decode cX5_needIndex 2 = .ok (.invokestatic 74, 3) := by decide +kernel
theorem dX5_needIndex_5 : decode cX5_needIndex 5 = .ok (.ifCond .ne 14, 3) := by decide +kernel
theorem dX5_needIndex_8 : decode cX5_needIndex 8 = .ok (.new 327, 3) := by decide +kernel
theorem dX5_needIndex_11 : decode cX5_needIndex 11 = .ok (.dup, 1) := by decide +kernel
theorem dX5_needIndex_12 : decode cX5_needIndex 12 = .ok (.ldc_w 329, 3) := by decide +kernel
theorem dX5_needIndex_15 : decode cX5_needIndex 15 = .ok (.invokespecial 331, 3) := by decide +kernel
theorem dX5_needIndex_18 : decode cX5_needIndex 18 = .ok (.athrow, 1) := by decide +kernel
theorem dX5_needIndex_19 : decode cX5_needIndex 19 = .ok (.return_, 1) := by decide +kernel
theorem dX5_needRange_0 : decode cX5_needRange 0 = .ok (.iload_n 0, 1) := by decide +kernel
theorem dX5_needRange_1 : decode cX5_needRange 1 = .ok (.iload_n 1, 1) := by decide +kernel
theorem dX5_needRange_2 : decode cX5_needRange 2 = .ok (.if_icmp .lt 8, 3) := by decide +kernel
theorem dX5_needRange_5 : decode cX5_needRange 5 = .ok (.iload_n 0, 1) := by decide +kernel
theorem dX5_needRange_6 : decode cX5_needRange 6 = .ok (.iload_n 2, 1) := by decide +kernel
theorem dX5_needRange_7 : decode cX5_needRange 7 = .ok (.if_icmp .le 14, 3) := by decide +kernel
theorem dX5_needRange_10 : decode cX5_needRange 10 = .ok (.new 172, 3) := by decide +kernel
theorem dX5_needRange_13 : decode cX5_needRange 13 = .ok (.dup, 1) := by decide +kernel
theorem dX5_needRange_14 : decode cX5_needRange 14 = .ok (.ldc_w 332, 3) := by decide +kernel
theorem dX5_needRange_17 : decode cX5_needRange 17 = .ok (.invokespecial 176, 3) := by decide +kernel
theorem dX5_needRange_20 : decode cX5_needRange 20 = .ok (.athrow, 1) := by decide +kernel
theorem dX5_needRange_21 : decode cX5_needRange 21 = .ok (.return_, 1) := by decide +kernel
theorem dX5_within_0 : decode cX5_within 0 = .ok (.iload_n 1, 1) := by decide +kernel
theorem dX5_within_1 : decode cX5_within 1 = .ok (.iload_n 2, 1) := by decide +kernel
theorem dX5_within_2 : decode cX5_within 2 = .ok (.iload_n 0, 1) := by decide +kernel
theorem dX5_within_3 : decode cX5_within 3 = .ok (.invokestatic 334, 3) := by decide +kernel
theorem dX5_within_6 : decode cX5_within 6 = .ok (.invokestatic 244, 3) := by decide +kernel
theorem dX5_within_9 : decode cX5_within 9 = .ok (.ireturn, 1) := by decide +kernel
theorem dX5_knownStone_0 : decode cX5_knownStone 0 = .ok (.iload_n 1, 1) := by decide +kernel
theorem dX5_knownStone_1 : decode cX5_knownStone 1 = .ok (.aload_n 0, 1) := by decide +kernel
theorem dX5_knownStone_2 : decode cX5_knownStone 2 = .ok (.getfield 15, 3) := by decide +kernel
theorem dX5_knownStone_5 : decode cX5_knownStone 5 = .ok (.arraylength, 1) := by decide +kernel
theorem dX5_knownStone_6 : decode cX5_knownStone 6 = .ok (.invokestatic 74, 3) := by decide +kernel
theorem dX5_knownStone_9 : decode cX5_knownStone 9 = .ok (.ifCond .eq 12, 3) := by decide +kernel
theorem dX5_knownStone_12 : decode cX5_knownStone 12 = .ok (.aload_n 0, 1) := by decide +kernel
theorem dX5_knownStone_13 : decode cX5_knownStone 13 = .ok (.getfield 15, 3) := by decide +kernel
theorem dX5_knownStone_16 : decode cX5_knownStone 16 = .ok (.iload_n 1, 1) := by decide +kernel
theorem dX5_knownStone_17 : decode cX5_knownStone 17 = .ok (.aaload, 1) := by decide +kernel
theorem dX5_knownStone_18 : decode cX5_knownStone 18 = .ok (.goto 4, 3) := by decide +kernel
theorem dX5_knownStone_21 : decode cX5_knownStone 21 = .ok (.aconst_null, 1) := by decide +kernel
theorem dX5_knownStone_22 : decode cX5_knownStone 22 = .ok (.astore_n 2, 1) := by decide +kernel
theorem dX5_knownStone_23 : decode cX5_knownStone 23 = .ok (.aload_n 2, 1) := by decide +kernel
theorem dX5_knownStone_24 : decode cX5_knownStone 24 = .ok (.ifnonnull 14, 3) := by decide +kernel
theorem dX5_knownStone_27 : decode cX5_knownStone 27 = .ok (.new 327, 3) := by decide +kernel
theorem dX5_knownStone_30 : decode cX5_knownStone 30 = .ok (.dup, 1) := by decide +kernel
theorem dX5_knownStone_31 : decode cX5_knownStone 31 = .ok (.ldc_w 337, 3) := by decide +kernel
theorem dX5_knownStone_34 : decode cX5_knownStone 34 = .ok (.invokespecial 331, 3) := by decide +kernel
theorem dX5_knownStone_37 : decode cX5_knownStone 37 = .ok (.athrow, 1) := by decide +kernel
theorem dX5_knownStone_38 : decode cX5_knownStone 38 = .ok (.aload_n 2, 1) := by decide +kernel
theorem dX5_knownStone_39 : decode cX5_knownStone 39 = .ok (.areturn, 1) := by decide +kernel
theorem dX5_knownGem_0 : decode cX5_knownGem 0 = .ok (.iload_n 1, 1) := by decide +kernel
theorem dX5_knownGem_1 : decode cX5_knownGem 1 = .ok (.aload_n 0, 1) := by decide +kernel
theorem dX5_knownGem_2 : decode cX5_knownGem 2 = .ok (.getfield 47, 3) := by decide +kernel
theorem dX5_knownGem_5 : decode cX5_knownGem 5 = .ok (.arraylength, 1) := by decide +kernel
theorem dX5_knownGem_6 : decode cX5_knownGem 6 = .ok (.invokestatic 74, 3) := by decide +kernel
theorem dX5_knownGem_9 : decode cX5_knownGem 9 = .ok (.ifCond .eq 12, 3) := by decide +kernel
theorem dX5_knownGem_12 : decode cX5_knownGem 12 = .ok (.aload_n 0, 1) := by decide +kernel
theorem dX5_knownGem_13 : decode cX5_knownGem 13 = .ok (.getfield 47, 3) := by decide +kernel
theorem dX5_knownGem_16 : decode cX5_knownGem 16 = .ok (.iload_n 1, 1) := by decide +kernel
theorem dX5_knownGem_17 : decode cX5_knownGem 17 = .ok (.aaload, 1) := by decide +kernel
theorem dX5_knownGem_18 : decode cX5_knownGem 18 = .ok (.goto 4, 3) := by decide +kernel
theorem dX5_knownGem_21 : decode cX5_knownGem 21 = .ok (.aconst_null, 1) := by decide +kernel
theorem dX5_knownGem_22 : decode cX5_knownGem 22 = .ok (.astore_n 2, 1) := by decide +kernel
theorem dX5_knownGem_23 : decode cX5_knownGem 23 = .ok (.aload_n 2, 1) := by decide +kernel
theorem dX5_knownGem_24 : decode cX5_knownGem 24 = .ok (.ifnonnull 14, 3) := by decide +kernel
theorem dX5_knownGem_27 : decode cX5_knownGem 27 = .ok (.new 327, 3) := by decide +kernel
theorem dX5_knownGem_30 : decode cX5_knownGem 30 = .ok (.dup, 1) := by decide +kernel
theorem dX5_knownGem_31 : decode cX5_knownGem 31 = .ok (.ldc_w 339, 3) := by decide +kernel
theorem dX5_knownGem_34 : decode cX5_knownGem 34 = .ok (.invokespecial 331, 3) := by decide +kernel
theorem dX5_knownGem_37 : decode cX5_knownGem 37 = .ok (.athrow, 1) := by decide +kernel
theorem dX5_knownGem_38 : decode cX5_knownGem 38 = .ok (.aload_n 2, 1) := by decide +kernel
theorem dX5_knownGem_39 : decode cX5_knownGem 39 = .ok (.areturn, 1) := by decide +kernel
theorem dX5_pitOf_0 : decode cX5_pitOf 0 = .ok (.iload_n 1, 1) := by decide +kernel
theorem dX5_pitOf_1 : decode cX5_pitOf 1 = .ok (.aload_n 0, 1) := by decide +kernel
theorem dX5_pitOf_2 : decode cX5_pitOf 2 = .ok (.getfield 9, 3) := by decide +kernel
theorem dX5_pitOf_5 : decode cX5_pitOf 5 = .ok (.arraylength, 1) := by decide +kernel
theorem dX5_pitOf_6 : decode cX5_pitOf 6 = .ok (.invokestatic 74, 3) := by decide +kernel
theorem dX5_pitOf_9 : decode cX5_pitOf 9 = .ok (.ifCond .eq 12, 3) := by decide +kernel
theorem dX5_pitOf_12 : decode cX5_pitOf 12 = .ok (.aload_n 0, 1) := by decide +kernel
theorem dX5_pitOf_13 : decode cX5_pitOf 13 = .ok (.getfield 9, 3) := by decide +kernel
theorem dX5_pitOf_16 : decode cX5_pitOf 16 = .ok (.iload_n 1, 1) := by decide +kernel
theorem dX5_pitOf_17 : decode cX5_pitOf 17 = .ok (.iaload, 1) := by decide +kernel
theorem dX5_pitOf_18 : decode cX5_pitOf 18 = .ok (.goto 4, 3) := by decide +kernel
theorem dX5_pitOf_21 : decode cX5_pitOf 21 = .ok (.iconst (-1), 1) := by decide +kernel
theorem dX5_pitOf_22 : decode cX5_pitOf 22 = .ok (.ireturn, 1) := by decide +kernel
theorem dX5_addTo_0 : decode cX5_addTo 0 = .ok (.iload_n 1, 1) := by decide +kernel
theorem dX5_addTo_1 : decode cX5_addTo 1 = .ok (.aload_n 0, 1) := by decide +kernel
theorem dX5_addTo_2 : decode cX5_addTo 2 = .ok (.arraylength, 1) := by decide +kernel
theorem dX5_addTo_3 : decode cX5_addTo 3 = .ok (.invokestatic 74, 3) := by decide +kernel
theorem dX5_addTo_6 : decode cX5_addTo 6 = .ok (.ifCond .eq 10, 3) := by decide +kernel
theorem dX5_addTo_9 : decode cX5_addTo 9 = .ok (.aload_n 0, 1) := by decide +kernel
theorem dX5_addTo_10 : decode cX5_addTo 10 = .ok (.iload_n 1, 1) := by decide +kernel
theorem dX5_addTo_11 : decode cX5_addTo 11 = .ok (.dup2, 1) := by decide +kernel
theorem dX5_addTo_12 : decode cX5_addTo 12 = .ok (.iaload, 1) := by decide +kernel
theorem dX5_addTo_13 : decode cX5_addTo 13 = .ok (.iload_n 2, 1) := by decide +kernel
theorem dX5_addTo_14 : decode cX5_addTo 14 = .ok (.iadd, 1) := by decide +kernel
theorem dX5_addTo_15 : decode cX5_addTo 15 = .ok (.iastore, 1) := by decide +kernel
theorem dX5_addTo_16 : decode cX5_addTo 16 = .ok (.return_, 1) := by decide +kernel
theorem dX5_sumOf_0 : decode cX5_sumOf 0 = .ok (.iconst 0, 1) := by decide +kernel
theorem dX5_sumOf_1 : decode cX5_sumOf 1 = .ok (.istore_n 1, 1) := by decide +kernel
theorem dX5_sumOf_2 : decode cX5_sumOf 2 = .ok (.aload_n 0, 1) := by decide +kernel
theorem dX5_sumOf_3 : decode cX5_sumOf 3 = .ok (.astore_n 2, 1) := by decide +kernel
theorem dX5_sumOf_4 : decode cX5_sumOf 4 = .ok (.aload_n 2, 1) := by decide +kernel
theorem dX5_sumOf_5 : decode cX5_sumOf 5 = .ok (.arraylength, 1) := by decide +kernel
theorem dX5_sumOf_6 : decode cX5_sumOf 6 = .ok (.istore_n 3, 1) := by decide +kernel
theorem dX5_sumOf_7 : decode cX5_sumOf 7 = .ok (.iconst 0, 1) := by decide +kernel
theorem dX5_sumOf_8 : decode cX5_sumOf 8 = .ok (.istore 4, 2) := by decide +kernel
theorem dX5_sumOf_10 : decode cX5_sumOf 10 = .ok (.iload 4, 2) := by decide +kernel
theorem dX5_sumOf_12 : decode cX5_sumOf 12 = .ok (.iload_n 3, 1) := by decide +kernel
theorem dX5_sumOf_13 : decode cX5_sumOf 13 = .ok (.if_icmp .ge 20, 3) := by decide +kernel
theorem dX5_sumOf_16 : decode cX5_sumOf 16 = .ok (.aload_n 2, 1) := by decide +kernel
theorem dX5_sumOf_17 : decode cX5_sumOf 17 = .ok (.iload 4, 2) := by decide +kernel
theorem dX5_sumOf_19 : decode cX5_sumOf 19 = .ok (.iaload, 1) := by decide +kernel
theorem dX5_sumOf_20 : decode cX5_sumOf 20 = .ok (.istore 5, 2) := by decide +kernel
theorem dX5_sumOf_22 : decode cX5_sumOf 22 = .ok (.iload_n 1, 1) := by decide +kernel
theorem dX5_sumOf_23 : decode cX5_sumOf 23 = .ok (.iload 5, 2) := by decide +kernel
theorem dX5_sumOf_25 : decode cX5_sumOf 25 = .ok (.iadd, 1) := by decide +kernel
theorem dX5_sumOf_26 : decode cX5_sumOf 26 = .ok (.istore_n 1, 1) := by decide +kernel
theorem dX5_sumOf_27 : decode cX5_sumOf 27 = .ok (.iinc 4 1, 3) := by decide +kernel
theorem dX5_sumOf_30 : decode cX5_sumOf 30 = .ok (.goto (-20), 3) := by decide +kernel
theorem dX5_sumOf_33 : decode cX5_sumOf 33 = .ok (.iload_n 1, 1) := by decide +kernel
theorem dX5_sumOf_34 : decode cX5_sumOf 34 = .ok (.ireturn, 1) := by decide +kernel
theorem dX5_roughWeight_0 : decode cX5_roughWeight 0 = .ok (.iconst 0, 1) := by decide +kernel
theorem dX5_roughWeight_1 : decode cX5_roughWeight 1 = .ok (.istore_n 1, 1) := by decide +kernel
theorem dX5_roughWeight_2 : decode cX5_roughWeight 2 = .ok (.aload_n 0, 1) := by decide +kernel
theorem dX5_roughWeight_3 : decode cX5_roughWeight 3 = .ok (.getfield 15, 3) := by decide +kernel
theorem dX5_roughWeight_6 : decode cX5_roughWeight 6 = .ok (.astore_n 2, 1) := by decide +kernel
theorem dX5_roughWeight_7 : decode cX5_roughWeight 7 = .ok (.aload_n 2, 1) := by decide +kernel
theorem dX5_roughWeight_8 : decode cX5_roughWeight 8 = .ok (.arraylength, 1) := by decide +kernel
theorem dX5_roughWeight_9 : decode cX5_roughWeight 9 = .ok (.istore_n 3, 1) := by decide +kernel
theorem dX5_roughWeight_10 : decode cX5_roughWeight 10 = .ok (.iconst 0, 1) := by decide +kernel
theorem dX5_roughWeight_11 : decode cX5_roughWeight 11 = .ok (.istore 4, 2) := by decide +kernel
theorem dX5_roughWeight_13 : decode cX5_roughWeight 13 = .ok (.iload 4, 2) := by decide +kernel
theorem dX5_roughWeight_15 : decode cX5_roughWeight 15 = .ok (.iload_n 3, 1) := by decide +kernel
theorem dX5_roughWeight_16 : decode cX5_roughWeight 16 = .ok (.if_icmp .ge 37, 3) := by decide +kernel
theorem dX5_roughWeight_19 : decode cX5_roughWeight 19 = .ok (.aload_n 2, 1) := by decide +kernel
theorem dX5_roughWeight_20 : decode cX5_roughWeight 20 = .ok (.iload 4, 2) := by decide +kernel
theorem dX5_roughWeight_22 : decode cX5_roughWeight 22 = .ok (.aaload, 1) := by decide +kernel
theorem dX5_roughWeight_23 : decode cX5_roughWeight 23 = .ok (.astore 5, 2) := by decide +kernel
theorem dX5_roughWeight_25 : decode cX5_roughWeight 25 = .ok (.aload 5, 2) := by decide +kernel
theorem dX5_roughWeight_27 : decode cX5_roughWeight 27 = .ok (.ifnull 20, 3) := by decide +kernel
theorem dX5_roughWeight_30 : decode cX5_roughWeight 30 = .ok (.aload 5, 2) := by decide +kernel
theorem dX5_roughWeight_32 : decode cX5_roughWeight 32 = .ok (.getfield 109, 3) := by decide +kernel
theorem dX5_roughWeight_35 : decode cX5_roughWeight 35 = .ok (.iconst 3, 1) := by decide +kernel
theorem dX5_roughWeight_36 : decode cX5_roughWeight 36 = .ok (.if_icmp .eq 11, 3) := by decide +kernel
theorem dX5_roughWeight_39 : decode cX5_roughWeight 39 = .ok (.iload_n 1, 1) := by decide +kernel
theorem dX5_roughWeight_40 : decode cX5_roughWeight 40 = .ok (.aload 5, 2) := by decide +kernel
theorem dX5_roughWeight_42 : decode cX5_roughWeight 42 = .ok (.getfield 262, 3) := by decide +kernel
theorem dX5_roughWeight_45 : decode cX5_roughWeight 45 = .ok (.iadd, 1) := by decide +kernel
theorem dX5_roughWeight_46 : decode cX5_roughWeight 46 = .ok (.istore_n 1, 1) := by decide +kernel
theorem dX5_roughWeight_47 : decode cX5_roughWeight 47 = .ok (.iinc 4 1, 3) := by decide +kernel
theorem dX5_roughWeight_50 : decode cX5_roughWeight 50 = .ok (.goto (-37), 3) := by decide +kernel
theorem dX5_roughWeight_53 : decode cX5_roughWeight 53 = .ok (.iload_n 1, 1) := by decide +kernel
theorem dX5_roughWeight_54 : decode cX5_roughWeight 54 = .ok (.ireturn, 1) := by decide +kernel
theorem dX5_polishedWeight_0 : decode cX5_polishedWeight 0 = .ok (.iconst 0, 1) := by decide +kernel
theorem dX5_polishedWeight_1 : decode cX5_polishedWeight 1 = .ok (.istore_n 1, 1) := by decide +kernel
theorem dX5_polishedWeight_2 : decode cX5_polishedWeight 2 = .ok (.aload_n 0, 1) := by decide +kernel
theorem dX5_polishedWeight_3 : decode cX5_polishedWeight 3 = .ok (.getfield 47, 3) := by decide +kernel
theorem dX5_polishedWeight_6 : decode cX5_polishedWeight 6 = .ok (.astore_n 2, 1) := by decide +kernel
theorem dX5_polishedWeight_7 : decode cX5_polishedWeight 7 = .ok (.aload_n 2, 1) := by decide +kernel
theorem dX5_polishedWeight_8 : decode cX5_polishedWeight 8 = .ok (.arraylength, 1) := by decide +kernel
theorem dX5_polishedWeight_9 : decode cX5_polishedWeight 9 = .ok (.istore_n 3, 1) := by decide +kernel
theorem dX5_polishedWeight_10 : decode cX5_polishedWeight 10 = .ok (.iconst 0, 1) := by decide +kernel
theorem dX5_polishedWeight_11 : decode cX5_polishedWeight 11 = .ok (.istore 4, 2) := by decide +kernel
theorem dX5_polishedWeight_13 : decode cX5_polishedWeight 13 = .ok (.iload 4, 2) := by decide +kernel
theorem dX5_polishedWeight_15 : decode cX5_polishedWeight 15 = .ok (.iload_n 3, 1) := by decide +kernel
theorem dX5_polishedWeight_16 : decode cX5_polishedWeight 16 = .ok (.if_icmp .ge 28, 3) := by decide +kernel
theorem dX5_polishedWeight_19 : decode cX5_polishedWeight 19 = .ok (.aload_n 2, 1) := by decide +kernel
theorem dX5_polishedWeight_20 : decode cX5_polishedWeight 20 = .ok (.iload 4, 2) := by decide +kernel
theorem dX5_polishedWeight_22 : decode cX5_polishedWeight 22 = .ok (.aaload, 1) := by decide +kernel
theorem dX5_polishedWeight_23 : decode cX5_polishedWeight 23 = .ok (.astore 5, 2) := by decide +kernel
theorem dX5_polishedWeight_25 : decode cX5_polishedWeight 25 = .ok (.aload 5, 2) := by decide +kernel
theorem dX5_polishedWeight_27 : decode cX5_polishedWeight 27 = .ok (.ifnull 11, 3) := by decide +kernel
theorem dX5_polishedWeight_30 : decode cX5_polishedWeight 30 = .ok (.iload_n 1, 1) := by decide +kernel
theorem dX5_polishedWeight_31 : decode cX5_polishedWeight 31 = .ok (.aload 5, 2) := by decide +kernel
theorem dX5_polishedWeight_33 : decode cX5_polishedWeight 33 = .ok (.getfield 280, 3) := by decide +kernel
theorem dX5_polishedWeight_36 : decode cX5_polishedWeight 36 = .ok (.iadd, 1) := by decide +kernel
theorem dX5_polishedWeight_37 : decode cX5_polishedWeight 37 = .ok (.istore_n 1, 1) := by decide +kernel
theorem dX5_polishedWeight_38 : decode cX5_polishedWeight 38 = .ok (.iinc 4 1, 3) := by decide +kernel
theorem dX5_polishedWeight_41 : decode cX5_polishedWeight 41 = .ok (.goto (-28), 3) := by decide +kernel
theorem dX5_polishedWeight_44 : decode cX5_polishedWeight 44 = .ok (.iload_n 1, 1) := by decide +kernel
theorem dX5_polishedWeight_45 : decode cX5_polishedWeight 45 = .ok (.ireturn, 1) := by decide +kernel
theorem dX5_wrongPapers_0 : decode cX5_wrongPapers 0 = .ok (.iconst 0, 1) := by decide +kernel
theorem dX5_wrongPapers_1 : decode cX5_wrongPapers 1 = .ok (.istore_n 1, 1) := by decide +kernel
theorem dX5_wrongPapers_2 : decode cX5_wrongPapers 2 = .ok (.aload_n 0, 1) := by decide +kernel
theorem dX5_wrongPapers_3 : decode cX5_wrongPapers 3 = .ok (.getfield 47, 3) := by decide +kernel
theorem dX5_wrongPapers_6 : decode cX5_wrongPapers 6 = .ok (.astore_n 2, 1) := by decide +kernel
theorem dX5_wrongPapers_7 : decode cX5_wrongPapers 7 = .ok (.aload_n 2, 1) := by decide +kernel
theorem dX5_wrongPapers_8 : decode cX5_wrongPapers 8 = .ok (.arraylength, 1) := by decide +kernel
theorem dX5_wrongPapers_9 : decode cX5_wrongPapers 9 = .ok (.istore_n 3, 1) := by decide +kernel
theorem dX5_wrongPapers_10 : decode cX5_wrongPapers 10 = .ok (.iconst 0, 1) := by decide +kernel
theorem dX5_wrongPapers_11 : decode cX5_wrongPapers 11 = .ok (.istore 4, 2) := by decide +kernel
theorem dX5_wrongPapers_13 : decode cX5_wrongPapers 13 = .ok (.iload 4, 2) := by decide +kernel
theorem dX5_wrongPapers_15 : decode cX5_wrongPapers 15 = .ok (.iload_n 3, 1) := by decide +kernel
theorem dX5_wrongPapers_16 : decode cX5_wrongPapers 16 = .ok (.if_icmp .ge 45, 3) := by decide +kernel
theorem dX5_wrongPapers_19 : decode cX5_wrongPapers 19 = .ok (.aload_n 2, 1) := by decide +kernel
theorem dX5_wrongPapers_20 : decode cX5_wrongPapers 20 = .ok (.iload 4, 2) := by decide +kernel
theorem dX5_wrongPapers_22 : decode cX5_wrongPapers 22 = .ok (.aaload, 1) := by decide +kernel
theorem dX5_wrongPapers_23 : decode cX5_wrongPapers 23 = .ok (.astore 5, 2) := by decide +kernel
theorem dX5_wrongPapers_25 : decode cX5_wrongPapers 25 = .ok (.aload 5, 2) := by decide +kernel
theorem dX5_wrongPapers_27 : decode cX5_wrongPapers 27 = .ok (.ifnull 28, 3) := by decide +kernel
theorem dX5_wrongPapers_30 : decode cX5_wrongPapers 30 = .ok (.aload 5, 2) := by decide +kernel
theorem dX5_wrongPapers_32 : decode cX5_wrongPapers 32 = .ok (.getfield 296, 3) := by decide +kernel
theorem dX5_wrongPapers_35 : decode cX5_wrongPapers 35 = .ok (.iconst (-1), 1) := by decide +kernel
theorem dX5_wrongPapers_36 : decode cX5_wrongPapers 36 = .ok (.if_icmp .eq 19, 3) := by decide +kernel
theorem dX5_wrongPapers_39 : decode cX5_wrongPapers 39 = .ok (.aload 5, 2) := by decide +kernel
theorem dX5_wrongPapers_41 : decode cX5_wrongPapers 41 = .ok (.getfield 296, 3) := by decide +kernel
theorem dX5_wrongPapers_44 : decode cX5_wrongPapers 44 = .ok (.aload 5, 2) := by decide +kernel
theorem dX5_wrongPapers_46 : decode cX5_wrongPapers 46 = .ok (.getfield 299, 3) := by decide +kernel
theorem dX5_wrongPapers_49 : decode cX5_wrongPapers 49 = .ok (.if_icmp .eq 6, 3) := by decide +kernel
theorem dX5_wrongPapers_52 : decode cX5_wrongPapers 52 = .ok (.iinc 1 1, 3) := by decide +kernel
theorem dX5_wrongPapers_55 : decode cX5_wrongPapers 55 = .ok (.iinc 4 1, 3) := by decide +kernel
theorem dX5_wrongPapers_58 : decode cX5_wrongPapers 58 = .ok (.goto (-45), 3) := by decide +kernel
theorem dX5_wrongPapers_61 : decode cX5_wrongPapers 61 = .ok (.iload_n 1, 1) := by decide +kernel
theorem dX5_wrongPapers_62 : decode cX5_wrongPapers 62 = .ok (.ireturn, 1) := by decide +kernel
theorem dX5_openBoxes_0 : decode cX5_openBoxes 0 = .ok (.aload_n 0, 1) := by decide +kernel
theorem dX5_openBoxes_1 : decode cX5_openBoxes 1 = .ok (.getfield 15, 3) := by decide +kernel
theorem dX5_openBoxes_4 : decode cX5_openBoxes 4 = .ok (.astore_n 1, 1) := by decide +kernel
theorem dX5_openBoxes_5 : decode cX5_openBoxes 5 = .ok (.aload_n 1, 1) := by decide +kernel
theorem dX5_openBoxes_6 : decode cX5_openBoxes 6 = .ok (.arraylength, 1) := by decide +kernel
theorem dX5_openBoxes_7 : decode cX5_openBoxes 7 = .ok (.istore_n 2, 1) := by decide +kernel
theorem dX5_openBoxes_8 : decode cX5_openBoxes 8 = .ok (.iconst 0, 1) := by decide +kernel
theorem dX5_openBoxes_9 : decode cX5_openBoxes 9 = .ok (.istore_n 3, 1) := by decide +kernel
theorem dX5_openBoxes_10 : decode cX5_openBoxes 10 = .ok (.iload_n 3, 1) := by decide +kernel
theorem dX5_openBoxes_11 : decode cX5_openBoxes 11 = .ok (.iload_n 2, 1) := by decide +kernel
theorem dX5_openBoxes_12 : decode cX5_openBoxes 12 = .ok (.if_icmp .ge 33, 3) := by decide +kernel
theorem dX5_openBoxes_15 : decode cX5_openBoxes 15 = .ok (.aload_n 1, 1) := by decide +kernel
theorem dX5_openBoxes_16 : decode cX5_openBoxes 16 = .ok (.iload_n 3, 1) := by decide +kernel
theorem dX5_openBoxes_17 : decode cX5_openBoxes 17 = .ok (.aaload, 1) := by decide +kernel
theorem dX5_openBoxes_18 : decode cX5_openBoxes 18 = .ok (.astore 4, 2) := by decide +kernel
theorem dX5_openBoxes_20 : decode cX5_openBoxes 20 = .ok (.aload 4, 2) := by decide +kernel
theorem dX5_openBoxes_22 : decode cX5_openBoxes 22 = .ok (.ifnull 17, 3) := by decide +kernel
theorem dX5_openBoxes_25 : decode cX5_openBoxes 25 = .ok (.aload 4, 2) := by decide +kernel
theorem dX5_openBoxes_27 : decode cX5_openBoxes 27 = .ok (.getfield 109, 3) := by decide +kernel
theorem dX5_openBoxes_30 : decode cX5_openBoxes 30 = .ok (.iconst 1, 1) := by decide +kernel
theorem dX5_openBoxes_31 : decode cX5_openBoxes 31 = .ok (.if_icmp .ne 8, 3) := by decide +kernel
theorem dX5_openBoxes_34 : decode cX5_openBoxes 34 = .ok (.aload 4, 2) := by decide +kernel
theorem dX5_openBoxes_36 : decode cX5_openBoxes 36 = .ok (.invokevirtual 194, 3) := by decide +kernel
theorem dX5_openBoxes_39 : decode cX5_openBoxes 39 = .ok (.iinc 3 1, 3) := by decide +kernel
theorem dX5_openBoxes_42 : decode cX5_openBoxes 42 = .ok (.goto (-32), 3) := by decide +kernel
theorem dX5_openBoxes_45 : decode cX5_openBoxes 45 = .ok (.aload_n 0, 1) := by decide +kernel
theorem dX5_openBoxes_46 : decode cX5_openBoxes 46 = .ok (.getfield 32, 3) := by decide +kernel
theorem dX5_openBoxes_49 : decode cX5_openBoxes 49 = .ok (.iconst (-1), 1) := by decide +kernel
theorem dX5_openBoxes_50 : decode cX5_openBoxes 50 = .ok (.invokestatic 60, 3) := by decide +kernel
theorem dX5_openBoxes_53 : decode cX5_openBoxes 53 = .ok (.aload_n 0, 1) := by decide +kernel
theorem dX5_openBoxes_54 : decode cX5_openBoxes 54 = .ok (.getfield 35, 3) := by decide +kernel
theorem dX5_openBoxes_57 : decode cX5_openBoxes 57 = .ok (.iconst 0, 1) := by decide +kernel
theorem dX5_openBoxes_58 : decode cX5_openBoxes 58 = .ok (.invokestatic 60, 3) := by decide +kernel
theorem dX5_openBoxes_61 : decode cX5_openBoxes 61 = .ok (.return_, 1) := by decide +kernel
theorem dX5_fillBoxes_0 : decode cX5_fillBoxes 0 = .ok (.iconst 0, 1) := by decide +kernel
theorem dX5_fillBoxes_1 : decode cX5_fillBoxes 1 = .ok (.istore_n 1, 1) := by decide +kernel
theorem dX5_fillBoxes_2 : decode cX5_fillBoxes 2 = .ok (.iload_n 1, 1) := by decide +kernel
theorem dX5_fillBoxes_3 : decode cX5_fillBoxes 3 = .ok (.bipush 40, 2) := by decide +kernel
theorem dX5_fillBoxes_5 : decode cX5_fillBoxes 5 = .ok (.if_icmp .ge 52, 3) := by decide +kernel
theorem dX5_fillBoxes_8 : decode cX5_fillBoxes 8 = .ok (.aload_n 0, 1) := by decide +kernel
theorem dX5_fillBoxes_9 : decode cX5_fillBoxes 9 = .ok (.invokevirtual 341, 3) := by decide +kernel
theorem dX5_fillBoxes_12 : decode cX5_fillBoxes 12 = .ok (.astore_n 2, 1) := by decide +kernel
theorem dX5_fillBoxes_13 : decode cX5_fillBoxes 13 = .ok (.aload_n 2, 1) := by decide +kernel
theorem dX5_fillBoxes_14 : decode cX5_fillBoxes 14 = .ok (.ifnonnull 6, 3) := by decide +kernel
theorem dX5_fillBoxes_17 : decode cX5_fillBoxes 17 = .ok (.goto 40, 3) := by decide +kernel
theorem dX5_fillBoxes_20 : decode cX5_fillBoxes 20 = .ok (.aload_n 0, 1) := by decide +kernel
theorem dX5_fillBoxes_21 : decode cX5_fillBoxes 21 = .ok (.invokevirtual 345, 3) := by decide +kernel
theorem dX5_fillBoxes_24 : decode cX5_fillBoxes 24 = .ok (.istore_n 3, 1) := by decide +kernel
theorem dX5_fillBoxes_25 : decode cX5_fillBoxes 25 = .ok (.aload_n 0, 1) := by decide +kernel
theorem dX5_fillBoxes_26 : decode cX5_fillBoxes 26 = .ok (.getfield 35, 3) := by decide +kernel
theorem dX5_fillBoxes_29 : decode cX5_fillBoxes 29 = .ok (.iload_n 3, 1) := by decide +kernel
theorem dX5_fillBoxes_30 : decode cX5_fillBoxes 30 = .ok (.aload_n 0, 1) := by decide +kernel
theorem dX5_fillBoxes_31 : decode cX5_fillBoxes 31 = .ok (.getfield 25, 3) := by decide +kernel
theorem dX5_fillBoxes_34 : decode cX5_fillBoxes 34 = .ok (.aload_n 2, 1) := by decide +kernel
theorem dX5_fillBoxes_35 : decode cX5_fillBoxes 35 = .ok (.invokevirtual 149, 3) := by decide +kernel
theorem dX5_fillBoxes_38 : decode cX5_fillBoxes 38 = .ok (.invokestatic 101, 3) := by decide +kernel
theorem dX5_fillBoxes_41 : decode cX5_fillBoxes 41 = .ok (.aload_n 2, 1) := by decide +kernel
theorem dX5_fillBoxes_42 : decode cX5_fillBoxes 42 = .ok (.iload_n 3, 1) := by decide +kernel
theorem dX5_fillBoxes_43 : decode cX5_fillBoxes 43 = .ok (.invokevirtual 348, 3) := by decide +kernel
theorem dX5_fillBoxes_46 : decode cX5_fillBoxes 46 = .ok (.aload_n 0, 1) := by decide +kernel
theorem dX5_fillBoxes_47 : decode cX5_fillBoxes 47 = .ok (.aload_n 2, 1) := by decide +kernel
theorem dX5_fillBoxes_48 : decode cX5_fillBoxes 48 = .ok (.invokevirtual 272, 3) := by decide +kernel
theorem dX5_fillBoxes_51 : decode cX5_fillBoxes 51 = .ok (.iinc 1 1, 3) := by decide +kernel
theorem dX5_fillBoxes_54 : decode cX5_fillBoxes 54 = .ok (.goto (-52), 3) := by decide +kernel
theorem dX5_fillBoxes_57 : decode cX5_fillBoxes 57 = .ok (.iload_n 1, 1) := by decide +kernel
theorem dX5_fillBoxes_58 : decode cX5_fillBoxes 58 = .ok (.ireturn, 1) := by decide +kernel
theorem dX5_dearestToBox_0 : decode cX5_dearestToBox 0 = .ok (.aconst_null, 1) := by decide +kernel
theorem dX5_dearestToBox_1 : decode cX5_dearestToBox 1 = .ok (.astore_n 1, 1) := by decide +kernel
theorem dX5_dearestToBox_2 : decode cX5_dearestToBox 2 = .ok (.aload_n 0, 1) := by decide +kernel
theorem dX5_dearestToBox_3 : decode cX5_dearestToBox 3 = .ok (.getfield 15, 3) := by decide +kernel
theorem dX5_dearestToBox_6 : decode cX5_dearestToBox 6 = .ok (.astore_n 2, 1) := by decide +kernel
theorem dX5_dearestToBox_7 : decode cX5_dearestToBox 7 = .ok (.aload_n 2, 1) := by decide +kernel
theorem dX5_dearestToBox_8 : decode cX5_dearestToBox 8 = .ok (.arraylength, 1) := by decide +kernel
theorem dX5_dearestToBox_9 : decode cX5_dearestToBox 9 = .ok (.istore_n 3, 1) := by decide +kernel
theorem dX5_dearestToBox_10 : decode cX5_dearestToBox 10 = .ok (.iconst 0, 1) := by decide +kernel
theorem dX5_dearestToBox_11 : decode cX5_dearestToBox 11 = .ok (.istore 4, 2) := by decide +kernel
theorem dX5_dearestToBox_13 : decode cX5_dearestToBox 13 = .ok (.iload 4, 2) := by decide +kernel
theorem dX5_dearestToBox_15 : decode cX5_dearestToBox 15 = .ok (.iload_n 3, 1) := by decide +kernel
theorem dX5_dearestToBox_16 : decode cX5_dearestToBox 16 = .ok (.if_icmp .ge 55, 3) := by decide +kernel
theorem dX5_dearestToBox_19 : decode cX5_dearestToBox 19 = .ok (.aload_n 2, 1) := by decide +kernel
theorem dX5_dearestToBox_20 : decode cX5_dearestToBox 20 = .ok (.iload 4, 2) := by decide +kernel
theorem dX5_dearestToBox_22 : decode cX5_dearestToBox 22 = .ok (.aaload, 1) := by decide +kernel
theorem dX5_dearestToBox_23 : decode cX5_dearestToBox 23 = .ok (.astore 5, 2) := by decide +kernel
theorem dX5_dearestToBox_25 : decode cX5_dearestToBox 25 = .ok (.aload 5, 2) := by decide +kernel
theorem dX5_dearestToBox_27 : decode cX5_dearestToBox 27 = .ok (.ifnull 38, 3) := by decide +kernel
theorem dX5_dearestToBox_30 : decode cX5_dearestToBox 30 = .ok (.aload 5, 2) := by decide +kernel
theorem dX5_dearestToBox_32 : decode cX5_dearestToBox 32 = .ok (.invokevirtual 351, 3) := by decide +kernel
theorem dX5_dearestToBox_35 : decode cX5_dearestToBox 35 = .ok (.ifCond .eq 30, 3) := by decide +kernel
theorem dX5_dearestToBox_38 : decode cX5_dearestToBox 38 = .ok (.aload_n 1, 1) := by decide +kernel
theorem dX5_dearestToBox_39 : decode cX5_dearestToBox 39 = .ok (.ifnull 23, 3) := by decide +kernel
theorem dX5_dearestToBox_42 : decode cX5_dearestToBox 42 = .ok (.aload_n 0, 1) := by decide +kernel
theorem dX5_dearestToBox_43 : decode cX5_dearestToBox 43 = .ok (.getfield 25, 3) := by decide +kernel
theorem dX5_dearestToBox_46 : decode cX5_dearestToBox 46 = .ok (.aload 5, 2) := by decide +kernel
theorem dX5_dearestToBox_48 : decode cX5_dearestToBox 48 = .ok (.invokevirtual 149, 3) := by decide +kernel
theorem dX5_dearestToBox_51 : decode cX5_dearestToBox 51 = .ok (.aload_n 0, 1) := by decide +kernel
theorem dX5_dearestToBox_52 : decode cX5_dearestToBox 52 = .ok (.getfield 25, 3) := by decide +kernel
theorem dX5_dearestToBox_55 : decode cX5_dearestToBox 55 = .ok (.aload_n 1, 1) := by decide +kernel
theorem dX5_dearestToBox_56 : decode cX5_dearestToBox 56 = .ok (.invokevirtual 149, 3) := by decide +kernel
theorem dX5_dearestToBox_59 : decode cX5_dearestToBox 59 = .ok (.if_icmp .le 6, 3) := by decide +kernel
theorem dX5_dearestToBox_62 : decode cX5_dearestToBox 62 = .ok (.aload 5, 2) := by decide +kernel
theorem dX5_dearestToBox_64 : decode cX5_dearestToBox 64 = .ok (.astore_n 1, 1) := by decide +kernel
theorem dX5_dearestToBox_65 : decode cX5_dearestToBox 65 = .ok (.iinc 4 1, 3) := by decide +kernel
theorem dX5_dearestToBox_68 : decode cX5_dearestToBox 68 = .ok (.goto (-55), 3) := by decide +kernel
theorem dX5_dearestToBox_71 : decode cX5_dearestToBox 71 = .ok (.aload_n 1, 1) := by decide +kernel
theorem dX5_dearestToBox_72 : decode cX5_dearestToBox 72 = .ok (.areturn, 1) := by decide +kernel
theorem dX5_poorestBox_0 : decode cX5_poorestBox 0 = .ok (.iconst 0, 1) := by decide +kernel
theorem dX5_poorestBox_1 : decode cX5_poorestBox 1 = .ok (.istore_n 1, 1) := by decide +kernel
theorem dX5_poorestBox_2 : decode cX5_poorestBox 2 = .ok (.iconst 1, 1) := by decide +kernel
theorem dX5_poorestBox_3 : decode cX5_poorestBox 3 = .ok (.istore_n 2, 1) := by decide +kernel
theorem dX5_poorestBox_4 : decode cX5_poorestBox 4 = .ok (.iload_n 2, 1) := by decide +kernel
theorem dX5_poorestBox_5 : decode cX5_poorestBox 5 = .ok (.aload_n 0, 1) := by decide +kernel
theorem dX5_poorestBox_6 : decode cX5_poorestBox 6 = .ok (.getfield 180, 3) := by decide +kernel
theorem dX5_poorestBox_9 : decode cX5_poorestBox 9 = .ok (.if_icmp .ge 35, 3) := by decide +kernel
theorem dX5_poorestBox_12 : decode cX5_poorestBox 12 = .ok (.iload_n 2, 1) := by decide +kernel
theorem dX5_poorestBox_13 : decode cX5_poorestBox 13 = .ok (.aload_n 0, 1) := by decide +kernel
theorem dX5_poorestBox_14 : decode cX5_poorestBox 14 = .ok (.getfield 35, 3) := by decide +kernel
theorem dX5_poorestBox_17 : decode cX5_poorestBox 17 = .ok (.arraylength, 1) := by decide +kernel
theorem dX5_poorestBox_18 : decode cX5_poorestBox 18 = .ok (.if_icmp .ge 26, 3) := by decide +kernel
theorem dX5_poorestBox_21 : decode cX5_poorestBox 21 = .ok (.aload_n 0, 1) := by decide +kernel
theorem dX5_poorestBox_22 : decode cX5_poorestBox 22 = .ok (.getfield 35, 3) := by decide +kernel
theorem dX5_poorestBox_25 : decode cX5_poorestBox 25 = .ok (.iload_n 2, 1) := by decide +kernel
theorem dX5_poorestBox_26 : decode cX5_poorestBox 26 = .ok (.iaload, 1) := by decide +kernel
theorem dX5_poorestBox_27 : decode cX5_poorestBox 27 = .ok (.aload_n 0, 1) := by decide +kernel
theorem dX5_poorestBox_28 : decode cX5_poorestBox 28 = .ok (.getfield 35, 3) := by decide +kernel
theorem dX5_poorestBox_31 : decode cX5_poorestBox 31 = .ok (.iload_n 1, 1) := by decide +kernel
theorem dX5_poorestBox_32 : decode cX5_poorestBox 32 = .ok (.iaload, 1) := by decide +kernel
theorem dX5_poorestBox_33 : decode cX5_poorestBox 33 = .ok (.if_icmp .ge 5, 3) := by decide +kernel
theorem dX5_poorestBox_36 : decode cX5_poorestBox 36 = .ok (.iload_n 2, 1) := by decide +kernel
theorem dX5_poorestBox_37 : decode cX5_poorestBox 37 = .ok (.istore_n 1, 1) := by decide +kernel
theorem dX5_poorestBox_38 : decode cX5_poorestBox 38 = .ok (.iinc 2 1, 3) := by decide +kernel
theorem dX5_poorestBox_41 : decode cX5_poorestBox 41 = .ok (.goto (-37), 3) := by decide +kernel
theorem dX5_poorestBox_44 : decode cX5_poorestBox 44 = .ok (.iload_n 1, 1) := by decide +kernel
theorem dX5_poorestBox_45 : decode cX5_poorestBox 45 = .ok (.ireturn, 1) := by decide +kernel
theorem dX5_offerBoxes_0 : decode cX5_offerBoxes 0 = .ok (.iconst 0, 1) := by decide +kernel
theorem dX5_offerBoxes_1 : decode cX5_offerBoxes 1 = .ok (.istore_n 1, 1) := by decide +kernel
theorem dX5_offerBoxes_2 : decode cX5_offerBoxes 2 = .ok (.iload_n 1, 1) := by decide +kernel
theorem dX5_offerBoxes_3 : decode cX5_offerBoxes 3 = .ok (.aload_n 0, 1) := by decide +kernel
theorem dX5_offerBoxes_4 : decode cX5_offerBoxes 4 = .ok (.getfield 180, 3) := by decide +kernel
theorem dX5_offerBoxes_7 : decode cX5_offerBoxes 7 = .ok (.if_icmp .ge 38, 3) := by decide +kernel
theorem dX5_offerBoxes_10 : decode cX5_offerBoxes 10 = .ok (.aload_n 0, 1) := by decide +kernel
theorem dX5_offerBoxes_11 : decode cX5_offerBoxes 11 = .ok (.invokevirtual 354, 3) := by decide +kernel
theorem dX5_offerBoxes_14 : decode cX5_offerBoxes 14 = .ok (.istore_n 2, 1) := by decide +kernel
theorem dX5_offerBoxes_15 : decode cX5_offerBoxes 15 = .ok (.aload_n 0, 1) := by decide +kernel
theorem dX5_offerBoxes_16 : decode cX5_offerBoxes 16 = .ok (.invokevirtual 357, 3) := by decide +kernel
theorem dX5_offerBoxes_19 : decode cX5_offerBoxes 19 = .ok (.istore_n 3, 1) := by decide +kernel
theorem dX5_offerBoxes_20 : decode cX5_offerBoxes 20 = .ok (.iload_n 2, 1) := by decide +kernel
theorem dX5_offerBoxes_21 : decode cX5_offerBoxes 21 = .ok (.aload_n 0, 1) := by decide +kernel
theorem dX5_offerBoxes_22 : decode cX5_offerBoxes 22 = .ok (.getfield 32, 3) := by decide +kernel
theorem dX5_offerBoxes_25 : decode cX5_offerBoxes 25 = .ok (.arraylength, 1) := by decide +kernel
theorem dX5_offerBoxes_26 : decode cX5_offerBoxes 26 = .ok (.invokestatic 74, 3) := by decide +kernel
theorem dX5_offerBoxes_29 : decode cX5_offerBoxes 29 = .ok (.ifCond .eq 10, 3) := by decide +kernel
theorem dX5_offerBoxes_32 : decode cX5_offerBoxes 32 = .ok (.aload_n 0, 1) := by decide +kernel
theorem dX5_offerBoxes_33 : decode cX5_offerBoxes 33 = .ok (.getfield 32, 3) := by decide +kernel
theorem dX5_offerBoxes_36 : decode cX5_offerBoxes 36 = .ok (.iload_n 2, 1) := by decide +kernel
theorem dX5_offerBoxes_37 : decode cX5_offerBoxes 37 = .ok (.iload_n 3, 1) := by decide +kernel
theorem dX5_offerBoxes_38 : decode cX5_offerBoxes 38 = .ok (.iastore, 1) := by decide +kernel
theorem dX5_offerBoxes_39 : decode cX5_offerBoxes 39 = .ok (.iinc 1 1, 3) := by decide +kernel
theorem dX5_offerBoxes_42 : decode cX5_offerBoxes 42 = .ok (.goto (-40), 3) := by decide +kernel
theorem dX5_offerBoxes_45 : decode cX5_offerBoxes 45 = .ok (.return_, 1) := by decide +kernel
theorem dX5_bestFreeBuyer_0 : decode cX5_bestFreeBuyer 0 = .ok (.iconst (-1), 1) := by decide +kernel
theorem dX5_bestFreeBuyer_1 : decode cX5_bestFreeBuyer 1 = .ok (.istore_n 1, 1) := by decide +kernel
theorem dX5_bestFreeBuyer_2 : decode cX5_bestFreeBuyer 2 = .ok (.iconst 0, 1) := by decide +kernel
theorem dX5_bestFreeBuyer_3 : decode cX5_bestFreeBuyer 3 = .ok (.istore_n 2, 1) := by decide +kernel
theorem dX5_bestFreeBuyer_4 : decode cX5_bestFreeBuyer 4 = .ok (.iload_n 2, 1) := by decide +kernel
theorem dX5_bestFreeBuyer_5 : decode cX5_bestFreeBuyer 5 = .ok (.iconst 5, 1) := by decide +kernel
theorem dX5_bestFreeBuyer_6 : decode cX5_bestFreeBuyer 6 = .ok (.if_icmp .ge 41, 3) := by decide +kernel
theorem dX5_bestFreeBuyer_9 : decode cX5_bestFreeBuyer 9 = .ok (.aload_n 0, 1) := by decide +kernel
theorem dX5_bestFreeBuyer_10 : decode cX5_bestFreeBuyer 10 = .ok (.getfield 32, 3) := by decide +kernel
theorem dX5_bestFreeBuyer_13 : decode cX5_bestFreeBuyer 13 = .ok (.iload_n 2, 1) := by decide +kernel
theorem dX5_bestFreeBuyer_14 : decode cX5_bestFreeBuyer 14 = .ok (.iaload, 1) := by decide +kernel
theorem dX5_bestFreeBuyer_15 : decode cX5_bestFreeBuyer 15 = .ok (.iconst (-1), 1) := by decide +kernel
theorem dX5_bestFreeBuyer_16 : decode cX5_bestFreeBuyer 16 = .ok (.if_icmp .ne 25, 3) := by decide +kernel
theorem dX5_bestFreeBuyer_19 : decode cX5_bestFreeBuyer 19 = .ok (.iload_n 1, 1) := by decide +kernel
theorem dX5_bestFreeBuyer_20 : decode cX5_bestFreeBuyer 20 = .ok (.iconst (-1), 1) := by decide +kernel
theorem dX5_bestFreeBuyer_21 : decode cX5_bestFreeBuyer 21 = .ok (.if_icmp .eq 18, 3) := by decide +kernel
theorem dX5_bestFreeBuyer_24 : decode cX5_bestFreeBuyer 24 = .ok (.aload_n 0, 1) := by decide +kernel
theorem dX5_bestFreeBuyer_25 : decode cX5_bestFreeBuyer 25 = .ok (.getfield 29, 3) := by decide +kernel
theorem dX5_bestFreeBuyer_28 : decode cX5_bestFreeBuyer 28 = .ok (.iload_n 2, 1) := by decide +kernel
theorem dX5_bestFreeBuyer_29 : decode cX5_bestFreeBuyer 29 = .ok (.iaload, 1) := by decide +kernel
theorem dX5_bestFreeBuyer_30 : decode cX5_bestFreeBuyer 30 = .ok (.aload_n 0, 1) := by decide +kernel
theorem dX5_bestFreeBuyer_31 : decode cX5_bestFreeBuyer 31 = .ok (.getfield 29, 3) := by decide +kernel
theorem dX5_bestFreeBuyer_34 : decode cX5_bestFreeBuyer 34 = .ok (.iload_n 1, 1) := by decide +kernel
theorem dX5_bestFreeBuyer_35 : decode cX5_bestFreeBuyer 35 = .ok (.iaload, 1) := by decide +kernel
theorem dX5_bestFreeBuyer_36 : decode cX5_bestFreeBuyer 36 = .ok (.if_icmp .le 5, 3) := by decide +kernel
theorem dX5_bestFreeBuyer_39 : decode cX5_bestFreeBuyer 39 = .ok (.iload_n 2, 1) := by decide +kernel
theorem dX5_bestFreeBuyer_40 : decode cX5_bestFreeBuyer 40 = .ok (.istore_n 1, 1) := by decide +kernel
theorem dX5_bestFreeBuyer_41 : decode cX5_bestFreeBuyer 41 = .ok (.iinc 2 1, 3) := by decide +kernel
theorem dX5_bestFreeBuyer_44 : decode cX5_bestFreeBuyer 44 = .ok (.goto (-40), 3) := by decide +kernel
theorem dX5_bestFreeBuyer_47 : decode cX5_bestFreeBuyer 47 = .ok (.iload_n 1, 1) := by decide +kernel
theorem dX5_bestFreeBuyer_48 : decode cX5_bestFreeBuyer 48 = .ok (.ireturn, 1) := by decide +kernel
theorem dX5_richestFreeBox_0 : decode cX5_richestFreeBox 0 = .ok (.iconst (-1), 1) := by decide +kernel
theorem dX5_richestFreeBox_1 : decode cX5_richestFreeBox 1 = .ok (.istore_n 1, 1) := by decide +kernel
theorem dX5_richestFreeBox_2 : decode cX5_richestFreeBox 2 = .ok (.iconst 0, 1) := by decide +kernel
theorem dX5_richestFreeBox_3 : decode cX5_richestFreeBox 3 = .ok (.istore_n 2, 1) := by decide +kernel
theorem dX5_richestFreeBox_4 : decode cX5_richestFreeBox 4 = .ok (.iload_n 2, 1) := by decide +kernel
theorem dX5_richestFreeBox_5 : decode cX5_richestFreeBox 5 = .ok (.aload_n 0, 1) := by decide +kernel
theorem dX5_richestFreeBox_6 : decode cX5_richestFreeBox 6 = .ok (.getfield 180, 3) := by decide +kernel
theorem dX5_richestFreeBox_9 : decode cX5_richestFreeBox 9 = .ok (.if_icmp .ge 48, 3) := by decide +kernel
theorem dX5_richestFreeBox_12 : decode cX5_richestFreeBox 12 = .ok (.iload_n 2, 1) := by decide +kernel
theorem dX5_richestFreeBox_13 : decode cX5_richestFreeBox 13 = .ok (.aload_n 0, 1) := by decide +kernel
theorem dX5_richestFreeBox_14 : decode cX5_richestFreeBox 14 = .ok (.getfield 35, 3) := by decide +kernel
theorem dX5_richestFreeBox_17 : decode cX5_richestFreeBox 17 = .ok (.arraylength, 1) := by decide +kernel
theorem dX5_richestFreeBox_18 : decode cX5_richestFreeBox 18 = .ok (.if_icmp .ge 39, 3) := by decide +kernel
theorem dX5_richestFreeBox_21 : decode cX5_richestFreeBox 21 = .ok (.aload_n 0, 1) := by decide +kernel
theorem dX5_richestFreeBox_22 : decode cX5_richestFreeBox 22 = .ok (.iload_n 2, 1) := by decide +kernel
theorem dX5_richestFreeBox_23 : decode cX5_richestFreeBox 23 = .ok (.invokevirtual 189, 3) := by decide +kernel
theorem dX5_richestFreeBox_26 : decode cX5_richestFreeBox 26 = .ok (.ifCond .ne 25, 3) := by decide +kernel
theorem dX5_richestFreeBox_29 : decode cX5_richestFreeBox 29 = .ok (.iload_n 1, 1) := by decide +kernel
theorem dX5_richestFreeBox_30 : decode cX5_richestFreeBox 30 = .ok (.iconst (-1), 1) := by decide +kernel
theorem dX5_richestFreeBox_31 : decode cX5_richestFreeBox 31 = .ok (.if_icmp .eq 18, 3) := by decide +kernel
theorem dX5_richestFreeBox_34 : decode cX5_richestFreeBox 34 = .ok (.aload_n 0, 1) := by decide +kernel
theorem dX5_richestFreeBox_35 : decode cX5_richestFreeBox 35 = .ok (.getfield 35, 3) := by decide +kernel
theorem dX5_richestFreeBox_38 : decode cX5_richestFreeBox 38 = .ok (.iload_n 2, 1) := by decide +kernel
theorem dX5_richestFreeBox_39 : decode cX5_richestFreeBox 39 = .ok (.iaload, 1) := by decide +kernel
theorem dX5_richestFreeBox_40 : decode cX5_richestFreeBox 40 = .ok (.aload_n 0, 1) := by decide +kernel
theorem dX5_richestFreeBox_41 : decode cX5_richestFreeBox 41 = .ok (.getfield 35, 3) := by decide +kernel
theorem dX5_richestFreeBox_44 : decode cX5_richestFreeBox 44 = .ok (.iload_n 1, 1) := by decide +kernel
theorem dX5_richestFreeBox_45 : decode cX5_richestFreeBox 45 = .ok (.iaload, 1) := by decide +kernel
theorem dX5_richestFreeBox_46 : decode cX5_richestFreeBox 46 = .ok (.if_icmp .le 5, 3) := by decide +kernel
theorem dX5_richestFreeBox_49 : decode cX5_richestFreeBox 49 = .ok (.iload_n 2, 1) := by decide +kernel
theorem dX5_richestFreeBox_50 : decode cX5_richestFreeBox 50 = .ok (.istore_n 1, 1) := by decide +kernel
theorem dX5_richestFreeBox_51 : decode cX5_richestFreeBox 51 = .ok (.iinc 2 1, 3) := by decide +kernel
theorem dX5_richestFreeBox_54 : decode cX5_richestFreeBox 54 = .ok (.goto (-50), 3) := by decide +kernel
theorem dX5_richestFreeBox_57 : decode cX5_richestFreeBox 57 = .ok (.iload_n 1, 1) := by decide +kernel
theorem dX5_richestFreeBox_58 : decode cX5_richestFreeBox 58 = .ok (.ireturn, 1) := by decide +kernel
theorem dX5_isOffered_0 : decode cX5_isOffered 0 = .ok (.aload_n 0, 1) := by decide +kernel
theorem dX5_isOffered_1 : decode cX5_isOffered 1 = .ok (.getfield 32, 3) := by decide +kernel
theorem dX5_isOffered_4 : decode cX5_isOffered 4 = .ok (.astore_n 2, 1) := by decide +kernel
theorem dX5_isOffered_5 : decode cX5_isOffered 5 = .ok (.aload_n 2, 1) := by decide +kernel
theorem dX5_isOffered_6 : decode cX5_isOffered 6 = .ok (.arraylength, 1) := by decide +kernel
theorem dX5_isOffered_7 : decode cX5_isOffered 7 = .ok (.istore_n 3, 1) := by decide +kernel
theorem dX5_isOffered_8 : decode cX5_isOffered 8 = .ok (.iconst 0, 1) := by decide +kernel
theorem dX5_isOffered_9 : decode cX5_isOffered 9 = .ok (.istore 4, 2) := by decide +kernel
theorem dX5_isOffered_11 : decode cX5_isOffered 11 = .ok (.iload 4, 2) := by decide +kernel
theorem dX5_isOffered_13 : decode cX5_isOffered 13 = .ok (.iload_n 3, 1) := by decide +kernel
theorem dX5_isOffered_14 : decode cX5_isOffered 14 = .ok (.if_icmp .ge 23, 3) := by decide +kernel
theorem dX5_isOffered_17 : decode cX5_isOffered 17 = .ok (.aload_n 2, 1) := by decide +kernel
theorem dX5_isOffered_18 : decode cX5_isOffered 18 = .ok (.iload 4, 2) := by decide +kernel
theorem dX5_isOffered_20 : decode cX5_isOffered 20 = .ok (.iaload, 1) := by decide +kernel
theorem dX5_isOffered_21 : decode cX5_isOffered 21 = .ok (.istore 5, 2) := by decide +kernel
theorem dX5_isOffered_23 : decode cX5_isOffered 23 = .ok (.iload 5, 2) := by decide +kernel
theorem dX5_isOffered_25 : decode cX5_isOffered 25 = .ok (.iload_n 1, 1) := by decide +kernel
theorem dX5_isOffered_26 : decode cX5_isOffered 26 = .ok (.if_icmp .ne 5, 3) := by decide +kernel
theorem dX5_isOffered_29 : decode cX5_isOffered 29 = .ok (.iconst 1, 1) := by decide +kernel
theorem dX5_isOffered_30 : decode cX5_isOffered 30 = .ok (.ireturn, 1) := by decide +kernel
theorem dX5_isOffered_31 : decode cX5_isOffered 31 = .ok (.iinc 4 1, 3) := by decide +kernel
theorem dX5_isOffered_34 : decode cX5_isOffered 34 = .ok (.goto (-23), 3) := by decide +kernel
theorem dX5_isOffered_37 : decode cX5_isOffered 37 = .ok (.iconst 0, 1) := by decide +kernel
theorem dX5_isOffered_38 : decode cX5_isOffered 38 = .ok (.ireturn, 1) := by decide +kernel
theorem dX5_changeConduct_0 : decode cX5_changeConduct 0 = .ok (.iload_n 1, 1) := by decide +kernel
theorem dX5_changeConduct_1 : decode cX5_changeConduct 1 = .ok (.aload_n 0, 1) := by decide +kernel
theorem dX5_changeConduct_2 : decode cX5_changeConduct 2 = .ok (.getfield 29, 3) := by decide +kernel
theorem dX5_changeConduct_5 : decode cX5_changeConduct 5 = .ok (.arraylength, 1) := by decide +kernel
theorem dX5_changeConduct_6 : decode cX5_changeConduct 6 = .ok (.invokestatic 74, 3) := by decide +kernel
theorem dX5_changeConduct_9 : decode cX5_changeConduct 9 = .ok (.ifCond .ne 5, 3) := by decide +kernel
theorem dX5_changeConduct_12 : decode cX5_changeConduct 12 = .ok (.iconst (-1), 1) := by decide +kernel
theorem dX5_changeConduct_13 : decode cX5_changeConduct 13 = .ok (.ireturn, 1) := by decide +kernel
theorem dX5_changeConduct_14 : decode cX5_changeConduct 14 = .ok (.aload_n 0, 1) := by decide +kernel
theorem dX5_changeConduct_15 : decode cX5_changeConduct 15 = .ok (.getfield 29, 3) := by decide +kernel
theorem dX5_changeConduct_18 : decode cX5_changeConduct 18 = .ok (.iload_n 1, 1) := by decide +kernel
theorem dX5_changeConduct_19 : decode cX5_changeConduct 19 = .ok (.aload_n 0, 1) := by decide +kernel
theorem dX5_changeConduct_20 : decode cX5_changeConduct 20 = .ok (.getfield 29, 3) := by decide +kernel
theorem dX5_changeConduct_23 : decode cX5_changeConduct 23 = .ok (.iload_n 1, 1) := by decide +kernel
theorem dX5_changeConduct_24 : decode cX5_changeConduct 24 = .ok (.iaload, 1) := by decide +kernel
theorem dX5_changeConduct_25 : decode cX5_changeConduct 25 = .ok (.iload_n 2, 1) := by decide +kernel
theorem dX5_changeConduct_26 : decode cX5_changeConduct 26 = .ok (.iadd, 1) := by decide +kernel
theorem dX5_changeConduct_27 : decode cX5_changeConduct 27 = .ok (.iconst 0, 1) := by decide +kernel
theorem dX5_changeConduct_28 : decode cX5_changeConduct 28 = .ok (.bipush 100, 2) := by decide +kernel
theorem dX5_changeConduct_30 : decode cX5_changeConduct 30 = .ok (.invokestatic 134, 3) := by decide +kernel
theorem dX5_changeConduct_33 : decode cX5_changeConduct 33 = .ok (.iastore, 1) := by decide +kernel
theorem dX5_changeConduct_34 : decode cX5_changeConduct 34 = .ok (.aload_n 0, 1) := by decide +kernel
theorem dX5_changeConduct_35 : decode cX5_changeConduct 35 = .ok (.getfield 29, 3) := by decide +kernel
theorem dX5_changeConduct_38 : decode cX5_changeConduct 38 = .ok (.iload_n 1, 1) := by decide +kernel
theorem dX5_changeConduct_39 : decode cX5_changeConduct 39 = .ok (.iaload, 1) := by decide +kernel
theorem dX5_changeConduct_40 : decode cX5_changeConduct 40 = .ok (.ireturn, 1) := by decide +kernel
theorem dX5_endTenderOf_0 : decode cX5_endTenderOf 0 = .ok (.aload_n 0, 1) := by decide +kernel
theorem dX5_endTenderOf_1 : decode cX5_endTenderOf 1 = .ok (.getfield 41, 3) := by decide +kernel
theorem dX5_endTenderOf_4 : decode cX5_endTenderOf 4 = .ok (.getfield 222, 3) := by decide +kernel
theorem dX5_endTenderOf_7 : decode cX5_endTenderOf 7 = .ok (.aload_n 1, 1) := by decide +kernel
theorem dX5_endTenderOf_8 : decode cX5_endTenderOf 8 = .ok (.if_acmp .ne 10, 3) := by decide +kernel
theorem dX5_endTenderOf_11 : decode cX5_endTenderOf 11 = .ok (.aload_n 0, 1) := by decide +kernel
theorem dX5_endTenderOf_12 : decode cX5_endTenderOf 12 = .ok (.getfield 41, 3) := by decide +kernel
theorem dX5_endTenderOf_15 : decode cX5_endTenderOf 15 = .ok (.invokevirtual 232, 3) := by decide +kernel
theorem dX5_endTenderOf_18 : decode cX5_endTenderOf 18 = .ok (.return_, 1) := by decide +kernel
theorem dX5_tenderWinner_0 : decode cX5_tenderWinner 0 = .ok (.iconst (-1), 1) := by decide +kernel
theorem dX5_tenderWinner_1 : decode cX5_tenderWinner 1 = .ok (.istore_n 1, 1) := by decide +kernel
theorem dX5_tenderWinner_2 : decode cX5_tenderWinner 2 = .ok (.iconst 0, 1) := by decide +kernel
theorem dX5_tenderWinner_3 : decode cX5_tenderWinner 3 = .ok (.istore_n 2, 1) := by decide +kernel
theorem dX5_tenderWinner_4 : decode cX5_tenderWinner 4 = .ok (.iload_n 2, 1) := by decide +kernel
theorem dX5_tenderWinner_5 : decode cX5_tenderWinner 5 = .ok (.iconst 5, 1) := by decide +kernel
theorem dX5_tenderWinner_6 : decode cX5_tenderWinner 6 = .ok (.if_icmp .ge 43, 3) := by decide +kernel
theorem dX5_tenderWinner_9 : decode cX5_tenderWinner 9 = .ok (.aload_n 0, 1) := by decide +kernel
theorem dX5_tenderWinner_10 : decode cX5_tenderWinner 10 = .ok (.getfield 41, 3) := by decide +kernel
theorem dX5_tenderWinner_13 : decode cX5_tenderWinner 13 = .ok (.iload_n 2, 1) := by decide +kernel
theorem dX5_tenderWinner_14 : decode cX5_tenderWinner 14 = .ok (.invokevirtual 216, 3) := by decide +kernel
theorem dX5_tenderWinner_17 : decode cX5_tenderWinner 17 = .ok (.aload_n 0, 1) := by decide +kernel
theorem dX5_tenderWinner_18 : decode cX5_tenderWinner 18 = .ok (.getfield 41, 3) := by decide +kernel
theorem dX5_tenderWinner_21 : decode cX5_tenderWinner 21 = .ok (.getfield 360, 3) := by decide +kernel
theorem dX5_tenderWinner_24 : decode cX5_tenderWinner 24 = .ok (.if_icmp .lt 19, 3) := by decide +kernel
theorem dX5_tenderWinner_27 : decode cX5_tenderWinner 27 = .ok (.iload_n 1, 1) := by decide +kernel
theorem dX5_tenderWinner_28 : decode cX5_tenderWinner 28 = .ok (.iconst (-1), 1) := by decide +kernel
theorem dX5_tenderWinner_29 : decode cX5_tenderWinner 29 = .ok (.if_icmp .eq 12, 3) := by decide +kernel
theorem dX5_tenderWinner_32 : decode cX5_tenderWinner 32 = .ok (.aload_n 0, 1) := by decide +kernel
theorem dX5_tenderWinner_33 : decode cX5_tenderWinner 33 = .ok (.iload_n 2, 1) := by decide +kernel
theorem dX5_tenderWinner_34 : decode cX5_tenderWinner 34 = .ok (.iload_n 1, 1) := by decide +kernel
theorem dX5_tenderWinner_35 : decode cX5_tenderWinner 35 = .ok (.invokevirtual 363, 3) := by decide +kernel
theorem dX5_tenderWinner_38 : decode cX5_tenderWinner 38 = .ok (.ifCond .eq 5, 3) := by decide +kernel
theorem dX5_tenderWinner_41 : decode cX5_tenderWinner 41 = .ok (.iload_n 2, 1) := by decide +kernel
theorem dX5_tenderWinner_42 : decode cX5_tenderWinner 42 = .ok (.istore_n 1, 1) := by decide +kernel
theorem dX5_tenderWinner_43 : decode cX5_tenderWinner 43 = .ok (.iinc 2 1, 3) := by decide +kernel
theorem dX5_tenderWinner_46 : decode cX5_tenderWinner 46 = .ok (.goto (-42), 3) := by decide +kernel
theorem dX5_tenderWinner_49 : decode cX5_tenderWinner 49 = .ok (.iload_n 1, 1) := by decide +kernel
theorem dX5_tenderWinner_50 : decode cX5_tenderWinner 50 = .ok (.ireturn, 1) := by decide +kernel
theorem dX5_outbids_0 : decode cX5_outbids 0 = .ok (.aload_n 0, 1) := by decide +kernel
theorem dX5_outbids_1 : decode cX5_outbids 1 = .ok (.getfield 41, 3) := by decide +kernel
theorem dX5_outbids_4 : decode cX5_outbids 4 = .ok (.iload_n 1, 1) := by decide +kernel
theorem dX5_outbids_5 : decode cX5_outbids 5 = .ok (.invokevirtual 216, 3) := by decide +kernel
theorem dX5_outbids_8 : decode cX5_outbids 8 = .ok (.istore_n 3, 1) := by decide +kernel
theorem dX5_outbids_9 : decode cX5_outbids 9 = .ok (.aload_n 0, 1) := by decide +kernel
theorem dX5_outbids_10 : decode cX5_outbids 10 = .ok (.getfield 41, 3) := by decide +kernel
theorem dX5_outbids_13 : decode cX5_outbids 13 = .ok (.iload_n 2, 1) := by decide +kernel
theorem dX5_outbids_14 : decode cX5_outbids 14 = .ok (.invokevirtual 216, 3) := by decide +kernel
theorem dX5_outbids_17 : decode cX5_outbids 17 = .ok (.istore 4, 2) := by decide +kernel
theorem dX5_outbids_19 : decode cX5_outbids 19 = .ok (.iload_n 3, 1) := by decide +kernel
theorem dX5_outbids_20 : decode cX5_outbids 20 = .ok (.iload 4, 2) := by decide +kernel
theorem dX5_outbids_22 : decode cX5_outbids 22 = .ok (.if_icmp .ne 27, 3) := by decide +kernel
theorem dX5_outbids_25 : decode cX5_outbids 25 = .ok (.iload_n 1, 1) := by decide +kernel
theorem dX5_outbids_26 : decode cX5_outbids 26 = .ok (.aload_n 0, 1) := by decide +kernel
theorem dX5_outbids_27 : decode cX5_outbids 27 = .ok (.getfield 29, 3) := by decide +kernel
theorem dX5_outbids_30 : decode cX5_outbids 30 = .ok (.arraylength, 1) := by decide +kernel
theorem dX5_outbids_31 : decode cX5_outbids 31 = .ok (.invokestatic 74, 3) := by decide +kernel
theorem dX5_outbids_34 : decode cX5_outbids 34 = .ok (.ifCond .eq 15, 3) := by decide +kernel
theorem dX5_outbids_37 : decode cX5_outbids 37 = .ok (.iload_n 2, 1) := by decide +kernel
theorem dX5_outbids_38 : decode cX5_outbids 38 = .ok (.aload_n 0, 1) := by decide +kernel
theorem dX5_outbids_39 : decode cX5_outbids 39 = .ok (.getfield 29, 3) := by decide +kernel
theorem dX5_outbids_42 : decode cX5_outbids 42 = .ok (.arraylength, 1) := by decide +kernel
theorem dX5_outbids_43 : decode cX5_outbids 43 = .ok (.invokestatic 74, 3) := by decide +kernel
theorem dX5_outbids_46 : decode cX5_outbids 46 = .ok (.ifCond .ne 15, 3) := by decide +kernel
theorem dX5_outbids_49 : decode cX5_outbids 49 = .ok (.iload_n 3, 1) := by decide +kernel
theorem dX5_outbids_50 : decode cX5_outbids 50 = .ok (.iload 4, 2) := by decide +kernel
theorem dX5_outbids_52 : decode cX5_outbids 52 = .ok (.if_icmp .le 7, 3) := by decide +kernel
theorem dX5_outbids_55 : decode cX5_outbids 55 = .ok (.iconst 1, 1) := by decide +kernel
theorem dX5_outbids_56 : decode cX5_outbids 56 = .ok (.goto 4, 3) := by decide +kernel
theorem dX5_outbids_59 : decode cX5_outbids 59 = .ok (.iconst 0, 1) := by decide +kernel
theorem dX5_outbids_60 : decode cX5_outbids 60 = .ok (.ireturn, 1) := by decide +kernel
theorem dX5_outbids_61 : decode cX5_outbids 61 = .ok (.aload_n 0, 1) := by decide +kernel
theorem dX5_outbids_62 : decode cX5_outbids 62 = .ok (.getfield 29, 3) := by decide +kernel
theorem dX5_outbids_65 : decode cX5_outbids 65 = .ok (.iload_n 1, 1) := by decide +kernel
theorem dX5_outbids_66 : decode cX5_outbids 66 = .ok (.iaload, 1) := by decide +kernel
theorem dX5_outbids_67 : decode cX5_outbids 67 = .ok (.aload_n 0, 1) := by decide +kernel
theorem dX5_outbids_68 : decode cX5_outbids 68 = .ok (.getfield 29, 3) := by decide +kernel
theorem dX5_outbids_71 : decode cX5_outbids 71 = .ok (.iload_n 2, 1) := by decide +kernel
theorem dX5_outbids_72 : decode cX5_outbids 72 = .ok (.iaload, 1) := by decide +kernel
theorem dX5_outbids_73 : decode cX5_outbids 73 = .ok (.if_icmp .le 7, 3) := by decide +kernel
theorem dX5_outbids_76 : decode cX5_outbids 76 = .ok (.iconst 1, 1) := by decide +kernel
theorem dX5_outbids_77 : decode cX5_outbids 77 = .ok (.goto 4, 3) := by decide +kernel
theorem dX5_outbids_80 : decode cX5_outbids 80 = .ok (.iconst 0, 1) := by decide +kernel
theorem dX5_outbids_81 : decode cX5_outbids 81 = .ok (.ireturn, 1) := by decide +kernel
theorem dX5_isClear_0 : decode cX5_isClear 0 = .ok (.iload_n 0, 1) := by decide +kernel
theorem dX5_isClear_1 : decode cX5_isClear 1 = .ok (.iload_n 1, 1) := by decide +kernel
theorem dX5_isClear_2 : decode cX5_isClear 2 = .ok (.ishr, 1) := by decide +kernel
theorem dX5_isClear_3 : decode cX5_isClear 3 = .ok (.iconst 1, 1) := by decide +kernel
theorem dX5_isClear_4 : decode cX5_isClear 4 = .ok (.iand, 1) := by decide +kernel
theorem dX5_isClear_5 : decode cX5_isClear 5 = .ok (.ifCond .ne 7, 3) := by decide +kernel
theorem dX5_isClear_8 : decode cX5_isClear 8 = .ok (.iconst 1, 1) := by decide +kernel
theorem dX5_isClear_9 : decode cX5_isClear 9 = .ok (.goto 4, 3) := by decide +kernel
theorem dX5_isClear_12 : decode cX5_isClear 12 = .ok (.iconst 0, 1) := by decide +kernel
theorem dX5_isClear_13 : decode cX5_isClear 13 = .ok (.ireturn, 1) := by decide +kernel
theorem dX5_plannedAt_0 : decode cX5_plannedAt 0 = .ok (.iload_n 1, 1) := by decide +kernel
theorem dX5_plannedAt_1 : decode cX5_plannedAt 1 = .ok (.ifCond .le 15, 3) := by decide +kernel
theorem dX5_plannedAt_4 : decode cX5_plannedAt 4 = .ok (.iload_n 0, 1) := by decide +kernel
theorem dX5_plannedAt_5 : decode cX5_plannedAt 5 = .ok (.iload_n 1, 1) := by decide +kernel
theorem dX5_plannedAt_6 : decode cX5_plannedAt 6 = .ok (.iconst 1, 1) := by decide +kernel
theorem dX5_plannedAt_7 : decode cX5_plannedAt 7 = .ok (.isub, 1) := by decide +kernel
theorem dX5_plannedAt_8 : decode cX5_plannedAt 8 = .ok (.invokestatic 366, 3) := by decide +kernel
theorem dX5_plannedAt_11 : decode cX5_plannedAt 11 = .ok (.ifCond .eq 5, 3) := by decide +kernel
theorem dX5_plannedAt_14 : decode cX5_plannedAt 14 = .ok (.iconst 0, 1) := by decide +kernel
theorem dX5_plannedAt_15 : decode cX5_plannedAt 15 = .ok (.ireturn, 1) := by decide +kernel
theorem dX5_plannedAt_16 : decode cX5_plannedAt 16 = .ok (.iload_n 1, 1) := by decide +kernel
theorem dX5_plannedAt_17 : decode cX5_plannedAt 17 = .ok (.istore_n 2, 1) := by decide +kernel
theorem dX5_plannedAt_18 : decode cX5_plannedAt 18 = .ok (.iload_n 2, 1) := by decide +kernel
theorem dX5_plannedAt_19 : decode cX5_plannedAt 19 = .ok (.bipush 12, 2) := by decide +kernel
theorem dX5_plannedAt_21 : decode cX5_plannedAt 21 = .ok (.if_icmp .ge 17, 3) := by decide +kernel
theorem dX5_plannedAt_24 : decode cX5_plannedAt 24 = .ok (.iload_n 0, 1) := by decide +kernel
theorem dX5_plannedAt_25 : decode cX5_plannedAt 25 = .ok (.iload_n 2, 1) := by decide +kernel
theorem dX5_plannedAt_26 : decode cX5_plannedAt 26 = .ok (.invokestatic 366, 3) := by decide +kernel
theorem dX5_plannedAt_29 : decode cX5_plannedAt 29 = .ok (.ifCond .eq 9, 3) := by decide +kernel
theorem dX5_plannedAt_32 : decode cX5_plannedAt 32 = .ok (.iinc 2 1, 3) := by decide +kernel
theorem dX5_plannedAt_35 : decode cX5_plannedAt 35 = .ok (.goto (-17), 3) := by decide +kernel
theorem dX5_plannedAt_38 : decode cX5_plannedAt 38 = .ok (.iload_n 2, 1) := by decide +kernel
theorem dX5_plannedAt_39 : decode cX5_plannedAt 39 = .ok (.iload_n 1, 1) := by decide +kernel
theorem dX5_plannedAt_40 : decode cX5_plannedAt 40 = .ok (.isub, 1) := by decide +kernel
theorem dX5_plannedAt_41 : decode cX5_plannedAt 41 = .ok (.invokestatic 369, 3) := by decide +kernel
theorem dX5_plannedAt_44 : decode cX5_plannedAt 44 = .ok (.ireturn, 1) := by decide +kernel
theorem dX5_plannedCount_0 : decode cX5_plannedCount 0 = .ok (.iconst 0, 1) := by decide +kernel
theorem dX5_plannedCount_1 : decode cX5_plannedCount 1 = .ok (.istore_n 1, 1) := by decide +kernel
theorem dX5_plannedCount_2 : decode cX5_plannedCount 2 = .ok (.iconst 0, 1) := by decide +kernel
theorem dX5_plannedCount_3 : decode cX5_plannedCount 3 = .ok (.istore_n 2, 1) := by decide +kernel
theorem dX5_plannedCount_4 : decode cX5_plannedCount 4 = .ok (.iload_n 2, 1) := by decide +kernel
theorem dX5_plannedCount_5 : decode cX5_plannedCount 5 = .ok (.bipush 12, 2) := by decide +kernel
theorem dX5_plannedCount_7 : decode cX5_plannedCount 7 = .ok (.if_icmp .ge 20, 3) := by decide +kernel
theorem dX5_plannedCount_10 : decode cX5_plannedCount 10 = .ok (.iload_n 0, 1) := by decide +kernel
theorem dX5_plannedCount_11 : decode cX5_plannedCount 11 = .ok (.iload_n 2, 1) := by decide +kernel
theorem dX5_plannedCount_12 : decode cX5_plannedCount 12 = .ok (.invokestatic 238, 3) := by decide +kernel
theorem dX5_plannedCount_15 : decode cX5_plannedCount 15 = .ok (.ifCond .le 6, 3) := by decide +kernel
theorem dX5_plannedCount_18 : decode cX5_plannedCount 18 = .ok (.iinc 1 1, 3) := by decide +kernel
theorem dX5_plannedCount_21 : decode cX5_plannedCount 21 = .ok (.iinc 2 1, 3) := by decide +kernel
theorem dX5_plannedCount_24 : decode cX5_plannedCount 24 = .ok (.goto (-20), 3) := by decide +kernel
theorem dX5_plannedCount_27 : decode cX5_plannedCount 27 = .ok (.iload_n 1, 1) := by decide +kernel
theorem dX5_plannedCount_28 : decode cX5_plannedCount 28 = .ok (.ireturn, 1) := by decide +kernel
theorem dX5_worthwhile_0 : decode cX5_worthwhile 0 = .ok (.iload_n 0, 1) := by decide +kernel
theorem dX5_worthwhile_1 : decode cX5_worthwhile 1 = .ok (.iconst 2, 1) := by decide +kernel
theorem dX5_worthwhile_2 : decode cX5_worthwhile 2 = .ok (.if_icmp .lt 7, 3) := by decide +kernel
theorem dX5_worthwhile_5 : decode cX5_worthwhile 5 = .ok (.iload_n 0, 1) := by decide +kernel
theorem dX5_worthwhile_6 : decode cX5_worthwhile 6 = .ok (.goto 4, 3) := by decide +kernel
theorem dX5_worthwhile_9 : decode cX5_worthwhile 9 = .ok (.iconst 0, 1) := by decide +kernel
theorem dX5_worthwhile_10 : decode cX5_worthwhile 10 = .ok (.ireturn, 1) := by decide +kernel
theorem dX5_worthBetween_0 : decode cX5_worthBetween 0 = .ok (.iconst 0, 1) := by decide +kernel
theorem dX5_worthBetween_1 : decode cX5_worthBetween 1 = .ok (.istore_n 1, 1) := by decide +kernel
theorem dX5_worthBetween_2 : decode cX5_worthBetween 2 = .ok (.iconst 0, 1) := by decide +kernel
theorem dX5_worthBetween_3 : decode cX5_worthBetween 3 = .ok (.istore_n 2, 1) := by decide +kernel
theorem dX5_worthBetween_4 : decode cX5_worthBetween 4 = .ok (.iconst 0, 1) := by decide +kernel
theorem dX5_worthBetween_5 : decode cX5_worthBetween 5 = .ok (.istore_n 3, 1) := by decide +kernel
theorem dX5_worthBetween_6 : decode cX5_worthBetween 6 = .ok (.iload_n 3, 1) := by decide +kernel
theorem dX5_worthBetween_7 : decode cX5_worthBetween 7 = .ok (.bipush 12, 2) := by decide +kernel
theorem dX5_worthBetween_9 : decode cX5_worthBetween 9 = .ok (.if_icmp .ge 34, 3) := by decide +kernel
theorem dX5_worthBetween_12 : decode cX5_worthBetween 12 = .ok (.iload_n 0, 1) := by decide +kernel
theorem dX5_worthBetween_13 : decode cX5_worthBetween 13 = .ok (.iload_n 3, 1) := by decide +kernel
theorem dX5_worthBetween_14 : decode cX5_worthBetween 14 = .ok (.invokestatic 366, 3) := by decide +kernel
theorem dX5_worthBetween_17 : decode cX5_worthBetween 17 = .ok (.ifCond .eq 9, 3) := by decide +kernel
theorem dX5_worthBetween_20 : decode cX5_worthBetween 20 = .ok (.iinc 2 1, 3) := by decide +kernel
theorem dX5_worthBetween_23 : decode cX5_worthBetween 23 = .ok (.goto 14, 3) := by decide +kernel
theorem dX5_worthBetween_26 : decode cX5_worthBetween 26 = .ok (.iload_n 1, 1) := by decide +kernel
theorem dX5_worthBetween_27 : decode cX5_worthBetween 27 = .ok (.iload_n 2, 1) := by decide +kernel
theorem dX5_worthBetween_28 : decode cX5_worthBetween 28 = .ok (.invokestatic 369, 3) := by decide +kernel
theorem dX5_worthBetween_31 : decode cX5_worthBetween 31 = .ok (.iload_n 2, 1) := by decide +kernel
theorem dX5_worthBetween_32 : decode cX5_worthBetween 32 = .ok (.imul, 1) := by decide +kernel
theorem dX5_worthBetween_33 : decode cX5_worthBetween 33 = .ok (.iadd, 1) := by decide +kernel
theorem dX5_worthBetween_34 : decode cX5_worthBetween 34 = .ok (.istore_n 1, 1) := by decide +kernel
theorem dX5_worthBetween_35 : decode cX5_worthBetween 35 = .ok (.iconst 0, 1) := by decide +kernel
theorem dX5_worthBetween_36 : decode cX5_worthBetween 36 = .ok (.istore_n 2, 1) := by decide +kernel
theorem dX5_worthBetween_37 : decode cX5_worthBetween 37 = .ok (.iinc 3 1, 3) := by decide +kernel
theorem dX5_worthBetween_40 : decode cX5_worthBetween 40 = .ok (.goto (-34), 3) := by decide +kernel
theorem dX5_worthBetween_43 : decode cX5_worthBetween 43 = .ok (.iload_n 1, 1) := by decide +kernel
theorem dX5_worthBetween_44 : decode cX5_worthBetween 44 = .ok (.iload_n 2, 1) := by decide +kernel
theorem dX5_worthBetween_45 : decode cX5_worthBetween 45 = .ok (.invokestatic 369, 3) := by decide +kernel
theorem dX5_worthBetween_48 : decode cX5_worthBetween 48 = .ok (.iload_n 2, 1) := by decide +kernel
theorem dX5_worthBetween_49 : decode cX5_worthBetween 49 = .ok (.imul, 1) := by decide +kernel
theorem dX5_worthBetween_50 : decode cX5_worthBetween 50 = .ok (.iadd, 1) := by decide +kernel
theorem dX5_worthBetween_51 : decode cX5_worthBetween 51 = .ok (.ireturn, 1) := by decide +kernel
theorem dX5_keepGem_0 : decode cX5_keepGem 0 = .ok (.aload_n 0, 1) := by decide +kernel
theorem dX5_keepGem_1 : decode cX5_keepGem 1 = .ok (.getfield 254, 3) := by decide +kernel
theorem dX5_keepGem_4 : decode cX5_keepGem 4 = .ok (.aload_n 0, 1) := by decide +kernel
theorem dX5_keepGem_5 : decode cX5_keepGem 5 = .ok (.getfield 47, 3) := by decide +kernel
theorem dX5_keepGem_8 : decode cX5_keepGem 8 = .ok (.arraylength, 1) := by decide +kernel
theorem dX5_keepGem_9 : decode cX5_keepGem 9 = .ok (.invokestatic 74, 3) := by decide +kernel
theorem dX5_keepGem_12 : decode cX5_keepGem 12 = .ok (.ifCond .eq 36, 3) := by decide +kernel
theorem dX5_keepGem_15 : decode cX5_keepGem 15 = .ok (.aload_n 0, 1) := by decide +kernel
theorem dX5_keepGem_16 : decode cX5_keepGem 16 = .ok (.getfield 47, 3) := by decide +kernel
theorem dX5_keepGem_19 : decode cX5_keepGem 19 = .ok (.aload_n 0, 1) := by decide +kernel
theorem dX5_keepGem_20 : decode cX5_keepGem 20 = .ok (.getfield 254, 3) := by decide +kernel
theorem dX5_keepGem_23 : decode cX5_keepGem 23 = .ok (.aload_n 1, 1) := by decide +kernel
theorem dX5_keepGem_24 : decode cX5_keepGem 24 = .ok (.aastore, 1) := by decide +kernel
theorem dX5_keepGem_25 : decode cX5_keepGem 25 = .ok (.aload_n 0, 1) := by decide +kernel
theorem dX5_keepGem_26 : decode cX5_keepGem 26 = .ok (.dup, 1) := by decide +kernel
theorem dX5_keepGem_27 : decode cX5_keepGem 27 = .ok (.getfield 254, 3) := by decide +kernel
theorem dX5_keepGem_30 : decode cX5_keepGem 30 = .ok (.iconst 1, 1) := by decide +kernel
theorem dX5_keepGem_31 : decode cX5_keepGem 31 = .ok (.iadd, 1) := by decide +kernel
theorem dX5_keepGem_32 : decode cX5_keepGem 32 = .ok (.putfield 254, 3) := by decide +kernel
theorem dX5_keepGem_35 : decode cX5_keepGem 35 = .ok (.aload_n 0, 1) := by decide +kernel
theorem dX5_keepGem_36 : decode cX5_keepGem 36 = .ok (.dup, 1) := by decide +kernel
theorem dX5_keepGem_37 : decode cX5_keepGem 37 = .ok (.getfield 259, 3) := by decide +kernel
theorem dX5_keepGem_40 : decode cX5_keepGem 40 = .ok (.aload_n 1, 1) := by decide +kernel
theorem dX5_keepGem_41 : decode cX5_keepGem 41 = .ok (.getfield 280, 3) := by decide +kernel
theorem dX5_keepGem_44 : decode cX5_keepGem 44 = .ok (.isub, 1) := by decide +kernel
theorem dX5_keepGem_45 : decode cX5_keepGem 45 = .ok (.putfield 259, 3) := by decide +kernel
theorem dX5_keepGem_48 : decode cX5_keepGem 48 = .ok (.return_, 1) := by decide +kernel
end
section
theorem dX6_init_0 : decode cX6_init 0 = .ok (.aload_n 0, 1) := by decide +kernel
theorem dX6_init_1 : decode cX6_init 1 = .ok (.invokespecial 1, 3) := by decide +kernel
theorem dX6_init_4 : decode cX6_init 4 = .ok (.aload_n 0, 1) := by decide +kernel
theorem dX6_init_5 : decode cX6_init 5 = .ok (.bipush 12, 2) := by decide +kernel
theorem dX6_init_7 : decode cX6_init 7 = .ok (.newarray .int, 2) := by decide +kernel
theorem dX6_init_9 : decode cX6_init 9 = .ok (.putfield 7, 3) := by decide +kernel
theorem dX6_init_12 : decode cX6_init 12 = .ok (.aload_n 0, 1) := by decide +kernel
theorem dX6_init_13 : decode cX6_init 13 = .ok (.bipush 40, 2) := by decide +kernel
theorem dX6_init_15 : decode cX6_init 15 = .ok (.newarray .int, 2) := by decide +kernel
theorem dX6_init_17 : decode cX6_init 17 = .ok (.putfield 13, 3) := by decide +kernel
theorem dX6_init_20 : decode cX6_init 20 = .ok (.aload_n 0, 1) := by decide +kernel
theorem dX6_init_21 : decode cX6_init 21 = .ok (.bipush 40, 2) := by decide +kernel
theorem dX6_init_23 : decode cX6_init 23 = .ok (.newarray .int, 2) := by decide +kernel
theorem dX6_init_25 : decode cX6_init 25 = .ok (.putfield 16, 3) := by decide +kernel
theorem dX6_init_28 : decode cX6_init 28 = .ok (.aload_n 0, 1) := by decide +kernel
theorem dX6_init_29 : decode cX6_init 29 = .ok (.bipush 40, 2) := by decide +kernel
theorem dX6_init_31 : decode cX6_init 31 = .ok (.newarray .int, 2) := by decide +kernel
theorem dX6_init_33 : decode cX6_init 33 = .ok (.putfield 19, 3) := by decide +kernel
theorem dX6_init_36 : decode cX6_init 36 = .ok (.aload_n 0, 1) := by decide +kernel
theorem dX6_init_37 : decode cX6_init 37 = .ok (.bipush 40, 2) := by decide +kernel
theorem dX6_init_39 : decode cX6_init 39 = .ok (.newarray .int, 2) := by decide +kernel
theorem dX6_init_41 : decode cX6_init 41 = .ok (.putfield 22, 3) := by decide +kernel
theorem dX6_init_44 : decode cX6_init 44 = .ok (.aload_n 0, 1) := by decide +kernel
theorem dX6_init_45 : decode cX6_init 45 = .ok (.bipush 40, 2) := by decide +kernel
theorem dX6_init_47 : decode cX6_init 47 = .ok (.newarray .int, 2) := by decide +kernel
theorem dX6_init_49 : decode cX6_init 49 = .ok (.putfield 25, 3) := by decide +kernel
theorem dX6_init_52 : decode cX6_init 52 = .ok (.aload_n 0, 1) := by decide +kernel
theorem dX6_init_53 : decode cX6_init 53 = .ok (.bipush 40, 2) := by decide +kernel
theorem dX6_init_55 : decode cX6_init 55 = .ok (.newarray .int, 2) := by decide +kernel
theorem dX6_init_57 : decode cX6_init 57 = .ok (.putfield 28, 3) := by decide +kernel
theorem dX6_init_60 : decode cX6_init 60 = .ok (.aload_n 0, 1) := by decide +kernel
theorem dX6_init_61 : decode cX6_init 61 = .ok (.bipush 40, 2) := by decide +kernel
theorem dX6_init_63 : decode cX6_init 63 = .ok (.newarray .int, 2) := by decide +kernel
theorem dX6_init_65 : decode cX6_init 65 = .ok (.putfield 31, 3) := by decide +kernel
theorem dX6_init_68 : decode cX6_init 68 = .ok (.aload_n 0, 1) := by decide +kernel
theorem dX6_init_69 : decode cX6_init 69 = .ok (.bipush 40, 2) := by decide +kernel
theorem dX6_init_71 : decode cX6_init 71 = .ok (.newarray .int, 2) := by decide +kernel
theorem dX6_init_73 : decode cX6_init 73 = .ok (.putfield 34, 3) := by decide +kernel
theorem dX6_init_76 : decode cX6_init 76 = .ok (.aload_n 0, 1) := by decide +kernel
theorem dX6_init_77 : decode cX6_init 77 = .ok (.bipush 40, 2) := by decide +kernel
theorem dX6_init_79 : decode cX6_init 79 = .ok (.newarray .int, 2) := by decide +kernel
theorem dX6_init_81 : decode cX6_init 81 = .ok (.putfield 37, 3) := by decide +kernel
theorem dX6_init_84 : decode cX6_init 84 = .ok (.aload_n 0, 1) := by decide +kernel
theorem dX6_init_85 : decode cX6_init 85 = .ok (.bipush 40, 2) := by decide +kernel
theorem dX6_init_87 : decode cX6_init 87 = .ok (.newarray .int, 2) := by decide +kernel
theorem dX6_init_89 : decode cX6_init 89 = .ok (.putfield 40, 3) := by decide +kernel
theorem dX6_init_92 : decode cX6_init 92 = .ok (.aload_n 0, 1) := by decide +kernel
theorem dX6_init_93 : decode cX6_init 93 = .ok (.bipush 120, 2) := by decide +kernel
theorem dX6_init_95 : decode cX6_init 95 = .ok (.newarray .int, 2) := by decide +kernel
theorem dX6_init_97 : decode cX6_init 97 = .ok (.putfield 43, 3) := by decide +kernel
theorem dX6_init_100 : decode cX6_init 100 = .ok (.aload_n 0, 1) := by decide +kernel
theorem dX6_init_101 : decode cX6_init 101 = .ok (.bipush 40, 2) := by decide +kernel
theorem dX6_init_103 : decode cX6_init 103 = .ok (.newarray .int, 2) := by decide +kernel
theorem dX6_init_105 : decode cX6_init 105 = .ok (.putfield 46, 3) := by decide +kernel
theorem dX6_init_108 : decode cX6_init 108 = .ok (.aload_n 0, 1) := by decide +kernel
theorem dX6_init_109 : decode cX6_init 109 = .ok (.iconst 4, 1) := by decide +kernel
theorem dX6_init_110 : decode cX6_init 110 = .ok (.newarray .int, 2) := by decide +kernel
theorem dX6_init_112 : decode cX6_init 112 = .ok (.putfield 49, 3) := by decide +kernel
theorem dX6_init_115 : decode cX6_init 115 = .ok (.aload_n 0, 1) := by decide +kernel
theorem dX6_init_116 : decode cX6_init 116 = .ok (.bipush 76, 2) := by decide +kernel
theorem dX6_init_118 : decode cX6_init 118 = .ok (.newarray .int, 2) := by decide +kernel
theorem dX6_init_120 : decode cX6_init 120 = .ok (.putfield 52, 3) := by decide +kernel
theorem dX6_init_123 : decode cX6_init 123 = .ok (.aload_n 0, 1) := by decide +kernel
theorem dX6_init_124 : decode cX6_init 124 = .ok (.iconst 5, 1) := by decide +kernel
theorem dX6_init_125 : decode cX6_init 125 = .ok (.newarray .int, 2) := by decide +kernel
theorem dX6_init_127 : decode cX6_init 127 = .ok (.putfield 55, 3) := by decide +kernel
theorem dX6_init_130 : decode cX6_init 130 = .ok (.aload_n 0, 1) := by decide +kernel
theorem dX6_init_131 : decode cX6_init 131 = .ok (.iconst 5, 1) := by decide +kernel
theorem dX6_init_132 : decode cX6_init 132 = .ok (.newarray .boolean, 2) := by decide +kernel
theorem dX6_init_134 : decode cX6_init 134 = .ok (.putfield 58, 3) := by decide +kernel
theorem dX6_init_137 : decode cX6_init 137 = .ok (.aload_n 0, 1) := by decide +kernel
theorem dX6_init_138 : decode cX6_init 138 = .ok (.iconst 5, 1) := by decide +kernel
theorem dX6_init_139 : decode cX6_init 139 = .ok (.newarray .int, 2) := by decide +kernel
theorem dX6_init_141 : decode cX6_init 141 = .ok (.putfield 62, 3) := by decide +kernel
theorem dX6_init_144 : decode cX6_init 144 = .ok (.aload_n 0, 1) := by decide +kernel
theorem dX6_init_145 : decode cX6_init 145 = .ok (.iconst 5, 1) := by decide +kernel
theorem dX6_init_146 : decode cX6_init 146 = .ok (.newarray .int, 2) := by decide +kernel
theorem dX6_init_148 : decode cX6_init 148 = .ok (.putfield 65, 3) := by decide +kernel
theorem dX6_init_151 : decode cX6_init 151 = .ok (.aload_n 0, 1) := by decide +kernel
theorem dX6_init_152 : decode cX6_init 152 = .ok (.iconst (-1), 1) := by decide +kernel
theorem dX6_init_153 : decode cX6_init 153 = .ok (.putfield 68, 3) := by decide +kernel
theorem dX6_init_156 : decode cX6_init 156 = .ok (.aload_n 0, 1) := by decide +kernel
theorem dX6_init_157 : decode cX6_init 157 = .ok (.iconst 5, 1) := by decide +kernel
theorem dX6_init_158 : decode cX6_init 158 = .ok (.newarray .int, 2) := by decide +kernel
theorem dX6_init_160 : decode cX6_init 160 = .ok (.putfield 72, 3) := by decide +kernel
theorem dX6_init_163 : decode cX6_init 163 = .ok (.aload_n 0, 1) := by decide +kernel
theorem dX6_init_164 : decode cX6_init 164 = .ok (.bipush 80, 2) := by decide +kernel
theorem dX6_init_166 : decode cX6_init 166 = .ok (.newarray .int, 2) := by decide +kernel
theorem dX6_init_168 : decode cX6_init 168 = .ok (.putfield 75, 3) := by decide +kernel
theorem dX6_init_171 : decode cX6_init 171 = .ok (.aload_n 0, 1) := by decide +kernel
theorem dX6_init_172 : decode cX6_init 172 = .ok (.bipush 80, 2) := by decide +kernel
theorem dX6_init_174 : decode cX6_init 174 = .ok (.newarray .int, 2) := by decide +kernel
theorem dX6_init_176 : decode cX6_init 176 = .ok (.putfield 78, 3) := by decide +kernel
theorem dX6_init_179 : decode cX6_init 179 = .ok (.aload_n 0, 1) := by decide +kernel
theorem dX6_init_180 : decode cX6_init 180 = .ok (.bipush 80, 2) := by decide +kernel
theorem dX6_init_182 : decode cX6_init 182 = .ok (.newarray .int, 2) := by decide +kernel
theorem dX6_init_184 : decode cX6_init 184 = .ok (.putfield 81, 3) := by decide +kernel
theorem dX6_init_187 : decode cX6_init 187 = .ok (.aload_n 0, 1) := by decide +kernel
theorem dX6_init_188 : decode cX6_init 188 = .ok (.bipush 80, 2) := by decide +kernel
theorem dX6_init_190 : decode cX6_init 190 = .ok (.newarray .int, 2) := by decide +kernel
theorem dX6_init_192 : decode cX6_init 192 = .ok (.putfield 84, 3) := by decide +kernel
theorem dX6_init_195 : decode cX6_init 195 = .ok (.aload_n 0, 1) := by decide +kernel
theorem dX6_init_196 : decode cX6_init 196 = .ok (.bipush 80, 2) := by decide +kernel
theorem dX6_init_198 : decode cX6_init 198 = .ok (.newarray .int, 2) := by decide +kernel
theorem dX6_init_200 : decode cX6_init 200 = .ok (.putfield 87, 3) := by decide +kernel
theorem dX6_init_203 : decode cX6_init 203 = .ok (.aload_n 0, 1) := by decide +kernel
theorem dX6_init_204 : decode cX6_init 204 = .ok (.bipush 80, 2) := by decide +kernel
theorem dX6_init_206 : decode cX6_init 206 = .ok (.newarray .int, 2) := by decide +kernel
theorem dX6_init_208 : decode cX6_init 208 = .ok (.putfield 90, 3) := by decide +kernel
theorem dX6_init_211 : decode cX6_init 211 = .ok (.aload_n 0, 1) := by decide +kernel
theorem dX6_init_212 : decode cX6_init 212 = .ok (.bipush 80, 2) := by decide +kernel
theorem dX6_init_214 : decode cX6_init 214 = .ok (.newarray .int, 2) := by decide +kernel
theorem dX6_init_216 : decode cX6_init 216 = .ok (.putfield 93, 3) := by decide +kernel
theorem dX6_init_219 : decode cX6_init 219 = .ok (.aload_n 0, 1) := by decide +kernel
theorem dX6_init_220 : decode cX6_init 220 = .ok (.sipush 240, 3) := by decide +kernel
theorem dX6_init_223 : decode cX6_init 223 = .ok (.newarray .int, 2) := by decide +kernel
theorem dX6_init_225 : decode cX6_init 225 = .ok (.putfield 96, 3) := by decide +kernel
theorem dX6_init_228 : decode cX6_init 228 = .ok (.aload_n 0, 1) := by decide +kernel
theorem dX6_init_229 : decode cX6_init 229 = .ok (.bipush 80, 2) := by decide +kernel
theorem dX6_init_231 : decode cX6_init 231 = .ok (.newarray .int, 2) := by decide +kernel
theorem dX6_init_233 : decode cX6_init 233 = .ok (.putfield 99, 3) := by decide +kernel
theorem dX6_init_236 : decode cX6_init 236 = .ok (.aload_n 0, 1) := by decide +kernel
theorem dX6_init_237 : decode cX6_init 237 = .ok (.iconst 3, 1) := by decide +kernel
theorem dX6_init_238 : decode cX6_init 238 = .ok (.newarray .int, 2) := by decide +kernel
theorem dX6_init_240 : decode cX6_init 240 = .ok (.putfield 102, 3) := by decide +kernel
theorem dX6_init_243 : decode cX6_init 243 = .ok (.aload_n 0, 1) := by decide +kernel
theorem dX6_init_244 : decode cX6_init 244 = .ok (.iconst 4, 1) := by decide +kernel
theorem dX6_init_245 : decode cX6_init 245 = .ok (.newarray .int, 2) := by decide +kernel
theorem dX6_init_247 : decode cX6_init 247 = .ok (.putfield 105, 3) := by decide +kernel
theorem dX6_init_250 : decode cX6_init 250 = .ok (.iconst 0, 1) := by decide +kernel
theorem dX6_init_251 : decode cX6_init 251 = .ok (.istore_n 1, 1) := by decide +kernel
theorem dX6_init_252 : decode cX6_init 252 = .ok (.iload_n 1, 1) := by decide +kernel
theorem dX6_init_253 : decode cX6_init 253 = .ok (.bipush 76, 2) := by decide +kernel
theorem dX6_init_255 : decode cX6_init 255 = .ok (.if_icmp .ge 32, 3) := by decide +kernel
theorem dX6_init_258 : decode cX6_init 258 = .ok (.aload_n 0, 1) := by decide +kernel
theorem dX6_init_259 : decode cX6_init 259 = .ok (.getfield 52, 3) := by decide +kernel
theorem dX6_init_262 : decode cX6_init 262 = .ok (.iload_n 1, 1) := by decide +kernel
theorem dX6_init_263 : decode cX6_init 263 = .ok (.bipush 100, 2) := by decide +kernel
theorem dX6_init_265 : decode cX6_init 265 = .ok (.iload_n 1, 1) := by decide +kernel
theorem dX6_init_266 : decode cX6_init 266 = .ok (.bipush 19, 2) := by decide +kernel
theorem dX6_init_268 : decode cX6_init 268 = .ok (.idiv, 1) := by decide +kernel
theorem dX6_init_269 : decode cX6_init 269 = .ok (.iconst 1, 1) := by decide +kernel
theorem dX6_init_270 : decode cX6_init 270 = .ok (.iadd, 1) := by decide +kernel
theorem dX6_init_271 : decode cX6_init 271 = .ok (.imul, 1) := by decide +kernel
theorem dX6_init_272 : decode cX6_init 272 = .ok (.bipush 20, 2) := by decide +kernel
theorem dX6_init_274 : decode cX6_init 274 = .ok (.iload_n 1, 1) := by decide +kernel
theorem dX6_init_275 : decode cX6_init 275 = .ok (.bipush 19, 2) := by decide +kernel
theorem dX6_init_277 : decode cX6_init 277 = .ok (.irem, 1) := by decide +kernel
theorem dX6_init_278 : decode cX6_init 278 = .ok (.isub, 1) := by decide +kernel
theorem dX6_init_279 : decode cX6_init 279 = .ok (.imul, 1) := by decide +kernel
theorem dX6_init_280 : decode cX6_init 280 = .ok (.iastore, 1) := by decide +kernel
theorem dX6_init_281 : decode cX6_init 281 = .ok (.iinc 1 1, 3) := by decide +kernel
theorem dX6_init_284 : decode cX6_init 284 = .ok (.goto (-32), 3) := by decide +kernel
theorem dX6_init_287 : decode cX6_init 287 = .ok (.iconst 0, 1) := by decide +kernel
theorem dX6_init_288 : decode cX6_init 288 = .ok (.istore_n 1, 1) := by decide +kernel
theorem dX6_init_289 : decode cX6_init 289 = .ok (.iload_n 1, 1) := by decide +kernel
theorem dX6_init_290 : decode cX6_init 290 = .ok (.iconst 5, 1) := by decide +kernel
theorem dX6_init_291 : decode cX6_init 291 = .ok (.if_icmp .ge 24, 3) := by decide +kernel
theorem dX6_init_294 : decode cX6_init 294 = .ok (.aload_n 0, 1) := by decide +kernel
theorem dX6_init_295 : decode cX6_init 295 = .ok (.getfield 65, 3) := by decide +kernel
theorem dX6_init_298 : decode cX6_init 298 = .ok (.iload_n 1, 1) := by decide +kernel
theorem dX6_init_299 : decode cX6_init 299 = .ok (.bipush 50, 2) := by decide +kernel
theorem dX6_init_301 : decode cX6_init 301 = .ok (.iastore, 1) := by decide +kernel
theorem dX6_init_302 : decode cX6_init 302 = .ok (.aload_n 0, 1) := by decide +kernel
theorem dX6_init_303 : decode cX6_init 303 = .ok (.getfield 62, 3) := by decide +kernel
theorem dX6_init_306 : decode cX6_init 306 = .ok (.iload_n 1, 1) := by decide +kernel
theorem dX6_init_307 : decode cX6_init 307 = .ok (.iconst (-1), 1) := by decide +kernel
theorem dX6_init_308 : decode cX6_init 308 = .ok (.iastore, 1) := by decide +kernel
theorem dX6_init_309 : decode cX6_init 309 = .ok (.iinc 1 1, 3) := by decide +kernel
theorem dX6_init_312 : decode cX6_init 312 = .ok (.goto (-23), 3) := by decide +kernel
theorem dX6_init_315 : decode cX6_init 315 = .ok (.return_, 1) := by decide +kernel
theorem dX6_thrown_0 : decode cX6_thrown 0 = .ok (.aload_n 0, 1) := by decide +kernel
theorem dX6_thrown_1 : decode cX6_thrown 1 = .ok (.getfield 108, 3) := by decide +kernel
theorem dX6_thrown_4 : decode cX6_thrown 4 = .ok (.ireturn, 1) := by decide +kernel
theorem dX6_asked_0 : decode cX6_asked 0 = .ok (.aload_n 0, 1) := by decide +kernel
theorem dX6_asked_1 : decode cX6_asked 1 = .ok (.iload_n 1, 1) := by decide +kernel
theorem dX6_asked_2 : decode cX6_asked 2 = .ok (.ifCond .eq 7, 3) := by decide +kernel
theorem dX6_asked_5 : decode cX6_asked 5 = .ok (.iconst 0, 1) := by decide +kernel
theorem dX6_asked_6 : decode cX6_asked 6 = .ok (.goto 4, 3) := by decide +kernel
theorem dX6_asked_9 : decode cX6_asked 9 = .ok (.iconst 1, 1) := by decide +kernel
theorem dX6_asked_10 : decode cX6_asked 10 = .ok (.putfield 108, 3) := by decide +kernel
theorem dX6_asked_13 : decode cX6_asked 13 = .ok (.iload_n 1, 1) := by decide +kernel
theorem dX6_asked_14 : decode cX6_asked 14 = .ok (.ireturn, 1) := by decide +kernel
theorem dX6_asked__0 : decode cX6_asked_ 0 = .ok (.aload_n 0, 1) := by decide +kernel
theorem dX6_asked__1 : decode cX6_asked_ 1 = .ok (.iload_n 1, 1) := by decide +kernel
theorem dX6_asked__2 : decode cX6_asked_ 2 = .ok (.ifCond .ne 7, 3) := by decide +kernel
theorem dX6_asked__5 : decode cX6_asked_ 5 = .ok (.iconst 1, 1) := by decide +kernel
theorem dX6_asked__6 : decode cX6_asked_ 6 = .ok (.goto 12, 3) := by decide +kernel
theorem dX6_asked__9 : decode cX6_asked_ 9 = .ok (.iload_n 2, 1) := by decide +kernel
theorem dX6_asked__10 : decode cX6_asked_ 10 = .ok (.ifCond .eq 7, 3) := by decide +kernel
theorem dX6_asked__13 : decode cX6_asked_ 13 = .ok (.iconst 0, 1) := by decide +kernel
theorem dX6_asked__14 : decode cX6_asked_ 14 = .ok (.goto 4, 3) := by decide +kernel
theorem dX6_asked__17 : decode cX6_asked_ 17 = .ok (.iconst 2, 1) := by decide +kernel
theorem dX6_asked__18 : decode cX6_asked_ 18 = .ok (.putfield 108, 3) := by decide +kernel
theorem dX6_asked__21 : decode cX6_asked_ 21 = .ok (.aload_n 0, 1) := by decide +kernel
theorem dX6_asked__22 : decode cX6_asked_ 22 = .ok (.getfield 108, 3) := by decide +kernel
theorem dX6_asked__25 : decode cX6_asked_ 25 = .ok (.ifCond .ne 7, 3) := by decide +kernel
theorem dX6_asked__28 : decode cX6_asked_ 28 = .ok (.iconst 1, 1) := by decide +kernel
theorem dX6_asked__29 : decode cX6_asked_ 29 = .ok (.goto 4, 3) := by decide +kernel
theorem dX6_asked__32 : decode cX6_asked_ 32 = .ok (.iconst 0, 1) := by decide +kernel
theorem dX6_asked__33 : decode cX6_asked_ 33 = .ok (.ireturn, 1) := by decide +kernel
theorem dX6_asked___0 : decode cX6_asked__ 0 = .ok (.aload_n 0, 1) := by decide +kernel
theorem dX6_asked___1 : decode cX6_asked__ 1 = .ok (.iload_n 1, 1) := by decide +kernel
theorem dX6_asked___2 : decode cX6_asked__ 2 = .ok (.ifCond .ne 7, 3) := by decide +kernel
theorem dX6_asked___5 : decode cX6_asked__ 5 = .ok (.iconst 1, 1) := by decide +kernel
theorem dX6_asked___6 : decode cX6_asked__ 6 = .ok (.goto 20, 3) := by decide +kernel
theorem dX6_asked___9 : decode cX6_asked__ 9 = .ok (.iload_n 2, 1) := by decide +kernel
theorem dX6_asked___10 : decode cX6_asked__ 10 = .ok (.ifCond .ne 7, 3) := by decide +kernel
theorem dX6_asked___13 : decode cX6_asked__ 13 = .ok (.iconst 2, 1) := by decide +kernel
theorem dX6_asked___14 : decode cX6_asked__ 14 = .ok (.goto 12, 3) := by decide +kernel
theorem dX6_asked___17 : decode cX6_asked__ 17 = .ok (.iload_n 3, 1) := by decide +kernel
theorem dX6_asked___18 : decode cX6_asked__ 18 = .ok (.ifCond .eq 7, 3) := by decide +kernel
theorem dX6_asked___21 : decode cX6_asked__ 21 = .ok (.iconst 0, 1) := by decide +kernel
theorem dX6_asked___22 : decode cX6_asked__ 22 = .ok (.goto 4, 3) := by decide +kernel
theorem dX6_asked___25 : decode cX6_asked__ 25 = .ok (.iconst 3, 1) := by decide +kernel
theorem dX6_asked___26 : decode cX6_asked__ 26 = .ok (.putfield 108, 3) := by decide +kernel
theorem dX6_asked___29 : decode cX6_asked__ 29 = .ok (.aload_n 0, 1) := by decide +kernel
theorem dX6_asked___30 : decode cX6_asked__ 30 = .ok (.getfield 108, 3) := by decide +kernel
theorem dX6_asked___33 : decode cX6_asked__ 33 = .ok (.ifCond .ne 7, 3) := by decide +kernel
theorem dX6_asked___36 : decode cX6_asked__ 36 = .ok (.iconst 1, 1) := by decide +kernel
theorem dX6_asked___37 : decode cX6_asked__ 37 = .ok (.goto 4, 3) := by decide +kernel
theorem dX6_asked___40 : decode cX6_asked__ 40 = .ok (.iconst 0, 1) := by decide +kernel
theorem dX6_asked___41 : decode cX6_asked__ 41 = .ok (.ireturn, 1) := by decide +kernel
theorem dX6_in_0 : decode cX6_in 0 = .ok (.iload_n 0, 1) := by decide +kernel
theorem dX6_in_1 : decode cX6_in 1 = .ok (.iload_n 1, 1) := by decide +kernel
theorem dX6_in_2 : decode cX6_in 2 = .ok (.if_icmp .lt 12, 3) := by decide +kernel
theorem dX6_in_5 : decode cX6_in 5 = .ok (.iload_n 0, 1) := by decide +kernel
theorem dX6_in_6 : decode cX6_in 6 = .ok (.iload_n 2, 1) := by decide +kernel
theorem dX6_in_7 : decode cX6_in 7 = .ok (.if_icmp .gt 7, 3) := by decide +kernel
theorem dX6_in_10 : decode cX6_in 10 = .ok (.iconst 1, 1) := by decide +kernel
theorem dX6_in_11 : decode cX6_in 11 = .ok (.goto 4, 3) := by decide +kernel
theorem dX6_in_14 : decode cX6_in 14 = .ok (.iconst 0, 1) := by decide +kernel
theorem dX6_in_15 : decode cX6_in 15 = .ok (.ireturn, 1) := by decide +kernel
theorem dX6_isStone_0 : decode cX6_isStone 0 = .ok (.iload_n 1, 1) := by decide +kernel
theorem dX6_isStone_1 : decode cX6_isStone 1 = .ok (.iconst 0, 1) := by decide +kernel
theorem dX6_isStone_2 : decode cX6_isStone 2 = .ok (.aload_n 0, 1) := by decide +kernel
theorem dX6_isStone_3 : decode cX6_isStone 3 = .ok (.getfield 111, 3) := by decide +kernel
theorem dX6_isStone_6 : decode cX6_isStone 6 = .ok (.iconst 1, 1) := by decide +kernel
theorem dX6_isStone_7 : decode cX6_isStone 7 = .ok (.isub, 1) := by decide +kernel
theorem dX6_isStone_8 : decode cX6_isStone 8 = .ok (.invokestatic 114, 3) := by decide +kernel
theorem dX6_isStone_11 : decode cX6_isStone 11 = .ok (.ireturn, 1) := by decide +kernel
theorem dX6_isPolished_0 : decode cX6_isPolished 0 = .ok (.iload_n 1, 1) := by decide +kernel
theorem dX6_isPolished_1 : decode cX6_isPolished 1 = .ok (.iconst 0, 1) := by decide +kernel
theorem dX6_isPolished_2 : decode cX6_isPolished 2 = .ok (.aload_n 0, 1) := by decide +kernel
theorem dX6_isPolished_3 : decode cX6_isPolished 3 = .ok (.getfield 118, 3) := by decide +kernel
theorem dX6_isPolished_6 : decode cX6_isPolished 6 = .ok (.iconst 1, 1) := by decide +kernel
theorem dX6_isPolished_7 : decode cX6_isPolished 7 = .ok (.isub, 1) := by decide +kernel
theorem dX6_isPolished_8 : decode cX6_isPolished 8 = .ok (.invokestatic 114, 3) := by decide +kernel
theorem dX6_isPolished_11 : decode cX6_isPolished 11 = .ok (.ireturn, 1) := by decide +kernel
theorem dX6_isBuyer_0 : decode cX6_isBuyer 0 = .ok (.iload_n 0, 1) := by decide +kernel
theorem dX6_isBuyer_1 : decode cX6_isBuyer 1 = .ok (.iconst 0, 1) := by decide +kernel
theorem dX6_isBuyer_2 : decode cX6_isBuyer 2 = .ok (.iconst 4, 1) := by decide +kernel
theorem dX6_isBuyer_3 : decode cX6_isBuyer 3 = .ok (.invokestatic 114, 3) := by decide +kernel
theorem dX6_isBuyer_6 : decode cX6_isBuyer 6 = .ok (.ireturn, 1) := by decide +kernel
theorem dX6_within_0 : decode cX6_within 0 = .ok (.iload_n 0, 1) := by decide +kernel
theorem dX6_within_1 : decode cX6_within 1 = .ok (.ifCond .ge 7, 3) := by decide +kernel
theorem dX6_within_4 : decode cX6_within 4 = .ok (.iconst 0, 1) := by decide +kernel
theorem dX6_within_5 : decode cX6_within 5 = .ok (.goto 13, 3) := by decide +kernel
theorem dX6_within_8 : decode cX6_within 8 = .ok (.iload_n 0, 1) := by decide +kernel
theorem dX6_within_9 : decode cX6_within 9 = .ok (.iload_n 1, 1) := by decide +kernel
theorem dX6_within_10 : decode cX6_within 10 = .ok (.if_icmp .le 7, 3) := by decide +kernel
theorem dX6_within_13 : decode cX6_within 13 = .ok (.iload_n 1, 1) := by decide +kernel
theorem dX6_within_14 : decode cX6_within 14 = .ok (.goto 4, 3) := by decide +kernel
theorem dX6_within_17 : decode cX6_within 17 = .ok (.iload_n 0, 1) := by decide +kernel
theorem dX6_within_18 : decode cX6_within 18 = .ok (.ireturn, 1) := by decide +kernel
theorem dX6_middle_0 : decode cX6_middle 0 = .ok (.iload_n 0, 1) := by decide +kernel
theorem dX6_middle_1 : decode cX6_middle 1 = .ok (.iload_n 1, 1) := by decide +kernel
theorem dX6_middle_2 : decode cX6_middle 2 = .ok (.if_icmp .ge 7, 3) := by decide +kernel
theorem dX6_middle_5 : decode cX6_middle 5 = .ok (.iload_n 0, 1) := by decide +kernel
theorem dX6_middle_6 : decode cX6_middle 6 = .ok (.goto 4, 3) := by decide +kernel
theorem dX6_middle_9 : decode cX6_middle 9 = .ok (.iload_n 1, 1) := by decide +kernel
theorem dX6_middle_10 : decode cX6_middle 10 = .ok (.istore_n 3, 1) := by decide +kernel
theorem dX6_middle_11 : decode cX6_middle 11 = .ok (.iload_n 0, 1) := by decide +kernel
theorem dX6_middle_12 : decode cX6_middle 12 = .ok (.iload_n 1, 1) := by decide +kernel
theorem dX6_middle_13 : decode cX6_middle 13 = .ok (.if_icmp .ge 7, 3) := by decide +kernel
theorem dX6_middle_16 : decode cX6_middle 16 = .ok (.iload_n 1, 1) := by decide +kernel
theorem dX6_middle_17 : decode cX6_middle 17 = .ok (.goto 4, 3) := by decide +kernel
theorem dX6_middle_20 : decode cX6_middle 20 = .ok (.iload_n 0, 1) := by decide +kernel
theorem dX6_middle_21 : decode cX6_middle 21 = .ok (.istore 4, 2) := by decide +kernel
theorem dX6_middle_23 : decode cX6_middle 23 = .ok (.iload_n 2, 1) := by decide +kernel
theorem dX6_middle_24 : decode cX6_middle 24 = .ok (.iload_n 3, 1) := by decide +kernel
theorem dX6_middle_25 : decode cX6_middle 25 = .ok (.if_icmp .ge 7, 3) := by decide +kernel
theorem dX6_middle_28 : decode cX6_middle 28 = .ok (.iload_n 3, 1) := by decide +kernel
theorem dX6_middle_29 : decode cX6_middle 29 = .ok (.goto 15, 3) := by decide +kernel
theorem dX6_middle_32 : decode cX6_middle 32 = .ok (.iload_n 2, 1) := by decide +kernel
theorem dX6_middle_33 : decode cX6_middle 33 = .ok (.iload 4, 2) := by decide +kernel
theorem dX6_middle_35 : decode cX6_middle 35 = .ok (.if_icmp .le 8, 3) := by decide +kernel
theorem dX6_middle_38 : decode cX6_middle 38 = .ok (.iload 4, 2) := by decide +kernel
theorem dX6_middle_40 : decode cX6_middle 40 = .ok (.goto 4, 3) := by decide +kernel
theorem dX6_middle_43 : decode cX6_middle 43 = .ok (.iload_n 2, 1) := by decide +kernel
theorem dX6_middle_44 : decode cX6_middle 44 = .ok (.ireturn, 1) := by decide +kernel
theorem dX6_parcel_0 : decode cX6_parcel 0 = .ok (.aload_n 0, 1) := by decide +kernel
theorem dX6_parcel_1 : decode cX6_parcel 1 = .ok (.iload_n 1, 1) := by decide +kernel
theorem dX6_parcel_2 : decode cX6_parcel 2 = .ok (.iconst 0, 1) := by decide +kernel
theorem dX6_parcel_3 : decode cX6_parcel 3 = .ok (.iconst 3, 1) := by decide +kernel
theorem dX6_parcel_4 : decode cX6_parcel 4 = .ok (.invokestatic 114, 3) := by decide +kernel
theorem dX6_parcel_7 : decode cX6_parcel 7 = .ok (.aload_n 0, 1) := by decide +kernel
theorem dX6_parcel_8 : decode cX6_parcel 8 = .ok (.getfield 121, 3) := by decide +kernel
theorem dX6_parcel_11 : decode cX6_parcel 11 = .ok (.bipush 12, 2) := by decide +kernel
theorem dX6_parcel_13 : decode cX6_parcel 13 = .ok (.if_icmp .ge 7, 3) := by decide +kernel
theorem dX6_parcel_16 : decode cX6_parcel 16 = .ok (.iconst 1, 1) := by decide +kernel
theorem dX6_parcel_17 : decode cX6_parcel 17 = .ok (.goto 4, 3) := by decide +kernel
theorem dX6_parcel_20 : decode cX6_parcel 20 = .ok (.iconst 0, 1) := by decide +kernel
theorem dX6_parcel_21 : decode cX6_parcel 21 = .ok (.invokevirtual 124, 3) := by decide +kernel
theorem dX6_parcel_24 : decode cX6_parcel 24 = .ok (.ifCond .ne 5, 3) := by decide +kernel
theorem dX6_parcel_27 : decode cX6_parcel 27 = .ok (.iconst 0, 1) := by decide +kernel
theorem dX6_parcel_28 : decode cX6_parcel 28 = .ok (.ireturn, 1) := by decide +kernel
theorem dX6_parcel_29 : decode cX6_parcel 29 = .ok (.aload_n 0, 1) := by decide +kernel
theorem dX6_parcel_30 : decode cX6_parcel 30 = .ok (.getfield 7, 3) := by decide +kernel
theorem dX6_parcel_33 : decode cX6_parcel 33 = .ok (.aload_n 0, 1) := by decide +kernel
theorem dX6_parcel_34 : decode cX6_parcel 34 = .ok (.getfield 121, 3) := by decide +kernel
theorem dX6_parcel_37 : decode cX6_parcel 37 = .ok (.iload_n 1, 1) := by decide +kernel
theorem dX6_parcel_38 : decode cX6_parcel 38 = .ok (.iastore, 1) := by decide +kernel
theorem dX6_parcel_39 : decode cX6_parcel 39 = .ok (.aload_n 0, 1) := by decide +kernel
theorem dX6_parcel_40 : decode cX6_parcel 40 = .ok (.dup, 1) := by decide +kernel
theorem dX6_parcel_41 : decode cX6_parcel 41 = .ok (.getfield 121, 3) := by decide +kernel
theorem dX6_parcel_44 : decode cX6_parcel 44 = .ok (.iconst 1, 1) := by decide +kernel
theorem dX6_parcel_45 : decode cX6_parcel 45 = .ok (.iadd, 1) := by decide +kernel
theorem dX6_parcel_46 : decode cX6_parcel 46 = .ok (.putfield 121, 3) := by decide +kernel
theorem dX6_parcel_49 : decode cX6_parcel 49 = .ok (.aload_n 0, 1) := by decide +kernel
theorem dX6_parcel_50 : decode cX6_parcel 50 = .ok (.getfield 121, 3) := by decide +kernel
theorem dX6_parcel_53 : decode cX6_parcel 53 = .ok (.iconst 1, 1) := by decide +kernel
theorem dX6_parcel_54 : decode cX6_parcel 54 = .ok (.isub, 1) := by decide +kernel
theorem dX6_parcel_55 : decode cX6_parcel 55 = .ok (.ireturn, 1) := by decide +kernel
theorem dX6_stone_0 : decode cX6_stone 0 = .ok (.iload_n 2, 1) := by decide +kernel
theorem dX6_stone_1 : decode cX6_stone 1 = .ok (.bipush 12, 2) := by decide +kernel
theorem dX6_stone_3 : decode cX6_stone 3 = .ok (.sipush 9999, 3) := by decide +kernel
theorem dX6_stone_6 : decode cX6_stone 6 = .ok (.invokestatic 114, 3) := by decide +kernel
theorem dX6_stone_9 : decode cX6_stone 9 = .ok (.ifCond .eq 40, 3) := by decide +kernel
theorem dX6_stone_12 : decode cX6_stone 12 = .ok (.iload_n 3, 1) := by decide +kernel
theorem dX6_stone_13 : decode cX6_stone 13 = .ok (.iconst 0, 1) := by decide +kernel
theorem dX6_stone_14 : decode cX6_stone 14 = .ok (.bipush 9, 2) := by decide +kernel
theorem dX6_stone_16 : decode cX6_stone 16 = .ok (.invokestatic 114, 3) := by decide +kernel
theorem dX6_stone_19 : decode cX6_stone 19 = .ok (.ifCond .eq 30, 3) := by decide +kernel
theorem dX6_stone_22 : decode cX6_stone 22 = .ok (.iload 4, 2) := by decide +kernel
theorem dX6_stone_24 : decode cX6_stone 24 = .ok (.iconst 0, 1) := by decide +kernel
theorem dX6_stone_25 : decode cX6_stone 25 = .ok (.bipush 9, 2) := by decide +kernel
theorem dX6_stone_27 : decode cX6_stone 27 = .ok (.invokestatic 114, 3) := by decide +kernel
theorem dX6_stone_30 : decode cX6_stone 30 = .ok (.ifCond .eq 19, 3) := by decide +kernel
theorem dX6_stone_33 : decode cX6_stone 33 = .ok (.iload 5, 2) := by decide +kernel
theorem dX6_stone_35 : decode cX6_stone 35 = .ok (.iconst 0, 1) := by decide +kernel
theorem dX6_stone_36 : decode cX6_stone 36 = .ok (.sipush 4095, 3) := by decide +kernel
theorem dX6_stone_39 : decode cX6_stone 39 = .ok (.invokestatic 114, 3) := by decide +kernel
theorem dX6_stone_42 : decode cX6_stone 42 = .ok (.ifCond .eq 7, 3) := by decide +kernel
theorem dX6_stone_45 : decode cX6_stone 45 = .ok (.iconst 1, 1) := by decide +kernel
theorem dX6_stone_46 : decode cX6_stone 46 = .ok (.goto 4, 3) := by decide +kernel
theorem dX6_stone_49 : decode cX6_stone 49 = .ok (.iconst 0, 1) := by decide +kernel
theorem dX6_stone_50 : decode cX6_stone 50 = .ok (.istore 6, 2) := by decide +kernel
theorem dX6_stone_52 : decode cX6_stone 52 = .ok (.aload_n 0, 1) := by decide +kernel
theorem dX6_stone_53 : decode cX6_stone 53 = .ok (.iload_n 1, 1) := by decide +kernel
theorem dX6_stone_54 : decode cX6_stone 54 = .ok (.iconst 0, 1) := by decide +kernel
theorem dX6_stone_55 : decode cX6_stone 55 = .ok (.aload_n 0, 1) := by decide +kernel
theorem dX6_stone_56 : decode cX6_stone 56 = .ok (.getfield 121, 3) := by decide +kernel
theorem dX6_stone_59 : decode cX6_stone 59 = .ok (.iconst 1, 1) := by decide +kernel
theorem dX6_stone_60 : decode cX6_stone 60 = .ok (.isub, 1) := by decide +kernel
theorem dX6_stone_61 : decode cX6_stone 61 = .ok (.invokestatic 114, 3) := by decide +kernel
theorem dX6_stone_64 : decode cX6_stone 64 = .ok (.iload 6, 2) := by decide +kernel
theorem dX6_stone_66 : decode cX6_stone 66 = .ok (.aload_n 0, 1) := by decide +kernel
theorem dX6_stone_67 : decode cX6_stone 67 = .ok (.getfield 111, 3) := by decide +kernel
theorem dX6_stone_70 : decode cX6_stone 70 = .ok (.bipush 40, 2) := by decide +kernel
theorem dX6_stone_72 : decode cX6_stone 72 = .ok (.if_icmp .ge 7, 3) := by decide +kernel
theorem dX6_stone_75 : decode cX6_stone 75 = .ok (.iconst 1, 1) := by decide +kernel
theorem dX6_stone_76 : decode cX6_stone 76 = .ok (.goto 4, 3) := by decide +kernel
theorem dX6_stone_79 : decode cX6_stone 79 = .ok (.iconst 0, 1) := by decide +kernel
theorem dX6_stone_80 : decode cX6_stone 80 = .ok (.invokevirtual 128, 3) := by decide +kernel
theorem dX6_stone_83 : decode cX6_stone 83 = .ok (.ifCond .ne 5, 3) := by decide +kernel
theorem dX6_stone_86 : decode cX6_stone 86 = .ok (.iconst 0, 1) := by decide +kernel
theorem dX6_stone_87 : decode cX6_stone 87 = .ok (.ireturn, 1) := by decide +kernel
theorem dX6_stone_88 : decode cX6_stone 88 = .ok (.aload_n 0, 1) := by decide +kernel
theorem dX6_stone_89 : decode cX6_stone 89 = .ok (.getfield 13, 3) := by decide +kernel
theorem dX6_stone_92 : decode cX6_stone 92 = .ok (.aload_n 0, 1) := by decide +kernel
theorem dX6_stone_93 : decode cX6_stone 93 = .ok (.getfield 111, 3) := by decide +kernel
theorem dX6_stone_96 : decode cX6_stone 96 = .ok (.iload_n 1, 1) := by decide +kernel
theorem dX6_stone_97 : decode cX6_stone 97 = .ok (.iastore, 1) := by decide +kernel
theorem dX6_stone_98 : decode cX6_stone 98 = .ok (.aload_n 0, 1) := by decide +kernel
theorem dX6_stone_99 : decode cX6_stone 99 = .ok (.getfield 16, 3) := by decide +kernel
theorem dX6_stone_102 : decode cX6_stone 102 = .ok (.aload_n 0, 1) := by decide +kernel
theorem dX6_stone_103 : decode cX6_stone 103 = .ok (.getfield 111, 3) := by decide +kernel
theorem dX6_stone_106 : decode cX6_stone 106 = .ok (.iload_n 2, 1) := by decide +kernel
theorem dX6_stone_107 : decode cX6_stone 107 = .ok (.iastore, 1) := by decide +kernel
theorem dX6_stone_108 : decode cX6_stone 108 = .ok (.aload_n 0, 1) := by decide +kernel
theorem dX6_stone_109 : decode cX6_stone 109 = .ok (.getfield 19, 3) := by decide +kernel
theorem dX6_stone_112 : decode cX6_stone 112 = .ok (.aload_n 0, 1) := by decide +kernel
theorem dX6_stone_113 : decode cX6_stone 113 = .ok (.getfield 111, 3) := by decide +kernel
theorem dX6_stone_116 : decode cX6_stone 116 = .ok (.iload_n 3, 1) := by decide +kernel
theorem dX6_stone_117 : decode cX6_stone 117 = .ok (.iastore, 1) := by decide +kernel
theorem dX6_stone_118 : decode cX6_stone 118 = .ok (.aload_n 0, 1) := by decide +kernel
theorem dX6_stone_119 : decode cX6_stone 119 = .ok (.getfield 22, 3) := by decide +kernel
theorem dX6_stone_122 : decode cX6_stone 122 = .ok (.aload_n 0, 1) := by decide +kernel
theorem dX6_stone_123 : decode cX6_stone 123 = .ok (.getfield 111, 3) := by decide +kernel
theorem dX6_stone_126 : decode cX6_stone 126 = .ok (.iload 4, 2) := by decide +kernel
theorem dX6_stone_128 : decode cX6_stone 128 = .ok (.iastore, 1) := by decide +kernel
theorem dX6_stone_129 : decode cX6_stone 129 = .ok (.aload_n 0, 1) := by decide +kernel
theorem dX6_stone_130 : decode cX6_stone 130 = .ok (.getfield 25, 3) := by decide +kernel
theorem dX6_stone_133 : decode cX6_stone 133 = .ok (.aload_n 0, 1) := by decide +kernel
theorem dX6_stone_134 : decode cX6_stone 134 = .ok (.getfield 111, 3) := by decide +kernel
theorem dX6_stone_137 : decode cX6_stone 137 = .ok (.iload 5, 2) := by decide +kernel
theorem dX6_stone_139 : decode cX6_stone 139 = .ok (.iastore, 1) := by decide +kernel
theorem dX6_stone_140 : decode cX6_stone 140 = .ok (.aload_n 0, 1) := by decide +kernel
theorem dX6_stone_141 : decode cX6_stone 141 = .ok (.getfield 31, 3) := by decide +kernel
theorem dX6_stone_144 : decode cX6_stone 144 = .ok (.aload_n 0, 1) := by decide +kernel
theorem dX6_stone_145 : decode cX6_stone 145 = .ok (.getfield 111, 3) := by decide +kernel
theorem dX6_stone_148 : decode cX6_stone 148 = .ok (.iconst (-1), 1) := by decide +kernel
theorem dX6_stone_149 : decode cX6_stone 149 = .ok (.iastore, 1) := by decide +kernel
theorem dX6_stone_150 : decode cX6_stone 150 = .ok (.aload_n 0, 1) := by decide +kernel
theorem dX6_stone_151 : decode cX6_stone 151 = .ok (.getfield 34, 3) := by decide +kernel
theorem dX6_stone_154 : decode cX6_stone 154 = .ok (.aload_n 0, 1) := by decide +kernel
theorem dX6_stone_155 : decode cX6_stone 155 = .ok (.getfield 111, 3) := by decide +kernel
theorem dX6_stone_158 : decode cX6_stone 158 = .ok (.iconst (-1), 1) := by decide +kernel
theorem dX6_stone_159 : decode cX6_stone 159 = .ok (.iastore, 1) := by decide +kernel
theorem dX6_stone_160 : decode cX6_stone 160 = .ok (.aload_n 0, 1) := by decide +kernel
theorem dX6_stone_161 : decode cX6_stone 161 = .ok (.dup, 1) := by decide +kernel
theorem dX6_stone_162 : decode cX6_stone 162 = .ok (.getfield 111, 3) := by decide +kernel
theorem dX6_stone_165 : decode cX6_stone 165 = .ok (.iconst 1, 1) := by decide +kernel
theorem dX6_stone_166 : decode cX6_stone 166 = .ok (.iadd, 1) := by decide +kernel
theorem dX6_stone_167 : decode cX6_stone 167 = .ok (.putfield 111, 3) := by decide +kernel
theorem dX6_stone_170 : decode cX6_stone 170 = .ok (.aload_n 0, 1) := by decide +kernel
theorem dX6_stone_171 : decode cX6_stone 171 = .ok (.getfield 111, 3) := by decide +kernel
theorem dX6_stone_174 : decode cX6_stone 174 = .ok (.iconst 1, 1) := by decide +kernel
theorem dX6_stone_175 : decode cX6_stone 175 = .ok (.isub, 1) := by decide +kernel
theorem dX6_stone_176 : decode cX6_stone 176 = .ok (.ireturn, 1) := by decide +kernel
theorem dX6_drift_0 : decode cX6_drift 0 = .ok (.aload_n 0, 1) := by decide +kernel
theorem dX6_drift_1 : decode cX6_drift 1 = .ok (.iload_n 1, 1) := by decide +kernel
theorem dX6_drift_2 : decode cX6_drift 2 = .ok (.iconst 0, 1) := by decide +kernel
theorem dX6_drift_3 : decode cX6_drift 3 = .ok (.iconst 3, 1) := by decide +kernel
theorem dX6_drift_4 : decode cX6_drift 4 = .ok (.invokestatic 114, 3) := by decide +kernel
theorem dX6_drift_7 : decode cX6_drift 7 = .ok (.iload_n 2, 1) := by decide +kernel
theorem dX6_drift_8 : decode cX6_drift 8 = .ok (.bipush (-2), 2) := by decide +kernel
theorem dX6_drift_10 : decode cX6_drift 10 = .ok (.iconst 2, 1) := by decide +kernel
theorem dX6_drift_11 : decode cX6_drift 11 = .ok (.invokestatic 114, 3) := by decide +kernel
theorem dX6_drift_14 : decode cX6_drift 14 = .ok (.invokevirtual 124, 3) := by decide +kernel
theorem dX6_drift_17 : decode cX6_drift 17 = .ok (.ifCond .ne 5, 3) := by decide +kernel
theorem dX6_drift_20 : decode cX6_drift 20 = .ok (.iconst 0, 1) := by decide +kernel
theorem dX6_drift_21 : decode cX6_drift 21 = .ok (.ireturn, 1) := by decide +kernel
theorem dX6_drift_22 : decode cX6_drift 22 = .ok (.aload_n 0, 1) := by decide +kernel
theorem dX6_drift_23 : decode cX6_drift 23 = .ok (.getfield 49, 3) := by decide +kernel
theorem dX6_drift_26 : decode cX6_drift 26 = .ok (.iload_n 1, 1) := by decide +kernel
theorem dX6_drift_27 : decode cX6_drift 27 = .ok (.iaload, 1) := by decide +kernel
theorem dX6_drift_28 : decode cX6_drift 28 = .ok (.istore_n 3, 1) := by decide +kernel
theorem dX6_drift_29 : decode cX6_drift 29 = .ok (.aload_n 0, 1) := by decide +kernel
theorem dX6_drift_30 : decode cX6_drift 30 = .ok (.getfield 49, 3) := by decide +kernel
theorem dX6_drift_33 : decode cX6_drift 33 = .ok (.iload_n 1, 1) := by decide +kernel
theorem dX6_drift_34 : decode cX6_drift 34 = .ok (.iload_n 2, 1) := by decide +kernel
theorem dX6_drift_35 : decode cX6_drift 35 = .ok (.iastore, 1) := by decide +kernel
theorem dX6_drift_36 : decode cX6_drift 36 = .ok (.iload_n 3, 1) := by decide +kernel
theorem dX6_drift_37 : decode cX6_drift 37 = .ok (.ireturn, 1) := by decide +kernel
theorem dX6_sort_0 : decode cX6_sort 0 = .ok (.iload_n 1, 1) := by decide +kernel
theorem dX6_sort_1 : decode cX6_sort 1 = .ok (.iconst 0, 1) := by decide +kernel
theorem dX6_sort_2 : decode cX6_sort 2 = .ok (.iconst 3, 1) := by decide +kernel
theorem dX6_sort_3 : decode cX6_sort 3 = .ok (.invokestatic 114, 3) := by decide +kernel
theorem dX6_sort_6 : decode cX6_sort 6 = .ok (.ifCond .eq 15, 3) := by decide +kernel
theorem dX6_sort_9 : decode cX6_sort 9 = .ok (.aload_n 0, 1) := by decide +kernel
theorem dX6_sort_10 : decode cX6_sort 10 = .ok (.iload_n 2, 1) := by decide +kernel
theorem dX6_sort_11 : decode cX6_sort 11 = .ok (.invokevirtual 131, 3) := by decide +kernel
theorem dX6_sort_14 : decode cX6_sort 14 = .ok (.ifCond .eq 7, 3) := by decide +kernel
theorem dX6_sort_17 : decode cX6_sort 17 = .ok (.iconst 1, 1) := by decide +kernel
theorem dX6_sort_18 : decode cX6_sort 18 = .ok (.goto 4, 3) := by decide +kernel
theorem dX6_sort_21 : decode cX6_sort 21 = .ok (.iconst 0, 1) := by decide +kernel
theorem dX6_sort_22 : decode cX6_sort 22 = .ok (.istore_n 3, 1) := by decide +kernel
theorem dX6_sort_23 : decode cX6_sort 23 = .ok (.aload_n 0, 1) := by decide +kernel
theorem dX6_sort_24 : decode cX6_sort 24 = .ok (.iload_n 3, 1) := by decide +kernel
theorem dX6_sort_25 : decode cX6_sort 25 = .ok (.iload_n 3, 1) := by decide +kernel
theorem dX6_sort_26 : decode cX6_sort 26 = .ok (.ifCond .eq 39, 3) := by decide +kernel
theorem dX6_sort_29 : decode cX6_sort 29 = .ok (.aload_n 0, 1) := by decide +kernel
theorem dX6_sort_30 : decode cX6_sort 30 = .ok (.getfield 28, 3) := by decide +kernel
theorem dX6_sort_33 : decode cX6_sort 33 = .ok (.iload_n 2, 1) := by decide +kernel
theorem dX6_sort_34 : decode cX6_sort 34 = .ok (.iaload, 1) := by decide +kernel
theorem dX6_sort_35 : decode cX6_sort 35 = .ok (.ifCond .ne 30, 3) := by decide +kernel
theorem dX6_sort_38 : decode cX6_sort 38 = .ok (.aload_n 0, 1) := by decide +kernel
theorem dX6_sort_39 : decode cX6_sort 39 = .ok (.getfield 46, 3) := by decide +kernel
theorem dX6_sort_42 : decode cX6_sort 42 = .ok (.iload_n 2, 1) := by decide +kernel
theorem dX6_sort_43 : decode cX6_sort 43 = .ok (.iaload, 1) := by decide +kernel
theorem dX6_sort_44 : decode cX6_sort 44 = .ok (.iload_n 1, 1) := by decide +kernel
theorem dX6_sort_45 : decode cX6_sort 45 = .ok (.ishr, 1) := by decide +kernel
theorem dX6_sort_46 : decode cX6_sort 46 = .ok (.iconst 1, 1) := by decide +kernel
theorem dX6_sort_47 : decode cX6_sort 47 = .ok (.iand, 1) := by decide +kernel
theorem dX6_sort_48 : decode cX6_sort 48 = .ok (.ifCond .ne 17, 3) := by decide +kernel
theorem dX6_sort_51 : decode cX6_sort 51 = .ok (.aload_n 0, 1) := by decide +kernel
theorem dX6_sort_52 : decode cX6_sort 52 = .ok (.getfield 40, 3) := by decide +kernel
theorem dX6_sort_55 : decode cX6_sort 55 = .ok (.iload_n 2, 1) := by decide +kernel
theorem dX6_sort_56 : decode cX6_sort 56 = .ok (.iaload, 1) := by decide +kernel
theorem dX6_sort_57 : decode cX6_sort 57 = .ok (.iconst 3, 1) := by decide +kernel
theorem dX6_sort_58 : decode cX6_sort 58 = .ok (.if_icmp .ge 7, 3) := by decide +kernel
theorem dX6_sort_61 : decode cX6_sort 61 = .ok (.iconst 1, 1) := by decide +kernel
theorem dX6_sort_62 : decode cX6_sort 62 = .ok (.goto 4, 3) := by decide +kernel
theorem dX6_sort_65 : decode cX6_sort 65 = .ok (.iconst 0, 1) := by decide +kernel
theorem dX6_sort_66 : decode cX6_sort 66 = .ok (.invokevirtual 124, 3) := by decide +kernel
theorem dX6_sort_69 : decode cX6_sort 69 = .ok (.ifCond .ne 5, 3) := by decide +kernel
theorem dX6_sort_72 : decode cX6_sort 72 = .ok (.iconst 0, 1) := by decide +kernel
theorem dX6_sort_73 : decode cX6_sort 73 = .ok (.ireturn, 1) := by decide +kernel
theorem dX6_sort_74 : decode cX6_sort 74 = .ok (.aload_n 0, 1) := by decide +kernel
theorem dX6_sort_75 : decode cX6_sort 75 = .ok (.getfield 19, 3) := by decide +kernel
theorem dX6_sort_78 : decode cX6_sort 78 = .ok (.iload_n 2, 1) := by decide +kernel
theorem dX6_sort_79 : decode cX6_sort 79 = .ok (.iaload, 1) := by decide +kernel
theorem dX6_sort_80 : decode cX6_sort 80 = .ok (.aload_n 0, 1) := by decide +kernel
theorem dX6_sort_81 : decode cX6_sort 81 = .ok (.getfield 22, 3) := by decide +kernel
theorem dX6_sort_84 : decode cX6_sort 84 = .ok (.iload_n 2, 1) := by decide +kernel
theorem dX6_sort_85 : decode cX6_sort 85 = .ok (.iaload, 1) := by decide +kernel
theorem dX6_sort_86 : decode cX6_sort 86 = .ok (.iadd, 1) := by decide +kernel
theorem dX6_sort_87 : decode cX6_sort 87 = .ok (.aload_n 0, 1) := by decide +kernel
theorem dX6_sort_88 : decode cX6_sort 88 = .ok (.getfield 49, 3) := by decide +kernel
theorem dX6_sort_91 : decode cX6_sort 91 = .ok (.iload_n 1, 1) := by decide +kernel
theorem dX6_sort_92 : decode cX6_sort 92 = .ok (.iaload, 1) := by decide +kernel
theorem dX6_sort_93 : decode cX6_sort 93 = .ok (.iadd, 1) := by decide +kernel
theorem dX6_sort_94 : decode cX6_sort 94 = .ok (.bipush 18, 2) := by decide +kernel
theorem dX6_sort_96 : decode cX6_sort 96 = .ok (.invokestatic 135, 3) := by decide +kernel
theorem dX6_sort_99 : decode cX6_sort 99 = .ok (.istore 4, 2) := by decide +kernel
theorem dX6_sort_101 : decode cX6_sort 101 = .ok (.aload_n 0, 1) := by decide +kernel
theorem dX6_sort_102 : decode cX6_sort 102 = .ok (.getfield 43, 3) := by decide +kernel
theorem dX6_sort_105 : decode cX6_sort 105 = .ok (.iconst 3, 1) := by decide +kernel
theorem dX6_sort_106 : decode cX6_sort 106 = .ok (.iload_n 2, 1) := by decide +kernel
theorem dX6_sort_107 : decode cX6_sort 107 = .ok (.imul, 1) := by decide +kernel
theorem dX6_sort_108 : decode cX6_sort 108 = .ok (.aload_n 0, 1) := by decide +kernel
theorem dX6_sort_109 : decode cX6_sort 109 = .ok (.getfield 40, 3) := by decide +kernel
theorem dX6_sort_112 : decode cX6_sort 112 = .ok (.iload_n 2, 1) := by decide +kernel
theorem dX6_sort_113 : decode cX6_sort 113 = .ok (.iaload, 1) := by decide +kernel
theorem dX6_sort_114 : decode cX6_sort 114 = .ok (.iadd, 1) := by decide +kernel
theorem dX6_sort_115 : decode cX6_sort 115 = .ok (.iload 4, 2) := by decide +kernel
theorem dX6_sort_117 : decode cX6_sort 117 = .ok (.iastore, 1) := by decide +kernel
theorem dX6_sort_118 : decode cX6_sort 118 = .ok (.aload_n 0, 1) := by decide +kernel
theorem dX6_sort_119 : decode cX6_sort 119 = .ok (.getfield 40, 3) := by decide +kernel
theorem dX6_sort_122 : decode cX6_sort 122 = .ok (.iload_n 2, 1) := by decide +kernel
theorem dX6_sort_123 : decode cX6_sort 123 = .ok (.dup2, 1) := by decide +kernel
theorem dX6_sort_124 : decode cX6_sort 124 = .ok (.iaload, 1) := by decide +kernel
theorem dX6_sort_125 : decode cX6_sort 125 = .ok (.iconst 1, 1) := by decide +kernel
theorem dX6_sort_126 : decode cX6_sort 126 = .ok (.iadd, 1) := by decide +kernel
theorem dX6_sort_127 : decode cX6_sort 127 = .ok (.iastore, 1) := by decide +kernel
theorem dX6_sort_128 : decode cX6_sort 128 = .ok (.aload_n 0, 1) := by decide +kernel
theorem dX6_sort_129 : decode cX6_sort 129 = .ok (.getfield 46, 3) := by decide +kernel
theorem dX6_sort_132 : decode cX6_sort 132 = .ok (.iload_n 2, 1) := by decide +kernel
theorem dX6_sort_133 : decode cX6_sort 133 = .ok (.dup2, 1) := by decide +kernel
theorem dX6_sort_134 : decode cX6_sort 134 = .ok (.iaload, 1) := by decide +kernel
theorem dX6_sort_135 : decode cX6_sort 135 = .ok (.iconst 1, 1) := by decide +kernel
theorem dX6_sort_136 : decode cX6_sort 136 = .ok (.iload_n 1, 1) := by decide +kernel
theorem dX6_sort_137 : decode cX6_sort 137 = .ok (.ishl, 1) := by decide +kernel
theorem dX6_sort_138 : decode cX6_sort 138 = .ok (.ior, 1) := by decide +kernel
theorem dX6_sort_139 : decode cX6_sort 139 = .ok (.iastore, 1) := by decide +kernel
theorem dX6_sort_140 : decode cX6_sort 140 = .ok (.iload 4, 2) := by decide +kernel
theorem dX6_sort_142 : decode cX6_sort 142 = .ok (.ireturn, 1) := by decide +kernel
theorem dX6_qualityOf_0 : decode cX6_qualityOf 0 = .ok (.aload_n 0, 1) := by decide +kernel
theorem dX6_qualityOf_1 : decode cX6_qualityOf 1 = .ok (.getfield 43, 3) := by decide +kernel
theorem dX6_qualityOf_4 : decode cX6_qualityOf 4 = .ok (.iconst 3, 1) := by decide +kernel
theorem dX6_qualityOf_5 : decode cX6_qualityOf 5 = .ok (.iload_n 1, 1) := by decide +kernel
theorem dX6_qualityOf_6 : decode cX6_qualityOf 6 = .ok (.imul, 1) := by decide +kernel
theorem dX6_qualityOf_7 : decode cX6_qualityOf 7 = .ok (.iaload, 1) := by decide +kernel
theorem dX6_qualityOf_8 : decode cX6_qualityOf 8 = .ok (.istore_n 2, 1) := by decide +kernel
theorem dX6_qualityOf_9 : decode cX6_qualityOf 9 = .ok (.aload_n 0, 1) := by decide +kernel
theorem dX6_qualityOf_10 : decode cX6_qualityOf 10 = .ok (.getfield 43, 3) := by decide +kernel
theorem dX6_qualityOf_13 : decode cX6_qualityOf 13 = .ok (.iconst 3, 1) := by decide +kernel
theorem dX6_qualityOf_14 : decode cX6_qualityOf 14 = .ok (.iload_n 1, 1) := by decide +kernel
theorem dX6_qualityOf_15 : decode cX6_qualityOf 15 = .ok (.imul, 1) := by decide +kernel
theorem dX6_qualityOf_16 : decode cX6_qualityOf 16 = .ok (.iconst 1, 1) := by decide +kernel
theorem dX6_qualityOf_17 : decode cX6_qualityOf 17 = .ok (.iadd, 1) := by decide +kernel
theorem dX6_qualityOf_18 : decode cX6_qualityOf 18 = .ok (.iaload, 1) := by decide +kernel
theorem dX6_qualityOf_19 : decode cX6_qualityOf 19 = .ok (.istore_n 3, 1) := by decide +kernel
theorem dX6_qualityOf_20 : decode cX6_qualityOf 20 = .ok (.aload_n 0, 1) := by decide +kernel
theorem dX6_qualityOf_21 : decode cX6_qualityOf 21 = .ok (.getfield 40, 3) := by decide +kernel
theorem dX6_qualityOf_24 : decode cX6_qualityOf 24 = .ok (.iload_n 1, 1) := by decide +kernel
theorem dX6_qualityOf_25 : decode cX6_qualityOf 25 = .ok (.iaload, 1) := by decide +kernel
theorem dX6_qualityOf_26 : decode cX6_qualityOf 26 = .ok (.ifCond .ne 7, 3) := by decide +kernel
theorem dX6_qualityOf_29 : decode cX6_qualityOf 29 = .ok (.iconst (-1), 1) := by decide +kernel
theorem dX6_qualityOf_30 : decode cX6_qualityOf 30 = .ok (.goto 55, 3) := by decide +kernel
theorem dX6_qualityOf_33 : decode cX6_qualityOf 33 = .ok (.aload_n 0, 1) := by decide +kernel
theorem dX6_qualityOf_34 : decode cX6_qualityOf 34 = .ok (.getfield 40, 3) := by decide +kernel
theorem dX6_qualityOf_37 : decode cX6_qualityOf 37 = .ok (.iload_n 1, 1) := by decide +kernel
theorem dX6_qualityOf_38 : decode cX6_qualityOf 38 = .ok (.iaload, 1) := by decide +kernel
theorem dX6_qualityOf_39 : decode cX6_qualityOf 39 = .ok (.iconst 1, 1) := by decide +kernel
theorem dX6_qualityOf_40 : decode cX6_qualityOf 40 = .ok (.if_icmp .ne 7, 3) := by decide +kernel
theorem dX6_qualityOf_43 : decode cX6_qualityOf 43 = .ok (.iload_n 2, 1) := by decide +kernel
theorem dX6_qualityOf_44 : decode cX6_qualityOf 44 = .ok (.goto 41, 3) := by decide +kernel
theorem dX6_qualityOf_47 : decode cX6_qualityOf 47 = .ok (.aload_n 0, 1) := by decide +kernel
theorem dX6_qualityOf_48 : decode cX6_qualityOf 48 = .ok (.getfield 40, 3) := by decide +kernel
theorem dX6_qualityOf_51 : decode cX6_qualityOf 51 = .ok (.iload_n 1, 1) := by decide +kernel
theorem dX6_qualityOf_52 : decode cX6_qualityOf 52 = .ok (.iaload, 1) := by decide +kernel
theorem dX6_qualityOf_53 : decode cX6_qualityOf 53 = .ok (.iconst 2, 1) := by decide +kernel
theorem dX6_qualityOf_54 : decode cX6_qualityOf 54 = .ok (.if_icmp .ne 16, 3) := by decide +kernel
theorem dX6_qualityOf_57 : decode cX6_qualityOf 57 = .ok (.iload_n 2, 1) := by decide +kernel
theorem dX6_qualityOf_58 : decode cX6_qualityOf 58 = .ok (.iload_n 3, 1) := by decide +kernel
theorem dX6_qualityOf_59 : decode cX6_qualityOf 59 = .ok (.if_icmp .le 7, 3) := by decide +kernel
theorem dX6_qualityOf_62 : decode cX6_qualityOf 62 = .ok (.iload_n 2, 1) := by decide +kernel
theorem dX6_qualityOf_63 : decode cX6_qualityOf 63 = .ok (.goto 22, 3) := by decide +kernel
theorem dX6_qualityOf_66 : decode cX6_qualityOf 66 = .ok (.iload_n 3, 1) := by decide +kernel
theorem dX6_qualityOf_67 : decode cX6_qualityOf 67 = .ok (.goto 18, 3) := by decide +kernel
theorem dX6_qualityOf_70 : decode cX6_qualityOf 70 = .ok (.iload_n 2, 1) := by decide +kernel
theorem dX6_qualityOf_71 : decode cX6_qualityOf 71 = .ok (.iload_n 3, 1) := by decide +kernel
theorem dX6_qualityOf_72 : decode cX6_qualityOf 72 = .ok (.aload_n 0, 1) := by decide +kernel
theorem dX6_qualityOf_73 : decode cX6_qualityOf 73 = .ok (.getfield 43, 3) := by decide +kernel
theorem dX6_qualityOf_76 : decode cX6_qualityOf 76 = .ok (.iconst 3, 1) := by decide +kernel
theorem dX6_qualityOf_77 : decode cX6_qualityOf 77 = .ok (.iload_n 1, 1) := by decide +kernel
theorem dX6_qualityOf_78 : decode cX6_qualityOf 78 = .ok (.imul, 1) := by decide +kernel
theorem dX6_qualityOf_79 : decode cX6_qualityOf 79 = .ok (.iconst 2, 1) := by decide +kernel
theorem dX6_qualityOf_80 : decode cX6_qualityOf 80 = .ok (.iadd, 1) := by decide +kernel
theorem dX6_qualityOf_81 : decode cX6_qualityOf 81 = .ok (.iaload, 1) := by decide +kernel
theorem dX6_qualityOf_82 : decode cX6_qualityOf 82 = .ok (.invokestatic 139, 3) := by decide +kernel
theorem dX6_qualityOf_85 : decode cX6_qualityOf 85 = .ok (.ireturn, 1) := by decide +kernel
theorem dX6_isDoubtful_0 : decode cX6_isDoubtful 0 = .ok (.aload_n 0, 1) := by decide +kernel
theorem dX6_isDoubtful_1 : decode cX6_isDoubtful 1 = .ok (.getfield 43, 3) := by decide +kernel
theorem dX6_isDoubtful_4 : decode cX6_isDoubtful 4 = .ok (.iconst 3, 1) := by decide +kernel
theorem dX6_isDoubtful_5 : decode cX6_isDoubtful 5 = .ok (.iload_n 1, 1) := by decide +kernel
theorem dX6_isDoubtful_6 : decode cX6_isDoubtful 6 = .ok (.imul, 1) := by decide +kernel
theorem dX6_isDoubtful_7 : decode cX6_isDoubtful 7 = .ok (.iaload, 1) := by decide +kernel
theorem dX6_isDoubtful_8 : decode cX6_isDoubtful 8 = .ok (.aload_n 0, 1) := by decide +kernel
theorem dX6_isDoubtful_9 : decode cX6_isDoubtful 9 = .ok (.getfield 43, 3) := by decide +kernel
theorem dX6_isDoubtful_12 : decode cX6_isDoubtful 12 = .ok (.iconst 3, 1) := by decide +kernel
theorem dX6_isDoubtful_13 : decode cX6_isDoubtful 13 = .ok (.iload_n 1, 1) := by decide +kernel
theorem dX6_isDoubtful_14 : decode cX6_isDoubtful 14 = .ok (.imul, 1) := by decide +kernel
theorem dX6_isDoubtful_15 : decode cX6_isDoubtful 15 = .ok (.iconst 1, 1) := by decide +kernel
theorem dX6_isDoubtful_16 : decode cX6_isDoubtful 16 = .ok (.iadd, 1) := by decide +kernel
theorem dX6_isDoubtful_17 : decode cX6_isDoubtful 17 = .ok (.iaload, 1) := by decide +kernel
theorem dX6_isDoubtful_18 : decode cX6_isDoubtful 18 = .ok (.isub, 1) := by decide +kernel
theorem dX6_isDoubtful_19 : decode cX6_isDoubtful 19 = .ok (.istore_n 2, 1) := by decide +kernel
theorem dX6_isDoubtful_20 : decode cX6_isDoubtful 20 = .ok (.aload_n 0, 1) := by decide +kernel
theorem dX6_isDoubtful_21 : decode cX6_isDoubtful 21 = .ok (.getfield 40, 3) := by decide +kernel
theorem dX6_isDoubtful_24 : decode cX6_isDoubtful 24 = .ok (.iload_n 1, 1) := by decide +kernel
theorem dX6_isDoubtful_25 : decode cX6_isDoubtful 25 = .ok (.iaload, 1) := by decide +kernel
theorem dX6_isDoubtful_26 : decode cX6_isDoubtful 26 = .ok (.iconst 2, 1) := by decide +kernel
theorem dX6_isDoubtful_27 : decode cX6_isDoubtful 27 = .ok (.if_icmp .ne 18, 3) := by decide +kernel
theorem dX6_isDoubtful_30 : decode cX6_isDoubtful 30 = .ok (.iload_n 2, 1) := by decide +kernel
theorem dX6_isDoubtful_31 : decode cX6_isDoubtful 31 = .ok (.iconst 2, 1) := by decide +kernel
theorem dX6_isDoubtful_32 : decode cX6_isDoubtful 32 = .ok (.if_icmp .ge 9, 3) := by decide +kernel
theorem dX6_isDoubtful_35 : decode cX6_isDoubtful 35 = .ok (.iload_n 2, 1) := by decide +kernel
theorem dX6_isDoubtful_36 : decode cX6_isDoubtful 36 = .ok (.bipush (-2), 2) := by decide +kernel
theorem dX6_isDoubtful_38 : decode cX6_isDoubtful 38 = .ok (.if_icmp .gt 7, 3) := by decide +kernel
theorem dX6_isDoubtful_41 : decode cX6_isDoubtful 41 = .ok (.iconst 1, 1) := by decide +kernel
theorem dX6_isDoubtful_42 : decode cX6_isDoubtful 42 = .ok (.goto 4, 3) := by decide +kernel
theorem dX6_isDoubtful_45 : decode cX6_isDoubtful 45 = .ok (.iconst 0, 1) := by decide +kernel
theorem dX6_isDoubtful_46 : decode cX6_isDoubtful 46 = .ok (.ireturn, 1) := by decide +kernel
theorem dX6_price_0 : decode cX6_price 0 = .ok (.aload_n 0, 1) := by decide +kernel
theorem dX6_price_1 : decode cX6_price 1 = .ok (.iload_n 1, 1) := by decide +kernel
theorem dX6_price_2 : decode cX6_price 2 = .ok (.iconst 0, 1) := by decide +kernel
theorem dX6_price_3 : decode cX6_price 3 = .ok (.iconst 3, 1) := by decide +kernel
theorem dX6_price_4 : decode cX6_price 4 = .ok (.invokestatic 114, 3) := by decide +kernel
theorem dX6_price_7 : decode cX6_price 7 = .ok (.ifCond .eq 17, 3) := by decide +kernel
theorem dX6_price_10 : decode cX6_price 10 = .ok (.iload_n 2, 1) := by decide +kernel
theorem dX6_price_11 : decode cX6_price 11 = .ok (.iconst 0, 1) := by decide +kernel
theorem dX6_price_12 : decode cX6_price 12 = .ok (.bipush 18, 2) := by decide +kernel
theorem dX6_price_14 : decode cX6_price 14 = .ok (.invokestatic 114, 3) := by decide +kernel
theorem dX6_price_17 : decode cX6_price 17 = .ok (.ifCond .eq 7, 3) := by decide +kernel
theorem dX6_price_20 : decode cX6_price 20 = .ok (.iconst 1, 1) := by decide +kernel
theorem dX6_price_21 : decode cX6_price 21 = .ok (.goto 4, 3) := by decide +kernel
theorem dX6_price_24 : decode cX6_price 24 = .ok (.iconst 0, 1) := by decide +kernel
theorem dX6_price_25 : decode cX6_price 25 = .ok (.iload_n 3, 1) := by decide +kernel
theorem dX6_price_26 : decode cX6_price 26 = .ok (.iconst 1, 1) := by decide +kernel
theorem dX6_price_27 : decode cX6_price 27 = .ok (.ldc 143, 2) := by decide +kernel
theorem dX6_price_29 : decode cX6_price 29 = .ok (.invokestatic 114, 3) := by decide +kernel
theorem dX6_price_32 : decode cX6_price 32 = .ok (.invokevirtual 124, 3) := by decide +kernel
theorem dX6_price_35 : decode cX6_price 35 = .ok (.ifCond .ne 5, 3) := by decide +kernel
theorem dX6_price_38 : decode cX6_price 38 = .ok (.iconst 0, 1) := by decide +kernel
theorem dX6_price_39 : decode cX6_price 39 = .ok (.ireturn, 1) := by decide +kernel
theorem dX6_price_40 : decode cX6_price 40 = .ok (.aload_n 0, 1) := by decide +kernel
theorem dX6_price_41 : decode cX6_price 41 = .ok (.getfield 52, 3) := by decide +kernel
theorem dX6_price_44 : decode cX6_price 44 = .ok (.bipush 19, 2) := by decide +kernel
theorem dX6_price_46 : decode cX6_price 46 = .ok (.iload_n 1, 1) := by decide +kernel
theorem dX6_price_47 : decode cX6_price 47 = .ok (.imul, 1) := by decide +kernel
theorem dX6_price_48 : decode cX6_price 48 = .ok (.iload_n 2, 1) := by decide +kernel
theorem dX6_price_49 : decode cX6_price 49 = .ok (.iadd, 1) := by decide +kernel
theorem dX6_price_50 : decode cX6_price 50 = .ok (.iaload, 1) := by decide +kernel
theorem dX6_price_51 : decode cX6_price 51 = .ok (.istore 4, 2) := by decide +kernel
theorem dX6_price_53 : decode cX6_price 53 = .ok (.aload_n 0, 1) := by decide +kernel
theorem dX6_price_54 : decode cX6_price 54 = .ok (.getfield 52, 3) := by decide +kernel
theorem dX6_price_57 : decode cX6_price 57 = .ok (.bipush 19, 2) := by decide +kernel
theorem dX6_price_59 : decode cX6_price 59 = .ok (.iload_n 1, 1) := by decide +kernel
theorem dX6_price_60 : decode cX6_price 60 = .ok (.imul, 1) := by decide +kernel
theorem dX6_price_61 : decode cX6_price 61 = .ok (.iload_n 2, 1) := by decide +kernel
theorem dX6_price_62 : decode cX6_price 62 = .ok (.iadd, 1) := by decide +kernel
theorem dX6_price_63 : decode cX6_price 63 = .ok (.iload_n 3, 1) := by decide +kernel
theorem dX6_price_64 : decode cX6_price 64 = .ok (.iastore, 1) := by decide +kernel
theorem dX6_price_65 : decode cX6_price 65 = .ok (.iload 4, 2) := by decide +kernel
theorem dX6_price_67 : decode cX6_price 67 = .ok (.ireturn, 1) := by decide +kernel
theorem dX6_valueOf_0 : decode cX6_valueOf 0 = .ok (.aload_n 0, 1) := by decide +kernel
theorem dX6_valueOf_1 : decode cX6_valueOf 1 = .ok (.getfield 16, 3) := by decide +kernel
theorem dX6_valueOf_4 : decode cX6_valueOf 4 = .ok (.iload_n 1, 1) := by decide +kernel
theorem dX6_valueOf_5 : decode cX6_valueOf 5 = .ok (.iaload, 1) := by decide +kernel
theorem dX6_valueOf_6 : decode cX6_valueOf 6 = .ok (.bipush 100, 2) := by decide +kernel
theorem dX6_valueOf_8 : decode cX6_valueOf 8 = .ok (.if_icmp .ge 7, 3) := by decide +kernel
theorem dX6_valueOf_11 : decode cX6_valueOf 11 = .ok (.iconst 0, 1) := by decide +kernel
theorem dX6_valueOf_12 : decode cX6_valueOf 12 = .ok (.goto 36, 3) := by decide +kernel
theorem dX6_valueOf_15 : decode cX6_valueOf 15 = .ok (.aload_n 0, 1) := by decide +kernel
theorem dX6_valueOf_16 : decode cX6_valueOf 16 = .ok (.getfield 16, 3) := by decide +kernel
theorem dX6_valueOf_19 : decode cX6_valueOf 19 = .ok (.iload_n 1, 1) := by decide +kernel
theorem dX6_valueOf_20 : decode cX6_valueOf 20 = .ok (.iaload, 1) := by decide +kernel
theorem dX6_valueOf_21 : decode cX6_valueOf 21 = .ok (.sipush 300, 3) := by decide +kernel
theorem dX6_valueOf_24 : decode cX6_valueOf 24 = .ok (.if_icmp .ge 7, 3) := by decide +kernel
theorem dX6_valueOf_27 : decode cX6_valueOf 27 = .ok (.iconst 1, 1) := by decide +kernel
theorem dX6_valueOf_28 : decode cX6_valueOf 28 = .ok (.goto 20, 3) := by decide +kernel
theorem dX6_valueOf_31 : decode cX6_valueOf 31 = .ok (.aload_n 0, 1) := by decide +kernel
theorem dX6_valueOf_32 : decode cX6_valueOf 32 = .ok (.getfield 16, 3) := by decide +kernel
theorem dX6_valueOf_35 : decode cX6_valueOf 35 = .ok (.iload_n 1, 1) := by decide +kernel
theorem dX6_valueOf_36 : decode cX6_valueOf 36 = .ok (.iaload, 1) := by decide +kernel
theorem dX6_valueOf_37 : decode cX6_valueOf 37 = .ok (.sipush 1000, 3) := by decide +kernel
theorem dX6_valueOf_40 : decode cX6_valueOf 40 = .ok (.if_icmp .ge 7, 3) := by decide +kernel
theorem dX6_valueOf_43 : decode cX6_valueOf 43 = .ok (.iconst 2, 1) := by decide +kernel
theorem dX6_valueOf_44 : decode cX6_valueOf 44 = .ok (.goto 4, 3) := by decide +kernel
theorem dX6_valueOf_47 : decode cX6_valueOf 47 = .ok (.iconst 3, 1) := by decide +kernel
theorem dX6_valueOf_48 : decode cX6_valueOf 48 = .ok (.istore_n 2, 1) := by decide +kernel
theorem dX6_valueOf_49 : decode cX6_valueOf 49 = .ok (.aload_n 0, 1) := by decide +kernel
theorem dX6_valueOf_50 : decode cX6_valueOf 50 = .ok (.getfield 40, 3) := by decide +kernel
theorem dX6_valueOf_53 : decode cX6_valueOf 53 = .ok (.iload_n 1, 1) := by decide +kernel
theorem dX6_valueOf_54 : decode cX6_valueOf 54 = .ok (.iaload, 1) := by decide +kernel
theorem dX6_valueOf_55 : decode cX6_valueOf 55 = .ok (.ifCond .ne 7, 3) := by decide +kernel
theorem dX6_valueOf_58 : decode cX6_valueOf 58 = .ok (.iconst (-1), 1) := by decide +kernel
theorem dX6_valueOf_59 : decode cX6_valueOf 59 = .ok (.goto 28, 3) := by decide +kernel
theorem dX6_valueOf_62 : decode cX6_valueOf 62 = .ok (.aload_n 0, 1) := by decide +kernel
theorem dX6_valueOf_63 : decode cX6_valueOf 63 = .ok (.getfield 16, 3) := by decide +kernel
theorem dX6_valueOf_66 : decode cX6_valueOf 66 = .ok (.iload_n 1, 1) := by decide +kernel
theorem dX6_valueOf_67 : decode cX6_valueOf 67 = .ok (.iaload, 1) := by decide +kernel
theorem dX6_valueOf_68 : decode cX6_valueOf 68 = .ok (.aload_n 0, 1) := by decide +kernel
theorem dX6_valueOf_69 : decode cX6_valueOf 69 = .ok (.getfield 52, 3) := by decide +kernel
theorem dX6_valueOf_72 : decode cX6_valueOf 72 = .ok (.bipush 19, 2) := by decide +kernel
theorem dX6_valueOf_74 : decode cX6_valueOf 74 = .ok (.iload_n 2, 1) := by decide +kernel
theorem dX6_valueOf_75 : decode cX6_valueOf 75 = .ok (.imul, 1) := by decide +kernel
theorem dX6_valueOf_76 : decode cX6_valueOf 76 = .ok (.aload_n 0, 1) := by decide +kernel
theorem dX6_valueOf_77 : decode cX6_valueOf 77 = .ok (.iload_n 1, 1) := by decide +kernel
theorem dX6_valueOf_78 : decode cX6_valueOf 78 = .ok (.invokevirtual 144, 3) := by decide +kernel
theorem dX6_valueOf_81 : decode cX6_valueOf 81 = .ok (.iadd, 1) := by decide +kernel
theorem dX6_valueOf_82 : decode cX6_valueOf 82 = .ok (.iaload, 1) := by decide +kernel
theorem dX6_valueOf_83 : decode cX6_valueOf 83 = .ok (.imul, 1) := by decide +kernel
theorem dX6_valueOf_84 : decode cX6_valueOf 84 = .ok (.bipush 100, 2) := by decide +kernel
theorem dX6_valueOf_86 : decode cX6_valueOf 86 = .ok (.idiv, 1) := by decide +kernel
theorem dX6_valueOf_87 : decode cX6_valueOf 87 = .ok (.ireturn, 1) := by decide +kernel
theorem dX6_value_0 : decode cX6_value 0 = .ok (.aload_n 0, 1) := by decide +kernel
theorem dX6_value_1 : decode cX6_value 1 = .ok (.aload_n 0, 1) := by decide +kernel
theorem dX6_value_2 : decode cX6_value 2 = .ok (.iload_n 1, 1) := by decide +kernel
theorem dX6_value_3 : decode cX6_value 3 = .ok (.invokevirtual 131, 3) := by decide +kernel
theorem dX6_value_6 : decode cX6_value 6 = .ok (.invokevirtual 148, 3) := by decide +kernel
theorem dX6_value_9 : decode cX6_value 9 = .ok (.ifCond .eq 11, 3) := by decide +kernel
theorem dX6_value_12 : decode cX6_value 12 = .ok (.aload_n 0, 1) := by decide +kernel
theorem dX6_value_13 : decode cX6_value 13 = .ok (.iload_n 1, 1) := by decide +kernel
theorem dX6_value_14 : decode cX6_value 14 = .ok (.invokevirtual 151, 3) := by decide +kernel
theorem dX6_value_17 : decode cX6_value 17 = .ok (.goto 4, 3) := by decide +kernel
theorem dX6_value_20 : decode cX6_value 20 = .ok (.iconst 0, 1) := by decide +kernel
theorem dX6_value_21 : decode cX6_value 21 = .ok (.ireturn, 1) := by decide +kernel
theorem dX6_stoneIs_0 : decode cX6_stoneIs 0 = .ok (.aload_n 0, 1) := by decide +kernel
theorem dX6_stoneIs_1 : decode cX6_stoneIs 1 = .ok (.aload_n 0, 1) := by decide +kernel
theorem dX6_stoneIs_2 : decode cX6_stoneIs 2 = .ok (.iload_n 1, 1) := by decide +kernel
theorem dX6_stoneIs_3 : decode cX6_stoneIs 3 = .ok (.invokevirtual 131, 3) := by decide +kernel
theorem dX6_stoneIs_6 : decode cX6_stoneIs 6 = .ok (.iload_n 2, 1) := by decide +kernel
theorem dX6_stoneIs_7 : decode cX6_stoneIs 7 = .ok (.iconst 0, 1) := by decide +kernel
theorem dX6_stoneIs_8 : decode cX6_stoneIs 8 = .ok (.bipush 6, 2) := by decide +kernel
theorem dX6_stoneIs_10 : decode cX6_stoneIs 10 = .ok (.invokestatic 114, 3) := by decide +kernel
theorem dX6_stoneIs_13 : decode cX6_stoneIs 13 = .ok (.invokevirtual 124, 3) := by decide +kernel
theorem dX6_stoneIs_16 : decode cX6_stoneIs 16 = .ok (.ifCond .ne 5, 3) := by decide +kernel
theorem dX6_stoneIs_19 : decode cX6_stoneIs 19 = .ok (.iconst 0, 1) := by decide +kernel
theorem dX6_stoneIs_20 : decode cX6_stoneIs 20 = .ok (.ireturn, 1) := by decide +kernel
theorem dX6_stoneIs_21 : decode cX6_stoneIs 21 = .ok (.iload_n 2, 1) := by decide +kernel
theorem dX6_stoneIs_22 : decode cX6_stoneIs 22 = .ok (.ifCond .ne 12, 3) := by decide +kernel
theorem dX6_stoneIs_25 : decode cX6_stoneIs 25 = .ok (.aload_n 0, 1) := by decide +kernel
theorem dX6_stoneIs_26 : decode cX6_stoneIs 26 = .ok (.getfield 28, 3) := by decide +kernel
theorem dX6_stoneIs_29 : decode cX6_stoneIs 29 = .ok (.iload_n 1, 1) := by decide +kernel
theorem dX6_stoneIs_30 : decode cX6_stoneIs 30 = .ok (.iaload, 1) := by decide +kernel
theorem dX6_stoneIs_31 : decode cX6_stoneIs 31 = .ok (.goto 85, 3) := by decide +kernel
theorem dX6_stoneIs_34 : decode cX6_stoneIs 34 = .ok (.iload_n 2, 1) := by decide +kernel
theorem dX6_stoneIs_35 : decode cX6_stoneIs 35 = .ok (.iconst 1, 1) := by decide +kernel
theorem dX6_stoneIs_36 : decode cX6_stoneIs 36 = .ok (.if_icmp .ne 11, 3) := by decide +kernel
theorem dX6_stoneIs_39 : decode cX6_stoneIs 39 = .ok (.aload_n 0, 1) := by decide +kernel
theorem dX6_stoneIs_40 : decode cX6_stoneIs 40 = .ok (.iload_n 1, 1) := by decide +kernel
theorem dX6_stoneIs_41 : decode cX6_stoneIs 41 = .ok (.invokevirtual 144, 3) := by decide +kernel
theorem dX6_stoneIs_44 : decode cX6_stoneIs 44 = .ok (.goto 72, 3) := by decide +kernel
theorem dX6_stoneIs_47 : decode cX6_stoneIs 47 = .ok (.iload_n 2, 1) := by decide +kernel
theorem dX6_stoneIs_48 : decode cX6_stoneIs 48 = .ok (.iconst 2, 1) := by decide +kernel
theorem dX6_stoneIs_49 : decode cX6_stoneIs 49 = .ok (.if_icmp .ne 19, 3) := by decide +kernel
theorem dX6_stoneIs_52 : decode cX6_stoneIs 52 = .ok (.aload_n 0, 1) := by decide +kernel
theorem dX6_stoneIs_53 : decode cX6_stoneIs 53 = .ok (.iload_n 1, 1) := by decide +kernel
theorem dX6_stoneIs_54 : decode cX6_stoneIs 54 = .ok (.invokevirtual 154, 3) := by decide +kernel
theorem dX6_stoneIs_57 : decode cX6_stoneIs 57 = .ok (.ifCond .eq 7, 3) := by decide +kernel
theorem dX6_stoneIs_60 : decode cX6_stoneIs 60 = .ok (.iconst 1, 1) := by decide +kernel
theorem dX6_stoneIs_61 : decode cX6_stoneIs 61 = .ok (.goto 55, 3) := by decide +kernel
theorem dX6_stoneIs_64 : decode cX6_stoneIs 64 = .ok (.iconst 0, 1) := by decide +kernel
theorem dX6_stoneIs_65 : decode cX6_stoneIs 65 = .ok (.goto 51, 3) := by decide +kernel
theorem dX6_stoneIs_68 : decode cX6_stoneIs 68 = .ok (.iload_n 2, 1) := by decide +kernel
theorem dX6_stoneIs_69 : decode cX6_stoneIs 69 = .ok (.iconst 3, 1) := by decide +kernel
theorem dX6_stoneIs_70 : decode cX6_stoneIs 70 = .ok (.if_icmp .ne 12, 3) := by decide +kernel
theorem dX6_stoneIs_73 : decode cX6_stoneIs 73 = .ok (.aload_n 0, 1) := by decide +kernel
theorem dX6_stoneIs_74 : decode cX6_stoneIs 74 = .ok (.getfield 31, 3) := by decide +kernel
theorem dX6_stoneIs_77 : decode cX6_stoneIs 77 = .ok (.iload_n 1, 1) := by decide +kernel
theorem dX6_stoneIs_78 : decode cX6_stoneIs 78 = .ok (.iaload, 1) := by decide +kernel
theorem dX6_stoneIs_79 : decode cX6_stoneIs 79 = .ok (.goto 37, 3) := by decide +kernel
theorem dX6_stoneIs_82 : decode cX6_stoneIs 82 = .ok (.iload_n 2, 1) := by decide +kernel
theorem dX6_stoneIs_83 : decode cX6_stoneIs 83 = .ok (.iconst 4, 1) := by decide +kernel
theorem dX6_stoneIs_84 : decode cX6_stoneIs 84 = .ok (.if_icmp .ne 12, 3) := by decide +kernel
theorem dX6_stoneIs_87 : decode cX6_stoneIs 87 = .ok (.aload_n 0, 1) := by decide +kernel
theorem dX6_stoneIs_88 : decode cX6_stoneIs 88 = .ok (.getfield 34, 3) := by decide +kernel
theorem dX6_stoneIs_91 : decode cX6_stoneIs 91 = .ok (.iload_n 1, 1) := by decide +kernel
theorem dX6_stoneIs_92 : decode cX6_stoneIs 92 = .ok (.iaload, 1) := by decide +kernel
theorem dX6_stoneIs_93 : decode cX6_stoneIs 93 = .ok (.goto 23, 3) := by decide +kernel
theorem dX6_stoneIs_96 : decode cX6_stoneIs 96 = .ok (.iload_n 2, 1) := by decide +kernel
theorem dX6_stoneIs_97 : decode cX6_stoneIs 97 = .ok (.iconst 5, 1) := by decide +kernel
theorem dX6_stoneIs_98 : decode cX6_stoneIs 98 = .ok (.if_icmp .ne 12, 3) := by decide +kernel
theorem dX6_stoneIs_101 : decode cX6_stoneIs 101 = .ok (.aload_n 0, 1) := by decide +kernel
theorem dX6_stoneIs_102 : decode cX6_stoneIs 102 = .ok (.getfield 13, 3) := by decide +kernel
theorem dX6_stoneIs_105 : decode cX6_stoneIs 105 = .ok (.iload_n 1, 1) := by decide +kernel
theorem dX6_stoneIs_106 : decode cX6_stoneIs 106 = .ok (.iaload, 1) := by decide +kernel
theorem dX6_stoneIs_107 : decode cX6_stoneIs 107 = .ok (.goto 9, 3) := by decide +kernel
theorem dX6_stoneIs_110 : decode cX6_stoneIs 110 = .ok (.aload_n 0, 1) := by decide +kernel
theorem dX6_stoneIs_111 : decode cX6_stoneIs 111 = .ok (.getfield 37, 3) := by decide +kernel
theorem dX6_stoneIs_114 : decode cX6_stoneIs 114 = .ok (.iload_n 1, 1) := by decide +kernel
theorem dX6_stoneIs_115 : decode cX6_stoneIs 115 = .ok (.iaload, 1) := by decide +kernel
theorem dX6_stoneIs_116 : decode cX6_stoneIs 116 = .ok (.ireturn, 1) := by decide +kernel
theorem dX6_ends_0 : decode cX6_ends 0 = .ok (.aload_n 0, 1) := by decide +kernel
theorem dX6_ends_1 : decode cX6_ends 1 = .ok (.aload_n 0, 1) := by decide +kernel
theorem dX6_ends_2 : decode cX6_ends 2 = .ok (.getfield 68, 3) := by decide +kernel
theorem dX6_ends_5 : decode cX6_ends 5 = .ok (.iload_n 1, 1) := by decide +kernel
theorem dX6_ends_6 : decode cX6_ends 6 = .ok (.if_icmp .ne 7, 3) := by decide +kernel
theorem dX6_ends_9 : decode cX6_ends 9 = .ok (.iconst (-1), 1) := by decide +kernel
theorem dX6_ends_10 : decode cX6_ends 10 = .ok (.goto 7, 3) := by decide +kernel
theorem dX6_ends_13 : decode cX6_ends 13 = .ok (.aload_n 0, 1) := by decide +kernel
theorem dX6_ends_14 : decode cX6_ends 14 = .ok (.getfield 68, 3) := by decide +kernel
theorem dX6_ends_17 : decode cX6_ends 17 = .ok (.putfield 68, 3) := by decide +kernel
theorem dX6_ends_20 : decode cX6_ends 20 = .ok (.return_, 1) := by decide +kernel
theorem dX6_nextStone_0 : decode cX6_nextStone 0 = .ok (.iconst (-1), 1) := by decide +kernel
theorem dX6_nextStone_1 : decode cX6_nextStone 1 = .ok (.istore_n 1, 1) := by decide +kernel
theorem dX6_nextStone_2 : decode cX6_nextStone 2 = .ok (.iconst 0, 1) := by decide +kernel
theorem dX6_nextStone_3 : decode cX6_nextStone 3 = .ok (.istore_n 2, 1) := by decide +kernel
theorem dX6_nextStone_4 : decode cX6_nextStone 4 = .ok (.iload_n 2, 1) := by decide +kernel
theorem dX6_nextStone_5 : decode cX6_nextStone 5 = .ok (.aload_n 0, 1) := by decide +kernel
theorem dX6_nextStone_6 : decode cX6_nextStone 6 = .ok (.getfield 111, 3) := by decide +kernel
theorem dX6_nextStone_9 : decode cX6_nextStone 9 = .ok (.if_icmp .ge 69, 3) := by decide +kernel
theorem dX6_nextStone_12 : decode cX6_nextStone 12 = .ok (.aload_n 0, 1) := by decide +kernel
theorem dX6_nextStone_13 : decode cX6_nextStone 13 = .ok (.getfield 28, 3) := by decide +kernel
theorem dX6_nextStone_16 : decode cX6_nextStone 16 = .ok (.iload_n 2, 1) := by decide +kernel
theorem dX6_nextStone_17 : decode cX6_nextStone 17 = .ok (.iaload, 1) := by decide +kernel
theorem dX6_nextStone_18 : decode cX6_nextStone 18 = .ok (.ifCond .ne 24, 3) := by decide +kernel
theorem dX6_nextStone_21 : decode cX6_nextStone 21 = .ok (.aload_n 0, 1) := by decide +kernel
theorem dX6_nextStone_22 : decode cX6_nextStone 22 = .ok (.getfield 40, 3) := by decide +kernel
theorem dX6_nextStone_25 : decode cX6_nextStone 25 = .ok (.iload_n 2, 1) := by decide +kernel
theorem dX6_nextStone_26 : decode cX6_nextStone 26 = .ok (.iaload, 1) := by decide +kernel
theorem dX6_nextStone_27 : decode cX6_nextStone 27 = .ok (.ifCond .le 15, 3) := by decide +kernel
theorem dX6_nextStone_30 : decode cX6_nextStone 30 = .ok (.aload_n 0, 1) := by decide +kernel
theorem dX6_nextStone_31 : decode cX6_nextStone 31 = .ok (.iload_n 2, 1) := by decide +kernel
theorem dX6_nextStone_32 : decode cX6_nextStone 32 = .ok (.invokevirtual 154, 3) := by decide +kernel
theorem dX6_nextStone_35 : decode cX6_nextStone 35 = .ok (.ifCond .ne 7, 3) := by decide +kernel
theorem dX6_nextStone_38 : decode cX6_nextStone 38 = .ok (.iconst 1, 1) := by decide +kernel
theorem dX6_nextStone_39 : decode cX6_nextStone 39 = .ok (.goto 4, 3) := by decide +kernel
theorem dX6_nextStone_42 : decode cX6_nextStone 42 = .ok (.iconst 0, 1) := by decide +kernel
theorem dX6_nextStone_43 : decode cX6_nextStone 43 = .ok (.istore_n 3, 1) := by decide +kernel
theorem dX6_nextStone_44 : decode cX6_nextStone 44 = .ok (.iload_n 3, 1) := by decide +kernel
theorem dX6_nextStone_45 : decode cX6_nextStone 45 = .ok (.ifCond .eq 25, 3) := by decide +kernel
theorem dX6_nextStone_48 : decode cX6_nextStone 48 = .ok (.iload_n 1, 1) := by decide +kernel
theorem dX6_nextStone_49 : decode cX6_nextStone 49 = .ok (.iconst (-1), 1) := by decide +kernel
theorem dX6_nextStone_50 : decode cX6_nextStone 50 = .ok (.if_icmp .eq 16, 3) := by decide +kernel
theorem dX6_nextStone_53 : decode cX6_nextStone 53 = .ok (.aload_n 0, 1) := by decide +kernel
theorem dX6_nextStone_54 : decode cX6_nextStone 54 = .ok (.iload_n 2, 1) := by decide +kernel
theorem dX6_nextStone_55 : decode cX6_nextStone 55 = .ok (.invokevirtual 151, 3) := by decide +kernel
theorem dX6_nextStone_58 : decode cX6_nextStone 58 = .ok (.aload_n 0, 1) := by decide +kernel
theorem dX6_nextStone_59 : decode cX6_nextStone 59 = .ok (.iload_n 1, 1) := by decide +kernel
theorem dX6_nextStone_60 : decode cX6_nextStone 60 = .ok (.invokevirtual 151, 3) := by decide +kernel
theorem dX6_nextStone_63 : decode cX6_nextStone 63 = .ok (.if_icmp .le 7, 3) := by decide +kernel
theorem dX6_nextStone_66 : decode cX6_nextStone 66 = .ok (.iload_n 2, 1) := by decide +kernel
theorem dX6_nextStone_67 : decode cX6_nextStone 67 = .ok (.goto 4, 3) := by decide +kernel
theorem dX6_nextStone_70 : decode cX6_nextStone 70 = .ok (.iload_n 1, 1) := by decide +kernel
theorem dX6_nextStone_71 : decode cX6_nextStone 71 = .ok (.istore_n 1, 1) := by decide +kernel
theorem dX6_nextStone_72 : decode cX6_nextStone 72 = .ok (.iinc 2 1, 3) := by decide +kernel
theorem dX6_nextStone_75 : decode cX6_nextStone 75 = .ok (.goto (-71), 3) := by decide +kernel
theorem dX6_nextStone_78 : decode cX6_nextStone 78 = .ok (.iload_n 1, 1) := by decide +kernel
theorem dX6_nextStone_79 : decode cX6_nextStone 79 = .ok (.ireturn, 1) := by decide +kernel
theorem dX6_boxes_0 : decode cX6_boxes 0 = .ok (.aload_n 0, 1) := by decide +kernel
theorem dX6_boxes_1 : decode cX6_boxes 1 = .ok (.iload_n 1, 1) := by decide +kernel
theorem dX6_boxes_2 : decode cX6_boxes 2 = .ok (.iconst 1, 1) := by decide +kernel
theorem dX6_boxes_3 : decode cX6_boxes 3 = .ok (.iconst 5, 1) := by decide +kernel
theorem dX6_boxes_4 : decode cX6_boxes 4 = .ok (.invokestatic 114, 3) := by decide +kernel
theorem dX6_boxes_7 : decode cX6_boxes 7 = .ok (.invokevirtual 148, 3) := by decide +kernel
theorem dX6_boxes_10 : decode cX6_boxes 10 = .ok (.ifCond .ne 5, 3) := by decide +kernel
theorem dX6_boxes_13 : decode cX6_boxes 13 = .ok (.iconst 0, 1) := by decide +kernel
theorem dX6_boxes_14 : decode cX6_boxes 14 = .ok (.ireturn, 1) := by decide +kernel
theorem dX6_boxes_15 : decode cX6_boxes 15 = .ok (.iconst 0, 1) := by decide +kernel
theorem dX6_boxes_16 : decode cX6_boxes 16 = .ok (.istore_n 2, 1) := by decide +kernel
theorem dX6_boxes_17 : decode cX6_boxes 17 = .ok (.iload_n 2, 1) := by decide +kernel
theorem dX6_boxes_18 : decode cX6_boxes 18 = .ok (.aload_n 0, 1) := by decide +kernel
theorem dX6_boxes_19 : decode cX6_boxes 19 = .ok (.getfield 111, 3) := by decide +kernel
theorem dX6_boxes_22 : decode cX6_boxes 22 = .ok (.if_icmp .ge 33, 3) := by decide +kernel
theorem dX6_boxes_25 : decode cX6_boxes 25 = .ok (.aload_n 0, 1) := by decide +kernel
theorem dX6_boxes_26 : decode cX6_boxes 26 = .ok (.getfield 28, 3) := by decide +kernel
theorem dX6_boxes_29 : decode cX6_boxes 29 = .ok (.iload_n 2, 1) := by decide +kernel
theorem dX6_boxes_30 : decode cX6_boxes 30 = .ok (.iaload, 1) := by decide +kernel
theorem dX6_boxes_31 : decode cX6_boxes 31 = .ok (.iconst 1, 1) := by decide +kernel
theorem dX6_boxes_32 : decode cX6_boxes 32 = .ok (.if_icmp .ne 17, 3) := by decide +kernel
theorem dX6_boxes_35 : decode cX6_boxes 35 = .ok (.aload_n 0, 1) := by decide +kernel
theorem dX6_boxes_36 : decode cX6_boxes 36 = .ok (.getfield 28, 3) := by decide +kernel
theorem dX6_boxes_39 : decode cX6_boxes 39 = .ok (.iload_n 2, 1) := by decide +kernel
theorem dX6_boxes_40 : decode cX6_boxes 40 = .ok (.iconst 0, 1) := by decide +kernel
theorem dX6_boxes_41 : decode cX6_boxes 41 = .ok (.iastore, 1) := by decide +kernel
theorem dX6_boxes_42 : decode cX6_boxes 42 = .ok (.aload_n 0, 1) := by decide +kernel
theorem dX6_boxes_43 : decode cX6_boxes 43 = .ok (.getfield 34, 3) := by decide +kernel
theorem dX6_boxes_46 : decode cX6_boxes 46 = .ok (.iload_n 2, 1) := by decide +kernel
theorem dX6_boxes_47 : decode cX6_boxes 47 = .ok (.iconst (-1), 1) := by decide +kernel
theorem dX6_boxes_48 : decode cX6_boxes 48 = .ok (.iastore, 1) := by decide +kernel
theorem dX6_boxes_49 : decode cX6_boxes 49 = .ok (.iinc 2 1, 3) := by decide +kernel
theorem dX6_boxes_52 : decode cX6_boxes 52 = .ok (.goto (-35), 3) := by decide +kernel
theorem dX6_boxes_55 : decode cX6_boxes 55 = .ok (.aload_n 0, 1) := by decide +kernel
theorem dX6_boxes_56 : decode cX6_boxes 56 = .ok (.iload_n 1, 1) := by decide +kernel
theorem dX6_boxes_57 : decode cX6_boxes 57 = .ok (.putfield 157, 3) := by decide +kernel
theorem dX6_boxes_60 : decode cX6_boxes 60 = .ok (.iconst 0, 1) := by decide +kernel
theorem dX6_boxes_61 : decode cX6_boxes 61 = .ok (.istore_n 2, 1) := by decide +kernel
theorem dX6_boxes_62 : decode cX6_boxes 62 = .ok (.iload_n 2, 1) := by decide +kernel
theorem dX6_boxes_63 : decode cX6_boxes 63 = .ok (.iconst 5, 1) := by decide +kernel
theorem dX6_boxes_64 : decode cX6_boxes 64 = .ok (.if_icmp .ge 30, 3) := by decide +kernel
theorem dX6_boxes_67 : decode cX6_boxes 67 = .ok (.aload_n 0, 1) := by decide +kernel
theorem dX6_boxes_68 : decode cX6_boxes 68 = .ok (.getfield 55, 3) := by decide +kernel
theorem dX6_boxes_71 : decode cX6_boxes 71 = .ok (.iload_n 2, 1) := by decide +kernel
theorem dX6_boxes_72 : decode cX6_boxes 72 = .ok (.iconst 0, 1) := by decide +kernel
theorem dX6_boxes_73 : decode cX6_boxes 73 = .ok (.iastore, 1) := by decide +kernel
theorem dX6_boxes_74 : decode cX6_boxes 74 = .ok (.aload_n 0, 1) := by decide +kernel
theorem dX6_boxes_75 : decode cX6_boxes 75 = .ok (.getfield 58, 3) := by decide +kernel
theorem dX6_boxes_78 : decode cX6_boxes 78 = .ok (.iload_n 2, 1) := by decide +kernel
theorem dX6_boxes_79 : decode cX6_boxes 79 = .ok (.iconst 0, 1) := by decide +kernel
theorem dX6_boxes_80 : decode cX6_boxes 80 = .ok (.bastore, 1) := by decide +kernel
theorem dX6_boxes_81 : decode cX6_boxes 81 = .ok (.aload_n 0, 1) := by decide +kernel
theorem dX6_boxes_82 : decode cX6_boxes 82 = .ok (.getfield 62, 3) := by decide +kernel
theorem dX6_boxes_85 : decode cX6_boxes 85 = .ok (.iload_n 2, 1) := by decide +kernel
theorem dX6_boxes_86 : decode cX6_boxes 86 = .ok (.iconst (-1), 1) := by decide +kernel
theorem dX6_boxes_87 : decode cX6_boxes 87 = .ok (.iastore, 1) := by decide +kernel
theorem dX6_boxes_88 : decode cX6_boxes 88 = .ok (.iinc 2 1, 3) := by decide +kernel
theorem dX6_boxes_91 : decode cX6_boxes 91 = .ok (.goto (-29), 3) := by decide +kernel
theorem dX6_boxes_94 : decode cX6_boxes 94 = .ok (.iconst 0, 1) := by decide +kernel
theorem dX6_boxes_95 : decode cX6_boxes 95 = .ok (.istore_n 2, 1) := by decide +kernel
theorem dX6_boxes_96 : decode cX6_boxes 96 = .ok (.aload_n 0, 1) := by decide +kernel
theorem dX6_boxes_97 : decode cX6_boxes 97 = .ok (.invokevirtual 160, 3) := by decide +kernel
theorem dX6_boxes_100 : decode cX6_boxes 100 = .ok (.istore_n 3, 1) := by decide +kernel
theorem dX6_boxes_101 : decode cX6_boxes 101 = .ok (.iload_n 3, 1) := by decide +kernel
theorem dX6_boxes_102 : decode cX6_boxes 102 = .ok (.iconst (-1), 1) := by decide +kernel
theorem dX6_boxes_103 : decode cX6_boxes 103 = .ok (.if_icmp .eq 93, 3) := by decide +kernel
theorem dX6_boxes_106 : decode cX6_boxes 106 = .ok (.iconst 0, 1) := by decide +kernel
theorem dX6_boxes_107 : decode cX6_boxes 107 = .ok (.istore 4, 2) := by decide +kernel
theorem dX6_boxes_109 : decode cX6_boxes 109 = .ok (.iconst 1, 1) := by decide +kernel
theorem dX6_boxes_110 : decode cX6_boxes 110 = .ok (.istore 5, 2) := by decide +kernel
theorem dX6_boxes_112 : decode cX6_boxes 112 = .ok (.iload 5, 2) := by decide +kernel
theorem dX6_boxes_114 : decode cX6_boxes 114 = .ok (.iload_n 1, 1) := by decide +kernel
theorem dX6_boxes_115 : decode cX6_boxes 115 = .ok (.if_icmp .ge 35, 3) := by decide +kernel
theorem dX6_boxes_118 : decode cX6_boxes 118 = .ok (.aload_n 0, 1) := by decide +kernel
theorem dX6_boxes_119 : decode cX6_boxes 119 = .ok (.getfield 55, 3) := by decide +kernel
theorem dX6_boxes_122 : decode cX6_boxes 122 = .ok (.iload 5, 2) := by decide +kernel
theorem dX6_boxes_124 : decode cX6_boxes 124 = .ok (.iaload, 1) := by decide +kernel
theorem dX6_boxes_125 : decode cX6_boxes 125 = .ok (.aload_n 0, 1) := by decide +kernel
theorem dX6_boxes_126 : decode cX6_boxes 126 = .ok (.getfield 55, 3) := by decide +kernel
theorem dX6_boxes_129 : decode cX6_boxes 129 = .ok (.iload 4, 2) := by decide +kernel
theorem dX6_boxes_131 : decode cX6_boxes 131 = .ok (.iaload, 1) := by decide +kernel
theorem dX6_boxes_132 : decode cX6_boxes 132 = .ok (.if_icmp .ge 8, 3) := by decide +kernel
theorem dX6_boxes_135 : decode cX6_boxes 135 = .ok (.iload 5, 2) := by decide +kernel
theorem dX6_boxes_137 : decode cX6_boxes 137 = .ok (.goto 5, 3) := by decide +kernel
theorem dX6_boxes_140 : decode cX6_boxes 140 = .ok (.iload 4, 2) := by decide +kernel
theorem dX6_boxes_142 : decode cX6_boxes 142 = .ok (.istore 4, 2) := by decide +kernel
theorem dX6_boxes_144 : decode cX6_boxes 144 = .ok (.iinc 5 1, 3) := by decide +kernel
theorem dX6_boxes_147 : decode cX6_boxes 147 = .ok (.goto (-35), 3) := by decide +kernel
theorem dX6_boxes_150 : decode cX6_boxes 150 = .ok (.aload_n 0, 1) := by decide +kernel
theorem dX6_boxes_151 : decode cX6_boxes 151 = .ok (.getfield 55, 3) := by decide +kernel
theorem dX6_boxes_154 : decode cX6_boxes 154 = .ok (.iload 4, 2) := by decide +kernel
theorem dX6_boxes_156 : decode cX6_boxes 156 = .ok (.dup2, 1) := by decide +kernel
theorem dX6_boxes_157 : decode cX6_boxes 157 = .ok (.iaload, 1) := by decide +kernel
theorem dX6_boxes_158 : decode cX6_boxes 158 = .ok (.aload_n 0, 1) := by decide +kernel
theorem dX6_boxes_159 : decode cX6_boxes 159 = .ok (.iload_n 3, 1) := by decide +kernel
theorem dX6_boxes_160 : decode cX6_boxes 160 = .ok (.invokevirtual 151, 3) := by decide +kernel
theorem dX6_boxes_163 : decode cX6_boxes 163 = .ok (.iadd, 1) := by decide +kernel
theorem dX6_boxes_164 : decode cX6_boxes 164 = .ok (.iastore, 1) := by decide +kernel
theorem dX6_boxes_165 : decode cX6_boxes 165 = .ok (.aload_n 0, 1) := by decide +kernel
theorem dX6_boxes_166 : decode cX6_boxes 166 = .ok (.getfield 28, 3) := by decide +kernel
theorem dX6_boxes_169 : decode cX6_boxes 169 = .ok (.iload_n 3, 1) := by decide +kernel
theorem dX6_boxes_170 : decode cX6_boxes 170 = .ok (.iconst 1, 1) := by decide +kernel
theorem dX6_boxes_171 : decode cX6_boxes 171 = .ok (.iastore, 1) := by decide +kernel
theorem dX6_boxes_172 : decode cX6_boxes 172 = .ok (.aload_n 0, 1) := by decide +kernel
theorem dX6_boxes_173 : decode cX6_boxes 173 = .ok (.getfield 34, 3) := by decide +kernel
theorem dX6_boxes_176 : decode cX6_boxes 176 = .ok (.iload_n 3, 1) := by decide +kernel
theorem dX6_boxes_177 : decode cX6_boxes 177 = .ok (.iload 4, 2) := by decide +kernel
theorem dX6_boxes_179 : decode cX6_boxes 179 = .ok (.iastore, 1) := by decide +kernel
theorem dX6_boxes_180 : decode cX6_boxes 180 = .ok (.aload_n 0, 1) := by decide +kernel
theorem dX6_boxes_181 : decode cX6_boxes 181 = .ok (.iload_n 3, 1) := by decide +kernel
theorem dX6_boxes_182 : decode cX6_boxes 182 = .ok (.invokevirtual 164, 3) := by decide +kernel
theorem dX6_boxes_185 : decode cX6_boxes 185 = .ok (.iinc 2 1, 3) := by decide +kernel
theorem dX6_boxes_188 : decode cX6_boxes 188 = .ok (.aload_n 0, 1) := by decide +kernel
theorem dX6_boxes_189 : decode cX6_boxes 189 = .ok (.invokevirtual 160, 3) := by decide +kernel
theorem dX6_boxes_192 : decode cX6_boxes 192 = .ok (.istore_n 3, 1) := by decide +kernel
theorem dX6_boxes_193 : decode cX6_boxes 193 = .ok (.goto (-92), 3) := by decide +kernel
theorem dX6_boxes_196 : decode cX6_boxes 196 = .ok (.iconst 0, 1) := by decide +kernel
theorem dX6_boxes_197 : decode cX6_boxes 197 = .ok (.istore_n 3, 1) := by decide +kernel
theorem dX6_boxes_198 : decode cX6_boxes 198 = .ok (.iload_n 3, 1) := by decide +kernel
theorem dX6_boxes_199 : decode cX6_boxes 199 = .ok (.iconst 5, 1) := by decide +kernel
theorem dX6_boxes_200 : decode cX6_boxes 200 = .ok (.if_icmp .ge 24, 3) := by decide +kernel
theorem dX6_boxes_203 : decode cX6_boxes 203 = .ok (.aload_n 0, 1) := by decide +kernel
theorem dX6_boxes_204 : decode cX6_boxes 204 = .ok (.getfield 62, 3) := by decide +kernel
theorem dX6_boxes_207 : decode cX6_boxes 207 = .ok (.iload_n 3, 1) := by decide +kernel
theorem dX6_boxes_208 : decode cX6_boxes 208 = .ok (.aload_n 0, 1) := by decide +kernel
theorem dX6_boxes_209 : decode cX6_boxes 209 = .ok (.aload_n 0, 1) := by decide +kernel
theorem dX6_boxes_210 : decode cX6_boxes 210 = .ok (.iload_n 3, 1) := by decide +kernel
theorem dX6_boxes_211 : decode cX6_boxes 211 = .ok (.invokevirtual 168, 3) := by decide +kernel
theorem dX6_boxes_214 : decode cX6_boxes 214 = .ok (.invokevirtual 171, 3) := by decide +kernel
theorem dX6_boxes_217 : decode cX6_boxes 217 = .ok (.iastore, 1) := by decide +kernel
theorem dX6_boxes_218 : decode cX6_boxes 218 = .ok (.iinc 3 1, 3) := by decide +kernel
theorem dX6_boxes_221 : decode cX6_boxes 221 = .ok (.goto (-23), 3) := by decide +kernel
theorem dX6_boxes_224 : decode cX6_boxes 224 = .ok (.iload_n 2, 1) := by decide +kernel
theorem dX6_boxes_225 : decode cX6_boxes 225 = .ok (.ireturn, 1) := by decide +kernel
theorem dX6_rankOf_0 : decode cX6_rankOf 0 = .ok (.iconst 0, 1) := by decide +kernel
theorem dX6_rankOf_1 : decode cX6_rankOf 1 = .ok (.istore_n 2, 1) := by decide +kernel
theorem dX6_rankOf_2 : decode cX6_rankOf 2 = .ok (.iconst 0, 1) := by decide +kernel
theorem dX6_rankOf_3 : decode cX6_rankOf 3 = .ok (.istore_n 3, 1) := by decide +kernel
theorem dX6_rankOf_4 : decode cX6_rankOf 4 = .ok (.iload_n 3, 1) := by decide +kernel
theorem dX6_rankOf_5 : decode cX6_rankOf 5 = .ok (.iconst 5, 1) := by decide +kernel
theorem dX6_rankOf_6 : decode cX6_rankOf 6 = .ok (.if_icmp .ge 52, 3) := by decide +kernel
theorem dX6_rankOf_9 : decode cX6_rankOf 9 = .ok (.iload_n 2, 1) := by decide +kernel
theorem dX6_rankOf_10 : decode cX6_rankOf 10 = .ok (.aload_n 0, 1) := by decide +kernel
theorem dX6_rankOf_11 : decode cX6_rankOf 11 = .ok (.getfield 65, 3) := by decide +kernel
theorem dX6_rankOf_14 : decode cX6_rankOf 14 = .ok (.iload_n 3, 1) := by decide +kernel
theorem dX6_rankOf_15 : decode cX6_rankOf 15 = .ok (.iaload, 1) := by decide +kernel
theorem dX6_rankOf_16 : decode cX6_rankOf 16 = .ok (.aload_n 0, 1) := by decide +kernel
theorem dX6_rankOf_17 : decode cX6_rankOf 17 = .ok (.getfield 65, 3) := by decide +kernel
theorem dX6_rankOf_20 : decode cX6_rankOf 20 = .ok (.iload_n 1, 1) := by decide +kernel
theorem dX6_rankOf_21 : decode cX6_rankOf 21 = .ok (.iaload, 1) := by decide +kernel
theorem dX6_rankOf_22 : decode cX6_rankOf 22 = .ok (.if_icmp .gt 23, 3) := by decide +kernel
theorem dX6_rankOf_25 : decode cX6_rankOf 25 = .ok (.aload_n 0, 1) := by decide +kernel
theorem dX6_rankOf_26 : decode cX6_rankOf 26 = .ok (.getfield 65, 3) := by decide +kernel
theorem dX6_rankOf_29 : decode cX6_rankOf 29 = .ok (.iload_n 3, 1) := by decide +kernel
theorem dX6_rankOf_30 : decode cX6_rankOf 30 = .ok (.iaload, 1) := by decide +kernel
theorem dX6_rankOf_31 : decode cX6_rankOf 31 = .ok (.aload_n 0, 1) := by decide +kernel
theorem dX6_rankOf_32 : decode cX6_rankOf 32 = .ok (.getfield 65, 3) := by decide +kernel
theorem dX6_rankOf_35 : decode cX6_rankOf 35 = .ok (.iload_n 1, 1) := by decide +kernel
theorem dX6_rankOf_36 : decode cX6_rankOf 36 = .ok (.iaload, 1) := by decide +kernel
theorem dX6_rankOf_37 : decode cX6_rankOf 37 = .ok (.if_icmp .ne 12, 3) := by decide +kernel
theorem dX6_rankOf_40 : decode cX6_rankOf 40 = .ok (.iload_n 3, 1) := by decide +kernel
theorem dX6_rankOf_41 : decode cX6_rankOf 41 = .ok (.iload_n 1, 1) := by decide +kernel
theorem dX6_rankOf_42 : decode cX6_rankOf 42 = .ok (.if_icmp .ge 7, 3) := by decide +kernel
theorem dX6_rankOf_45 : decode cX6_rankOf 45 = .ok (.iconst 1, 1) := by decide +kernel
theorem dX6_rankOf_46 : decode cX6_rankOf 46 = .ok (.goto 4, 3) := by decide +kernel
theorem dX6_rankOf_49 : decode cX6_rankOf 49 = .ok (.iconst 0, 1) := by decide +kernel
theorem dX6_rankOf_50 : decode cX6_rankOf 50 = .ok (.iadd, 1) := by decide +kernel
theorem dX6_rankOf_51 : decode cX6_rankOf 51 = .ok (.istore_n 2, 1) := by decide +kernel
theorem dX6_rankOf_52 : decode cX6_rankOf 52 = .ok (.iinc 3 1, 3) := by decide +kernel
theorem dX6_rankOf_55 : decode cX6_rankOf 55 = .ok (.goto (-51), 3) := by decide +kernel
theorem dX6_rankOf_58 : decode cX6_rankOf 58 = .ok (.iload_n 2, 1) := by decide +kernel
theorem dX6_rankOf_59 : decode cX6_rankOf 59 = .ok (.ireturn, 1) := by decide +kernel
theorem dX6_boxAt_0 : decode cX6_boxAt 0 = .ok (.iconst 0, 1) := by decide +kernel
theorem dX6_boxAt_1 : decode cX6_boxAt 1 = .ok (.istore_n 2, 1) := by decide +kernel
theorem dX6_boxAt_2 : decode cX6_boxAt 2 = .ok (.iload_n 2, 1) := by decide +kernel
theorem dX6_boxAt_3 : decode cX6_boxAt 3 = .ok (.aload_n 0, 1) := by decide +kernel
theorem dX6_boxAt_4 : decode cX6_boxAt 4 = .ok (.getfield 157, 3) := by decide +kernel
theorem dX6_boxAt_7 : decode cX6_boxAt 7 = .ok (.if_icmp .ge 82, 3) := by decide +kernel
theorem dX6_boxAt_10 : decode cX6_boxAt 10 = .ok (.iconst 0, 1) := by decide +kernel
theorem dX6_boxAt_11 : decode cX6_boxAt 11 = .ok (.istore_n 3, 1) := by decide +kernel
theorem dX6_boxAt_12 : decode cX6_boxAt 12 = .ok (.iconst 0, 1) := by decide +kernel
theorem dX6_boxAt_13 : decode cX6_boxAt 13 = .ok (.istore 4, 2) := by decide +kernel
theorem dX6_boxAt_15 : decode cX6_boxAt 15 = .ok (.iload 4, 2) := by decide +kernel
theorem dX6_boxAt_17 : decode cX6_boxAt 17 = .ok (.aload_n 0, 1) := by decide +kernel
theorem dX6_boxAt_18 : decode cX6_boxAt 18 = .ok (.getfield 157, 3) := by decide +kernel
theorem dX6_boxAt_21 : decode cX6_boxAt 21 = .ok (.if_icmp .ge 55, 3) := by decide +kernel
theorem dX6_boxAt_24 : decode cX6_boxAt 24 = .ok (.iload_n 3, 1) := by decide +kernel
theorem dX6_boxAt_25 : decode cX6_boxAt 25 = .ok (.aload_n 0, 1) := by decide +kernel
theorem dX6_boxAt_26 : decode cX6_boxAt 26 = .ok (.getfield 55, 3) := by decide +kernel
theorem dX6_boxAt_29 : decode cX6_boxAt 29 = .ok (.iload 4, 2) := by decide +kernel
theorem dX6_boxAt_31 : decode cX6_boxAt 31 = .ok (.iaload, 1) := by decide +kernel
theorem dX6_boxAt_32 : decode cX6_boxAt 32 = .ok (.aload_n 0, 1) := by decide +kernel
theorem dX6_boxAt_33 : decode cX6_boxAt 33 = .ok (.getfield 55, 3) := by decide +kernel
theorem dX6_boxAt_36 : decode cX6_boxAt 36 = .ok (.iload_n 2, 1) := by decide +kernel
theorem dX6_boxAt_37 : decode cX6_boxAt 37 = .ok (.iaload, 1) := by decide +kernel
theorem dX6_boxAt_38 : decode cX6_boxAt 38 = .ok (.if_icmp .gt 25, 3) := by decide +kernel
theorem dX6_boxAt_41 : decode cX6_boxAt 41 = .ok (.aload_n 0, 1) := by decide +kernel
theorem dX6_boxAt_42 : decode cX6_boxAt 42 = .ok (.getfield 55, 3) := by decide +kernel
theorem dX6_boxAt_45 : decode cX6_boxAt 45 = .ok (.iload 4, 2) := by decide +kernel
theorem dX6_boxAt_47 : decode cX6_boxAt 47 = .ok (.iaload, 1) := by decide +kernel
theorem dX6_boxAt_48 : decode cX6_boxAt 48 = .ok (.aload_n 0, 1) := by decide +kernel
theorem dX6_boxAt_49 : decode cX6_boxAt 49 = .ok (.getfield 55, 3) := by decide +kernel
theorem dX6_boxAt_52 : decode cX6_boxAt 52 = .ok (.iload_n 2, 1) := by decide +kernel
theorem dX6_boxAt_53 : decode cX6_boxAt 53 = .ok (.iaload, 1) := by decide +kernel
theorem dX6_boxAt_54 : decode cX6_boxAt 54 = .ok (.if_icmp .ne 13, 3) := by decide +kernel
theorem dX6_boxAt_57 : decode cX6_boxAt 57 = .ok (.iload 4, 2) := by decide +kernel
theorem dX6_boxAt_59 : decode cX6_boxAt 59 = .ok (.iload_n 2, 1) := by decide +kernel
theorem dX6_boxAt_60 : decode cX6_boxAt 60 = .ok (.if_icmp .ge 7, 3) := by decide +kernel
theorem dX6_boxAt_63 : decode cX6_boxAt 63 = .ok (.iconst 1, 1) := by decide +kernel
theorem dX6_boxAt_64 : decode cX6_boxAt 64 = .ok (.goto 4, 3) := by decide +kernel
theorem dX6_boxAt_67 : decode cX6_boxAt 67 = .ok (.iconst 0, 1) := by decide +kernel
theorem dX6_boxAt_68 : decode cX6_boxAt 68 = .ok (.iadd, 1) := by decide +kernel
theorem dX6_boxAt_69 : decode cX6_boxAt 69 = .ok (.istore_n 3, 1) := by decide +kernel
theorem dX6_boxAt_70 : decode cX6_boxAt 70 = .ok (.iinc 4 1, 3) := by decide +kernel
theorem dX6_boxAt_73 : decode cX6_boxAt 73 = .ok (.goto (-58), 3) := by decide +kernel
theorem dX6_boxAt_76 : decode cX6_boxAt 76 = .ok (.iload_n 3, 1) := by decide +kernel
theorem dX6_boxAt_77 : decode cX6_boxAt 77 = .ok (.iload_n 1, 1) := by decide +kernel
theorem dX6_boxAt_78 : decode cX6_boxAt 78 = .ok (.if_icmp .ne 5, 3) := by decide +kernel
theorem dX6_boxAt_81 : decode cX6_boxAt 81 = .ok (.iload_n 2, 1) := by decide +kernel
theorem dX6_boxAt_82 : decode cX6_boxAt 82 = .ok (.ireturn, 1) := by decide +kernel
theorem dX6_boxAt_83 : decode cX6_boxAt 83 = .ok (.iinc 2 1, 3) := by decide +kernel
theorem dX6_boxAt_86 : decode cX6_boxAt 86 = .ok (.goto (-84), 3) := by decide +kernel
theorem dX6_boxAt_89 : decode cX6_boxAt 89 = .ok (.iconst (-1), 1) := by decide +kernel
theorem dX6_boxAt_90 : decode cX6_boxAt 90 = .ok (.ireturn, 1) := by decide +kernel
theorem dX6_boxValue_0 : decode cX6_boxValue 0 = .ok (.aload_n 0, 1) := by decide +kernel
theorem dX6_boxValue_1 : decode cX6_boxValue 1 = .ok (.iload_n 1, 1) := by decide +kernel
theorem dX6_boxValue_2 : decode cX6_boxValue 2 = .ok (.iconst 0, 1) := by decide +kernel
theorem dX6_boxValue_3 : decode cX6_boxValue 3 = .ok (.aload_n 0, 1) := by decide +kernel
theorem dX6_boxValue_4 : decode cX6_boxValue 4 = .ok (.getfield 157, 3) := by decide +kernel
theorem dX6_boxValue_7 : decode cX6_boxValue 7 = .ok (.iconst 1, 1) := by decide +kernel
theorem dX6_boxValue_8 : decode cX6_boxValue 8 = .ok (.isub, 1) := by decide +kernel
theorem dX6_boxValue_9 : decode cX6_boxValue 9 = .ok (.invokestatic 114, 3) := by decide +kernel
theorem dX6_boxValue_12 : decode cX6_boxValue 12 = .ok (.invokevirtual 148, 3) := by decide +kernel
theorem dX6_boxValue_15 : decode cX6_boxValue 15 = .ok (.ifCond .ne 5, 3) := by decide +kernel
theorem dX6_boxValue_18 : decode cX6_boxValue 18 = .ok (.iconst 0, 1) := by decide +kernel
theorem dX6_boxValue_19 : decode cX6_boxValue 19 = .ok (.ireturn, 1) := by decide +kernel
theorem dX6_boxValue_20 : decode cX6_boxValue 20 = .ok (.iconst 0, 1) := by decide +kernel
theorem dX6_boxValue_21 : decode cX6_boxValue 21 = .ok (.istore_n 2, 1) := by decide +kernel
theorem dX6_boxValue_22 : decode cX6_boxValue 22 = .ok (.iconst 0, 1) := by decide +kernel
theorem dX6_boxValue_23 : decode cX6_boxValue 23 = .ok (.istore_n 3, 1) := by decide +kernel
theorem dX6_boxValue_24 : decode cX6_boxValue 24 = .ok (.iload_n 3, 1) := by decide +kernel
theorem dX6_boxValue_25 : decode cX6_boxValue 25 = .ok (.aload_n 0, 1) := by decide +kernel
theorem dX6_boxValue_26 : decode cX6_boxValue 26 = .ok (.getfield 111, 3) := by decide +kernel
theorem dX6_boxValue_29 : decode cX6_boxValue 29 = .ok (.if_icmp .ge 41, 3) := by decide +kernel
theorem dX6_boxValue_32 : decode cX6_boxValue 32 = .ok (.iload_n 2, 1) := by decide +kernel
theorem dX6_boxValue_33 : decode cX6_boxValue 33 = .ok (.aload_n 0, 1) := by decide +kernel
theorem dX6_boxValue_34 : decode cX6_boxValue 34 = .ok (.getfield 28, 3) := by decide +kernel
theorem dX6_boxValue_37 : decode cX6_boxValue 37 = .ok (.iload_n 3, 1) := by decide +kernel
theorem dX6_boxValue_38 : decode cX6_boxValue 38 = .ok (.iaload, 1) := by decide +kernel
theorem dX6_boxValue_39 : decode cX6_boxValue 39 = .ok (.iconst 1, 1) := by decide +kernel
theorem dX6_boxValue_40 : decode cX6_boxValue 40 = .ok (.if_icmp .ne 21, 3) := by decide +kernel
theorem dX6_boxValue_43 : decode cX6_boxValue 43 = .ok (.aload_n 0, 1) := by decide +kernel
theorem dX6_boxValue_44 : decode cX6_boxValue 44 = .ok (.getfield 34, 3) := by decide +kernel
theorem dX6_boxValue_47 : decode cX6_boxValue 47 = .ok (.iload_n 3, 1) := by decide +kernel
theorem dX6_boxValue_48 : decode cX6_boxValue 48 = .ok (.iaload, 1) := by decide +kernel
theorem dX6_boxValue_49 : decode cX6_boxValue 49 = .ok (.iload_n 1, 1) := by decide +kernel
theorem dX6_boxValue_50 : decode cX6_boxValue 50 = .ok (.if_icmp .ne 11, 3) := by decide +kernel
theorem dX6_boxValue_53 : decode cX6_boxValue 53 = .ok (.aload_n 0, 1) := by decide +kernel
theorem dX6_boxValue_54 : decode cX6_boxValue 54 = .ok (.iload_n 3, 1) := by decide +kernel
theorem dX6_boxValue_55 : decode cX6_boxValue 55 = .ok (.invokevirtual 151, 3) := by decide +kernel
theorem dX6_boxValue_58 : decode cX6_boxValue 58 = .ok (.goto 4, 3) := by decide +kernel
theorem dX6_boxValue_61 : decode cX6_boxValue 61 = .ok (.iconst 0, 1) := by decide +kernel
theorem dX6_boxValue_62 : decode cX6_boxValue 62 = .ok (.iadd, 1) := by decide +kernel
theorem dX6_boxValue_63 : decode cX6_boxValue 63 = .ok (.istore_n 2, 1) := by decide +kernel
theorem dX6_boxValue_64 : decode cX6_boxValue 64 = .ok (.iinc 3 1, 3) := by decide +kernel
theorem dX6_boxValue_67 : decode cX6_boxValue 67 = .ok (.goto (-43), 3) := by decide +kernel
theorem dX6_boxValue_70 : decode cX6_boxValue 70 = .ok (.aload_n 0, 1) := by decide +kernel
theorem dX6_boxValue_71 : decode cX6_boxValue 71 = .ok (.getfield 58, 3) := by decide +kernel
theorem dX6_boxValue_74 : decode cX6_boxValue 74 = .ok (.iload_n 1, 1) := by decide +kernel
theorem dX6_boxValue_75 : decode cX6_boxValue 75 = .ok (.baload, 1) := by decide +kernel
theorem dX6_boxValue_76 : decode cX6_boxValue 76 = .ok (.ifCond .eq 7, 3) := by decide +kernel
theorem dX6_boxValue_79 : decode cX6_boxValue 79 = .ok (.iconst (-1), 1) := by decide +kernel
theorem dX6_boxValue_80 : decode cX6_boxValue 80 = .ok (.goto 4, 3) := by decide +kernel
theorem dX6_boxValue_83 : decode cX6_boxValue 83 = .ok (.iload_n 2, 1) := by decide +kernel
theorem dX6_boxValue_84 : decode cX6_boxValue 84 = .ok (.ireturn, 1) := by decide +kernel
theorem dX6_offered_0 : decode cX6_offered 0 = .ok (.aload_n 0, 1) := by decide +kernel
theorem dX6_offered_1 : decode cX6_offered 1 = .ok (.iload_n 1, 1) := by decide +kernel
theorem dX6_offered_2 : decode cX6_offered 2 = .ok (.invokestatic 174, 3) := by decide +kernel
theorem dX6_offered_5 : decode cX6_offered 5 = .ok (.invokevirtual 148, 3) := by decide +kernel
theorem dX6_offered_8 : decode cX6_offered 8 = .ok (.ifCond .eq 12, 3) := by decide +kernel
theorem dX6_offered_11 : decode cX6_offered 11 = .ok (.aload_n 0, 1) := by decide +kernel
theorem dX6_offered_12 : decode cX6_offered 12 = .ok (.getfield 62, 3) := by decide +kernel
theorem dX6_offered_15 : decode cX6_offered 15 = .ok (.iload_n 1, 1) := by decide +kernel
theorem dX6_offered_16 : decode cX6_offered 16 = .ok (.iaload, 1) := by decide +kernel
theorem dX6_offered_17 : decode cX6_offered 17 = .ok (.goto 4, 3) := by decide +kernel
theorem dX6_offered_20 : decode cX6_offered 20 = .ok (.iconst 0, 1) := by decide +kernel
theorem dX6_offered_21 : decode cX6_offered 21 = .ok (.ireturn, 1) := by decide +kernel
theorem dX6_take_0 : decode cX6_take 0 = .ok (.iload_n 1, 1) := by decide +kernel
theorem dX6_take_1 : decode cX6_take 1 = .ok (.invokestatic 174, 3) := by decide +kernel
theorem dX6_take_4 : decode cX6_take 4 = .ok (.istore_n 3, 1) := by decide +kernel
theorem dX6_take_5 : decode cX6_take 5 = .ok (.aload_n 0, 1) := by decide +kernel
theorem dX6_take_6 : decode cX6_take 6 = .ok (.iload_n 3, 1) := by decide +kernel
theorem dX6_take_7 : decode cX6_take 7 = .ok (.iload_n 3, 1) := by decide +kernel
theorem dX6_take_8 : decode cX6_take 8 = .ok (.ifCond .eq 17, 3) := by decide +kernel
theorem dX6_take_11 : decode cX6_take 11 = .ok (.aload_n 0, 1) := by decide +kernel
theorem dX6_take_12 : decode cX6_take 12 = .ok (.getfield 62, 3) := by decide +kernel
theorem dX6_take_15 : decode cX6_take 15 = .ok (.iload_n 1, 1) := by decide +kernel
theorem dX6_take_16 : decode cX6_take 16 = .ok (.iaload, 1) := by decide +kernel
theorem dX6_take_17 : decode cX6_take 17 = .ok (.iconst (-1), 1) := by decide +kernel
theorem dX6_take_18 : decode cX6_take 18 = .ok (.if_icmp .eq 7, 3) := by decide +kernel
theorem dX6_take_21 : decode cX6_take 21 = .ok (.iconst 1, 1) := by decide +kernel
theorem dX6_take_22 : decode cX6_take 22 = .ok (.goto 4, 3) := by decide +kernel
theorem dX6_take_25 : decode cX6_take 25 = .ok (.iconst 0, 1) := by decide +kernel
theorem dX6_take_26 : decode cX6_take 26 = .ok (.invokevirtual 124, 3) := by decide +kernel
theorem dX6_take_29 : decode cX6_take 29 = .ok (.ifCond .ne 5, 3) := by decide +kernel
theorem dX6_take_32 : decode cX6_take 32 = .ok (.iconst 0, 1) := by decide +kernel
theorem dX6_take_33 : decode cX6_take 33 = .ok (.ireturn, 1) := by decide +kernel
theorem dX6_take_34 : decode cX6_take 34 = .ok (.iconst 0, 1) := by decide +kernel
theorem dX6_take_35 : decode cX6_take 35 = .ok (.istore 4, 2) := by decide +kernel
theorem dX6_take_37 : decode cX6_take 37 = .ok (.iload 4, 2) := by decide +kernel
theorem dX6_take_39 : decode cX6_take 39 = .ok (.aload_n 0, 1) := by decide +kernel
theorem dX6_take_40 : decode cX6_take 40 = .ok (.getfield 111, 3) := by decide +kernel
theorem dX6_take_43 : decode cX6_take 43 = .ok (.if_icmp .ge 76, 3) := by decide +kernel
theorem dX6_take_46 : decode cX6_take 46 = .ok (.aload_n 0, 1) := by decide +kernel
theorem dX6_take_47 : decode cX6_take 47 = .ok (.getfield 28, 3) := by decide +kernel
theorem dX6_take_50 : decode cX6_take 50 = .ok (.iload 4, 2) := by decide +kernel
theorem dX6_take_52 : decode cX6_take 52 = .ok (.iaload, 1) := by decide +kernel
theorem dX6_take_53 : decode cX6_take 53 = .ok (.iconst 1, 1) := by decide +kernel
theorem dX6_take_54 : decode cX6_take 54 = .ok (.if_icmp .ne 59, 3) := by decide +kernel
theorem dX6_take_57 : decode cX6_take 57 = .ok (.aload_n 0, 1) := by decide +kernel
theorem dX6_take_58 : decode cX6_take 58 = .ok (.getfield 34, 3) := by decide +kernel
theorem dX6_take_61 : decode cX6_take 61 = .ok (.iload 4, 2) := by decide +kernel
theorem dX6_take_63 : decode cX6_take 63 = .ok (.iaload, 1) := by decide +kernel
theorem dX6_take_64 : decode cX6_take 64 = .ok (.aload_n 0, 1) := by decide +kernel
theorem dX6_take_65 : decode cX6_take 65 = .ok (.getfield 62, 3) := by decide +kernel
theorem dX6_take_68 : decode cX6_take 68 = .ok (.iload_n 1, 1) := by decide +kernel
theorem dX6_take_69 : decode cX6_take 69 = .ok (.iaload, 1) := by decide +kernel
theorem dX6_take_70 : decode cX6_take 70 = .ok (.if_icmp .ne 43, 3) := by decide +kernel
theorem dX6_take_73 : decode cX6_take 73 = .ok (.aload_n 0, 1) := by decide +kernel
theorem dX6_take_74 : decode cX6_take 74 = .ok (.getfield 28, 3) := by decide +kernel
theorem dX6_take_77 : decode cX6_take 77 = .ok (.iload 4, 2) := by decide +kernel
theorem dX6_take_79 : decode cX6_take 79 = .ok (.iload_n 2, 1) := by decide +kernel
theorem dX6_take_80 : decode cX6_take 80 = .ok (.ifCond .eq 7, 3) := by decide +kernel
theorem dX6_take_83 : decode cX6_take 83 = .ok (.iconst 2, 1) := by decide +kernel
theorem dX6_take_84 : decode cX6_take 84 = .ok (.goto 4, 3) := by decide +kernel
theorem dX6_take_87 : decode cX6_take 87 = .ok (.iconst 0, 1) := by decide +kernel
theorem dX6_take_88 : decode cX6_take 88 = .ok (.iastore, 1) := by decide +kernel
theorem dX6_take_89 : decode cX6_take 89 = .ok (.aload_n 0, 1) := by decide +kernel
theorem dX6_take_90 : decode cX6_take 90 = .ok (.getfield 31, 3) := by decide +kernel
theorem dX6_take_93 : decode cX6_take 93 = .ok (.iload 4, 2) := by decide +kernel
theorem dX6_take_95 : decode cX6_take 95 = .ok (.iload_n 2, 1) := by decide +kernel
theorem dX6_take_96 : decode cX6_take 96 = .ok (.ifCond .eq 7, 3) := by decide +kernel
theorem dX6_take_99 : decode cX6_take 99 = .ok (.iload_n 1, 1) := by decide +kernel
theorem dX6_take_100 : decode cX6_take 100 = .ok (.goto 4, 3) := by decide +kernel
theorem dX6_take_103 : decode cX6_take 103 = .ok (.iconst (-1), 1) := by decide +kernel
theorem dX6_take_104 : decode cX6_take 104 = .ok (.iastore, 1) := by decide +kernel
theorem dX6_take_105 : decode cX6_take 105 = .ok (.aload_n 0, 1) := by decide +kernel
theorem dX6_take_106 : decode cX6_take 106 = .ok (.getfield 34, 3) := by decide +kernel
theorem dX6_take_109 : decode cX6_take 109 = .ok (.iload 4, 2) := by decide +kernel
theorem dX6_take_111 : decode cX6_take 111 = .ok (.iconst (-1), 1) := by decide +kernel
theorem dX6_take_112 : decode cX6_take 112 = .ok (.iastore, 1) := by decide +kernel
theorem dX6_take_113 : decode cX6_take 113 = .ok (.iinc 4 1, 3) := by decide +kernel
theorem dX6_take_116 : decode cX6_take 116 = .ok (.goto (-79), 3) := by decide +kernel
theorem dX6_take_119 : decode cX6_take 119 = .ok (.aload_n 0, 1) := by decide +kernel
theorem dX6_take_120 : decode cX6_take 120 = .ok (.getfield 58, 3) := by decide +kernel
theorem dX6_take_123 : decode cX6_take 123 = .ok (.aload_n 0, 1) := by decide +kernel
theorem dX6_take_124 : decode cX6_take 124 = .ok (.getfield 62, 3) := by decide +kernel
theorem dX6_take_127 : decode cX6_take 127 = .ok (.iload_n 1, 1) := by decide +kernel
theorem dX6_take_128 : decode cX6_take 128 = .ok (.iaload, 1) := by decide +kernel
theorem dX6_take_129 : decode cX6_take 129 = .ok (.iconst 1, 1) := by decide +kernel
theorem dX6_take_130 : decode cX6_take 130 = .ok (.bastore, 1) := by decide +kernel
theorem dX6_take_131 : decode cX6_take 131 = .ok (.aload_n 0, 1) := by decide +kernel
theorem dX6_take_132 : decode cX6_take 132 = .ok (.getfield 62, 3) := by decide +kernel
theorem dX6_take_135 : decode cX6_take 135 = .ok (.iload_n 1, 1) := by decide +kernel
theorem dX6_take_136 : decode cX6_take 136 = .ok (.iconst (-1), 1) := by decide +kernel
theorem dX6_take_137 : decode cX6_take 137 = .ok (.iastore, 1) := by decide +kernel
theorem dX6_take_138 : decode cX6_take 138 = .ok (.aload_n 0, 1) := by decide +kernel
theorem dX6_take_139 : decode cX6_take 139 = .ok (.getfield 65, 3) := by decide +kernel
theorem dX6_take_142 : decode cX6_take 142 = .ok (.iload_n 1, 1) := by decide +kernel
theorem dX6_take_143 : decode cX6_take 143 = .ok (.aload_n 0, 1) := by decide +kernel
theorem dX6_take_144 : decode cX6_take 144 = .ok (.getfield 65, 3) := by decide +kernel
theorem dX6_take_147 : decode cX6_take 147 = .ok (.iload_n 1, 1) := by decide +kernel
theorem dX6_take_148 : decode cX6_take 148 = .ok (.iaload, 1) := by decide +kernel
theorem dX6_take_149 : decode cX6_take 149 = .ok (.iload_n 2, 1) := by decide +kernel
theorem dX6_take_150 : decode cX6_take 150 = .ok (.ifCond .eq 7, 3) := by decide +kernel
theorem dX6_take_153 : decode cX6_take 153 = .ok (.iconst 5, 1) := by decide +kernel
theorem dX6_take_154 : decode cX6_take 154 = .ok (.goto 5, 3) := by decide +kernel
theorem dX6_take_157 : decode cX6_take 157 = .ok (.bipush (-10), 2) := by decide +kernel
theorem dX6_take_159 : decode cX6_take 159 = .ok (.iadd, 1) := by decide +kernel
theorem dX6_take_160 : decode cX6_take 160 = .ok (.bipush 100, 2) := by decide +kernel
theorem dX6_take_162 : decode cX6_take 162 = .ok (.invokestatic 135, 3) := by decide +kernel
theorem dX6_take_165 : decode cX6_take 165 = .ok (.iastore, 1) := by decide +kernel
theorem dX6_take_166 : decode cX6_take 166 = .ok (.aload_n 0, 1) := by decide +kernel
theorem dX6_take_167 : decode cX6_take 167 = .ok (.getfield 65, 3) := by decide +kernel
theorem dX6_take_170 : decode cX6_take 170 = .ok (.iload_n 1, 1) := by decide +kernel
theorem dX6_take_171 : decode cX6_take 171 = .ok (.iaload, 1) := by decide +kernel
theorem dX6_take_172 : decode cX6_take 172 = .ok (.ireturn, 1) := by decide +kernel
theorem dX6_tender_0 : decode cX6_tender 0 = .ok (.aload_n 0, 1) := by decide +kernel
theorem dX6_tender_1 : decode cX6_tender 1 = .ok (.iload_n 1, 1) := by decide +kernel
theorem dX6_tender_2 : decode cX6_tender 2 = .ok (.invokevirtual 131, 3) := by decide +kernel
theorem dX6_tender_5 : decode cX6_tender 5 = .ok (.istore_n 3, 1) := by decide +kernel
theorem dX6_tender_6 : decode cX6_tender 6 = .ok (.aload_n 0, 1) := by decide +kernel
theorem dX6_tender_7 : decode cX6_tender 7 = .ok (.iload_n 3, 1) := by decide +kernel
theorem dX6_tender_8 : decode cX6_tender 8 = .ok (.iload_n 2, 1) := by decide +kernel
theorem dX6_tender_9 : decode cX6_tender 9 = .ok (.iconst 0, 1) := by decide +kernel
theorem dX6_tender_10 : decode cX6_tender 10 = .ok (.ldc 177, 2) := by decide +kernel
theorem dX6_tender_12 : decode cX6_tender 12 = .ok (.invokestatic 114, 3) := by decide +kernel
theorem dX6_tender_15 : decode cX6_tender 15 = .ok (.iload_n 3, 1) := by decide +kernel
theorem dX6_tender_16 : decode cX6_tender 16 = .ok (.ifCond .eq 24, 3) := by decide +kernel
theorem dX6_tender_19 : decode cX6_tender 19 = .ok (.aload_n 0, 1) := by decide +kernel
theorem dX6_tender_20 : decode cX6_tender 20 = .ok (.getfield 28, 3) := by decide +kernel
theorem dX6_tender_23 : decode cX6_tender 23 = .ok (.iload_n 1, 1) := by decide +kernel
theorem dX6_tender_24 : decode cX6_tender 24 = .ok (.iaload, 1) := by decide +kernel
theorem dX6_tender_25 : decode cX6_tender 25 = .ok (.ifCond .ne 15, 3) := by decide +kernel
theorem dX6_tender_28 : decode cX6_tender 28 = .ok (.aload_n 0, 1) := by decide +kernel
theorem dX6_tender_29 : decode cX6_tender 29 = .ok (.getfield 68, 3) := by decide +kernel
theorem dX6_tender_32 : decode cX6_tender 32 = .ok (.iconst (-1), 1) := by decide +kernel
theorem dX6_tender_33 : decode cX6_tender 33 = .ok (.if_icmp .ne 7, 3) := by decide +kernel
theorem dX6_tender_36 : decode cX6_tender 36 = .ok (.iconst 1, 1) := by decide +kernel
theorem dX6_tender_37 : decode cX6_tender 37 = .ok (.goto 4, 3) := by decide +kernel
theorem dX6_tender_40 : decode cX6_tender 40 = .ok (.iconst 0, 1) := by decide +kernel
theorem dX6_tender_41 : decode cX6_tender 41 = .ok (.invokevirtual 128, 3) := by decide +kernel
theorem dX6_tender_44 : decode cX6_tender 44 = .ok (.ifCond .eq 36, 3) := by decide +kernel
theorem dX6_tender_47 : decode cX6_tender 47 = .ok (.aload_n 0, 1) := by decide +kernel
theorem dX6_tender_48 : decode cX6_tender 48 = .ok (.iload_n 1, 1) := by decide +kernel
theorem dX6_tender_49 : decode cX6_tender 49 = .ok (.putfield 68, 3) := by decide +kernel
theorem dX6_tender_52 : decode cX6_tender 52 = .ok (.aload_n 0, 1) := by decide +kernel
theorem dX6_tender_53 : decode cX6_tender 53 = .ok (.iload_n 2, 1) := by decide +kernel
theorem dX6_tender_54 : decode cX6_tender 54 = .ok (.putfield 178, 3) := by decide +kernel
theorem dX6_tender_57 : decode cX6_tender 57 = .ok (.iconst 0, 1) := by decide +kernel
theorem dX6_tender_58 : decode cX6_tender 58 = .ok (.istore 4, 2) := by decide +kernel
theorem dX6_tender_60 : decode cX6_tender 60 = .ok (.iload 4, 2) := by decide +kernel
theorem dX6_tender_62 : decode cX6_tender 62 = .ok (.iconst 5, 1) := by decide +kernel
theorem dX6_tender_63 : decode cX6_tender 63 = .ok (.if_icmp .ge 17, 3) := by decide +kernel
theorem dX6_tender_66 : decode cX6_tender 66 = .ok (.aload_n 0, 1) := by decide +kernel
theorem dX6_tender_67 : decode cX6_tender 67 = .ok (.getfield 72, 3) := by decide +kernel
theorem dX6_tender_70 : decode cX6_tender 70 = .ok (.iload 4, 2) := by decide +kernel
theorem dX6_tender_72 : decode cX6_tender 72 = .ok (.iconst (-1), 1) := by decide +kernel
theorem dX6_tender_73 : decode cX6_tender 73 = .ok (.iastore, 1) := by decide +kernel
theorem dX6_tender_74 : decode cX6_tender 74 = .ok (.iinc 4 1, 3) := by decide +kernel
theorem dX6_tender_77 : decode cX6_tender 77 = .ok (.goto (-17), 3) := by decide +kernel
theorem dX6_tender_80 : decode cX6_tender 80 = .ok (.return_, 1) := by decide +kernel
theorem dX6_bid_0 : decode cX6_bid 0 = .ok (.aload_n 0, 1) := by decide +kernel
theorem dX6_bid_1 : decode cX6_bid 1 = .ok (.iload_n 1, 1) := by decide +kernel
theorem dX6_bid_2 : decode cX6_bid 2 = .ok (.invokestatic 174, 3) := by decide +kernel
theorem dX6_bid_5 : decode cX6_bid 5 = .ok (.iload_n 2, 1) := by decide +kernel
theorem dX6_bid_6 : decode cX6_bid 6 = .ok (.iconst 1, 1) := by decide +kernel
theorem dX6_bid_7 : decode cX6_bid 7 = .ok (.ldc 177, 2) := by decide +kernel
theorem dX6_bid_9 : decode cX6_bid 9 = .ok (.invokestatic 114, 3) := by decide +kernel
theorem dX6_bid_12 : decode cX6_bid 12 = .ok (.aload_n 0, 1) := by decide +kernel
theorem dX6_bid_13 : decode cX6_bid 13 = .ok (.getfield 68, 3) := by decide +kernel
theorem dX6_bid_16 : decode cX6_bid 16 = .ok (.iconst (-1), 1) := by decide +kernel
theorem dX6_bid_17 : decode cX6_bid 17 = .ok (.if_icmp .eq 7, 3) := by decide +kernel
theorem dX6_bid_20 : decode cX6_bid 20 = .ok (.iconst 1, 1) := by decide +kernel
theorem dX6_bid_21 : decode cX6_bid 21 = .ok (.goto 4, 3) := by decide +kernel
theorem dX6_bid_24 : decode cX6_bid 24 = .ok (.iconst 0, 1) := by decide +kernel
theorem dX6_bid_25 : decode cX6_bid 25 = .ok (.invokevirtual 128, 3) := by decide +kernel
theorem dX6_bid_28 : decode cX6_bid 28 = .ok (.ifCond .ne 5, 3) := by decide +kernel
theorem dX6_bid_31 : decode cX6_bid 31 = .ok (.iconst 0, 1) := by decide +kernel
theorem dX6_bid_32 : decode cX6_bid 32 = .ok (.ireturn, 1) := by decide +kernel
theorem dX6_bid_33 : decode cX6_bid 33 = .ok (.aload_n 0, 1) := by decide +kernel
theorem dX6_bid_34 : decode cX6_bid 34 = .ok (.getfield 72, 3) := by decide +kernel
theorem dX6_bid_37 : decode cX6_bid 37 = .ok (.iload_n 1, 1) := by decide +kernel
theorem dX6_bid_38 : decode cX6_bid 38 = .ok (.iaload, 1) := by decide +kernel
theorem dX6_bid_39 : decode cX6_bid 39 = .ok (.istore_n 3, 1) := by decide +kernel
theorem dX6_bid_40 : decode cX6_bid 40 = .ok (.aload_n 0, 1) := by decide +kernel
theorem dX6_bid_41 : decode cX6_bid 41 = .ok (.getfield 72, 3) := by decide +kernel
theorem dX6_bid_44 : decode cX6_bid 44 = .ok (.iload_n 1, 1) := by decide +kernel
theorem dX6_bid_45 : decode cX6_bid 45 = .ok (.iload_n 2, 1) := by decide +kernel
theorem dX6_bid_46 : decode cX6_bid 46 = .ok (.iastore, 1) := by decide +kernel
theorem dX6_bid_47 : decode cX6_bid 47 = .ok (.iload_n 3, 1) := by decide +kernel
theorem dX6_bid_48 : decode cX6_bid 48 = .ok (.ireturn, 1) := by decide +kernel
theorem dX6_close_0 : decode cX6_close 0 = .ok (.aload_n 0, 1) := by decide +kernel
theorem dX6_close_1 : decode cX6_close 1 = .ok (.aload_n 0, 1) := by decide +kernel
theorem dX6_close_2 : decode cX6_close 2 = .ok (.getfield 68, 3) := by decide +kernel
theorem dX6_close_5 : decode cX6_close 5 = .ok (.iconst (-1), 1) := by decide +kernel
theorem dX6_close_6 : decode cX6_close 6 = .ok (.if_icmp .eq 7, 3) := by decide +kernel
theorem dX6_close_9 : decode cX6_close 9 = .ok (.iconst 1, 1) := by decide +kernel
theorem dX6_close_10 : decode cX6_close 10 = .ok (.goto 4, 3) := by decide +kernel
theorem dX6_close_13 : decode cX6_close 13 = .ok (.iconst 0, 1) := by decide +kernel
theorem dX6_close_14 : decode cX6_close 14 = .ok (.invokevirtual 148, 3) := by decide +kernel
theorem dX6_close_17 : decode cX6_close 17 = .ok (.ifCond .ne 5, 3) := by decide +kernel
theorem dX6_close_20 : decode cX6_close 20 = .ok (.iconst 0, 1) := by decide +kernel
theorem dX6_close_21 : decode cX6_close 21 = .ok (.ireturn, 1) := by decide +kernel
theorem dX6_close_22 : decode cX6_close 22 = .ok (.iconst (-1), 1) := by decide +kernel
theorem dX6_close_23 : decode cX6_close 23 = .ok (.istore_n 1, 1) := by decide +kernel
theorem dX6_close_24 : decode cX6_close 24 = .ok (.iconst 0, 1) := by decide +kernel
theorem dX6_close_25 : decode cX6_close 25 = .ok (.istore_n 2, 1) := by decide +kernel
theorem dX6_close_26 : decode cX6_close 26 = .ok (.iload_n 2, 1) := by decide +kernel
theorem dX6_close_27 : decode cX6_close 27 = .ok (.iconst 5, 1) := by decide +kernel
theorem dX6_close_28 : decode cX6_close 28 = .ok (.if_icmp .ge 98, 3) := by decide +kernel
theorem dX6_close_31 : decode cX6_close 31 = .ok (.iload_n 1, 1) := by decide +kernel
theorem dX6_close_32 : decode cX6_close 32 = .ok (.iconst (-1), 1) := by decide +kernel
theorem dX6_close_33 : decode cX6_close 33 = .ok (.if_icmp .eq 48, 3) := by decide +kernel
theorem dX6_close_36 : decode cX6_close 36 = .ok (.aload_n 0, 1) := by decide +kernel
theorem dX6_close_37 : decode cX6_close 37 = .ok (.getfield 72, 3) := by decide +kernel
theorem dX6_close_40 : decode cX6_close 40 = .ok (.iload_n 2, 1) := by decide +kernel
theorem dX6_close_41 : decode cX6_close 41 = .ok (.iaload, 1) := by decide +kernel
theorem dX6_close_42 : decode cX6_close 42 = .ok (.aload_n 0, 1) := by decide +kernel
theorem dX6_close_43 : decode cX6_close 43 = .ok (.getfield 72, 3) := by decide +kernel
theorem dX6_close_46 : decode cX6_close 46 = .ok (.iload_n 1, 1) := by decide +kernel
theorem dX6_close_47 : decode cX6_close 47 = .ok (.iaload, 1) := by decide +kernel
theorem dX6_close_48 : decode cX6_close 48 = .ok (.if_icmp .gt 33, 3) := by decide +kernel
theorem dX6_close_51 : decode cX6_close 51 = .ok (.aload_n 0, 1) := by decide +kernel
theorem dX6_close_52 : decode cX6_close 52 = .ok (.getfield 72, 3) := by decide +kernel
theorem dX6_close_55 : decode cX6_close 55 = .ok (.iload_n 2, 1) := by decide +kernel
theorem dX6_close_56 : decode cX6_close 56 = .ok (.iaload, 1) := by decide +kernel
theorem dX6_close_57 : decode cX6_close 57 = .ok (.aload_n 0, 1) := by decide +kernel
theorem dX6_close_58 : decode cX6_close 58 = .ok (.getfield 72, 3) := by decide +kernel
theorem dX6_close_61 : decode cX6_close 61 = .ok (.iload_n 1, 1) := by decide +kernel
theorem dX6_close_62 : decode cX6_close 62 = .ok (.iaload, 1) := by decide +kernel
theorem dX6_close_63 : decode cX6_close 63 = .ok (.if_icmp .ne 22, 3) := by decide +kernel
theorem dX6_close_66 : decode cX6_close 66 = .ok (.aload_n 0, 1) := by decide +kernel
theorem dX6_close_67 : decode cX6_close 67 = .ok (.getfield 65, 3) := by decide +kernel
theorem dX6_close_70 : decode cX6_close 70 = .ok (.iload_n 2, 1) := by decide +kernel
theorem dX6_close_71 : decode cX6_close 71 = .ok (.iaload, 1) := by decide +kernel
theorem dX6_close_72 : decode cX6_close 72 = .ok (.aload_n 0, 1) := by decide +kernel
theorem dX6_close_73 : decode cX6_close 73 = .ok (.getfield 65, 3) := by decide +kernel
theorem dX6_close_76 : decode cX6_close 76 = .ok (.iload_n 1, 1) := by decide +kernel
theorem dX6_close_77 : decode cX6_close 77 = .ok (.iaload, 1) := by decide +kernel
theorem dX6_close_78 : decode cX6_close 78 = .ok (.if_icmp .le 7, 3) := by decide +kernel
theorem dX6_close_81 : decode cX6_close 81 = .ok (.iconst 1, 1) := by decide +kernel
theorem dX6_close_82 : decode cX6_close 82 = .ok (.goto 4, 3) := by decide +kernel
theorem dX6_close_85 : decode cX6_close 85 = .ok (.iconst 0, 1) := by decide +kernel
theorem dX6_close_86 : decode cX6_close 86 = .ok (.istore_n 3, 1) := by decide +kernel
theorem dX6_close_87 : decode cX6_close 87 = .ok (.aload_n 0, 1) := by decide +kernel
theorem dX6_close_88 : decode cX6_close 88 = .ok (.getfield 72, 3) := by decide +kernel
theorem dX6_close_91 : decode cX6_close 91 = .ok (.iload_n 2, 1) := by decide +kernel
theorem dX6_close_92 : decode cX6_close 92 = .ok (.iaload, 1) := by decide +kernel
theorem dX6_close_93 : decode cX6_close 93 = .ok (.iconst (-1), 1) := by decide +kernel
theorem dX6_close_94 : decode cX6_close 94 = .ok (.if_icmp .eq 24, 3) := by decide +kernel
theorem dX6_close_97 : decode cX6_close 97 = .ok (.aload_n 0, 1) := by decide +kernel
theorem dX6_close_98 : decode cX6_close 98 = .ok (.getfield 72, 3) := by decide +kernel
theorem dX6_close_101 : decode cX6_close 101 = .ok (.iload_n 2, 1) := by decide +kernel
theorem dX6_close_102 : decode cX6_close 102 = .ok (.iaload, 1) := by decide +kernel
theorem dX6_close_103 : decode cX6_close 103 = .ok (.aload_n 0, 1) := by decide +kernel
theorem dX6_close_104 : decode cX6_close 104 = .ok (.getfield 178, 3) := by decide +kernel
theorem dX6_close_107 : decode cX6_close 107 = .ok (.if_icmp .lt 11, 3) := by decide +kernel
theorem dX6_close_110 : decode cX6_close 110 = .ok (.iload_n 3, 1) := by decide +kernel
theorem dX6_close_111 : decode cX6_close 111 = .ok (.ifCond .eq 7, 3) := by decide +kernel
theorem dX6_close_114 : decode cX6_close 114 = .ok (.iload_n 2, 1) := by decide +kernel
theorem dX6_close_115 : decode cX6_close 115 = .ok (.goto 4, 3) := by decide +kernel
theorem dX6_close_118 : decode cX6_close 118 = .ok (.iload_n 1, 1) := by decide +kernel
theorem dX6_close_119 : decode cX6_close 119 = .ok (.istore_n 1, 1) := by decide +kernel
theorem dX6_close_120 : decode cX6_close 120 = .ok (.iinc 2 1, 3) := by decide +kernel
theorem dX6_close_123 : decode cX6_close 123 = .ok (.goto (-97), 3) := by decide +kernel
theorem dX6_close_126 : decode cX6_close 126 = .ok (.aload_n 0, 1) := by decide +kernel
theorem dX6_close_127 : decode cX6_close 127 = .ok (.getfield 68, 3) := by decide +kernel
theorem dX6_close_130 : decode cX6_close 130 = .ok (.istore_n 2, 1) := by decide +kernel
theorem dX6_close_131 : decode cX6_close 131 = .ok (.aload_n 0, 1) := by decide +kernel
theorem dX6_close_132 : decode cX6_close 132 = .ok (.iconst (-1), 1) := by decide +kernel
theorem dX6_close_133 : decode cX6_close 133 = .ok (.putfield 68, 3) := by decide +kernel
theorem dX6_close_136 : decode cX6_close 136 = .ok (.iload_n 1, 1) := by decide +kernel
theorem dX6_close_137 : decode cX6_close 137 = .ok (.iconst (-1), 1) := by decide +kernel
theorem dX6_close_138 : decode cX6_close 138 = .ok (.if_icmp .ne 5, 3) := by decide +kernel
theorem dX6_close_141 : decode cX6_close 141 = .ok (.iconst (-1), 1) := by decide +kernel
theorem dX6_close_142 : decode cX6_close 142 = .ok (.ireturn, 1) := by decide +kernel
theorem dX6_close_143 : decode cX6_close 143 = .ok (.aload_n 0, 1) := by decide +kernel
theorem dX6_close_144 : decode cX6_close 144 = .ok (.getfield 178, 3) := by decide +kernel
theorem dX6_close_147 : decode cX6_close 147 = .ok (.istore_n 3, 1) := by decide +kernel
theorem dX6_close_148 : decode cX6_close 148 = .ok (.iconst 0, 1) := by decide +kernel
theorem dX6_close_149 : decode cX6_close 149 = .ok (.istore 4, 2) := by decide +kernel
theorem dX6_close_151 : decode cX6_close 151 = .ok (.iload 4, 2) := by decide +kernel
theorem dX6_close_153 : decode cX6_close 153 = .ok (.iconst 5, 1) := by decide +kernel
theorem dX6_close_154 : decode cX6_close 154 = .ok (.if_icmp .ge 38, 3) := by decide +kernel
theorem dX6_close_157 : decode cX6_close 157 = .ok (.iload 4, 2) := by decide +kernel
theorem dX6_close_159 : decode cX6_close 159 = .ok (.iload_n 1, 1) := by decide +kernel
theorem dX6_close_160 : decode cX6_close 160 = .ok (.if_icmp .eq 24, 3) := by decide +kernel
theorem dX6_close_163 : decode cX6_close 163 = .ok (.aload_n 0, 1) := by decide +kernel
theorem dX6_close_164 : decode cX6_close 164 = .ok (.getfield 72, 3) := by decide +kernel
theorem dX6_close_167 : decode cX6_close 167 = .ok (.iload 4, 2) := by decide +kernel
theorem dX6_close_169 : decode cX6_close 169 = .ok (.iaload, 1) := by decide +kernel
theorem dX6_close_170 : decode cX6_close 170 = .ok (.iload_n 3, 1) := by decide +kernel
theorem dX6_close_171 : decode cX6_close 171 = .ok (.if_icmp .le 13, 3) := by decide +kernel
theorem dX6_close_174 : decode cX6_close 174 = .ok (.aload_n 0, 1) := by decide +kernel
theorem dX6_close_175 : decode cX6_close 175 = .ok (.getfield 72, 3) := by decide +kernel
theorem dX6_close_178 : decode cX6_close 178 = .ok (.iload 4, 2) := by decide +kernel
theorem dX6_close_180 : decode cX6_close 180 = .ok (.iaload, 1) := by decide +kernel
theorem dX6_close_181 : decode cX6_close 181 = .ok (.goto 4, 3) := by decide +kernel
theorem dX6_close_184 : decode cX6_close 184 = .ok (.iload_n 3, 1) := by decide +kernel
theorem dX6_close_185 : decode cX6_close 185 = .ok (.istore_n 3, 1) := by decide +kernel
theorem dX6_close_186 : decode cX6_close 186 = .ok (.iinc 4 1, 3) := by decide +kernel
theorem dX6_close_189 : decode cX6_close 189 = .ok (.goto (-38), 3) := by decide +kernel
theorem dX6_close_192 : decode cX6_close 192 = .ok (.aload_n 0, 1) := by decide +kernel
theorem dX6_close_193 : decode cX6_close 193 = .ok (.getfield 37, 3) := by decide +kernel
theorem dX6_close_196 : decode cX6_close 196 = .ok (.iload_n 2, 1) := by decide +kernel
theorem dX6_close_197 : decode cX6_close 197 = .ok (.iload_n 3, 1) := by decide +kernel
theorem dX6_close_198 : decode cX6_close 198 = .ok (.iastore, 1) := by decide +kernel
theorem dX6_close_199 : decode cX6_close 199 = .ok (.aload_n 0, 1) := by decide +kernel
theorem dX6_close_200 : decode cX6_close 200 = .ok (.getfield 31, 3) := by decide +kernel
theorem dX6_close_203 : decode cX6_close 203 = .ok (.iload_n 2, 1) := by decide +kernel
theorem dX6_close_204 : decode cX6_close 204 = .ok (.iload_n 1, 1) := by decide +kernel
theorem dX6_close_205 : decode cX6_close 205 = .ok (.iastore, 1) := by decide +kernel
theorem dX6_close_206 : decode cX6_close 206 = .ok (.aload_n 0, 1) := by decide +kernel
theorem dX6_close_207 : decode cX6_close 207 = .ok (.getfield 28, 3) := by decide +kernel
theorem dX6_close_210 : decode cX6_close 210 = .ok (.iload_n 2, 1) := by decide +kernel
theorem dX6_close_211 : decode cX6_close 211 = .ok (.iconst 2, 1) := by decide +kernel
theorem dX6_close_212 : decode cX6_close 212 = .ok (.iastore, 1) := by decide +kernel
theorem dX6_close_213 : decode cX6_close 213 = .ok (.iload_n 1, 1) := by decide +kernel
theorem dX6_close_214 : decode cX6_close 214 = .ok (.ireturn, 1) := by decide +kernel
theorem dX6_isFree_0 : decode cX6_isFree 0 = .ok (.iload_n 2, 1) := by decide +kernel
theorem dX6_isFree_1 : decode cX6_isFree 1 = .ok (.iconst 0, 1) := by decide +kernel
theorem dX6_isFree_2 : decode cX6_isFree 2 = .ok (.bipush 11, 2) := by decide +kernel
theorem dX6_isFree_4 : decode cX6_isFree 4 = .ok (.invokestatic 114, 3) := by decide +kernel
theorem dX6_isFree_7 : decode cX6_isFree 7 = .ok (.ifCond .eq 20, 3) := by decide +kernel
theorem dX6_isFree_10 : decode cX6_isFree 10 = .ok (.aload_n 0, 1) := by decide +kernel
theorem dX6_isFree_11 : decode cX6_isFree 11 = .ok (.getfield 25, 3) := by decide +kernel
theorem dX6_isFree_14 : decode cX6_isFree 14 = .ok (.iload_n 1, 1) := by decide +kernel
theorem dX6_isFree_15 : decode cX6_isFree 15 = .ok (.iaload, 1) := by decide +kernel
theorem dX6_isFree_16 : decode cX6_isFree 16 = .ok (.iload_n 2, 1) := by decide +kernel
theorem dX6_isFree_17 : decode cX6_isFree 17 = .ok (.ishr, 1) := by decide +kernel
theorem dX6_isFree_18 : decode cX6_isFree 18 = .ok (.iconst 1, 1) := by decide +kernel
theorem dX6_isFree_19 : decode cX6_isFree 19 = .ok (.iand, 1) := by decide +kernel
theorem dX6_isFree_20 : decode cX6_isFree 20 = .ok (.ifCond .ne 7, 3) := by decide +kernel
theorem dX6_isFree_23 : decode cX6_isFree 23 = .ok (.iconst 1, 1) := by decide +kernel
theorem dX6_isFree_24 : decode cX6_isFree 24 = .ok (.goto 4, 3) := by decide +kernel
theorem dX6_isFree_27 : decode cX6_isFree 27 = .ok (.iconst 0, 1) := by decide +kernel
theorem dX6_isFree_28 : decode cX6_isFree 28 = .ok (.ireturn, 1) := by decide +kernel
theorem dX6_rowAt_0 : decode cX6_rowAt 0 = .ok (.iconst 0, 1) := by decide +kernel
theorem dX6_rowAt_1 : decode cX6_rowAt 1 = .ok (.istore_n 3, 1) := by decide +kernel
theorem dX6_rowAt_2 : decode cX6_rowAt 2 = .ok (.aload_n 0, 1) := by decide +kernel
theorem dX6_rowAt_3 : decode cX6_rowAt 3 = .ok (.iload_n 1, 1) := by decide +kernel
theorem dX6_rowAt_4 : decode cX6_rowAt 4 = .ok (.iload_n 2, 1) := by decide +kernel
theorem dX6_rowAt_5 : decode cX6_rowAt 5 = .ok (.iload_n 3, 1) := by decide +kernel
theorem dX6_rowAt_6 : decode cX6_rowAt 6 = .ok (.iadd, 1) := by decide +kernel
theorem dX6_rowAt_7 : decode cX6_rowAt 7 = .ok (.invokevirtual 181, 3) := by decide +kernel
theorem dX6_rowAt_10 : decode cX6_rowAt 10 = .ok (.ifCond .eq 9, 3) := by decide +kernel
theorem dX6_rowAt_13 : decode cX6_rowAt 13 = .ok (.iinc 3 1, 3) := by decide +kernel
theorem dX6_rowAt_16 : decode cX6_rowAt 16 = .ok (.goto (-14), 3) := by decide +kernel
theorem dX6_rowAt_19 : decode cX6_rowAt 19 = .ok (.aload_n 0, 1) := by decide +kernel
theorem dX6_rowAt_20 : decode cX6_rowAt 20 = .ok (.iload_n 1, 1) := by decide +kernel
theorem dX6_rowAt_21 : decode cX6_rowAt 21 = .ok (.iload_n 2, 1) := by decide +kernel
theorem dX6_rowAt_22 : decode cX6_rowAt 22 = .ok (.iconst 1, 1) := by decide +kernel
theorem dX6_rowAt_23 : decode cX6_rowAt 23 = .ok (.isub, 1) := by decide +kernel
theorem dX6_rowAt_24 : decode cX6_rowAt 24 = .ok (.invokevirtual 181, 3) := by decide +kernel
theorem dX6_rowAt_27 : decode cX6_rowAt 27 = .ok (.ifCond .ne 8, 3) := by decide +kernel
theorem dX6_rowAt_30 : decode cX6_rowAt 30 = .ok (.iload_n 3, 1) := by decide +kernel
theorem dX6_rowAt_31 : decode cX6_rowAt 31 = .ok (.iconst 2, 1) := by decide +kernel
theorem dX6_rowAt_32 : decode cX6_rowAt 32 = .ok (.if_icmp .ge 7, 3) := by decide +kernel
theorem dX6_rowAt_35 : decode cX6_rowAt 35 = .ok (.iconst 0, 1) := by decide +kernel
theorem dX6_rowAt_36 : decode cX6_rowAt 36 = .ok (.goto 4, 3) := by decide +kernel
theorem dX6_rowAt_39 : decode cX6_rowAt 39 = .ok (.iload_n 3, 1) := by decide +kernel
theorem dX6_rowAt_40 : decode cX6_rowAt 40 = .ok (.ireturn, 1) := by decide +kernel
theorem dX6_planOf_0 : decode cX6_planOf 0 = .ok (.iconst 0, 1) := by decide +kernel
theorem dX6_planOf_1 : decode cX6_planOf 1 = .ok (.istore_n 2, 1) := by decide +kernel
theorem dX6_planOf_2 : decode cX6_planOf 2 = .ok (.iconst 0, 1) := by decide +kernel
theorem dX6_planOf_3 : decode cX6_planOf 3 = .ok (.istore_n 3, 1) := by decide +kernel
theorem dX6_planOf_4 : decode cX6_planOf 4 = .ok (.iload_n 3, 1) := by decide +kernel
theorem dX6_planOf_5 : decode cX6_planOf 5 = .ok (.bipush 12, 2) := by decide +kernel
theorem dX6_planOf_7 : decode cX6_planOf 7 = .ok (.if_icmp .ge 25, 3) := by decide +kernel
theorem dX6_planOf_10 : decode cX6_planOf 10 = .ok (.iload_n 2, 1) := by decide +kernel
theorem dX6_planOf_11 : decode cX6_planOf 11 = .ok (.aload_n 0, 1) := by decide +kernel
theorem dX6_planOf_12 : decode cX6_planOf 12 = .ok (.iload_n 1, 1) := by decide +kernel
theorem dX6_planOf_13 : decode cX6_planOf 13 = .ok (.iload_n 3, 1) := by decide +kernel
theorem dX6_planOf_14 : decode cX6_planOf 14 = .ok (.invokevirtual 185, 3) := by decide +kernel
theorem dX6_planOf_17 : decode cX6_planOf 17 = .ok (.aload_n 0, 1) := by decide +kernel
theorem dX6_planOf_18 : decode cX6_planOf 18 = .ok (.iload_n 1, 1) := by decide +kernel
theorem dX6_planOf_19 : decode cX6_planOf 19 = .ok (.iload_n 3, 1) := by decide +kernel
theorem dX6_planOf_20 : decode cX6_planOf 20 = .ok (.invokevirtual 185, 3) := by decide +kernel
theorem dX6_planOf_23 : decode cX6_planOf 23 = .ok (.imul, 1) := by decide +kernel
theorem dX6_planOf_24 : decode cX6_planOf 24 = .ok (.iadd, 1) := by decide +kernel
theorem dX6_planOf_25 : decode cX6_planOf 25 = .ok (.istore_n 2, 1) := by decide +kernel
theorem dX6_planOf_26 : decode cX6_planOf 26 = .ok (.iinc 3 1, 3) := by decide +kernel
theorem dX6_planOf_29 : decode cX6_planOf 29 = .ok (.goto (-25), 3) := by decide +kernel
theorem dX6_planOf_32 : decode cX6_planOf 32 = .ok (.iload_n 2, 1) := by decide +kernel
theorem dX6_planOf_33 : decode cX6_planOf 33 = .ok (.ireturn, 1) := by decide +kernel
theorem dX6_plan_0 : decode cX6_plan 0 = .ok (.aload_n 0, 1) := by decide +kernel
theorem dX6_plan_1 : decode cX6_plan 1 = .ok (.aload_n 0, 1) := by decide +kernel
theorem dX6_plan_2 : decode cX6_plan 2 = .ok (.iload_n 1, 1) := by decide +kernel
theorem dX6_plan_3 : decode cX6_plan 3 = .ok (.invokevirtual 131, 3) := by decide +kernel
theorem dX6_plan_6 : decode cX6_plan 6 = .ok (.invokevirtual 148, 3) := by decide +kernel
theorem dX6_plan_9 : decode cX6_plan 9 = .ok (.ifCond .eq 11, 3) := by decide +kernel
theorem dX6_plan_12 : decode cX6_plan 12 = .ok (.aload_n 0, 1) := by decide +kernel
theorem dX6_plan_13 : decode cX6_plan 13 = .ok (.iload_n 1, 1) := by decide +kernel
theorem dX6_plan_14 : decode cX6_plan 14 = .ok (.invokevirtual 188, 3) := by decide +kernel
theorem dX6_plan_17 : decode cX6_plan 17 = .ok (.goto 4, 3) := by decide +kernel
theorem dX6_plan_20 : decode cX6_plan 20 = .ok (.iconst 0, 1) := by decide +kernel
theorem dX6_plan_21 : decode cX6_plan 21 = .ok (.ireturn, 1) := by decide +kernel
theorem dX6_planAnew_0 : decode cX6_planAnew 0 = .ok (.aload_n 0, 1) := by decide +kernel
theorem dX6_planAnew_1 : decode cX6_planAnew 1 = .ok (.aload_n 0, 1) := by decide +kernel
theorem dX6_planAnew_2 : decode cX6_planAnew 2 = .ok (.iload_n 1, 1) := by decide +kernel
theorem dX6_planAnew_3 : decode cX6_planAnew 3 = .ok (.invokevirtual 131, 3) := by decide +kernel
theorem dX6_planAnew_6 : decode cX6_planAnew 6 = .ok (.invokevirtual 148, 3) := by decide +kernel
theorem dX6_planAnew_9 : decode cX6_planAnew 9 = .ok (.ifCond .eq 11, 3) := by decide +kernel
theorem dX6_planAnew_12 : decode cX6_planAnew 12 = .ok (.aload_n 0, 1) := by decide +kernel
theorem dX6_planAnew_13 : decode cX6_planAnew 13 = .ok (.iload_n 1, 1) := by decide +kernel
theorem dX6_planAnew_14 : decode cX6_planAnew 14 = .ok (.invokevirtual 188, 3) := by decide +kernel
theorem dX6_planAnew_17 : decode cX6_planAnew 17 = .ok (.goto 4, 3) := by decide +kernel
theorem dX6_planAnew_20 : decode cX6_planAnew 20 = .ok (.iconst 0, 1) := by decide +kernel
theorem dX6_planAnew_21 : decode cX6_planAnew 21 = .ok (.ireturn, 1) := by decide +kernel
theorem dX6_cut_0 : decode cX6_cut 0 = .ok (.aload_n 0, 1) := by decide +kernel
theorem dX6_cut_1 : decode cX6_cut 1 = .ok (.iload_n 1, 1) := by decide +kernel
theorem dX6_cut_2 : decode cX6_cut 2 = .ok (.invokevirtual 131, 3) := by decide +kernel
theorem dX6_cut_5 : decode cX6_cut 5 = .ok (.istore_n 2, 1) := by decide +kernel
theorem dX6_cut_6 : decode cX6_cut 6 = .ok (.iconst 0, 1) := by decide +kernel
theorem dX6_cut_7 : decode cX6_cut 7 = .ok (.istore_n 3, 1) := by decide +kernel
theorem dX6_cut_8 : decode cX6_cut 8 = .ok (.iconst 0, 1) := by decide +kernel
theorem dX6_cut_9 : decode cX6_cut 9 = .ok (.istore 4, 2) := by decide +kernel
theorem dX6_cut_11 : decode cX6_cut 11 = .ok (.iload 4, 2) := by decide +kernel
theorem dX6_cut_13 : decode cX6_cut 13 = .ok (.bipush 12, 2) := by decide +kernel
theorem dX6_cut_15 : decode cX6_cut 15 = .ok (.if_icmp .ge 31, 3) := by decide +kernel
theorem dX6_cut_18 : decode cX6_cut 18 = .ok (.iload_n 2, 1) := by decide +kernel
theorem dX6_cut_19 : decode cX6_cut 19 = .ok (.ifCond .eq 27, 3) := by decide +kernel
theorem dX6_cut_22 : decode cX6_cut 22 = .ok (.iload_n 3, 1) := by decide +kernel
theorem dX6_cut_23 : decode cX6_cut 23 = .ok (.aload_n 0, 1) := by decide +kernel
theorem dX6_cut_24 : decode cX6_cut 24 = .ok (.iload_n 1, 1) := by decide +kernel
theorem dX6_cut_25 : decode cX6_cut 25 = .ok (.iload 4, 2) := by decide +kernel
theorem dX6_cut_27 : decode cX6_cut 27 = .ok (.invokevirtual 185, 3) := by decide +kernel
theorem dX6_cut_30 : decode cX6_cut 30 = .ok (.ifCond .le 7, 3) := by decide +kernel
theorem dX6_cut_33 : decode cX6_cut 33 = .ok (.iconst 1, 1) := by decide +kernel
theorem dX6_cut_34 : decode cX6_cut 34 = .ok (.goto 4, 3) := by decide +kernel
theorem dX6_cut_37 : decode cX6_cut 37 = .ok (.iconst 0, 1) := by decide +kernel
theorem dX6_cut_38 : decode cX6_cut 38 = .ok (.iadd, 1) := by decide +kernel
theorem dX6_cut_39 : decode cX6_cut 39 = .ok (.istore_n 3, 1) := by decide +kernel
theorem dX6_cut_40 : decode cX6_cut 40 = .ok (.iinc 4 1, 3) := by decide +kernel
theorem dX6_cut_43 : decode cX6_cut 43 = .ok (.goto (-32), 3) := by decide +kernel
theorem dX6_cut_46 : decode cX6_cut 46 = .ok (.aload_n 0, 1) := by decide +kernel
theorem dX6_cut_47 : decode cX6_cut 47 = .ok (.iload_n 2, 1) := by decide +kernel
theorem dX6_cut_48 : decode cX6_cut 48 = .ok (.iload_n 2, 1) := by decide +kernel
theorem dX6_cut_49 : decode cX6_cut 49 = .ok (.ifCond .eq 37, 3) := by decide +kernel
theorem dX6_cut_52 : decode cX6_cut 52 = .ok (.aload_n 0, 1) := by decide +kernel
theorem dX6_cut_53 : decode cX6_cut 53 = .ok (.getfield 28, 3) := by decide +kernel
theorem dX6_cut_56 : decode cX6_cut 56 = .ok (.iload_n 1, 1) := by decide +kernel
theorem dX6_cut_57 : decode cX6_cut 57 = .ok (.iaload, 1) := by decide +kernel
theorem dX6_cut_58 : decode cX6_cut 58 = .ok (.ifCond .eq 13, 3) := by decide +kernel
theorem dX6_cut_61 : decode cX6_cut 61 = .ok (.aload_n 0, 1) := by decide +kernel
theorem dX6_cut_62 : decode cX6_cut 62 = .ok (.getfield 28, 3) := by decide +kernel
theorem dX6_cut_65 : decode cX6_cut 65 = .ok (.iload_n 1, 1) := by decide +kernel
theorem dX6_cut_66 : decode cX6_cut 66 = .ok (.iaload, 1) := by decide +kernel
theorem dX6_cut_67 : decode cX6_cut 67 = .ok (.iconst 2, 1) := by decide +kernel
theorem dX6_cut_68 : decode cX6_cut 68 = .ok (.if_icmp .ne 18, 3) := by decide +kernel
theorem dX6_cut_71 : decode cX6_cut 71 = .ok (.aload_n 0, 1) := by decide +kernel
theorem dX6_cut_72 : decode cX6_cut 72 = .ok (.getfield 118, 3) := by decide +kernel
theorem dX6_cut_75 : decode cX6_cut 75 = .ok (.iload_n 3, 1) := by decide +kernel
theorem dX6_cut_76 : decode cX6_cut 76 = .ok (.iadd, 1) := by decide +kernel
theorem dX6_cut_77 : decode cX6_cut 77 = .ok (.bipush 80, 2) := by decide +kernel
theorem dX6_cut_79 : decode cX6_cut 79 = .ok (.if_icmp .gt 7, 3) := by decide +kernel
theorem dX6_cut_82 : decode cX6_cut 82 = .ok (.iconst 1, 1) := by decide +kernel
theorem dX6_cut_83 : decode cX6_cut 83 = .ok (.goto 4, 3) := by decide +kernel
theorem dX6_cut_86 : decode cX6_cut 86 = .ok (.iconst 0, 1) := by decide +kernel
theorem dX6_cut_87 : decode cX6_cut 87 = .ok (.invokevirtual 124, 3) := by decide +kernel
theorem dX6_cut_90 : decode cX6_cut 90 = .ok (.ifCond .ne 5, 3) := by decide +kernel
theorem dX6_cut_93 : decode cX6_cut 93 = .ok (.iconst 0, 1) := by decide +kernel
theorem dX6_cut_94 : decode cX6_cut 94 = .ok (.ireturn, 1) := by decide +kernel
theorem dX6_cut_95 : decode cX6_cut 95 = .ok (.aload_n 0, 1) := by decide +kernel
theorem dX6_cut_96 : decode cX6_cut 96 = .ok (.dup, 1) := by decide +kernel
theorem dX6_cut_97 : decode cX6_cut 97 = .ok (.getfield 191, 3) := by decide +kernel
theorem dX6_cut_100 : decode cX6_cut 100 = .ok (.aload_n 0, 1) := by decide +kernel
theorem dX6_cut_101 : decode cX6_cut 101 = .ok (.getfield 16, 3) := by decide +kernel
theorem dX6_cut_104 : decode cX6_cut 104 = .ok (.iload_n 1, 1) := by decide +kernel
theorem dX6_cut_105 : decode cX6_cut 105 = .ok (.iaload, 1) := by decide +kernel
theorem dX6_cut_106 : decode cX6_cut 106 = .ok (.iadd, 1) := by decide +kernel
theorem dX6_cut_107 : decode cX6_cut 107 = .ok (.putfield 191, 3) := by decide +kernel
theorem dX6_cut_110 : decode cX6_cut 110 = .ok (.iconst 0, 1) := by decide +kernel
theorem dX6_cut_111 : decode cX6_cut 111 = .ok (.istore 4, 2) := by decide +kernel
theorem dX6_cut_113 : decode cX6_cut 113 = .ok (.iload 4, 2) := by decide +kernel
theorem dX6_cut_115 : decode cX6_cut 115 = .ok (.bipush 12, 2) := by decide +kernel
theorem dX6_cut_117 : decode cX6_cut 117 = .ok (.if_icmp .ge 141, 3) := by decide +kernel
theorem dX6_cut_120 : decode cX6_cut 120 = .ok (.aload_n 0, 1) := by decide +kernel
theorem dX6_cut_121 : decode cX6_cut 121 = .ok (.iload_n 1, 1) := by decide +kernel
theorem dX6_cut_122 : decode cX6_cut 122 = .ok (.iload 4, 2) := by decide +kernel
theorem dX6_cut_124 : decode cX6_cut 124 = .ok (.invokevirtual 185, 3) := by decide +kernel
theorem dX6_cut_127 : decode cX6_cut 127 = .ok (.ifCond .le 125, 3) := by decide +kernel
theorem dX6_cut_130 : decode cX6_cut 130 = .ok (.aload_n 0, 1) := by decide +kernel
theorem dX6_cut_131 : decode cX6_cut 131 = .ok (.getfield 75, 3) := by decide +kernel
theorem dX6_cut_134 : decode cX6_cut 134 = .ok (.aload_n 0, 1) := by decide +kernel
theorem dX6_cut_135 : decode cX6_cut 135 = .ok (.getfield 118, 3) := by decide +kernel
theorem dX6_cut_138 : decode cX6_cut 138 = .ok (.iload_n 1, 1) := by decide +kernel
theorem dX6_cut_139 : decode cX6_cut 139 = .ok (.iastore, 1) := by decide +kernel
theorem dX6_cut_140 : decode cX6_cut 140 = .ok (.aload_n 0, 1) := by decide +kernel
theorem dX6_cut_141 : decode cX6_cut 141 = .ok (.getfield 81, 3) := by decide +kernel
theorem dX6_cut_144 : decode cX6_cut 144 = .ok (.aload_n 0, 1) := by decide +kernel
theorem dX6_cut_145 : decode cX6_cut 145 = .ok (.getfield 118, 3) := by decide +kernel
theorem dX6_cut_148 : decode cX6_cut 148 = .ok (.iload 4, 2) := by decide +kernel
theorem dX6_cut_150 : decode cX6_cut 150 = .ok (.iastore, 1) := by decide +kernel
theorem dX6_cut_151 : decode cX6_cut 151 = .ok (.aload_n 0, 1) := by decide +kernel
theorem dX6_cut_152 : decode cX6_cut 152 = .ok (.getfield 84, 3) := by decide +kernel
theorem dX6_cut_155 : decode cX6_cut 155 = .ok (.aload_n 0, 1) := by decide +kernel
theorem dX6_cut_156 : decode cX6_cut 156 = .ok (.getfield 118, 3) := by decide +kernel
theorem dX6_cut_159 : decode cX6_cut 159 = .ok (.aload_n 0, 1) := by decide +kernel
theorem dX6_cut_160 : decode cX6_cut 160 = .ok (.iload_n 1, 1) := by decide +kernel
theorem dX6_cut_161 : decode cX6_cut 161 = .ok (.iload 4, 2) := by decide +kernel
theorem dX6_cut_163 : decode cX6_cut 163 = .ok (.invokevirtual 185, 3) := by decide +kernel
theorem dX6_cut_166 : decode cX6_cut 166 = .ok (.iastore, 1) := by decide +kernel
theorem dX6_cut_167 : decode cX6_cut 167 = .ok (.aload_n 0, 1) := by decide +kernel
theorem dX6_cut_168 : decode cX6_cut 168 = .ok (.getfield 78, 3) := by decide +kernel
theorem dX6_cut_171 : decode cX6_cut 171 = .ok (.aload_n 0, 1) := by decide +kernel
theorem dX6_cut_172 : decode cX6_cut 172 = .ok (.getfield 118, 3) := by decide +kernel
theorem dX6_cut_175 : decode cX6_cut 175 = .ok (.aload_n 0, 1) := by decide +kernel
theorem dX6_cut_176 : decode cX6_cut 176 = .ok (.iload_n 1, 1) := by decide +kernel
theorem dX6_cut_177 : decode cX6_cut 177 = .ok (.iload 4, 2) := by decide +kernel
theorem dX6_cut_179 : decode cX6_cut 179 = .ok (.invokevirtual 185, 3) := by decide +kernel
theorem dX6_cut_182 : decode cX6_cut 182 = .ok (.aload_n 0, 1) := by decide +kernel
theorem dX6_cut_183 : decode cX6_cut 183 = .ok (.getfield 16, 3) := by decide +kernel
theorem dX6_cut_186 : decode cX6_cut 186 = .ok (.iload_n 1, 1) := by decide +kernel
theorem dX6_cut_187 : decode cX6_cut 187 = .ok (.iaload, 1) := by decide +kernel
theorem dX6_cut_188 : decode cX6_cut 188 = .ok (.imul, 1) := by decide +kernel
theorem dX6_cut_189 : decode cX6_cut 189 = .ok (.bipush 12, 2) := by decide +kernel
theorem dX6_cut_191 : decode cX6_cut 191 = .ok (.idiv, 1) := by decide +kernel
theorem dX6_cut_192 : decode cX6_cut 192 = .ok (.bipush 60, 2) := by decide +kernel
theorem dX6_cut_194 : decode cX6_cut 194 = .ok (.imul, 1) := by decide +kernel
theorem dX6_cut_195 : decode cX6_cut 195 = .ok (.bipush 100, 2) := by decide +kernel
theorem dX6_cut_197 : decode cX6_cut 197 = .ok (.idiv, 1) := by decide +kernel
theorem dX6_cut_198 : decode cX6_cut 198 = .ok (.iastore, 1) := by decide +kernel
theorem dX6_cut_199 : decode cX6_cut 199 = .ok (.aload_n 0, 1) := by decide +kernel
theorem dX6_cut_200 : decode cX6_cut 200 = .ok (.getfield 87, 3) := by decide +kernel
theorem dX6_cut_203 : decode cX6_cut 203 = .ok (.aload_n 0, 1) := by decide +kernel
theorem dX6_cut_204 : decode cX6_cut 204 = .ok (.getfield 118, 3) := by decide +kernel
theorem dX6_cut_207 : decode cX6_cut 207 = .ok (.aload_n 0, 1) := by decide +kernel
theorem dX6_cut_208 : decode cX6_cut 208 = .ok (.getfield 31, 3) := by decide +kernel
theorem dX6_cut_211 : decode cX6_cut 211 = .ok (.iload_n 1, 1) := by decide +kernel
theorem dX6_cut_212 : decode cX6_cut 212 = .ok (.iaload, 1) := by decide +kernel
theorem dX6_cut_213 : decode cX6_cut 213 = .ok (.iastore, 1) := by decide +kernel
theorem dX6_cut_214 : decode cX6_cut 214 = .ok (.aload_n 0, 1) := by decide +kernel
theorem dX6_cut_215 : decode cX6_cut 215 = .ok (.getfield 90, 3) := by decide +kernel
theorem dX6_cut_218 : decode cX6_cut 218 = .ok (.aload_n 0, 1) := by decide +kernel
theorem dX6_cut_219 : decode cX6_cut 219 = .ok (.getfield 118, 3) := by decide +kernel
theorem dX6_cut_222 : decode cX6_cut 222 = .ok (.iconst (-1), 1) := by decide +kernel
theorem dX6_cut_223 : decode cX6_cut 223 = .ok (.iastore, 1) := by decide +kernel
theorem dX6_cut_224 : decode cX6_cut 224 = .ok (.aload_n 0, 1) := by decide +kernel
theorem dX6_cut_225 : decode cX6_cut 225 = .ok (.dup, 1) := by decide +kernel
theorem dX6_cut_226 : decode cX6_cut 226 = .ok (.getfield 191, 3) := by decide +kernel
theorem dX6_cut_229 : decode cX6_cut 229 = .ok (.aload_n 0, 1) := by decide +kernel
theorem dX6_cut_230 : decode cX6_cut 230 = .ok (.getfield 78, 3) := by decide +kernel
theorem dX6_cut_233 : decode cX6_cut 233 = .ok (.aload_n 0, 1) := by decide +kernel
theorem dX6_cut_234 : decode cX6_cut 234 = .ok (.getfield 118, 3) := by decide +kernel
theorem dX6_cut_237 : decode cX6_cut 237 = .ok (.iaload, 1) := by decide +kernel
theorem dX6_cut_238 : decode cX6_cut 238 = .ok (.isub, 1) := by decide +kernel
theorem dX6_cut_239 : decode cX6_cut 239 = .ok (.putfield 191, 3) := by decide +kernel
theorem dX6_cut_242 : decode cX6_cut 242 = .ok (.aload_n 0, 1) := by decide +kernel
theorem dX6_cut_243 : decode cX6_cut 243 = .ok (.dup, 1) := by decide +kernel
theorem dX6_cut_244 : decode cX6_cut 244 = .ok (.getfield 118, 3) := by decide +kernel
theorem dX6_cut_247 : decode cX6_cut 247 = .ok (.iconst 1, 1) := by decide +kernel
theorem dX6_cut_248 : decode cX6_cut 248 = .ok (.iadd, 1) := by decide +kernel
theorem dX6_cut_249 : decode cX6_cut 249 = .ok (.putfield 118, 3) := by decide +kernel
theorem dX6_cut_252 : decode cX6_cut 252 = .ok (.iinc 4 1, 3) := by decide +kernel
theorem dX6_cut_255 : decode cX6_cut 255 = .ok (.goto (-142), 3) := by decide +kernel
theorem dX6_cut_258 : decode cX6_cut 258 = .ok (.aload_n 0, 1) := by decide +kernel
theorem dX6_cut_259 : decode cX6_cut 259 = .ok (.getfield 28, 3) := by decide +kernel
theorem dX6_cut_262 : decode cX6_cut 262 = .ok (.iload_n 1, 1) := by decide +kernel
theorem dX6_cut_263 : decode cX6_cut 263 = .ok (.iconst 3, 1) := by decide +kernel
theorem dX6_cut_264 : decode cX6_cut 264 = .ok (.iastore, 1) := by decide +kernel
theorem dX6_cut_265 : decode cX6_cut 265 = .ok (.aload_n 0, 1) := by decide +kernel
theorem dX6_cut_266 : decode cX6_cut 266 = .ok (.iload_n 1, 1) := by decide +kernel
theorem dX6_cut_267 : decode cX6_cut 267 = .ok (.invokevirtual 164, 3) := by decide +kernel
theorem dX6_cut_270 : decode cX6_cut 270 = .ok (.iload_n 3, 1) := by decide +kernel
theorem dX6_cut_271 : decode cX6_cut 271 = .ok (.ireturn, 1) := by decide +kernel
theorem dX6_recut_0 : decode cX6_recut 0 = .ok (.aload_n 0, 1) := by decide +kernel
theorem dX6_recut_1 : decode cX6_recut 1 = .ok (.iload_n 1, 1) := by decide +kernel
theorem dX6_recut_2 : decode cX6_recut 2 = .ok (.invokevirtual 194, 3) := by decide +kernel
theorem dX6_recut_5 : decode cX6_recut 5 = .ok (.istore_n 3, 1) := by decide +kernel
theorem dX6_recut_6 : decode cX6_recut 6 = .ok (.aload_n 0, 1) := by decide +kernel
theorem dX6_recut_7 : decode cX6_recut 7 = .ok (.iload_n 3, 1) := by decide +kernel
theorem dX6_recut_8 : decode cX6_recut 8 = .ok (.iload_n 3, 1) := by decide +kernel
theorem dX6_recut_9 : decode cX6_recut 9 = .ok (.ifCond .eq 23, 3) := by decide +kernel
theorem dX6_recut_12 : decode cX6_recut 12 = .ok (.iload_n 2, 1) := by decide +kernel
theorem dX6_recut_13 : decode cX6_recut 13 = .ok (.iconst 1, 1) := by decide +kernel
theorem dX6_recut_14 : decode cX6_recut 14 = .ok (.aload_n 0, 1) := by decide +kernel
theorem dX6_recut_15 : decode cX6_recut 15 = .ok (.getfield 78, 3) := by decide +kernel
theorem dX6_recut_18 : decode cX6_recut 18 = .ok (.iload_n 1, 1) := by decide +kernel
theorem dX6_recut_19 : decode cX6_recut 19 = .ok (.iaload, 1) := by decide +kernel
theorem dX6_recut_20 : decode cX6_recut 20 = .ok (.iconst 1, 1) := by decide +kernel
theorem dX6_recut_21 : decode cX6_recut 21 = .ok (.isub, 1) := by decide +kernel
theorem dX6_recut_22 : decode cX6_recut 22 = .ok (.invokestatic 114, 3) := by decide +kernel
theorem dX6_recut_25 : decode cX6_recut 25 = .ok (.ifCond .eq 7, 3) := by decide +kernel
theorem dX6_recut_28 : decode cX6_recut 28 = .ok (.iconst 1, 1) := by decide +kernel
theorem dX6_recut_29 : decode cX6_recut 29 = .ok (.goto 4, 3) := by decide +kernel
theorem dX6_recut_32 : decode cX6_recut 32 = .ok (.iconst 0, 1) := by decide +kernel
theorem dX6_recut_33 : decode cX6_recut 33 = .ok (.invokevirtual 124, 3) := by decide +kernel
theorem dX6_recut_36 : decode cX6_recut 36 = .ok (.ifCond .ne 5, 3) := by decide +kernel
theorem dX6_recut_39 : decode cX6_recut 39 = .ok (.iconst 0, 1) := by decide +kernel
theorem dX6_recut_40 : decode cX6_recut 40 = .ok (.ireturn, 1) := by decide +kernel
theorem dX6_recut_41 : decode cX6_recut 41 = .ok (.aload_n 0, 1) := by decide +kernel
theorem dX6_recut_42 : decode cX6_recut 42 = .ok (.getfield 78, 3) := by decide +kernel
theorem dX6_recut_45 : decode cX6_recut 45 = .ok (.iload_n 1, 1) := by decide +kernel
theorem dX6_recut_46 : decode cX6_recut 46 = .ok (.iaload, 1) := by decide +kernel
theorem dX6_recut_47 : decode cX6_recut 47 = .ok (.iload_n 2, 1) := by decide +kernel
theorem dX6_recut_48 : decode cX6_recut 48 = .ok (.isub, 1) := by decide +kernel
theorem dX6_recut_49 : decode cX6_recut 49 = .ok (.istore 4, 2) := by decide +kernel
theorem dX6_recut_51 : decode cX6_recut 51 = .ok (.aload_n 0, 1) := by decide +kernel
theorem dX6_recut_52 : decode cX6_recut 52 = .ok (.getfield 78, 3) := by decide +kernel
theorem dX6_recut_55 : decode cX6_recut 55 = .ok (.iload_n 1, 1) := by decide +kernel
theorem dX6_recut_56 : decode cX6_recut 56 = .ok (.iload_n 2, 1) := by decide +kernel
theorem dX6_recut_57 : decode cX6_recut 57 = .ok (.iastore, 1) := by decide +kernel
theorem dX6_recut_58 : decode cX6_recut 58 = .ok (.aload_n 0, 1) := by decide +kernel
theorem dX6_recut_59 : decode cX6_recut 59 = .ok (.dup, 1) := by decide +kernel
theorem dX6_recut_60 : decode cX6_recut 60 = .ok (.getfield 191, 3) := by decide +kernel
theorem dX6_recut_63 : decode cX6_recut 63 = .ok (.iload 4, 2) := by decide +kernel
theorem dX6_recut_65 : decode cX6_recut 65 = .ok (.iadd, 1) := by decide +kernel
theorem dX6_recut_66 : decode cX6_recut 66 = .ok (.putfield 191, 3) := by decide +kernel
theorem dX6_recut_69 : decode cX6_recut 69 = .ok (.iload 4, 2) := by decide +kernel
theorem dX6_recut_71 : decode cX6_recut 71 = .ok (.ireturn, 1) := by decide +kernel
theorem dX6_gradeOf_0 : decode cX6_gradeOf 0 = .ok (.aload_n 0, 1) := by decide +kernel
theorem dX6_gradeOf_1 : decode cX6_gradeOf 1 = .ok (.getfield 96, 3) := by decide +kernel
theorem dX6_gradeOf_4 : decode cX6_gradeOf 4 = .ok (.iconst 3, 1) := by decide +kernel
theorem dX6_gradeOf_5 : decode cX6_gradeOf 5 = .ok (.iload_n 1, 1) := by decide +kernel
theorem dX6_gradeOf_6 : decode cX6_gradeOf 6 = .ok (.imul, 1) := by decide +kernel
theorem dX6_gradeOf_7 : decode cX6_gradeOf 7 = .ok (.iaload, 1) := by decide +kernel
theorem dX6_gradeOf_8 : decode cX6_gradeOf 8 = .ok (.istore_n 2, 1) := by decide +kernel
theorem dX6_gradeOf_9 : decode cX6_gradeOf 9 = .ok (.aload_n 0, 1) := by decide +kernel
theorem dX6_gradeOf_10 : decode cX6_gradeOf 10 = .ok (.getfield 96, 3) := by decide +kernel
theorem dX6_gradeOf_13 : decode cX6_gradeOf 13 = .ok (.iconst 3, 1) := by decide +kernel
theorem dX6_gradeOf_14 : decode cX6_gradeOf 14 = .ok (.iload_n 1, 1) := by decide +kernel
theorem dX6_gradeOf_15 : decode cX6_gradeOf 15 = .ok (.imul, 1) := by decide +kernel
theorem dX6_gradeOf_16 : decode cX6_gradeOf 16 = .ok (.iconst 1, 1) := by decide +kernel
theorem dX6_gradeOf_17 : decode cX6_gradeOf 17 = .ok (.iadd, 1) := by decide +kernel
theorem dX6_gradeOf_18 : decode cX6_gradeOf 18 = .ok (.iaload, 1) := by decide +kernel
theorem dX6_gradeOf_19 : decode cX6_gradeOf 19 = .ok (.istore_n 3, 1) := by decide +kernel
theorem dX6_gradeOf_20 : decode cX6_gradeOf 20 = .ok (.aload_n 0, 1) := by decide +kernel
theorem dX6_gradeOf_21 : decode cX6_gradeOf 21 = .ok (.getfield 93, 3) := by decide +kernel
theorem dX6_gradeOf_24 : decode cX6_gradeOf 24 = .ok (.iload_n 1, 1) := by decide +kernel
theorem dX6_gradeOf_25 : decode cX6_gradeOf 25 = .ok (.iaload, 1) := by decide +kernel
theorem dX6_gradeOf_26 : decode cX6_gradeOf 26 = .ok (.iconst 1, 1) := by decide +kernel
theorem dX6_gradeOf_27 : decode cX6_gradeOf 27 = .ok (.if_icmp .le 12, 3) := by decide +kernel
theorem dX6_gradeOf_30 : decode cX6_gradeOf 30 = .ok (.iload_n 2, 1) := by decide +kernel
theorem dX6_gradeOf_31 : decode cX6_gradeOf 31 = .ok (.iload_n 3, 1) := by decide +kernel
theorem dX6_gradeOf_32 : decode cX6_gradeOf 32 = .ok (.if_icmp .ne 7, 3) := by decide +kernel
theorem dX6_gradeOf_35 : decode cX6_gradeOf 35 = .ok (.iload_n 2, 1) := by decide +kernel
theorem dX6_gradeOf_36 : decode cX6_gradeOf 36 = .ok (.goto 32, 3) := by decide +kernel
theorem dX6_gradeOf_39 : decode cX6_gradeOf 39 = .ok (.aload_n 0, 1) := by decide +kernel
theorem dX6_gradeOf_40 : decode cX6_gradeOf 40 = .ok (.getfield 93, 3) := by decide +kernel
theorem dX6_gradeOf_43 : decode cX6_gradeOf 43 = .ok (.iload_n 1, 1) := by decide +kernel
theorem dX6_gradeOf_44 : decode cX6_gradeOf 44 = .ok (.iaload, 1) := by decide +kernel
theorem dX6_gradeOf_45 : decode cX6_gradeOf 45 = .ok (.iconst 3, 1) := by decide +kernel
theorem dX6_gradeOf_46 : decode cX6_gradeOf 46 = .ok (.if_icmp .ne 21, 3) := by decide +kernel
theorem dX6_gradeOf_49 : decode cX6_gradeOf 49 = .ok (.iload_n 2, 1) := by decide +kernel
theorem dX6_gradeOf_50 : decode cX6_gradeOf 50 = .ok (.iload_n 3, 1) := by decide +kernel
theorem dX6_gradeOf_51 : decode cX6_gradeOf 51 = .ok (.aload_n 0, 1) := by decide +kernel
theorem dX6_gradeOf_52 : decode cX6_gradeOf 52 = .ok (.getfield 96, 3) := by decide +kernel
theorem dX6_gradeOf_55 : decode cX6_gradeOf 55 = .ok (.iconst 3, 1) := by decide +kernel
theorem dX6_gradeOf_56 : decode cX6_gradeOf 56 = .ok (.iload_n 1, 1) := by decide +kernel
theorem dX6_gradeOf_57 : decode cX6_gradeOf 57 = .ok (.imul, 1) := by decide +kernel
theorem dX6_gradeOf_58 : decode cX6_gradeOf 58 = .ok (.iconst 2, 1) := by decide +kernel
theorem dX6_gradeOf_59 : decode cX6_gradeOf 59 = .ok (.iadd, 1) := by decide +kernel
theorem dX6_gradeOf_60 : decode cX6_gradeOf 60 = .ok (.iaload, 1) := by decide +kernel
theorem dX6_gradeOf_61 : decode cX6_gradeOf 61 = .ok (.invokestatic 139, 3) := by decide +kernel
theorem dX6_gradeOf_64 : decode cX6_gradeOf 64 = .ok (.goto 4, 3) := by decide +kernel
theorem dX6_gradeOf_67 : decode cX6_gradeOf 67 = .ok (.iconst (-1), 1) := by decide +kernel
theorem dX6_gradeOf_68 : decode cX6_gradeOf 68 = .ok (.ireturn, 1) := by decide +kernel
theorem dX6_priceOf_0 : decode cX6_priceOf 0 = .ok (.aload_n 0, 1) := by decide +kernel
theorem dX6_priceOf_1 : decode cX6_priceOf 1 = .ok (.getfield 78, 3) := by decide +kernel
theorem dX6_priceOf_4 : decode cX6_priceOf 4 = .ok (.iload_n 1, 1) := by decide +kernel
theorem dX6_priceOf_5 : decode cX6_priceOf 5 = .ok (.iaload, 1) := by decide +kernel
theorem dX6_priceOf_6 : decode cX6_priceOf 6 = .ok (.bipush 20, 2) := by decide +kernel
theorem dX6_priceOf_8 : decode cX6_priceOf 8 = .ok (.aload_n 0, 1) := by decide +kernel
theorem dX6_priceOf_9 : decode cX6_priceOf 9 = .ok (.iload_n 1, 1) := by decide +kernel
theorem dX6_priceOf_10 : decode cX6_priceOf 10 = .ok (.invokevirtual 197, 3) := by decide +kernel
theorem dX6_priceOf_13 : decode cX6_priceOf 13 = .ok (.isub, 1) := by decide +kernel
theorem dX6_priceOf_14 : decode cX6_priceOf 14 = .ok (.imul, 1) := by decide +kernel
theorem dX6_priceOf_15 : decode cX6_priceOf 15 = .ok (.istore_n 2, 1) := by decide +kernel
theorem dX6_priceOf_16 : decode cX6_priceOf 16 = .ok (.aload_n 0, 1) := by decide +kernel
theorem dX6_priceOf_17 : decode cX6_priceOf 17 = .ok (.iload_n 1, 1) := by decide +kernel
theorem dX6_priceOf_18 : decode cX6_priceOf 18 = .ok (.invokevirtual 197, 3) := by decide +kernel
theorem dX6_priceOf_21 : decode cX6_priceOf 21 = .ok (.iconst (-1), 1) := by decide +kernel
theorem dX6_priceOf_22 : decode cX6_priceOf 22 = .ok (.if_icmp .ne 7, 3) := by decide +kernel
theorem dX6_priceOf_25 : decode cX6_priceOf 25 = .ok (.iconst (-1), 1) := by decide +kernel
theorem dX6_priceOf_26 : decode cX6_priceOf 26 = .ok (.goto 21, 3) := by decide +kernel
theorem dX6_priceOf_29 : decode cX6_priceOf 29 = .ok (.aload_n 0, 1) := by decide +kernel
theorem dX6_priceOf_30 : decode cX6_priceOf 30 = .ok (.getfield 78, 3) := by decide +kernel
theorem dX6_priceOf_33 : decode cX6_priceOf 33 = .ok (.iload_n 1, 1) := by decide +kernel
theorem dX6_priceOf_34 : decode cX6_priceOf 34 = .ok (.iaload, 1) := by decide +kernel
theorem dX6_priceOf_35 : decode cX6_priceOf 35 = .ok (.bipush 100, 2) := by decide +kernel
theorem dX6_priceOf_37 : decode cX6_priceOf 37 = .ok (.if_icmp .ge 7, 3) := by decide +kernel
theorem dX6_priceOf_40 : decode cX6_priceOf 40 = .ok (.iload_n 2, 1) := by decide +kernel
theorem dX6_priceOf_41 : decode cX6_priceOf 41 = .ok (.goto 6, 3) := by decide +kernel
theorem dX6_priceOf_44 : decode cX6_priceOf 44 = .ok (.iconst 2, 1) := by decide +kernel
theorem dX6_priceOf_45 : decode cX6_priceOf 45 = .ok (.iload_n 2, 1) := by decide +kernel
theorem dX6_priceOf_46 : decode cX6_priceOf 46 = .ok (.imul, 1) := by decide +kernel
theorem dX6_priceOf_47 : decode cX6_priceOf 47 = .ok (.ireturn, 1) := by decide +kernel
theorem dX6_originOf_0 : decode cX6_originOf 0 = .ok (.aload_n 0, 1) := by decide +kernel
theorem dX6_originOf_1 : decode cX6_originOf 1 = .ok (.getfield 7, 3) := by decide +kernel
theorem dX6_originOf_4 : decode cX6_originOf 4 = .ok (.aload_n 0, 1) := by decide +kernel
theorem dX6_originOf_5 : decode cX6_originOf 5 = .ok (.getfield 13, 3) := by decide +kernel
theorem dX6_originOf_8 : decode cX6_originOf 8 = .ok (.aload_n 0, 1) := by decide +kernel
theorem dX6_originOf_9 : decode cX6_originOf 9 = .ok (.getfield 75, 3) := by decide +kernel
theorem dX6_originOf_12 : decode cX6_originOf 12 = .ok (.iload_n 1, 1) := by decide +kernel
theorem dX6_originOf_13 : decode cX6_originOf 13 = .ok (.iaload, 1) := by decide +kernel
theorem dX6_originOf_14 : decode cX6_originOf 14 = .ok (.iaload, 1) := by decide +kernel
theorem dX6_originOf_15 : decode cX6_originOf 15 = .ok (.iaload, 1) := by decide +kernel
theorem dX6_originOf_16 : decode cX6_originOf 16 = .ok (.ireturn, 1) := by decide +kernel
theorem dX6_polished_0 : decode cX6_polished 0 = .ok (.aload_n 0, 1) := by decide +kernel
theorem dX6_polished_1 : decode cX6_polished 1 = .ok (.aload_n 0, 1) := by decide +kernel
theorem dX6_polished_2 : decode cX6_polished 2 = .ok (.iload_n 1, 1) := by decide +kernel
theorem dX6_polished_3 : decode cX6_polished 3 = .ok (.invokevirtual 194, 3) := by decide +kernel
theorem dX6_polished_6 : decode cX6_polished 6 = .ok (.iload_n 2, 1) := by decide +kernel
theorem dX6_polished_7 : decode cX6_polished 7 = .ok (.iconst 0, 1) := by decide +kernel
theorem dX6_polished_8 : decode cX6_polished 8 = .ok (.bipush 8, 2) := by decide +kernel
theorem dX6_polished_10 : decode cX6_polished 10 = .ok (.invokestatic 114, 3) := by decide +kernel
theorem dX6_polished_13 : decode cX6_polished 13 = .ok (.invokevirtual 124, 3) := by decide +kernel
theorem dX6_polished_16 : decode cX6_polished 16 = .ok (.ifCond .ne 5, 3) := by decide +kernel
theorem dX6_polished_19 : decode cX6_polished 19 = .ok (.iconst 0, 1) := by decide +kernel
theorem dX6_polished_20 : decode cX6_polished 20 = .ok (.ireturn, 1) := by decide +kernel
theorem dX6_polished_21 : decode cX6_polished 21 = .ok (.iload_n 2, 1) := by decide +kernel
theorem dX6_polished_22 : decode cX6_polished 22 = .ok (.ifCond .ne 12, 3) := by decide +kernel
theorem dX6_polished_25 : decode cX6_polished 25 = .ok (.aload_n 0, 1) := by decide +kernel
theorem dX6_polished_26 : decode cX6_polished 26 = .ok (.getfield 75, 3) := by decide +kernel
theorem dX6_polished_29 : decode cX6_polished 29 = .ok (.iload_n 1, 1) := by decide +kernel
theorem dX6_polished_30 : decode cX6_polished 30 = .ok (.iaload, 1) := by decide +kernel
theorem dX6_polished_31 : decode cX6_polished 31 = .ok (.goto 106, 3) := by decide +kernel
theorem dX6_polished_34 : decode cX6_polished 34 = .ok (.iload_n 2, 1) := by decide +kernel
theorem dX6_polished_35 : decode cX6_polished 35 = .ok (.iconst 1, 1) := by decide +kernel
theorem dX6_polished_36 : decode cX6_polished 36 = .ok (.if_icmp .ne 12, 3) := by decide +kernel
theorem dX6_polished_39 : decode cX6_polished 39 = .ok (.aload_n 0, 1) := by decide +kernel
theorem dX6_polished_40 : decode cX6_polished 40 = .ok (.getfield 78, 3) := by decide +kernel
theorem dX6_polished_43 : decode cX6_polished 43 = .ok (.iload_n 1, 1) := by decide +kernel
theorem dX6_polished_44 : decode cX6_polished 44 = .ok (.iaload, 1) := by decide +kernel
theorem dX6_polished_45 : decode cX6_polished 45 = .ok (.goto 92, 3) := by decide +kernel
theorem dX6_polished_48 : decode cX6_polished 48 = .ok (.iload_n 2, 1) := by decide +kernel
theorem dX6_polished_49 : decode cX6_polished 49 = .ok (.iconst 2, 1) := by decide +kernel
theorem dX6_polished_50 : decode cX6_polished 50 = .ok (.if_icmp .ne 12, 3) := by decide +kernel
theorem dX6_polished_53 : decode cX6_polished 53 = .ok (.aload_n 0, 1) := by decide +kernel
theorem dX6_polished_54 : decode cX6_polished 54 = .ok (.getfield 81, 3) := by decide +kernel
theorem dX6_polished_57 : decode cX6_polished 57 = .ok (.iload_n 1, 1) := by decide +kernel
theorem dX6_polished_58 : decode cX6_polished 58 = .ok (.iaload, 1) := by decide +kernel
theorem dX6_polished_59 : decode cX6_polished 59 = .ok (.goto 78, 3) := by decide +kernel
theorem dX6_polished_62 : decode cX6_polished 62 = .ok (.iload_n 2, 1) := by decide +kernel
theorem dX6_polished_63 : decode cX6_polished 63 = .ok (.iconst 3, 1) := by decide +kernel
theorem dX6_polished_64 : decode cX6_polished 64 = .ok (.if_icmp .ne 12, 3) := by decide +kernel
theorem dX6_polished_67 : decode cX6_polished 67 = .ok (.aload_n 0, 1) := by decide +kernel
theorem dX6_polished_68 : decode cX6_polished 68 = .ok (.getfield 84, 3) := by decide +kernel
theorem dX6_polished_71 : decode cX6_polished 71 = .ok (.iload_n 1, 1) := by decide +kernel
theorem dX6_polished_72 : decode cX6_polished 72 = .ok (.iaload, 1) := by decide +kernel
theorem dX6_polished_73 : decode cX6_polished 73 = .ok (.goto 64, 3) := by decide +kernel
theorem dX6_polished_76 : decode cX6_polished 76 = .ok (.iload_n 2, 1) := by decide +kernel
theorem dX6_polished_77 : decode cX6_polished 77 = .ok (.iconst 4, 1) := by decide +kernel
theorem dX6_polished_78 : decode cX6_polished 78 = .ok (.if_icmp .ne 12, 3) := by decide +kernel
theorem dX6_polished_81 : decode cX6_polished 81 = .ok (.aload_n 0, 1) := by decide +kernel
theorem dX6_polished_82 : decode cX6_polished 82 = .ok (.getfield 87, 3) := by decide +kernel
theorem dX6_polished_85 : decode cX6_polished 85 = .ok (.iload_n 1, 1) := by decide +kernel
theorem dX6_polished_86 : decode cX6_polished 86 = .ok (.iaload, 1) := by decide +kernel
theorem dX6_polished_87 : decode cX6_polished 87 = .ok (.goto 50, 3) := by decide +kernel
theorem dX6_polished_90 : decode cX6_polished 90 = .ok (.iload_n 2, 1) := by decide +kernel
theorem dX6_polished_91 : decode cX6_polished 91 = .ok (.iconst 5, 1) := by decide +kernel
theorem dX6_polished_92 : decode cX6_polished 92 = .ok (.if_icmp .ne 11, 3) := by decide +kernel
theorem dX6_polished_95 : decode cX6_polished 95 = .ok (.aload_n 0, 1) := by decide +kernel
theorem dX6_polished_96 : decode cX6_polished 96 = .ok (.iload_n 1, 1) := by decide +kernel
theorem dX6_polished_97 : decode cX6_polished 97 = .ok (.invokevirtual 197, 3) := by decide +kernel
theorem dX6_polished_100 : decode cX6_polished 100 = .ok (.goto 37, 3) := by decide +kernel
theorem dX6_polished_103 : decode cX6_polished 103 = .ok (.iload_n 2, 1) := by decide +kernel
theorem dX6_polished_104 : decode cX6_polished 104 = .ok (.bipush 6, 2) := by decide +kernel
theorem dX6_polished_106 : decode cX6_polished 106 = .ok (.if_icmp .ne 11, 3) := by decide +kernel
theorem dX6_polished_109 : decode cX6_polished 109 = .ok (.aload_n 0, 1) := by decide +kernel
theorem dX6_polished_110 : decode cX6_polished 110 = .ok (.iload_n 1, 1) := by decide +kernel
theorem dX6_polished_111 : decode cX6_polished 111 = .ok (.invokevirtual 200, 3) := by decide +kernel
theorem dX6_polished_114 : decode cX6_polished 114 = .ok (.goto 23, 3) := by decide +kernel
theorem dX6_polished_117 : decode cX6_polished 117 = .ok (.iload_n 2, 1) := by decide +kernel
theorem dX6_polished_118 : decode cX6_polished 118 = .ok (.bipush 7, 2) := by decide +kernel
theorem dX6_polished_120 : decode cX6_polished 120 = .ok (.if_icmp .ne 12, 3) := by decide +kernel
theorem dX6_polished_123 : decode cX6_polished 123 = .ok (.aload_n 0, 1) := by decide +kernel
theorem dX6_polished_124 : decode cX6_polished 124 = .ok (.getfield 90, 3) := by decide +kernel
theorem dX6_polished_127 : decode cX6_polished 127 = .ok (.iload_n 1, 1) := by decide +kernel
theorem dX6_polished_128 : decode cX6_polished 128 = .ok (.iaload, 1) := by decide +kernel
theorem dX6_polished_129 : decode cX6_polished 129 = .ok (.goto 8, 3) := by decide +kernel
theorem dX6_polished_132 : decode cX6_polished 132 = .ok (.aload_n 0, 1) := by decide +kernel
theorem dX6_polished_133 : decode cX6_polished 133 = .ok (.iload_n 1, 1) := by decide +kernel
theorem dX6_polished_134 : decode cX6_polished 134 = .ok (.invokevirtual 203, 3) := by decide +kernel
theorem dX6_polished_137 : decode cX6_polished 137 = .ok (.ireturn, 1) := by decide +kernel
theorem dX6_scale_0 : decode cX6_scale 0 = .ok (.aload_n 0, 1) := by decide +kernel
theorem dX6_scale_1 : decode cX6_scale 1 = .ok (.iload_n 1, 1) := by decide +kernel
theorem dX6_scale_2 : decode cX6_scale 2 = .ok (.iconst 0, 1) := by decide +kernel
theorem dX6_scale_3 : decode cX6_scale 3 = .ok (.iconst 2, 1) := by decide +kernel
theorem dX6_scale_4 : decode cX6_scale 4 = .ok (.invokestatic 114, 3) := by decide +kernel
theorem dX6_scale_7 : decode cX6_scale 7 = .ok (.iload_n 2, 1) := by decide +kernel
theorem dX6_scale_8 : decode cX6_scale 8 = .ok (.iconst (-1), 1) := by decide +kernel
theorem dX6_scale_9 : decode cX6_scale 9 = .ok (.iconst 1, 1) := by decide +kernel
theorem dX6_scale_10 : decode cX6_scale 10 = .ok (.invokestatic 114, 3) := by decide +kernel
theorem dX6_scale_13 : decode cX6_scale 13 = .ok (.invokevirtual 124, 3) := by decide +kernel
theorem dX6_scale_16 : decode cX6_scale 16 = .ok (.ifCond .ne 5, 3) := by decide +kernel
theorem dX6_scale_19 : decode cX6_scale 19 = .ok (.iconst 0, 1) := by decide +kernel
theorem dX6_scale_20 : decode cX6_scale 20 = .ok (.ireturn, 1) := by decide +kernel
theorem dX6_scale_21 : decode cX6_scale 21 = .ok (.aload_n 0, 1) := by decide +kernel
theorem dX6_scale_22 : decode cX6_scale 22 = .ok (.getfield 102, 3) := by decide +kernel
theorem dX6_scale_25 : decode cX6_scale 25 = .ok (.iload_n 1, 1) := by decide +kernel
theorem dX6_scale_26 : decode cX6_scale 26 = .ok (.iaload, 1) := by decide +kernel
theorem dX6_scale_27 : decode cX6_scale 27 = .ok (.istore_n 3, 1) := by decide +kernel
theorem dX6_scale_28 : decode cX6_scale 28 = .ok (.aload_n 0, 1) := by decide +kernel
theorem dX6_scale_29 : decode cX6_scale 29 = .ok (.getfield 102, 3) := by decide +kernel
theorem dX6_scale_32 : decode cX6_scale 32 = .ok (.iload_n 1, 1) := by decide +kernel
theorem dX6_scale_33 : decode cX6_scale 33 = .ok (.iload_n 2, 1) := by decide +kernel
theorem dX6_scale_34 : decode cX6_scale 34 = .ok (.iastore, 1) := by decide +kernel
theorem dX6_scale_35 : decode cX6_scale 35 = .ok (.iload_n 3, 1) := by decide +kernel
theorem dX6_scale_36 : decode cX6_scale 36 = .ok (.ireturn, 1) := by decide +kernel
theorem dX6_look_0 : decode cX6_look 0 = .ok (.iload_n 1, 1) := by decide +kernel
theorem dX6_look_1 : decode cX6_look 1 = .ok (.iconst 0, 1) := by decide +kernel
theorem dX6_look_2 : decode cX6_look 2 = .ok (.iconst 2, 1) := by decide +kernel
theorem dX6_look_3 : decode cX6_look 3 = .ok (.invokestatic 114, 3) := by decide +kernel
theorem dX6_look_6 : decode cX6_look 6 = .ok (.ifCond .eq 15, 3) := by decide +kernel
theorem dX6_look_9 : decode cX6_look 9 = .ok (.aload_n 0, 1) := by decide +kernel
theorem dX6_look_10 : decode cX6_look 10 = .ok (.iload_n 2, 1) := by decide +kernel
theorem dX6_look_11 : decode cX6_look 11 = .ok (.invokevirtual 194, 3) := by decide +kernel
theorem dX6_look_14 : decode cX6_look 14 = .ok (.ifCond .eq 7, 3) := by decide +kernel
theorem dX6_look_17 : decode cX6_look 17 = .ok (.iconst 1, 1) := by decide +kernel
theorem dX6_look_18 : decode cX6_look 18 = .ok (.goto 4, 3) := by decide +kernel
theorem dX6_look_21 : decode cX6_look 21 = .ok (.iconst 0, 1) := by decide +kernel
theorem dX6_look_22 : decode cX6_look 22 = .ok (.istore_n 3, 1) := by decide +kernel
theorem dX6_look_23 : decode cX6_look 23 = .ok (.aload_n 0, 1) := by decide +kernel
theorem dX6_look_24 : decode cX6_look 24 = .ok (.iload_n 3, 1) := by decide +kernel
theorem dX6_look_25 : decode cX6_look 25 = .ok (.iload_n 3, 1) := by decide +kernel
theorem dX6_look_26 : decode cX6_look 26 = .ok (.ifCond .eq 29, 3) := by decide +kernel
theorem dX6_look_29 : decode cX6_look 29 = .ok (.aload_n 0, 1) := by decide +kernel
theorem dX6_look_30 : decode cX6_look 30 = .ok (.getfield 99, 3) := by decide +kernel
theorem dX6_look_33 : decode cX6_look 33 = .ok (.iload_n 2, 1) := by decide +kernel
theorem dX6_look_34 : decode cX6_look 34 = .ok (.iaload, 1) := by decide +kernel
theorem dX6_look_35 : decode cX6_look 35 = .ok (.iload_n 1, 1) := by decide +kernel
theorem dX6_look_36 : decode cX6_look 36 = .ok (.ishr, 1) := by decide +kernel
theorem dX6_look_37 : decode cX6_look 37 = .ok (.iconst 1, 1) := by decide +kernel
theorem dX6_look_38 : decode cX6_look 38 = .ok (.iand, 1) := by decide +kernel
theorem dX6_look_39 : decode cX6_look 39 = .ok (.ifCond .ne 16, 3) := by decide +kernel
theorem dX6_look_42 : decode cX6_look 42 = .ok (.aload_n 0, 1) := by decide +kernel
theorem dX6_look_43 : decode cX6_look 43 = .ok (.iload_n 2, 1) := by decide +kernel
theorem dX6_look_44 : decode cX6_look 44 = .ok (.invokevirtual 197, 3) := by decide +kernel
theorem dX6_look_47 : decode cX6_look 47 = .ok (.iconst (-1), 1) := by decide +kernel
theorem dX6_look_48 : decode cX6_look 48 = .ok (.if_icmp .ne 7, 3) := by decide +kernel
theorem dX6_look_51 : decode cX6_look 51 = .ok (.iconst 1, 1) := by decide +kernel
theorem dX6_look_52 : decode cX6_look 52 = .ok (.goto 4, 3) := by decide +kernel
theorem dX6_look_55 : decode cX6_look 55 = .ok (.iconst 0, 1) := by decide +kernel
theorem dX6_look_56 : decode cX6_look 56 = .ok (.invokevirtual 124, 3) := by decide +kernel
theorem dX6_look_59 : decode cX6_look 59 = .ok (.ifCond .ne 5, 3) := by decide +kernel
theorem dX6_look_62 : decode cX6_look 62 = .ok (.iconst 0, 1) := by decide +kernel
theorem dX6_look_63 : decode cX6_look 63 = .ok (.ireturn, 1) := by decide +kernel
theorem dX6_look_64 : decode cX6_look 64 = .ok (.aload_n 0, 1) := by decide +kernel
theorem dX6_look_65 : decode cX6_look 65 = .ok (.getfield 22, 3) := by decide +kernel
theorem dX6_look_68 : decode cX6_look 68 = .ok (.aload_n 0, 1) := by decide +kernel
theorem dX6_look_69 : decode cX6_look 69 = .ok (.getfield 75, 3) := by decide +kernel
theorem dX6_look_72 : decode cX6_look 72 = .ok (.iload_n 2, 1) := by decide +kernel
theorem dX6_look_73 : decode cX6_look 73 = .ok (.iaload, 1) := by decide +kernel
theorem dX6_look_74 : decode cX6_look 74 = .ok (.iaload, 1) := by decide +kernel
theorem dX6_look_75 : decode cX6_look 75 = .ok (.aload_n 0, 1) := by decide +kernel
theorem dX6_look_76 : decode cX6_look 76 = .ok (.getfield 102, 3) := by decide +kernel
theorem dX6_look_79 : decode cX6_look 79 = .ok (.iload_n 1, 1) := by decide +kernel
theorem dX6_look_80 : decode cX6_look 80 = .ok (.iaload, 1) := by decide +kernel
theorem dX6_look_81 : decode cX6_look 81 = .ok (.iadd, 1) := by decide +kernel
theorem dX6_look_82 : decode cX6_look 82 = .ok (.bipush 9, 2) := by decide +kernel
theorem dX6_look_84 : decode cX6_look 84 = .ok (.invokestatic 135, 3) := by decide +kernel
theorem dX6_look_87 : decode cX6_look 87 = .ok (.istore 4, 2) := by decide +kernel
theorem dX6_look_89 : decode cX6_look 89 = .ok (.aload_n 0, 1) := by decide +kernel
theorem dX6_look_90 : decode cX6_look 90 = .ok (.getfield 96, 3) := by decide +kernel
theorem dX6_look_93 : decode cX6_look 93 = .ok (.iconst 3, 1) := by decide +kernel
theorem dX6_look_94 : decode cX6_look 94 = .ok (.iload_n 2, 1) := by decide +kernel
theorem dX6_look_95 : decode cX6_look 95 = .ok (.imul, 1) := by decide +kernel
theorem dX6_look_96 : decode cX6_look 96 = .ok (.aload_n 0, 1) := by decide +kernel
theorem dX6_look_97 : decode cX6_look 97 = .ok (.getfield 93, 3) := by decide +kernel
theorem dX6_look_100 : decode cX6_look 100 = .ok (.iload_n 2, 1) := by decide +kernel
theorem dX6_look_101 : decode cX6_look 101 = .ok (.iaload, 1) := by decide +kernel
theorem dX6_look_102 : decode cX6_look 102 = .ok (.iadd, 1) := by decide +kernel
theorem dX6_look_103 : decode cX6_look 103 = .ok (.iload 4, 2) := by decide +kernel
theorem dX6_look_105 : decode cX6_look 105 = .ok (.iastore, 1) := by decide +kernel
theorem dX6_look_106 : decode cX6_look 106 = .ok (.aload_n 0, 1) := by decide +kernel
theorem dX6_look_107 : decode cX6_look 107 = .ok (.getfield 93, 3) := by decide +kernel
theorem dX6_look_110 : decode cX6_look 110 = .ok (.iload_n 2, 1) := by decide +kernel
theorem dX6_look_111 : decode cX6_look 111 = .ok (.dup2, 1) := by decide +kernel
theorem dX6_look_112 : decode cX6_look 112 = .ok (.iaload, 1) := by decide +kernel
theorem dX6_look_113 : decode cX6_look 113 = .ok (.iconst 1, 1) := by decide +kernel
theorem dX6_look_114 : decode cX6_look 114 = .ok (.iadd, 1) := by decide +kernel
theorem dX6_look_115 : decode cX6_look 115 = .ok (.iastore, 1) := by decide +kernel
theorem dX6_look_116 : decode cX6_look 116 = .ok (.aload_n 0, 1) := by decide +kernel
theorem dX6_look_117 : decode cX6_look 117 = .ok (.getfield 99, 3) := by decide +kernel
theorem dX6_look_120 : decode cX6_look 120 = .ok (.iload_n 2, 1) := by decide +kernel
theorem dX6_look_121 : decode cX6_look 121 = .ok (.dup2, 1) := by decide +kernel
theorem dX6_look_122 : decode cX6_look 122 = .ok (.iaload, 1) := by decide +kernel
theorem dX6_look_123 : decode cX6_look 123 = .ok (.iconst 1, 1) := by decide +kernel
theorem dX6_look_124 : decode cX6_look 124 = .ok (.iload_n 1, 1) := by decide +kernel
theorem dX6_look_125 : decode cX6_look 125 = .ok (.ishl, 1) := by decide +kernel
theorem dX6_look_126 : decode cX6_look 126 = .ok (.ior, 1) := by decide +kernel
theorem dX6_look_127 : decode cX6_look 127 = .ok (.iastore, 1) := by decide +kernel
theorem dX6_look_128 : decode cX6_look 128 = .ok (.iload 4, 2) := by decide +kernel
theorem dX6_look_130 : decode cX6_look 130 = .ok (.ireturn, 1) := by decide +kernel
theorem dX6_cameOf_0 : decode cX6_cameOf 0 = .ok (.iconst 0, 1) := by decide +kernel
theorem dX6_cameOf_1 : decode cX6_cameOf 1 = .ok (.istore_n 2, 1) := by decide +kernel
theorem dX6_cameOf_2 : decode cX6_cameOf 2 = .ok (.iconst 0, 1) := by decide +kernel
theorem dX6_cameOf_3 : decode cX6_cameOf 3 = .ok (.istore_n 3, 1) := by decide +kernel
theorem dX6_cameOf_4 : decode cX6_cameOf 4 = .ok (.iload_n 3, 1) := by decide +kernel
theorem dX6_cameOf_5 : decode cX6_cameOf 5 = .ok (.aload_n 0, 1) := by decide +kernel
theorem dX6_cameOf_6 : decode cX6_cameOf 6 = .ok (.getfield 111, 3) := by decide +kernel
theorem dX6_cameOf_9 : decode cX6_cameOf 9 = .ok (.if_icmp .ge 37, 3) := by decide +kernel
theorem dX6_cameOf_12 : decode cX6_cameOf 12 = .ok (.iload_n 2, 1) := by decide +kernel
theorem dX6_cameOf_13 : decode cX6_cameOf 13 = .ok (.aload_n 0, 1) := by decide +kernel
theorem dX6_cameOf_14 : decode cX6_cameOf 14 = .ok (.getfield 7, 3) := by decide +kernel
theorem dX6_cameOf_17 : decode cX6_cameOf 17 = .ok (.aload_n 0, 1) := by decide +kernel
theorem dX6_cameOf_18 : decode cX6_cameOf 18 = .ok (.getfield 13, 3) := by decide +kernel
theorem dX6_cameOf_21 : decode cX6_cameOf 21 = .ok (.iload_n 3, 1) := by decide +kernel
theorem dX6_cameOf_22 : decode cX6_cameOf 22 = .ok (.iaload, 1) := by decide +kernel
theorem dX6_cameOf_23 : decode cX6_cameOf 23 = .ok (.iaload, 1) := by decide +kernel
theorem dX6_cameOf_24 : decode cX6_cameOf 24 = .ok (.iload_n 1, 1) := by decide +kernel
theorem dX6_cameOf_25 : decode cX6_cameOf 25 = .ok (.if_icmp .ne 12, 3) := by decide +kernel
theorem dX6_cameOf_28 : decode cX6_cameOf 28 = .ok (.aload_n 0, 1) := by decide +kernel
theorem dX6_cameOf_29 : decode cX6_cameOf 29 = .ok (.getfield 16, 3) := by decide +kernel
theorem dX6_cameOf_32 : decode cX6_cameOf 32 = .ok (.iload_n 3, 1) := by decide +kernel
theorem dX6_cameOf_33 : decode cX6_cameOf 33 = .ok (.iaload, 1) := by decide +kernel
theorem dX6_cameOf_34 : decode cX6_cameOf 34 = .ok (.goto 4, 3) := by decide +kernel
theorem dX6_cameOf_37 : decode cX6_cameOf 37 = .ok (.iconst 0, 1) := by decide +kernel
theorem dX6_cameOf_38 : decode cX6_cameOf 38 = .ok (.iadd, 1) := by decide +kernel
theorem dX6_cameOf_39 : decode cX6_cameOf 39 = .ok (.istore_n 2, 1) := by decide +kernel
theorem dX6_cameOf_40 : decode cX6_cameOf 40 = .ok (.iinc 3 1, 3) := by decide +kernel
theorem dX6_cameOf_43 : decode cX6_cameOf 43 = .ok (.goto (-39), 3) := by decide +kernel
theorem dX6_cameOf_46 : decode cX6_cameOf 46 = .ok (.iload_n 2, 1) := by decide +kernel
theorem dX6_cameOf_47 : decode cX6_cameOf 47 = .ok (.ireturn, 1) := by decide +kernel
theorem dX6_paper_0 : decode cX6_paper 0 = .ok (.aload_n 0, 1) := by decide +kernel
theorem dX6_paper_1 : decode cX6_paper 1 = .ok (.iload_n 1, 1) := by decide +kernel
theorem dX6_paper_2 : decode cX6_paper 2 = .ok (.invokevirtual 194, 3) := by decide +kernel
theorem dX6_paper_5 : decode cX6_paper 5 = .ok (.ifCond .eq 16, 3) := by decide +kernel
theorem dX6_paper_8 : decode cX6_paper 8 = .ok (.iload_n 2, 1) := by decide +kernel
theorem dX6_paper_9 : decode cX6_paper 9 = .ok (.iconst 0, 1) := by decide +kernel
theorem dX6_paper_10 : decode cX6_paper 10 = .ok (.iconst 3, 1) := by decide +kernel
theorem dX6_paper_11 : decode cX6_paper 11 = .ok (.invokestatic 114, 3) := by decide +kernel
theorem dX6_paper_14 : decode cX6_paper 14 = .ok (.ifCond .eq 7, 3) := by decide +kernel
theorem dX6_paper_17 : decode cX6_paper 17 = .ok (.iconst 1, 1) := by decide +kernel
theorem dX6_paper_18 : decode cX6_paper 18 = .ok (.goto 4, 3) := by decide +kernel
theorem dX6_paper_21 : decode cX6_paper 21 = .ok (.iconst 0, 1) := by decide +kernel
theorem dX6_paper_22 : decode cX6_paper 22 = .ok (.istore_n 3, 1) := by decide +kernel
theorem dX6_paper_23 : decode cX6_paper 23 = .ok (.aload_n 0, 1) := by decide +kernel
theorem dX6_paper_24 : decode cX6_paper 24 = .ok (.iload_n 3, 1) := by decide +kernel
theorem dX6_paper_25 : decode cX6_paper 25 = .ok (.iload_n 3, 1) := by decide +kernel
theorem dX6_paper_26 : decode cX6_paper 26 = .ok (.ifCond .eq 38, 3) := by decide +kernel
theorem dX6_paper_29 : decode cX6_paper 29 = .ok (.aload_n 0, 1) := by decide +kernel
theorem dX6_paper_30 : decode cX6_paper 30 = .ok (.getfield 90, 3) := by decide +kernel
theorem dX6_paper_33 : decode cX6_paper 33 = .ok (.iload_n 1, 1) := by decide +kernel
theorem dX6_paper_34 : decode cX6_paper 34 = .ok (.iaload, 1) := by decide +kernel
theorem dX6_paper_35 : decode cX6_paper 35 = .ok (.iconst (-1), 1) := by decide +kernel
theorem dX6_paper_36 : decode cX6_paper 36 = .ok (.if_icmp .ne 28, 3) := by decide +kernel
theorem dX6_paper_39 : decode cX6_paper 39 = .ok (.aload_n 0, 1) := by decide +kernel
theorem dX6_paper_40 : decode cX6_paper 40 = .ok (.getfield 105, 3) := by decide +kernel
theorem dX6_paper_43 : decode cX6_paper 43 = .ok (.iload_n 2, 1) := by decide +kernel
theorem dX6_paper_44 : decode cX6_paper 44 = .ok (.iaload, 1) := by decide +kernel
theorem dX6_paper_45 : decode cX6_paper 45 = .ok (.aload_n 0, 1) := by decide +kernel
theorem dX6_paper_46 : decode cX6_paper 46 = .ok (.getfield 78, 3) := by decide +kernel
theorem dX6_paper_49 : decode cX6_paper 49 = .ok (.iload_n 1, 1) := by decide +kernel
theorem dX6_paper_50 : decode cX6_paper 50 = .ok (.iaload, 1) := by decide +kernel
theorem dX6_paper_51 : decode cX6_paper 51 = .ok (.iadd, 1) := by decide +kernel
theorem dX6_paper_52 : decode cX6_paper 52 = .ok (.aload_n 0, 1) := by decide +kernel
theorem dX6_paper_53 : decode cX6_paper 53 = .ok (.iload_n 2, 1) := by decide +kernel
theorem dX6_paper_54 : decode cX6_paper 54 = .ok (.invokevirtual 206, 3) := by decide +kernel
theorem dX6_paper_57 : decode cX6_paper 57 = .ok (.if_icmp .gt 7, 3) := by decide +kernel
theorem dX6_paper_60 : decode cX6_paper 60 = .ok (.iconst 1, 1) := by decide +kernel
theorem dX6_paper_61 : decode cX6_paper 61 = .ok (.goto 4, 3) := by decide +kernel
theorem dX6_paper_64 : decode cX6_paper 64 = .ok (.iconst 0, 1) := by decide +kernel
theorem dX6_paper_65 : decode cX6_paper 65 = .ok (.invokevirtual 124, 3) := by decide +kernel
theorem dX6_paper_68 : decode cX6_paper 68 = .ok (.ifCond .ne 5, 3) := by decide +kernel
theorem dX6_paper_71 : decode cX6_paper 71 = .ok (.iconst 0, 1) := by decide +kernel
theorem dX6_paper_72 : decode cX6_paper 72 = .ok (.ireturn, 1) := by decide +kernel
theorem dX6_paper_73 : decode cX6_paper 73 = .ok (.aload_n 0, 1) := by decide +kernel
theorem dX6_paper_74 : decode cX6_paper 74 = .ok (.getfield 90, 3) := by decide +kernel
theorem dX6_paper_77 : decode cX6_paper 77 = .ok (.iload_n 1, 1) := by decide +kernel
theorem dX6_paper_78 : decode cX6_paper 78 = .ok (.iload_n 2, 1) := by decide +kernel
theorem dX6_paper_79 : decode cX6_paper 79 = .ok (.iastore, 1) := by decide +kernel
theorem dX6_paper_80 : decode cX6_paper 80 = .ok (.aload_n 0, 1) := by decide +kernel
theorem dX6_paper_81 : decode cX6_paper 81 = .ok (.getfield 105, 3) := by decide +kernel
theorem dX6_paper_84 : decode cX6_paper 84 = .ok (.iload_n 2, 1) := by decide +kernel
theorem dX6_paper_85 : decode cX6_paper 85 = .ok (.dup2, 1) := by decide +kernel
theorem dX6_paper_86 : decode cX6_paper 86 = .ok (.iaload, 1) := by decide +kernel
theorem dX6_paper_87 : decode cX6_paper 87 = .ok (.aload_n 0, 1) := by decide +kernel
theorem dX6_paper_88 : decode cX6_paper 88 = .ok (.getfield 78, 3) := by decide +kernel
theorem dX6_paper_91 : decode cX6_paper 91 = .ok (.iload_n 1, 1) := by decide +kernel
theorem dX6_paper_92 : decode cX6_paper 92 = .ok (.iaload, 1) := by decide +kernel
theorem dX6_paper_93 : decode cX6_paper 93 = .ok (.iadd, 1) := by decide +kernel
theorem dX6_paper_94 : decode cX6_paper 94 = .ok (.iastore, 1) := by decide +kernel
theorem dX6_paper_95 : decode cX6_paper 95 = .ok (.aload_n 0, 1) := by decide +kernel
theorem dX6_paper_96 : decode cX6_paper 96 = .ok (.iload_n 2, 1) := by decide +kernel
theorem dX6_paper_97 : decode cX6_paper 97 = .ok (.invokevirtual 206, 3) := by decide +kernel
theorem dX6_paper_100 : decode cX6_paper 100 = .ok (.aload_n 0, 1) := by decide +kernel
theorem dX6_paper_101 : decode cX6_paper 101 = .ok (.getfield 105, 3) := by decide +kernel
theorem dX6_paper_104 : decode cX6_paper 104 = .ok (.iload_n 2, 1) := by decide +kernel
theorem dX6_paper_105 : decode cX6_paper 105 = .ok (.iaload, 1) := by decide +kernel
theorem dX6_paper_106 : decode cX6_paper 106 = .ok (.isub, 1) := by decide +kernel
theorem dX6_paper_107 : decode cX6_paper 107 = .ok (.ireturn, 1) := by decide +kernel
theorem dX6_all_0 : decode cX6_all 0 = .ok (.aload_n 0, 1) := by decide +kernel
theorem dX6_all_1 : decode cX6_all 1 = .ok (.iload_n 1, 1) := by decide +kernel
theorem dX6_all_2 : decode cX6_all 2 = .ok (.iconst 0, 1) := by decide +kernel
theorem dX6_all_3 : decode cX6_all 3 = .ok (.iconst 5, 1) := by decide +kernel
theorem dX6_all_4 : decode cX6_all 4 = .ok (.invokestatic 114, 3) := by decide +kernel
theorem dX6_all_7 : decode cX6_all 7 = .ok (.invokevirtual 148, 3) := by decide +kernel
theorem dX6_all_10 : decode cX6_all 10 = .ok (.ifCond .ne 5, 3) := by decide +kernel
theorem dX6_all_13 : decode cX6_all 13 = .ok (.iconst 0, 1) := by decide +kernel
theorem dX6_all_14 : decode cX6_all 14 = .ok (.ireturn, 1) := by decide +kernel
theorem dX6_all_15 : decode cX6_all 15 = .ok (.iconst 0, 1) := by decide +kernel
theorem dX6_all_16 : decode cX6_all 16 = .ok (.istore_n 2, 1) := by decide +kernel
theorem dX6_all_17 : decode cX6_all 17 = .ok (.iconst 0, 1) := by decide +kernel
theorem dX6_all_18 : decode cX6_all 18 = .ok (.istore_n 3, 1) := by decide +kernel
theorem dX6_all_19 : decode cX6_all 19 = .ok (.iconst 0, 1) := by decide +kernel
theorem dX6_all_20 : decode cX6_all 20 = .ok (.istore 4, 2) := by decide +kernel
theorem dX6_all_22 : decode cX6_all 22 = .ok (.iload 4, 2) := by decide +kernel
theorem dX6_all_24 : decode cX6_all 24 = .ok (.aload_n 0, 1) := by decide +kernel
theorem dX6_all_25 : decode cX6_all 25 = .ok (.getfield 111, 3) := by decide +kernel
theorem dX6_all_28 : decode cX6_all 28 = .ok (.if_icmp .ge 44, 3) := by decide +kernel
theorem dX6_all_31 : decode cX6_all 31 = .ok (.iload_n 2, 1) := by decide +kernel
theorem dX6_all_32 : decode cX6_all 32 = .ok (.aload_n 0, 1) := by decide +kernel
theorem dX6_all_33 : decode cX6_all 33 = .ok (.getfield 16, 3) := by decide +kernel
theorem dX6_all_36 : decode cX6_all 36 = .ok (.iload 4, 2) := by decide +kernel
theorem dX6_all_38 : decode cX6_all 38 = .ok (.iaload, 1) := by decide +kernel
theorem dX6_all_39 : decode cX6_all 39 = .ok (.iadd, 1) := by decide +kernel
theorem dX6_all_40 : decode cX6_all 40 = .ok (.istore_n 2, 1) := by decide +kernel
theorem dX6_all_41 : decode cX6_all 41 = .ok (.iload_n 3, 1) := by decide +kernel
theorem dX6_all_42 : decode cX6_all 42 = .ok (.aload_n 0, 1) := by decide +kernel
theorem dX6_all_43 : decode cX6_all 43 = .ok (.getfield 28, 3) := by decide +kernel
theorem dX6_all_46 : decode cX6_all 46 = .ok (.iload 4, 2) := by decide +kernel
theorem dX6_all_48 : decode cX6_all 48 = .ok (.iaload, 1) := by decide +kernel
theorem dX6_all_49 : decode cX6_all 49 = .ok (.iconst 3, 1) := by decide +kernel
theorem dX6_all_50 : decode cX6_all 50 = .ok (.if_icmp .ne 7, 3) := by decide +kernel
theorem dX6_all_53 : decode cX6_all 53 = .ok (.iconst 0, 1) := by decide +kernel
theorem dX6_all_54 : decode cX6_all 54 = .ok (.goto 10, 3) := by decide +kernel
theorem dX6_all_57 : decode cX6_all 57 = .ok (.aload_n 0, 1) := by decide +kernel
theorem dX6_all_58 : decode cX6_all 58 = .ok (.getfield 16, 3) := by decide +kernel
theorem dX6_all_61 : decode cX6_all 61 = .ok (.iload 4, 2) := by decide +kernel
theorem dX6_all_63 : decode cX6_all 63 = .ok (.iaload, 1) := by decide +kernel
theorem dX6_all_64 : decode cX6_all 64 = .ok (.iadd, 1) := by decide +kernel
theorem dX6_all_65 : decode cX6_all 65 = .ok (.istore_n 3, 1) := by decide +kernel
theorem dX6_all_66 : decode cX6_all 66 = .ok (.iinc 4 1, 3) := by decide +kernel
theorem dX6_all_69 : decode cX6_all 69 = .ok (.goto (-47), 3) := by decide +kernel
theorem dX6_all_72 : decode cX6_all 72 = .ok (.iconst 0, 1) := by decide +kernel
theorem dX6_all_73 : decode cX6_all 73 = .ok (.istore 4, 2) := by decide +kernel
theorem dX6_all_75 : decode cX6_all 75 = .ok (.iconst 0, 1) := by decide +kernel
theorem dX6_all_76 : decode cX6_all 76 = .ok (.istore 5, 2) := by decide +kernel
theorem dX6_all_78 : decode cX6_all 78 = .ok (.iconst 0, 1) := by decide +kernel
theorem dX6_all_79 : decode cX6_all 79 = .ok (.istore 6, 2) := by decide +kernel
theorem dX6_all_81 : decode cX6_all 81 = .ok (.iload 6, 2) := by decide +kernel
theorem dX6_all_83 : decode cX6_all 83 = .ok (.aload_n 0, 1) := by decide +kernel
theorem dX6_all_84 : decode cX6_all 84 = .ok (.getfield 118, 3) := by decide +kernel
theorem dX6_all_87 : decode cX6_all 87 = .ok (.if_icmp .ge 58, 3) := by decide +kernel
theorem dX6_all_90 : decode cX6_all 90 = .ok (.iload 4, 2) := by decide +kernel
theorem dX6_all_92 : decode cX6_all 92 = .ok (.aload_n 0, 1) := by decide +kernel
theorem dX6_all_93 : decode cX6_all 93 = .ok (.getfield 78, 3) := by decide +kernel
theorem dX6_all_96 : decode cX6_all 96 = .ok (.iload 6, 2) := by decide +kernel
theorem dX6_all_98 : decode cX6_all 98 = .ok (.iaload, 1) := by decide +kernel
theorem dX6_all_99 : decode cX6_all 99 = .ok (.iadd, 1) := by decide +kernel
theorem dX6_all_100 : decode cX6_all 100 = .ok (.istore 4, 2) := by decide +kernel
theorem dX6_all_102 : decode cX6_all 102 = .ok (.iload 5, 2) := by decide +kernel
theorem dX6_all_104 : decode cX6_all 104 = .ok (.aload_n 0, 1) := by decide +kernel
theorem dX6_all_105 : decode cX6_all 105 = .ok (.getfield 90, 3) := by decide +kernel
theorem dX6_all_108 : decode cX6_all 108 = .ok (.iload 6, 2) := by decide +kernel
theorem dX6_all_110 : decode cX6_all 110 = .ok (.iaload, 1) := by decide +kernel
theorem dX6_all_111 : decode cX6_all 111 = .ok (.iconst (-1), 1) := by decide +kernel
theorem dX6_all_112 : decode cX6_all 112 = .ok (.if_icmp .eq 23, 3) := by decide +kernel
theorem dX6_all_115 : decode cX6_all 115 = .ok (.aload_n 0, 1) := by decide +kernel
theorem dX6_all_116 : decode cX6_all 116 = .ok (.getfield 90, 3) := by decide +kernel
theorem dX6_all_119 : decode cX6_all 119 = .ok (.iload 6, 2) := by decide +kernel
theorem dX6_all_121 : decode cX6_all 121 = .ok (.iaload, 1) := by decide +kernel
theorem dX6_all_122 : decode cX6_all 122 = .ok (.aload_n 0, 1) := by decide +kernel
theorem dX6_all_123 : decode cX6_all 123 = .ok (.iload 6, 2) := by decide +kernel
theorem dX6_all_125 : decode cX6_all 125 = .ok (.invokevirtual 203, 3) := by decide +kernel
theorem dX6_all_128 : decode cX6_all 128 = .ok (.if_icmp .eq 7, 3) := by decide +kernel
theorem dX6_all_131 : decode cX6_all 131 = .ok (.iconst 1, 1) := by decide +kernel
theorem dX6_all_132 : decode cX6_all 132 = .ok (.goto 4, 3) := by decide +kernel
theorem dX6_all_135 : decode cX6_all 135 = .ok (.iconst 0, 1) := by decide +kernel
theorem dX6_all_136 : decode cX6_all 136 = .ok (.iadd, 1) := by decide +kernel
theorem dX6_all_137 : decode cX6_all 137 = .ok (.istore 5, 2) := by decide +kernel
theorem dX6_all_139 : decode cX6_all 139 = .ok (.iinc 6 1, 3) := by decide +kernel
theorem dX6_all_142 : decode cX6_all 142 = .ok (.goto (-61), 3) := by decide +kernel
theorem dX6_all_145 : decode cX6_all 145 = .ok (.iconst 0, 1) := by decide +kernel
theorem dX6_all_146 : decode cX6_all 146 = .ok (.istore 6, 2) := by decide +kernel
theorem dX6_all_148 : decode cX6_all 148 = .ok (.iconst 0, 1) := by decide +kernel
theorem dX6_all_149 : decode cX6_all 149 = .ok (.istore 7, 2) := by decide +kernel
theorem dX6_all_151 : decode cX6_all 151 = .ok (.iload 7, 2) := by decide +kernel
theorem dX6_all_153 : decode cX6_all 153 = .ok (.iconst 4, 1) := by decide +kernel
theorem dX6_all_154 : decode cX6_all 154 = .ok (.if_icmp .ge 21, 3) := by decide +kernel
theorem dX6_all_157 : decode cX6_all 157 = .ok (.iload 6, 2) := by decide +kernel
theorem dX6_all_159 : decode cX6_all 159 = .ok (.aload_n 0, 1) := by decide +kernel
theorem dX6_all_160 : decode cX6_all 160 = .ok (.getfield 105, 3) := by decide +kernel
theorem dX6_all_163 : decode cX6_all 163 = .ok (.iload 7, 2) := by decide +kernel
theorem dX6_all_165 : decode cX6_all 165 = .ok (.iaload, 1) := by decide +kernel
theorem dX6_all_166 : decode cX6_all 166 = .ok (.iadd, 1) := by decide +kernel
theorem dX6_all_167 : decode cX6_all 167 = .ok (.istore 6, 2) := by decide +kernel
theorem dX6_all_169 : decode cX6_all 169 = .ok (.iinc 7 1, 3) := by decide +kernel
theorem dX6_all_172 : decode cX6_all 172 = .ok (.goto (-21), 3) := by decide +kernel
theorem dX6_all_175 : decode cX6_all 175 = .ok (.iload_n 1, 1) := by decide +kernel
theorem dX6_all_176 : decode cX6_all 176 = .ok (.ifCond .ne 7, 3) := by decide +kernel
theorem dX6_all_179 : decode cX6_all 179 = .ok (.iload_n 2, 1) := by decide +kernel
theorem dX6_all_180 : decode cX6_all 180 = .ok (.goto 46, 3) := by decide +kernel
theorem dX6_all_183 : decode cX6_all 183 = .ok (.iload_n 1, 1) := by decide +kernel
theorem dX6_all_184 : decode cX6_all 184 = .ok (.iconst 1, 1) := by decide +kernel
theorem dX6_all_185 : decode cX6_all 185 = .ok (.if_icmp .ne 7, 3) := by decide +kernel
theorem dX6_all_188 : decode cX6_all 188 = .ok (.iload_n 3, 1) := by decide +kernel
theorem dX6_all_189 : decode cX6_all 189 = .ok (.goto 37, 3) := by decide +kernel
theorem dX6_all_192 : decode cX6_all 192 = .ok (.iload_n 1, 1) := by decide +kernel
theorem dX6_all_193 : decode cX6_all 193 = .ok (.iconst 2, 1) := by decide +kernel
theorem dX6_all_194 : decode cX6_all 194 = .ok (.if_icmp .ne 8, 3) := by decide +kernel
theorem dX6_all_197 : decode cX6_all 197 = .ok (.iload 4, 2) := by decide +kernel
theorem dX6_all_199 : decode cX6_all 199 = .ok (.goto 27, 3) := by decide +kernel
theorem dX6_all_202 : decode cX6_all 202 = .ok (.iload_n 1, 1) := by decide +kernel
theorem dX6_all_203 : decode cX6_all 203 = .ok (.iconst 3, 1) := by decide +kernel
theorem dX6_all_204 : decode cX6_all 204 = .ok (.if_icmp .ne 10, 3) := by decide +kernel
theorem dX6_all_207 : decode cX6_all 207 = .ok (.aload_n 0, 1) := by decide +kernel
theorem dX6_all_208 : decode cX6_all 208 = .ok (.getfield 191, 3) := by decide +kernel
theorem dX6_all_211 : decode cX6_all 211 = .ok (.goto 15, 3) := by decide +kernel
theorem dX6_all_214 : decode cX6_all 214 = .ok (.iload_n 1, 1) := by decide +kernel
theorem dX6_all_215 : decode cX6_all 215 = .ok (.iconst 4, 1) := by decide +kernel
theorem dX6_all_216 : decode cX6_all 216 = .ok (.if_icmp .ne 8, 3) := by decide +kernel
theorem dX6_all_219 : decode cX6_all 219 = .ok (.iload 6, 2) := by decide +kernel
theorem dX6_all_221 : decode cX6_all 221 = .ok (.goto 5, 3) := by decide +kernel
theorem dX6_all_224 : decode cX6_all 224 = .ok (.iload 5, 2) := by decide +kernel
theorem dX6_all_226 : decode cX6_all 226 = .ok (.ireturn, 1) := by decide +kernel
end
section
theorem dX0_init_0 : decode cX0_init 0 = .ok (.aload_n 0, 1) := by decide +kernel
theorem dX0_init_1 : decode cX0_init 1 = .ok (.invokespecial 3, 3) := by decide +kernel
theorem dX0_init_4 : decode cX0_init 4 = .ok (.aload_n 0, 1) := by decide +kernel
theorem dX0_init_5 : decode cX0_init 5 = .ok (.new 9, 3) := by decide +kernel
theorem dX0_init_8 : decode cX0_init 8 = .ok (.dup, 1) := by decide +kernel
theorem dX0_init_9 : decode cX0_init 9 = .ok (.invokespecial 11, 3) := by decide +kernel
theorem dX0_init_12 : decode cX0_init 12 = .ok (.putfield 12, 3) := by decide +kernel
theorem dX0_init_15 : decode cX0_init 15 = .ok (.aload_n 0, 1) := by decide +kernel
theorem dX0_init_16 : decode cX0_init 16 = .ok (.iconst (-1), 1) := by decide +kernel
theorem dX0_init_17 : decode cX0_init 17 = .ok (.putfield 18, 3) := by decide +kernel
theorem dX0_init_20 : decode cX0_init 20 = .ok (.aload_n 0, 1) := by decide +kernel
theorem dX0_init_21 : decode cX0_init 21 = .ok (.aload_n 1, 1) := by decide +kernel
theorem dX0_init_22 : decode cX0_init 22 = .ok (.getfield 22, 3) := by decide +kernel
theorem dX0_init_25 : decode cX0_init 25 = .ok (.putfield 27, 3) := by decide +kernel
theorem dX0_init_28 : decode cX0_init 28 = .ok (.aload_n 0, 1) := by decide +kernel
theorem dX0_init_29 : decode cX0_init 29 = .ok (.aload_n 1, 1) := by decide +kernel
theorem dX0_init_30 : decode cX0_init 30 = .ok (.getfield 30, 3) := by decide +kernel
theorem dX0_init_33 : decode cX0_init 33 = .ok (.putfield 33, 3) := by decide +kernel
theorem dX0_init_36 : decode cX0_init 36 = .ok (.aload_n 0, 1) := by decide +kernel
theorem dX0_init_37 : decode cX0_init 37 = .ok (.aload_n 1, 1) := by decide +kernel
theorem dX0_init_38 : decode cX0_init 38 = .ok (.getfield 34, 3) := by decide +kernel
theorem dX0_init_41 : decode cX0_init 41 = .ok (.putfield 37, 3) := by decide +kernel
theorem dX0_init_44 : decode cX0_init 44 = .ok (.aload_n 0, 1) := by decide +kernel
theorem dX0_init_45 : decode cX0_init 45 = .ok (.aload_n 1, 1) := by decide +kernel
theorem dX0_init_46 : decode cX0_init 46 = .ok (.getfield 40, 3) := by decide +kernel
theorem dX0_init_49 : decode cX0_init 49 = .ok (.putfield 43, 3) := by decide +kernel
theorem dX0_init_52 : decode cX0_init 52 = .ok (.aload_n 0, 1) := by decide +kernel
theorem dX0_init_53 : decode cX0_init 53 = .ok (.iload_n 2, 1) := by decide +kernel
theorem dX0_init_54 : decode cX0_init 54 = .ok (.putfield 44, 3) := by decide +kernel
theorem dX0_init_57 : decode cX0_init 57 = .ok (.aload_n 0, 1) := by decide +kernel
theorem dX0_init_58 : decode cX0_init 58 = .ok (.iload_n 3, 1) := by decide +kernel
theorem dX0_init_59 : decode cX0_init 59 = .ok (.putfield 47, 3) := by decide +kernel
theorem dX0_init_62 : decode cX0_init 62 = .ok (.aload_n 0, 1) := by decide +kernel
theorem dX0_init_63 : decode cX0_init 63 = .ok (.iload_n 3, 1) := by decide +kernel
theorem dX0_init_64 : decode cX0_init 64 = .ok (.aload_n 1, 1) := by decide +kernel
theorem dX0_init_65 : decode cX0_init 65 = .ok (.getfield 50, 3) := by decide +kernel
theorem dX0_init_68 : decode cX0_init 68 = .ok (.imul, 1) := by decide +kernel
theorem dX0_init_69 : decode cX0_init 69 = .ok (.bipush 12, 2) := by decide +kernel
theorem dX0_init_71 : decode cX0_init 71 = .ok (.idiv, 1) := by decide +kernel
theorem dX0_init_72 : decode cX0_init 72 = .ok (.bipush 60, 2) := by decide +kernel
theorem dX0_init_74 : decode cX0_init 74 = .ok (.imul, 1) := by decide +kernel
theorem dX0_init_75 : decode cX0_init 75 = .ok (.bipush 100, 2) := by decide +kernel
theorem dX0_init_77 : decode cX0_init 77 = .ok (.idiv, 1) := by decide +kernel
theorem dX0_init_78 : decode cX0_init 78 = .ok (.putfield 53, 3) := by decide +kernel
theorem dX0_init_81 : decode cX0_init 81 = .ok (.return_, 1) := by decide +kernel
theorem dX0_grade_0 : decode cX0_grade 0 = .ok (.aload_n 0, 1) := by decide +kernel
theorem dX0_grade_1 : decode cX0_grade 1 = .ok (.getfield 12, 3) := by decide +kernel
theorem dX0_grade_4 : decode cX0_grade 4 = .ok (.getfield 54, 3) := by decide +kernel
theorem dX0_grade_7 : decode cX0_grade 7 = .ok (.iconst 2, 1) := by decide +kernel
theorem dX0_grade_8 : decode cX0_grade 8 = .ok (.if_icmp .lt 28, 3) := by decide +kernel
theorem dX0_grade_11 : decode cX0_grade 11 = .ok (.aload_n 0, 1) := by decide +kernel
theorem dX0_grade_12 : decode cX0_grade 12 = .ok (.getfield 12, 3) := by decide +kernel
theorem dX0_grade_15 : decode cX0_grade 15 = .ok (.getfield 57, 3) := by decide +kernel
theorem dX0_grade_18 : decode cX0_grade 18 = .ok (.aload_n 0, 1) := by decide +kernel
theorem dX0_grade_19 : decode cX0_grade 19 = .ok (.getfield 12, 3) := by decide +kernel
theorem dX0_grade_22 : decode cX0_grade 22 = .ok (.getfield 60, 3) := by decide +kernel
theorem dX0_grade_25 : decode cX0_grade 25 = .ok (.if_icmp .ne 11, 3) := by decide +kernel
theorem dX0_grade_28 : decode cX0_grade 28 = .ok (.aload_n 0, 1) := by decide +kernel
theorem dX0_grade_29 : decode cX0_grade 29 = .ok (.getfield 12, 3) := by decide +kernel
theorem dX0_grade_32 : decode cX0_grade 32 = .ok (.getfield 57, 3) := by decide +kernel
theorem dX0_grade_35 : decode cX0_grade 35 = .ok (.ireturn, 1) := by decide +kernel
theorem dX0_grade_36 : decode cX0_grade 36 = .ok (.aload_n 0, 1) := by decide +kernel
theorem dX0_grade_37 : decode cX0_grade 37 = .ok (.getfield 12, 3) := by decide +kernel
theorem dX0_grade_40 : decode cX0_grade 40 = .ok (.invokevirtual 63, 3) := by decide +kernel
theorem dX0_grade_43 : decode cX0_grade 43 = .ok (.ifCond .eq 13, 3) := by decide +kernel
theorem dX0_grade_46 : decode cX0_grade 46 = .ok (.aload_n 0, 1) := by decide +kernel
theorem dX0_grade_47 : decode cX0_grade 47 = .ok (.getfield 12, 3) := by decide +kernel
theorem dX0_grade_50 : decode cX0_grade 50 = .ok (.invokevirtual 67, 3) := by decide +kernel
theorem dX0_grade_53 : decode cX0_grade 53 = .ok (.goto 4, 3) := by decide +kernel
theorem dX0_grade_56 : decode cX0_grade 56 = .ok (.iconst (-1), 1) := by decide +kernel
theorem dX0_grade_57 : decode cX0_grade 57 = .ok (.ireturn, 1) := by decide +kernel
theorem dX0_gradedPrice_0 : decode cX0_gradedPrice 0 = .ok (.aload_n 0, 1) := by decide +kernel
theorem dX0_gradedPrice_1 : decode cX0_gradedPrice 1 = .ok (.invokevirtual 71, 3) := by decide +kernel
theorem dX0_gradedPrice_4 : decode cX0_gradedPrice 4 = .ok (.istore_n 1, 1) := by decide +kernel
theorem dX0_gradedPrice_5 : decode cX0_gradedPrice 5 = .ok (.iload_n 1, 1) := by decide +kernel
theorem dX0_gradedPrice_6 : decode cX0_gradedPrice 6 = .ok (.iconst (-1), 1) := by decide +kernel
theorem dX0_gradedPrice_7 : decode cX0_gradedPrice 7 = .ok (.if_icmp .ne 5, 3) := by decide +kernel
theorem dX0_gradedPrice_10 : decode cX0_gradedPrice 10 = .ok (.iconst (-1), 1) := by decide +kernel
theorem dX0_gradedPrice_11 : decode cX0_gradedPrice 11 = .ok (.ireturn, 1) := by decide +kernel
theorem dX0_gradedPrice_12 : decode cX0_gradedPrice 12 = .ok (.aload_n 0, 1) := by decide +kernel
theorem dX0_gradedPrice_13 : decode cX0_gradedPrice 13 = .ok (.getfield 53, 3) := by decide +kernel
theorem dX0_gradedPrice_16 : decode cX0_gradedPrice 16 = .ok (.bipush 20, 2) := by decide +kernel
theorem dX0_gradedPrice_18 : decode cX0_gradedPrice 18 = .ok (.iload_n 1, 1) := by decide +kernel
theorem dX0_gradedPrice_19 : decode cX0_gradedPrice 19 = .ok (.isub, 1) := by decide +kernel
theorem dX0_gradedPrice_20 : decode cX0_gradedPrice 20 = .ok (.imul, 1) := by decide +kernel
theorem dX0_gradedPrice_21 : decode cX0_gradedPrice 21 = .ok (.istore_n 2, 1) := by decide +kernel
theorem dX0_gradedPrice_22 : decode cX0_gradedPrice 22 = .ok (.aload_n 0, 1) := by decide +kernel
theorem dX0_gradedPrice_23 : decode cX0_gradedPrice 23 = .ok (.getfield 53, 3) := by decide +kernel
theorem dX0_gradedPrice_26 : decode cX0_gradedPrice 26 = .ok (.bipush 100, 2) := by decide +kernel
theorem dX0_gradedPrice_28 : decode cX0_gradedPrice 28 = .ok (.if_icmp .lt 9, 3) := by decide +kernel
theorem dX0_gradedPrice_31 : decode cX0_gradedPrice 31 = .ok (.iconst 2, 1) := by decide +kernel
theorem dX0_gradedPrice_32 : decode cX0_gradedPrice 32 = .ok (.iload_n 2, 1) := by decide +kernel
theorem dX0_gradedPrice_33 : decode cX0_gradedPrice 33 = .ok (.imul, 1) := by decide +kernel
theorem dX0_gradedPrice_34 : decode cX0_gradedPrice 34 = .ok (.goto 4, 3) := by decide +kernel
theorem dX0_gradedPrice_37 : decode cX0_gradedPrice 37 = .ok (.iload_n 2, 1) := by decide +kernel
theorem dX0_gradedPrice_38 : decode cX0_gradedPrice 38 = .ok (.ireturn, 1) := by decide +kernel
theorem dX1_init_0 : decode cX1_init 0 = .ok (.aload_n 0, 1) := by decide +kernel
theorem dX1_init_1 : decode cX1_init 1 = .ok (.invokespecial 1, 3) := by decide +kernel
theorem dX1_init_4 : decode cX1_init 4 = .ok (.return_, 1) := by decide +kernel
theorem dX1_isBy_0 : decode cX1_isBy 0 = .ok (.aload_n 0, 1) := by decide +kernel
theorem dX1_isBy_1 : decode cX1_isBy 1 = .ok (.getfield 7, 3) := by decide +kernel
theorem dX1_isBy_4 : decode cX1_isBy 4 = .ok (.iload_n 1, 1) := by decide +kernel
theorem dX1_isBy_5 : decode cX1_isBy 5 = .ok (.ishr, 1) := by decide +kernel
theorem dX1_isBy_6 : decode cX1_isBy 6 = .ok (.iconst 1, 1) := by decide +kernel
theorem dX1_isBy_7 : decode cX1_isBy 7 = .ok (.iand, 1) := by decide +kernel
theorem dX1_isBy_8 : decode cX1_isBy 8 = .ok (.ifCond .eq 7, 3) := by decide +kernel
theorem dX1_isBy_11 : decode cX1_isBy 11 = .ok (.iconst 1, 1) := by decide +kernel
theorem dX1_isBy_12 : decode cX1_isBy 12 = .ok (.goto 4, 3) := by decide +kernel
theorem dX1_isBy_15 : decode cX1_isBy 15 = .ok (.iconst 0, 1) := by decide +kernel
theorem dX1_isBy_16 : decode cX1_isBy 16 = .ok (.ireturn, 1) := by decide +kernel
theorem dX1_isFull_0 : decode cX1_isFull 0 = .ok (.aload_n 0, 1) := by decide +kernel
theorem dX1_isFull_1 : decode cX1_isFull 1 = .ok (.getfield 13, 3) := by decide +kernel
theorem dX1_isFull_4 : decode cX1_isFull 4 = .ok (.iconst 3, 1) := by decide +kernel
theorem dX1_isFull_5 : decode cX1_isFull 5 = .ok (.if_icmp .lt 7, 3) := by decide +kernel
theorem dX1_isFull_8 : decode cX1_isFull 8 = .ok (.iconst 1, 1) := by decide +kernel
theorem dX1_isFull_9 : decode cX1_isFull 9 = .ok (.goto 4, 3) := by decide +kernel
theorem dX1_isFull_12 : decode cX1_isFull 12 = .ok (.iconst 0, 1) := by decide +kernel
theorem dX1_isFull_13 : decode cX1_isFull 13 = .ok (.ireturn, 1) := by decide +kernel
theorem dX1_add_0 : decode cX1_add 0 = .ok (.aload_n 0, 1) := by decide +kernel
theorem dX1_add_1 : decode cX1_add 1 = .ok (.dup, 1) := by decide +kernel
theorem dX1_add_2 : decode cX1_add 2 = .ok (.getfield 7, 3) := by decide +kernel
theorem dX1_add_5 : decode cX1_add 5 = .ok (.iconst 1, 1) := by decide +kernel
theorem dX1_add_6 : decode cX1_add 6 = .ok (.iload_n 1, 1) := by decide +kernel
theorem dX1_add_7 : decode cX1_add 7 = .ok (.ishl, 1) := by decide +kernel
theorem dX1_add_8 : decode cX1_add 8 = .ok (.ior, 1) := by decide +kernel
theorem dX1_add_9 : decode cX1_add 9 = .ok (.putfield 7, 3) := by decide +kernel
theorem dX1_add_12 : decode cX1_add 12 = .ok (.aload_n 0, 1) := by decide +kernel
theorem dX1_add_13 : decode cX1_add 13 = .ok (.getfield 13, 3) := by decide +kernel
theorem dX1_add_16 : decode cX1_add 16 = .ok (.ifCond .ne 11, 3) := by decide +kernel
theorem dX1_add_19 : decode cX1_add 19 = .ok (.aload_n 0, 1) := by decide +kernel
theorem dX1_add_20 : decode cX1_add 20 = .ok (.iload_n 2, 1) := by decide +kernel
theorem dX1_add_21 : decode cX1_add 21 = .ok (.putfield 16, 3) := by decide +kernel
theorem dX1_add_24 : decode cX1_add 24 = .ok (.goto 24, 3) := by decide +kernel
theorem dX1_add_27 : decode cX1_add 27 = .ok (.aload_n 0, 1) := by decide +kernel
theorem dX1_add_28 : decode cX1_add 28 = .ok (.getfield 13, 3) := by decide +kernel
theorem dX1_add_31 : decode cX1_add 31 = .ok (.iconst 1, 1) := by decide +kernel
theorem dX1_add_32 : decode cX1_add 32 = .ok (.if_icmp .ne 11, 3) := by decide +kernel
theorem dX1_add_35 : decode cX1_add 35 = .ok (.aload_n 0, 1) := by decide +kernel
theorem dX1_add_36 : decode cX1_add 36 = .ok (.iload_n 2, 1) := by decide +kernel
theorem dX1_add_37 : decode cX1_add 37 = .ok (.putfield 19, 3) := by decide +kernel
theorem dX1_add_40 : decode cX1_add 40 = .ok (.goto 8, 3) := by decide +kernel
theorem dX1_add_43 : decode cX1_add 43 = .ok (.aload_n 0, 1) := by decide +kernel
theorem dX1_add_44 : decode cX1_add 44 = .ok (.iload_n 2, 1) := by decide +kernel
theorem dX1_add_45 : decode cX1_add 45 = .ok (.putfield 22, 3) := by decide +kernel
theorem dX1_add_48 : decode cX1_add 48 = .ok (.aload_n 0, 1) := by decide +kernel
theorem dX1_add_49 : decode cX1_add 49 = .ok (.dup, 1) := by decide +kernel
theorem dX1_add_50 : decode cX1_add 50 = .ok (.getfield 13, 3) := by decide +kernel
theorem dX1_add_53 : decode cX1_add 53 = .ok (.iconst 1, 1) := by decide +kernel
theorem dX1_add_54 : decode cX1_add 54 = .ok (.iadd, 1) := by decide +kernel
theorem dX1_add_55 : decode cX1_add 55 = .ok (.putfield 13, 3) := by decide +kernel
theorem dX1_add_58 : decode cX1_add 58 = .ok (.return_, 1) := by decide +kernel
theorem dX1_middle_0 : decode cX1_middle 0 = .ok (.aload_n 0, 1) := by decide +kernel
theorem dX1_middle_1 : decode cX1_middle 1 = .ok (.getfield 16, 3) := by decide +kernel
theorem dX1_middle_4 : decode cX1_middle 4 = .ok (.aload_n 0, 1) := by decide +kernel
theorem dX1_middle_5 : decode cX1_middle 5 = .ok (.getfield 19, 3) := by decide +kernel
theorem dX1_middle_8 : decode cX1_middle 8 = .ok (.invokestatic 25, 3) := by decide +kernel
theorem dX1_middle_11 : decode cX1_middle 11 = .ok (.istore_n 1, 1) := by decide +kernel
theorem dX1_middle_12 : decode cX1_middle 12 = .ok (.aload_n 0, 1) := by decide +kernel
theorem dX1_middle_13 : decode cX1_middle 13 = .ok (.getfield 16, 3) := by decide +kernel
theorem dX1_middle_16 : decode cX1_middle 16 = .ok (.aload_n 0, 1) := by decide +kernel
theorem dX1_middle_17 : decode cX1_middle 17 = .ok (.getfield 19, 3) := by decide +kernel
theorem dX1_middle_20 : decode cX1_middle 20 = .ok (.invokestatic 31, 3) := by decide +kernel
theorem dX1_middle_23 : decode cX1_middle 23 = .ok (.istore_n 2, 1) := by decide +kernel
theorem dX1_middle_24 : decode cX1_middle 24 = .ok (.iload_n 1, 1) := by decide +kernel
theorem dX1_middle_25 : decode cX1_middle 25 = .ok (.iload_n 2, 1) := by decide +kernel
theorem dX1_middle_26 : decode cX1_middle 26 = .ok (.aload_n 0, 1) := by decide +kernel
theorem dX1_middle_27 : decode cX1_middle 27 = .ok (.getfield 22, 3) := by decide +kernel
theorem dX1_middle_30 : decode cX1_middle 30 = .ok (.invokestatic 25, 3) := by decide +kernel
theorem dX1_middle_33 : decode cX1_middle 33 = .ok (.invokestatic 31, 3) := by decide +kernel
theorem dX1_middle_36 : decode cX1_middle 36 = .ok (.ireturn, 1) := by decide +kernel
theorem dX2_init_0 : decode cX2_init 0 = .ok (.aload_n 0, 1) := by decide +kernel
theorem dX2_init_1 : decode cX2_init 1 = .ok (.invokespecial 3, 3) := by decide +kernel
theorem dX2_init_4 : decode cX2_init 4 = .ok (.aload_n 0, 1) := by decide +kernel
theorem dX2_init_5 : decode cX2_init 5 = .ok (.bipush 76, 2) := by decide +kernel
theorem dX2_init_7 : decode cX2_init 7 = .ok (.newarray .int, 2) := by decide +kernel
theorem dX2_init_9 : decode cX2_init 9 = .ok (.putfield 9, 3) := by decide +kernel
theorem dX2_init_12 : decode cX2_init 12 = .ok (.iconst 0, 1) := by decide +kernel
theorem dX2_init_13 : decode cX2_init 13 = .ok (.istore_n 1, 1) := by decide +kernel
theorem dX2_init_14 : decode cX2_init 14 = .ok (.iload_n 1, 1) := by decide +kernel
theorem dX2_init_15 : decode cX2_init 15 = .ok (.aload_n 0, 1) := by decide +kernel
theorem dX2_init_16 : decode cX2_init 16 = .ok (.getfield 9, 3) := by decide +kernel
theorem dX2_init_19 : decode cX2_init 19 = .ok (.arraylength, 1) := by decide +kernel
theorem dX2_init_20 : decode cX2_init 20 = .ok (.if_icmp .ge 32, 3) := by decide +kernel
theorem dX2_init_23 : decode cX2_init 23 = .ok (.aload_n 0, 1) := by decide +kernel
theorem dX2_init_24 : decode cX2_init 24 = .ok (.getfield 9, 3) := by decide +kernel
theorem dX2_init_27 : decode cX2_init 27 = .ok (.iload_n 1, 1) := by decide +kernel
theorem dX2_init_28 : decode cX2_init 28 = .ok (.bipush 100, 2) := by decide +kernel
theorem dX2_init_30 : decode cX2_init 30 = .ok (.iload_n 1, 1) := by decide +kernel
theorem dX2_init_31 : decode cX2_init 31 = .ok (.bipush 19, 2) := by decide +kernel
theorem dX2_init_33 : decode cX2_init 33 = .ok (.idiv, 1) := by decide +kernel
theorem dX2_init_34 : decode cX2_init 34 = .ok (.iconst 1, 1) := by decide +kernel
theorem dX2_init_35 : decode cX2_init 35 = .ok (.iadd, 1) := by decide +kernel
theorem dX2_init_36 : decode cX2_init 36 = .ok (.imul, 1) := by decide +kernel
theorem dX2_init_37 : decode cX2_init 37 = .ok (.bipush 20, 2) := by decide +kernel
theorem dX2_init_39 : decode cX2_init 39 = .ok (.iload_n 1, 1) := by decide +kernel
theorem dX2_init_40 : decode cX2_init 40 = .ok (.bipush 19, 2) := by decide +kernel
theorem dX2_init_42 : decode cX2_init 42 = .ok (.irem, 1) := by decide +kernel
theorem dX2_init_43 : decode cX2_init 43 = .ok (.isub, 1) := by decide +kernel
theorem dX2_init_44 : decode cX2_init 44 = .ok (.imul, 1) := by decide +kernel
theorem dX2_init_45 : decode cX2_init 45 = .ok (.iastore, 1) := by decide +kernel
theorem dX2_init_46 : decode cX2_init 46 = .ok (.iinc 1 1, 3) := by decide +kernel
theorem dX2_init_49 : decode cX2_init 49 = .ok (.goto (-35), 3) := by decide +kernel
theorem dX2_init_52 : decode cX2_init 52 = .ok (.return_, 1) := by decide +kernel
theorem dX2_caratPrice_0 : decode cX2_caratPrice 0 = .ok (.iload_n 1, 1) := by decide +kernel
theorem dX2_caratPrice_1 : decode cX2_caratPrice 1 = .ok (.bipush 19, 2) := by decide +kernel
theorem dX2_caratPrice_3 : decode cX2_caratPrice 3 = .ok (.imul, 1) := by decide +kernel
theorem dX2_caratPrice_4 : decode cX2_caratPrice 4 = .ok (.iload_n 2, 1) := by decide +kernel
theorem dX2_caratPrice_5 : decode cX2_caratPrice 5 = .ok (.iadd, 1) := by decide +kernel
theorem dX2_caratPrice_6 : decode cX2_caratPrice 6 = .ok (.istore_n 3, 1) := by decide +kernel
theorem dX2_caratPrice_7 : decode cX2_caratPrice 7 = .ok (.iload_n 3, 1) := by decide +kernel
theorem dX2_caratPrice_8 : decode cX2_caratPrice 8 = .ok (.aload_n 0, 1) := by decide +kernel
theorem dX2_caratPrice_9 : decode cX2_caratPrice 9 = .ok (.getfield 9, 3) := by decide +kernel
theorem dX2_caratPrice_12 : decode cX2_caratPrice 12 = .ok (.arraylength, 1) := by decide +kernel
theorem dX2_caratPrice_13 : decode cX2_caratPrice 13 = .ok (.invokestatic 15, 3) := by decide +kernel
theorem dX2_caratPrice_16 : decode cX2_caratPrice 16 = .ok (.ifCond .eq 12, 3) := by decide +kernel
theorem dX2_caratPrice_19 : decode cX2_caratPrice 19 = .ok (.aload_n 0, 1) := by decide +kernel
theorem dX2_caratPrice_20 : decode cX2_caratPrice 20 = .ok (.getfield 9, 3) := by decide +kernel
theorem dX2_caratPrice_23 : decode cX2_caratPrice 23 = .ok (.iload_n 3, 1) := by decide +kernel
theorem dX2_caratPrice_24 : decode cX2_caratPrice 24 = .ok (.iaload, 1) := by decide +kernel
theorem dX2_caratPrice_25 : decode cX2_caratPrice 25 = .ok (.goto 4, 3) := by decide +kernel
theorem dX2_caratPrice_28 : decode cX2_caratPrice 28 = .ok (.iconst 0, 1) := by decide +kernel
theorem dX2_caratPrice_29 : decode cX2_caratPrice 29 = .ok (.ireturn, 1) := by decide +kernel
theorem dX2_setCaratPrice_0 : decode cX2_setCaratPrice 0 = .ok (.iload_n 1, 1) := by decide +kernel
theorem dX2_setCaratPrice_1 : decode cX2_setCaratPrice 1 = .ok (.bipush 19, 2) := by decide +kernel
theorem dX2_setCaratPrice_3 : decode cX2_setCaratPrice 3 = .ok (.imul, 1) := by decide +kernel
theorem dX2_setCaratPrice_4 : decode cX2_setCaratPrice 4 = .ok (.iload_n 2, 1) := by decide +kernel
theorem dX2_setCaratPrice_5 : decode cX2_setCaratPrice 5 = .ok (.iadd, 1) := by decide +kernel
theorem dX2_setCaratPrice_6 : decode cX2_setCaratPrice 6 = .ok (.istore 4, 2) := by decide +kernel
theorem dX2_setCaratPrice_8 : decode cX2_setCaratPrice 8 = .ok (.iload 4, 2) := by decide +kernel
theorem dX2_setCaratPrice_10 : decode cX2_setCaratPrice 10 = .ok (.aload_n 0, 1) := by decide +kernel
theorem dX2_setCaratPrice_11 : decode cX2_setCaratPrice 11 = .ok (.getfield 9, 3) := by decide +kernel
theorem dX2_setCaratPrice_14 : decode cX2_setCaratPrice 14 = .ok (.arraylength, 1) := by decide +kernel
theorem dX2_setCaratPrice_15 : decode cX2_setCaratPrice 15 = .ok (.invokestatic 15, 3) := by decide +kernel
theorem dX2_setCaratPrice_18 : decode cX2_setCaratPrice 18 = .ok (.ifCond .eq 11, 3) := by decide +kernel
theorem dX2_setCaratPrice_21 : decode cX2_setCaratPrice 21 = .ok (.aload_n 0, 1) := by decide +kernel
theorem dX2_setCaratPrice_22 : decode cX2_setCaratPrice 22 = .ok (.getfield 9, 3) := by decide +kernel
theorem dX2_setCaratPrice_25 : decode cX2_setCaratPrice 25 = .ok (.iload 4, 2) := by decide +kernel
theorem dX2_setCaratPrice_27 : decode cX2_setCaratPrice 27 = .ok (.iload_n 3, 1) := by decide +kernel
theorem dX2_setCaratPrice_28 : decode cX2_setCaratPrice 28 = .ok (.iastore, 1) := by decide +kernel
theorem dX2_setCaratPrice_29 : decode cX2_setCaratPrice 29 = .ok (.return_, 1) := by decide +kernel
theorem dX2_worthOf_0 : decode cX2_worthOf 0 = .ok (.aload_n 1, 1) := by decide +kernel
theorem dX2_worthOf_1 : decode cX2_worthOf 1 = .ok (.invokevirtual 19, 3) := by decide +kernel
theorem dX2_worthOf_4 : decode cX2_worthOf 4 = .ok (.istore_n 2, 1) := by decide +kernel
theorem dX2_worthOf_5 : decode cX2_worthOf 5 = .ok (.iload_n 2, 1) := by decide +kernel
theorem dX2_worthOf_6 : decode cX2_worthOf 6 = .ok (.iconst (-1), 1) := by decide +kernel
theorem dX2_worthOf_7 : decode cX2_worthOf 7 = .ok (.if_icmp .ne 5, 3) := by decide +kernel
theorem dX2_worthOf_10 : decode cX2_worthOf 10 = .ok (.iconst (-1), 1) := by decide +kernel
theorem dX2_worthOf_11 : decode cX2_worthOf 11 = .ok (.ireturn, 1) := by decide +kernel
theorem dX2_worthOf_12 : decode cX2_worthOf 12 = .ok (.aload_n 1, 1) := by decide +kernel
theorem dX2_worthOf_13 : decode cX2_worthOf 13 = .ok (.getfield 25, 3) := by decide +kernel
theorem dX2_worthOf_16 : decode cX2_worthOf 16 = .ok (.aload_n 0, 1) := by decide +kernel
theorem dX2_worthOf_17 : decode cX2_worthOf 17 = .ok (.aload_n 1, 1) := by decide +kernel
theorem dX2_worthOf_18 : decode cX2_worthOf 18 = .ok (.invokevirtual 29, 3) := by decide +kernel
theorem dX2_worthOf_21 : decode cX2_worthOf 21 = .ok (.iload_n 2, 1) := by decide +kernel
theorem dX2_worthOf_22 : decode cX2_worthOf 22 = .ok (.invokevirtual 32, 3) := by decide +kernel
theorem dX2_worthOf_25 : decode cX2_worthOf 25 = .ok (.imul, 1) := by decide +kernel
theorem dX2_worthOf_26 : decode cX2_worthOf 26 = .ok (.bipush 100, 2) := by decide +kernel
theorem dX2_worthOf_28 : decode cX2_worthOf 28 = .ok (.idiv, 1) := by decide +kernel
theorem dX2_worthOf_29 : decode cX2_worthOf 29 = .ok (.ireturn, 1) := by decide +kernel
theorem dX3_init_0 : decode cX3_init 0 = .ok (.aload_n 0, 1) := by decide +kernel
theorem dX3_init_1 : decode cX3_init 1 = .ok (.invokespecial 3, 3) := by decide +kernel
theorem dX3_init_4 : decode cX3_init 4 = .ok (.aload_n 0, 1) := by decide +kernel
theorem dX3_init_5 : decode cX3_init 5 = .ok (.new 9, 3) := by decide +kernel
theorem dX3_init_8 : decode cX3_init 8 = .ok (.dup, 1) := by decide +kernel
theorem dX3_init_9 : decode cX3_init 9 = .ok (.invokespecial 11, 3) := by decide +kernel
theorem dX3_init_12 : decode cX3_init 12 = .ok (.putfield 12, 3) := by decide +kernel
theorem dX3_init_15 : decode cX3_init 15 = .ok (.aload_n 0, 1) := by decide +kernel
theorem dX3_init_16 : decode cX3_init 16 = .ok (.iconst 0, 1) := by decide +kernel
theorem dX3_init_17 : decode cX3_init 17 = .ok (.putfield 18, 3) := by decide +kernel
theorem dX3_init_20 : decode cX3_init 20 = .ok (.aload_n 0, 1) := by decide +kernel
theorem dX3_init_21 : decode cX3_init 21 = .ok (.iconst (-1), 1) := by decide +kernel
theorem dX3_init_22 : decode cX3_init 22 = .ok (.putfield 22, 3) := by decide +kernel
theorem dX3_init_25 : decode cX3_init 25 = .ok (.aload_n 0, 1) := by decide +kernel
theorem dX3_init_26 : decode cX3_init 26 = .ok (.iconst (-1), 1) := by decide +kernel
theorem dX3_init_27 : decode cX3_init 27 = .ok (.putfield 25, 3) := by decide +kernel
theorem dX3_init_30 : decode cX3_init 30 = .ok (.aload_n 0, 1) := by decide +kernel
theorem dX3_init_31 : decode cX3_init 31 = .ok (.iload_n 1, 1) := by decide +kernel
theorem dX3_init_32 : decode cX3_init 32 = .ok (.putfield 28, 3) := by decide +kernel
theorem dX3_init_35 : decode cX3_init 35 = .ok (.aload_n 0, 1) := by decide +kernel
theorem dX3_init_36 : decode cX3_init 36 = .ok (.iload_n 2, 1) := by decide +kernel
theorem dX3_init_37 : decode cX3_init 37 = .ok (.putfield 31, 3) := by decide +kernel
theorem dX3_init_40 : decode cX3_init 40 = .ok (.aload_n 0, 1) := by decide +kernel
theorem dX3_init_41 : decode cX3_init 41 = .ok (.iload_n 3, 1) := by decide +kernel
theorem dX3_init_42 : decode cX3_init 42 = .ok (.putfield 34, 3) := by decide +kernel
theorem dX3_init_45 : decode cX3_init 45 = .ok (.aload_n 0, 1) := by decide +kernel
theorem dX3_init_46 : decode cX3_init 46 = .ok (.iload 4, 2) := by decide +kernel
theorem dX3_init_48 : decode cX3_init 48 = .ok (.putfield 37, 3) := by decide +kernel
theorem dX3_init_51 : decode cX3_init 51 = .ok (.aload_n 0, 1) := by decide +kernel
theorem dX3_init_52 : decode cX3_init 52 = .ok (.iload 5, 2) := by decide +kernel
theorem dX3_init_54 : decode cX3_init 54 = .ok (.putfield 40, 3) := by decide +kernel
theorem dX3_init_57 : decode cX3_init 57 = .ok (.aload_n 0, 1) := by decide +kernel
theorem dX3_init_58 : decode cX3_init 58 = .ok (.iload 6, 2) := by decide +kernel
theorem dX3_init_60 : decode cX3_init 60 = .ok (.putfield 43, 3) := by decide +kernel
theorem dX3_init_63 : decode cX3_init 63 = .ok (.aload_n 0, 1) := by decide +kernel
theorem dX3_init_64 : decode cX3_init 64 = .ok (.iload 7, 2) := by decide +kernel
theorem dX3_init_66 : decode cX3_init 66 = .ok (.putfield 46, 3) := by decide +kernel
theorem dX3_init_69 : decode cX3_init 69 = .ok (.return_, 1) := by decide +kernel
theorem dX3_size_0 : decode cX3_size 0 = .ok (.aload_n 0, 1) := by decide +kernel
theorem dX3_size_1 : decode cX3_size 1 = .ok (.getfield 37, 3) := by decide +kernel
theorem dX3_size_4 : decode cX3_size 4 = .ok (.bipush 100, 2) := by decide +kernel
theorem dX3_size_6 : decode cX3_size 6 = .ok (.if_icmp .ge 5, 3) := by decide +kernel
theorem dX3_size_9 : decode cX3_size 9 = .ok (.iconst 0, 1) := by decide +kernel
theorem dX3_size_10 : decode cX3_size 10 = .ok (.ireturn, 1) := by decide +kernel
theorem dX3_size_11 : decode cX3_size 11 = .ok (.aload_n 0, 1) := by decide +kernel
theorem dX3_size_12 : decode cX3_size 12 = .ok (.getfield 37, 3) := by decide +kernel
theorem dX3_size_15 : decode cX3_size 15 = .ok (.sipush 300, 3) := by decide +kernel
theorem dX3_size_18 : decode cX3_size 18 = .ok (.if_icmp .ge 5, 3) := by decide +kernel
theorem dX3_size_21 : decode cX3_size 21 = .ok (.iconst 1, 1) := by decide +kernel
theorem dX3_size_22 : decode cX3_size 22 = .ok (.ireturn, 1) := by decide +kernel
theorem dX3_size_23 : decode cX3_size 23 = .ok (.aload_n 0, 1) := by decide +kernel
theorem dX3_size_24 : decode cX3_size 24 = .ok (.getfield 37, 3) := by decide +kernel
theorem dX3_size_27 : decode cX3_size 27 = .ok (.sipush 1000, 3) := by decide +kernel
theorem dX3_size_30 : decode cX3_size 30 = .ok (.if_icmp .ge 7, 3) := by decide +kernel
theorem dX3_size_33 : decode cX3_size 33 = .ok (.iconst 2, 1) := by decide +kernel
theorem dX3_size_34 : decode cX3_size 34 = .ok (.goto 4, 3) := by decide +kernel
theorem dX3_size_37 : decode cX3_size 37 = .ok (.iconst 3, 1) := by decide +kernel
theorem dX3_size_38 : decode cX3_size 38 = .ok (.ireturn, 1) := by decide +kernel
theorem dX3_quality_0 : decode cX3_quality 0 = .ok (.aload_n 0, 1) := by decide +kernel
theorem dX3_quality_1 : decode cX3_quality 1 = .ok (.getfield 12, 3) := by decide +kernel
theorem dX3_quality_4 : decode cX3_quality 4 = .ok (.getfield 49, 3) := by decide +kernel
theorem dX3_quality_7 : decode cX3_quality 7 = .ok (.tableswitch 53 0 2 #[25, 27, 35], 25) := by decide +kernel
theorem dX3_quality_32 : decode cX3_quality 32 = .ok (.iconst (-1), 1) := by decide +kernel
theorem dX3_quality_33 : decode cX3_quality 33 = .ok (.ireturn, 1) := by decide +kernel
theorem dX3_quality_34 : decode cX3_quality 34 = .ok (.aload_n 0, 1) := by decide +kernel
theorem dX3_quality_35 : decode cX3_quality 35 = .ok (.getfield 12, 3) := by decide +kernel
theorem dX3_quality_38 : decode cX3_quality 38 = .ok (.getfield 52, 3) := by decide +kernel
theorem dX3_quality_41 : decode cX3_quality 41 = .ok (.ireturn, 1) := by decide +kernel
theorem dX3_quality_42 : decode cX3_quality 42 = .ok (.aload_n 0, 1) := by decide +kernel
theorem dX3_quality_43 : decode cX3_quality 43 = .ok (.getfield 12, 3) := by decide +kernel
theorem dX3_quality_46 : decode cX3_quality 46 = .ok (.getfield 52, 3) := by decide +kernel
theorem dX3_quality_49 : decode cX3_quality 49 = .ok (.aload_n 0, 1) := by decide +kernel
theorem dX3_quality_50 : decode cX3_quality 50 = .ok (.getfield 12, 3) := by decide +kernel
theorem dX3_quality_53 : decode cX3_quality 53 = .ok (.getfield 55, 3) := by decide +kernel
theorem dX3_quality_56 : decode cX3_quality 56 = .ok (.invokestatic 58, 3) := by decide +kernel
theorem dX3_quality_59 : decode cX3_quality 59 = .ok (.ireturn, 1) := by decide +kernel
theorem dX3_quality_60 : decode cX3_quality 60 = .ok (.aload_n 0, 1) := by decide +kernel
theorem dX3_quality_61 : decode cX3_quality 61 = .ok (.getfield 12, 3) := by decide +kernel
theorem dX3_quality_64 : decode cX3_quality 64 = .ok (.invokevirtual 64, 3) := by decide +kernel
theorem dX3_quality_67 : decode cX3_quality 67 = .ok (.ireturn, 1) := by decide +kernel
theorem dX3_isDoubtful_0 : decode cX3_isDoubtful 0 = .ok (.aload_n 0, 1) := by decide +kernel
theorem dX3_isDoubtful_1 : decode cX3_isDoubtful 1 = .ok (.getfield 12, 3) := by decide +kernel
theorem dX3_isDoubtful_4 : decode cX3_isDoubtful 4 = .ok (.getfield 49, 3) := by decide +kernel
theorem dX3_isDoubtful_7 : decode cX3_isDoubtful 7 = .ok (.iconst 2, 1) := by decide +kernel
theorem dX3_isDoubtful_8 : decode cX3_isDoubtful 8 = .ok (.if_icmp .ne 29, 3) := by decide +kernel
theorem dX3_isDoubtful_11 : decode cX3_isDoubtful 11 = .ok (.aload_n 0, 1) := by decide +kernel
theorem dX3_isDoubtful_12 : decode cX3_isDoubtful 12 = .ok (.getfield 12, 3) := by decide +kernel
theorem dX3_isDoubtful_15 : decode cX3_isDoubtful 15 = .ok (.getfield 52, 3) := by decide +kernel
theorem dX3_isDoubtful_18 : decode cX3_isDoubtful 18 = .ok (.aload_n 0, 1) := by decide +kernel
theorem dX3_isDoubtful_19 : decode cX3_isDoubtful 19 = .ok (.getfield 12, 3) := by decide +kernel
theorem dX3_isDoubtful_22 : decode cX3_isDoubtful 22 = .ok (.getfield 55, 3) := by decide +kernel
theorem dX3_isDoubtful_25 : decode cX3_isDoubtful 25 = .ok (.isub, 1) := by decide +kernel
theorem dX3_isDoubtful_26 : decode cX3_isDoubtful 26 = .ok (.invokestatic 68, 3) := by decide +kernel
theorem dX3_isDoubtful_29 : decode cX3_isDoubtful 29 = .ok (.iconst 2, 1) := by decide +kernel
theorem dX3_isDoubtful_30 : decode cX3_isDoubtful 30 = .ok (.if_icmp .lt 7, 3) := by decide +kernel
theorem dX3_isDoubtful_33 : decode cX3_isDoubtful 33 = .ok (.iconst 1, 1) := by decide +kernel
theorem dX3_isDoubtful_34 : decode cX3_isDoubtful 34 = .ok (.goto 4, 3) := by decide +kernel
theorem dX3_isDoubtful_37 : decode cX3_isDoubtful 37 = .ok (.iconst 0, 1) := by decide +kernel
theorem dX3_isDoubtful_38 : decode cX3_isDoubtful 38 = .ok (.ireturn, 1) := by decide +kernel
theorem dX3_canBeBoxed_0 : decode cX3_canBeBoxed 0 = .ok (.aload_n 0, 1) := by decide +kernel
theorem dX3_canBeBoxed_1 : decode cX3_canBeBoxed 1 = .ok (.getfield 18, 3) := by decide +kernel
theorem dX3_canBeBoxed_4 : decode cX3_canBeBoxed 4 = .ok (.ifCond .ne 24, 3) := by decide +kernel
theorem dX3_canBeBoxed_7 : decode cX3_canBeBoxed 7 = .ok (.aload_n 0, 1) := by decide +kernel
theorem dX3_canBeBoxed_8 : decode cX3_canBeBoxed 8 = .ok (.getfield 12, 3) := by decide +kernel
theorem dX3_canBeBoxed_11 : decode cX3_canBeBoxed 11 = .ok (.getfield 49, 3) := by decide +kernel
theorem dX3_canBeBoxed_14 : decode cX3_canBeBoxed 14 = .ok (.ifCond .le 14, 3) := by decide +kernel
theorem dX3_canBeBoxed_17 : decode cX3_canBeBoxed 17 = .ok (.aload_n 0, 1) := by decide +kernel
theorem dX3_canBeBoxed_18 : decode cX3_canBeBoxed 18 = .ok (.invokevirtual 72, 3) := by decide +kernel
theorem dX3_canBeBoxed_21 : decode cX3_canBeBoxed 21 = .ok (.ifCond .ne 7, 3) := by decide +kernel
theorem dX3_canBeBoxed_24 : decode cX3_canBeBoxed 24 = .ok (.iconst 1, 1) := by decide +kernel
theorem dX3_canBeBoxed_25 : decode cX3_canBeBoxed 25 = .ok (.goto 4, 3) := by decide +kernel
theorem dX3_canBeBoxed_28 : decode cX3_canBeBoxed 28 = .ok (.iconst 0, 1) := by decide +kernel
theorem dX3_canBeBoxed_29 : decode cX3_canBeBoxed 29 = .ok (.ireturn, 1) := by decide +kernel
theorem dX3_enterBox_0 : decode cX3_enterBox 0 = .ok (.aload_n 0, 1) := by decide +kernel
theorem dX3_enterBox_1 : decode cX3_enterBox 1 = .ok (.iconst 1, 1) := by decide +kernel
theorem dX3_enterBox_2 : decode cX3_enterBox 2 = .ok (.putfield 18, 3) := by decide +kernel
theorem dX3_enterBox_5 : decode cX3_enterBox 5 = .ok (.aload_n 0, 1) := by decide +kernel
theorem dX3_enterBox_6 : decode cX3_enterBox 6 = .ok (.iload_n 1, 1) := by decide +kernel
theorem dX3_enterBox_7 : decode cX3_enterBox 7 = .ok (.putfield 25, 3) := by decide +kernel
theorem dX3_enterBox_10 : decode cX3_enterBox 10 = .ok (.return_, 1) := by decide +kernel
theorem dX3_leaveBox_0 : decode cX3_leaveBox 0 = .ok (.aload_n 0, 1) := by decide +kernel
theorem dX3_leaveBox_1 : decode cX3_leaveBox 1 = .ok (.iconst 0, 1) := by decide +kernel
theorem dX3_leaveBox_2 : decode cX3_leaveBox 2 = .ok (.putfield 18, 3) := by decide +kernel
theorem dX3_leaveBox_5 : decode cX3_leaveBox 5 = .ok (.aload_n 0, 1) := by decide +kernel
theorem dX3_leaveBox_6 : decode cX3_leaveBox 6 = .ok (.iconst (-1), 1) := by decide +kernel
theorem dX3_leaveBox_7 : decode cX3_leaveBox 7 = .ok (.putfield 25, 3) := by decide +kernel
theorem dX3_leaveBox_10 : decode cX3_leaveBox 10 = .ok (.return_, 1) := by decide +kernel
theorem dX3_sellTo_0 : decode cX3_sellTo 0 = .ok (.aload_n 0, 1) := by decide +kernel
theorem dX3_sellTo_1 : decode cX3_sellTo 1 = .ok (.iconst 2, 1) := by decide +kernel
theorem dX3_sellTo_2 : decode cX3_sellTo 2 = .ok (.putfield 18, 3) := by decide +kernel
theorem dX3_sellTo_5 : decode cX3_sellTo 5 = .ok (.aload_n 0, 1) := by decide +kernel
theorem dX3_sellTo_6 : decode cX3_sellTo 6 = .ok (.iload_n 1, 1) := by decide +kernel
theorem dX3_sellTo_7 : decode cX3_sellTo 7 = .ok (.putfield 22, 3) := by decide +kernel
theorem dX3_sellTo_10 : decode cX3_sellTo 10 = .ok (.return_, 1) := by decide +kernel
theorem dX4_init_0 : decode cX4_init 0 = .ok (.aload_n 0, 1) := by decide +kernel
theorem dX4_init_1 : decode cX4_init 1 = .ok (.invokespecial 3, 3) := by decide +kernel
theorem dX4_init_4 : decode cX4_init 4 = .ok (.aload_n 0, 1) := by decide +kernel
theorem dX4_init_5 : decode cX4_init 5 = .ok (.iconst 5, 1) := by decide +kernel
theorem dX4_init_6 : decode cX4_init 6 = .ok (.newarray .int, 2) := by decide +kernel
theorem dX4_init_8 : decode cX4_init 8 = .ok (.putfield 9, 3) := by decide +kernel
theorem dX4_init_11 : decode cX4_init 11 = .ok (.return_, 1) := by decide +kernel
theorem dX4_isOn_0 : decode cX4_isOn 0 = .ok (.aload_n 0, 1) := by decide +kernel
theorem dX4_isOn_1 : decode cX4_isOn 1 = .ok (.getfield 15, 3) := by decide +kernel
theorem dX4_isOn_4 : decode cX4_isOn 4 = .ok (.ifnull 7, 3) := by decide +kernel
theorem dX4_isOn_7 : decode cX4_isOn 7 = .ok (.iconst 1, 1) := by decide +kernel
theorem dX4_isOn_8 : decode cX4_isOn 8 = .ok (.goto 4, 3) := by decide +kernel
theorem dX4_isOn_11 : decode cX4_isOn 11 = .ok (.iconst 0, 1) := by decide +kernel
theorem dX4_isOn_12 : decode cX4_isOn 12 = .ok (.ireturn, 1) := by decide +kernel
theorem dX4_begin_0 : decode cX4_begin 0 = .ok (.aload_n 0, 1) := by decide +kernel
theorem dX4_begin_1 : decode cX4_begin 1 = .ok (.aload_n 1, 1) := by decide +kernel
theorem dX4_begin_2 : decode cX4_begin 2 = .ok (.putfield 15, 3) := by decide +kernel
theorem dX4_begin_5 : decode cX4_begin 5 = .ok (.aload_n 0, 1) := by decide +kernel
theorem dX4_begin_6 : decode cX4_begin 6 = .ok (.iload_n 2, 1) := by decide +kernel
theorem dX4_begin_7 : decode cX4_begin 7 = .ok (.putfield 19, 3) := by decide +kernel
theorem dX4_begin_10 : decode cX4_begin 10 = .ok (.aload_n 0, 1) := by decide +kernel
theorem dX4_begin_11 : decode cX4_begin 11 = .ok (.getfield 9, 3) := by decide +kernel
theorem dX4_begin_14 : decode cX4_begin 14 = .ok (.iconst (-1), 1) := by decide +kernel
theorem dX4_begin_15 : decode cX4_begin 15 = .ok (.invokestatic 23, 3) := by decide +kernel
theorem dX4_begin_18 : decode cX4_begin 18 = .ok (.return_, 1) := by decide +kernel
theorem dX4_end_0 : decode cX4_end 0 = .ok (.aload_n 0, 1) := by decide +kernel
theorem dX4_end_1 : decode cX4_end 1 = .ok (.aconst_null, 1) := by decide +kernel
theorem dX4_end_2 : decode cX4_end 2 = .ok (.putfield 15, 3) := by decide +kernel
theorem dX4_end_5 : decode cX4_end 5 = .ok (.return_, 1) := by decide +kernel
theorem dX4_bidOf_0 : decode cX4_bidOf 0 = .ok (.iload_n 1, 1) := by decide +kernel
theorem dX4_bidOf_1 : decode cX4_bidOf 1 = .ok (.aload_n 0, 1) := by decide +kernel
theorem dX4_bidOf_2 : decode cX4_bidOf 2 = .ok (.getfield 9, 3) := by decide +kernel
theorem dX4_bidOf_5 : decode cX4_bidOf 5 = .ok (.arraylength, 1) := by decide +kernel
theorem dX4_bidOf_6 : decode cX4_bidOf 6 = .ok (.invokestatic 29, 3) := by decide +kernel
theorem dX4_bidOf_9 : decode cX4_bidOf 9 = .ok (.ifCond .eq 12, 3) := by decide +kernel
theorem dX4_bidOf_12 : decode cX4_bidOf 12 = .ok (.aload_n 0, 1) := by decide +kernel
theorem dX4_bidOf_13 : decode cX4_bidOf 13 = .ok (.getfield 9, 3) := by decide +kernel
theorem dX4_bidOf_16 : decode cX4_bidOf 16 = .ok (.iload_n 1, 1) := by decide +kernel
theorem dX4_bidOf_17 : decode cX4_bidOf 17 = .ok (.iaload, 1) := by decide +kernel
theorem dX4_bidOf_18 : decode cX4_bidOf 18 = .ok (.goto 4, 3) := by decide +kernel
theorem dX4_bidOf_21 : decode cX4_bidOf 21 = .ok (.iconst (-1), 1) := by decide +kernel
theorem dX4_bidOf_22 : decode cX4_bidOf 22 = .ok (.ireturn, 1) := by decide +kernel
theorem dX4_setBid_0 : decode cX4_setBid 0 = .ok (.iload_n 1, 1) := by decide +kernel
theorem dX4_setBid_1 : decode cX4_setBid 1 = .ok (.aload_n 0, 1) := by decide +kernel
theorem dX4_setBid_2 : decode cX4_setBid 2 = .ok (.getfield 9, 3) := by decide +kernel
theorem dX4_setBid_5 : decode cX4_setBid 5 = .ok (.arraylength, 1) := by decide +kernel
theorem dX4_setBid_6 : decode cX4_setBid 6 = .ok (.invokestatic 29, 3) := by decide +kernel
theorem dX4_setBid_9 : decode cX4_setBid 9 = .ok (.ifCond .eq 10, 3) := by decide +kernel
theorem dX4_setBid_12 : decode cX4_setBid 12 = .ok (.aload_n 0, 1) := by decide +kernel
theorem dX4_setBid_13 : decode cX4_setBid 13 = .ok (.getfield 9, 3) := by decide +kernel
theorem dX4_setBid_16 : decode cX4_setBid 16 = .ok (.iload_n 1, 1) := by decide +kernel
theorem dX4_setBid_17 : decode cX4_setBid 17 = .ok (.iload_n 2, 1) := by decide +kernel
theorem dX4_setBid_18 : decode cX4_setBid 18 = .ok (.iastore, 1) := by decide +kernel
theorem dX4_setBid_19 : decode cX4_setBid 19 = .ok (.return_, 1) := by decide +kernel
theorem dX4_paymentOf_0 : decode cX4_paymentOf 0 = .ok (.aload_n 0, 1) := by decide +kernel
theorem dX4_paymentOf_1 : decode cX4_paymentOf 1 = .ok (.getfield 19, 3) := by decide +kernel
theorem dX4_paymentOf_4 : decode cX4_paymentOf 4 = .ok (.istore_n 2, 1) := by decide +kernel
theorem dX4_paymentOf_5 : decode cX4_paymentOf 5 = .ok (.iconst 0, 1) := by decide +kernel
theorem dX4_paymentOf_6 : decode cX4_paymentOf 6 = .ok (.istore_n 3, 1) := by decide +kernel
theorem dX4_paymentOf_7 : decode cX4_paymentOf 7 = .ok (.iload_n 3, 1) := by decide +kernel
theorem dX4_paymentOf_8 : decode cX4_paymentOf 8 = .ok (.aload_n 0, 1) := by decide +kernel
theorem dX4_paymentOf_9 : decode cX4_paymentOf 9 = .ok (.getfield 9, 3) := by decide +kernel
theorem dX4_paymentOf_12 : decode cX4_paymentOf 12 = .ok (.arraylength, 1) := by decide +kernel
theorem dX4_paymentOf_13 : decode cX4_paymentOf 13 = .ok (.if_icmp .ge 25, 3) := by decide +kernel
theorem dX4_paymentOf_16 : decode cX4_paymentOf 16 = .ok (.iload_n 3, 1) := by decide +kernel
theorem dX4_paymentOf_17 : decode cX4_paymentOf 17 = .ok (.iload_n 1, 1) := by decide +kernel
theorem dX4_paymentOf_18 : decode cX4_paymentOf 18 = .ok (.if_icmp .eq 14, 3) := by decide +kernel
theorem dX4_paymentOf_21 : decode cX4_paymentOf 21 = .ok (.iload_n 2, 1) := by decide +kernel
theorem dX4_paymentOf_22 : decode cX4_paymentOf 22 = .ok (.aload_n 0, 1) := by decide +kernel
theorem dX4_paymentOf_23 : decode cX4_paymentOf 23 = .ok (.getfield 9, 3) := by decide +kernel
theorem dX4_paymentOf_26 : decode cX4_paymentOf 26 = .ok (.iload_n 3, 1) := by decide +kernel
theorem dX4_paymentOf_27 : decode cX4_paymentOf 27 = .ok (.iaload, 1) := by decide +kernel
theorem dX4_paymentOf_28 : decode cX4_paymentOf 28 = .ok (.invokestatic 33, 3) := by decide +kernel
theorem dX4_paymentOf_31 : decode cX4_paymentOf 31 = .ok (.istore_n 2, 1) := by decide +kernel
theorem dX4_paymentOf_32 : decode cX4_paymentOf 32 = .ok (.iinc 3 1, 3) := by decide +kernel
theorem dX4_paymentOf_35 : decode cX4_paymentOf 35 = .ok (.goto (-28), 3) := by decide +kernel
theorem dX4_paymentOf_38 : decode cX4_paymentOf 38 = .ok (.iload_n 2, 1) := by decide +kernel
theorem dX4_paymentOf_39 : decode cX4_paymentOf 39 = .ok (.ireturn, 1) := by decide +kernel
theorem dJ9_abs_0f7a4_0 : decode cJ9_abs_0f7a4 0 = .ok (.iload_n 0, 1) := by decide +kernel
theorem dJ9_abs_0f7a4_1 : decode cJ9_abs_0f7a4 1 = .ok (.ifCond .ge 8, 3) := by decide +kernel
theorem dJ9_abs_0f7a4_4 : decode cJ9_abs_0f7a4 4 = .ok (.iload_n 0, 1) := by decide +kernel
theorem dJ9_abs_0f7a4_5 : decode cJ9_abs_0f7a4 5 = .ok (.ineg, 1) := by decide +kernel
theorem dJ9_abs_0f7a4_6 : decode cJ9_abs_0f7a4 6 = .ok (.goto 4, 3) := by decide +kernel
theorem dJ9_abs_0f7a4_9 : decode cJ9_abs_0f7a4 9 = .ok (.iload_n 0, 1) := by decide +kernel
theorem dJ9_abs_0f7a4_10 : decode cJ9_abs_0f7a4 10 = .ok (.ireturn, 1) := by decide +kernel
theorem dJ9_max_7cf53_0 : decode cJ9_max_7cf53 0 = .ok (.iload_n 0, 1) := by decide +kernel
theorem dJ9_max_7cf53_1 : decode cJ9_max_7cf53 1 = .ok (.iload_n 1, 1) := by decide +kernel
theorem dJ9_max_7cf53_2 : decode cJ9_max_7cf53 2 = .ok (.if_icmp .lt 7, 3) := by decide +kernel
theorem dJ9_max_7cf53_5 : decode cJ9_max_7cf53 5 = .ok (.iload_n 0, 1) := by decide +kernel
theorem dJ9_max_7cf53_6 : decode cJ9_max_7cf53 6 = .ok (.goto 4, 3) := by decide +kernel
theorem dJ9_max_7cf53_9 : decode cJ9_max_7cf53 9 = .ok (.iload_n 1, 1) := by decide +kernel
theorem dJ9_max_7cf53_10 : decode cJ9_max_7cf53 10 = .ok (.ireturn, 1) := by decide +kernel
theorem dJ9_min_7cf53_0 : decode cJ9_min_7cf53 0 = .ok (.iload_n 0, 1) := by decide +kernel
theorem dJ9_min_7cf53_1 : decode cJ9_min_7cf53 1 = .ok (.iload_n 1, 1) := by decide +kernel
theorem dJ9_min_7cf53_2 : decode cJ9_min_7cf53 2 = .ok (.if_icmp .gt 7, 3) := by decide +kernel
theorem dJ9_min_7cf53_5 : decode cJ9_min_7cf53 5 = .ok (.iload_n 0, 1) := by decide +kernel
theorem dJ9_min_7cf53_6 : decode cJ9_min_7cf53 6 = .ok (.goto 4, 3) := by decide +kernel
theorem dJ9_min_7cf53_9 : decode cJ9_min_7cf53 9 = .ok (.iload_n 1, 1) := by decide +kernel
theorem dJ9_min_7cf53_10 : decode cJ9_min_7cf53 10 = .ok (.ireturn, 1) := by decide +kernel
theorem dJ7_fill_53178_0 : decode cJ7_fill_53178 0 = .ok (.iconst 0, 1) := by decide +kernel
theorem dJ7_fill_53178_1 : decode cJ7_fill_53178 1 = .ok (.istore_n 2, 1) := by decide +kernel
theorem dJ7_fill_53178_2 : decode cJ7_fill_53178 2 = .ok (.aload_n 0, 1) := by decide +kernel
theorem dJ7_fill_53178_3 : decode cJ7_fill_53178 3 = .ok (.arraylength, 1) := by decide +kernel
theorem dJ7_fill_53178_4 : decode cJ7_fill_53178 4 = .ok (.istore_n 3, 1) := by decide +kernel
theorem dJ7_fill_53178_5 : decode cJ7_fill_53178 5 = .ok (.iload_n 2, 1) := by decide +kernel
theorem dJ7_fill_53178_6 : decode cJ7_fill_53178 6 = .ok (.iload_n 3, 1) := by decide +kernel
theorem dJ7_fill_53178_7 : decode cJ7_fill_53178 7 = .ok (.if_icmp .ge 13, 3) := by decide +kernel
theorem dJ7_fill_53178_10 : decode cJ7_fill_53178 10 = .ok (.aload_n 0, 1) := by decide +kernel
theorem dJ7_fill_53178_11 : decode cJ7_fill_53178 11 = .ok (.iload_n 2, 1) := by decide +kernel
theorem dJ7_fill_53178_12 : decode cJ7_fill_53178 12 = .ok (.iload_n 1, 1) := by decide +kernel
theorem dJ7_fill_53178_13 : decode cJ7_fill_53178 13 = .ok (.iastore, 1) := by decide +kernel
theorem dJ7_fill_53178_14 : decode cJ7_fill_53178 14 = .ok (.iinc 2 1, 3) := by decide +kernel
theorem dJ7_fill_53178_17 : decode cJ7_fill_53178 17 = .ok (.goto (-12), 3) := by decide +kernel
theorem dJ7_fill_53178_20 : decode cJ7_fill_53178 20 = .ok (.return_, 1) := by decide +kernel
theorem dL_parcel_0 : decode cL_parcel 0 = .ok (.aload_n 2, 1) := by decide +kernel
theorem dL_parcel_1 : decode cL_parcel 1 = .ok (.iconst 0, 1) := by decide +kernel
theorem dL_parcel_2 : decode cL_parcel 2 = .ok (.aload_n 0, 1) := by decide +kernel
theorem dL_parcel_3 : decode cL_parcel 3 = .ok (.iload_n 1, 1) := by decide +kernel
theorem dL_parcel_4 : decode cL_parcel 4 = .ok (.invokevirtual 7, 3) := by decide +kernel
theorem dL_parcel_7 : decode cL_parcel 7 = .ok (.i2l, 1) := by decide +kernel
theorem dL_parcel_8 : decode cL_parcel 8 = .ok (.lastore, 1) := by decide +kernel
theorem dL_parcel_9 : decode cL_parcel 9 = .ok (.goto 9, 3) := by decide +kernel
theorem dL_parcel_12 : decode cL_parcel 12 = .ok (.astore_n 3, 1) := by decide +kernel
theorem dL_parcel_13 : decode cL_parcel 13 = .ok (.iconst 1, 1) := by decide +kernel
theorem dL_parcel_14 : decode cL_parcel 14 = .ok (.ireturn, 1) := by decide +kernel
theorem dL_parcel_15 : decode cL_parcel 15 = .ok (.astore_n 3, 1) := by decide +kernel
theorem dL_parcel_16 : decode cL_parcel 16 = .ok (.iconst 2, 1) := by decide +kernel
theorem dL_parcel_17 : decode cL_parcel 17 = .ok (.ireturn, 1) := by decide +kernel
theorem dL_parcel_18 : decode cL_parcel 18 = .ok (.iconst 0, 1) := by decide +kernel
theorem dL_parcel_19 : decode cL_parcel 19 = .ok (.ireturn, 1) := by decide +kernel
theorem dL_stone_0 : decode cL_stone 0 = .ok (.aload 6, 2) := by decide +kernel
theorem dL_stone_2 : decode cL_stone 2 = .ok (.iconst 0, 1) := by decide +kernel
theorem dL_stone_3 : decode cL_stone 3 = .ok (.aload_n 0, 1) := by decide +kernel
theorem dL_stone_4 : decode cL_stone 4 = .ok (.iload_n 1, 1) := by decide +kernel
theorem dL_stone_5 : decode cL_stone 5 = .ok (.iload_n 2, 1) := by decide +kernel
theorem dL_stone_6 : decode cL_stone 6 = .ok (.iload_n 3, 1) := by decide +kernel
theorem dL_stone_7 : decode cL_stone 7 = .ok (.iload 4, 2) := by decide +kernel
theorem dL_stone_9 : decode cL_stone 9 = .ok (.iload 5, 2) := by decide +kernel
theorem dL_stone_11 : decode cL_stone 11 = .ok (.invokevirtual 17, 3) := by decide +kernel
theorem dL_stone_14 : decode cL_stone 14 = .ok (.i2l, 1) := by decide +kernel
theorem dL_stone_15 : decode cL_stone 15 = .ok (.lastore, 1) := by decide +kernel
theorem dL_stone_16 : decode cL_stone 16 = .ok (.goto 15, 3) := by decide +kernel
theorem dL_stone_19 : decode cL_stone 19 = .ok (.astore 7, 2) := by decide +kernel
theorem dL_stone_21 : decode cL_stone 21 = .ok (.iconst 1, 1) := by decide +kernel
theorem dL_stone_22 : decode cL_stone 22 = .ok (.ireturn, 1) := by decide +kernel
theorem dL_stone_23 : decode cL_stone 23 = .ok (.astore 7, 2) := by decide +kernel
theorem dL_stone_25 : decode cL_stone 25 = .ok (.iconst 2, 1) := by decide +kernel
theorem dL_stone_26 : decode cL_stone 26 = .ok (.ireturn, 1) := by decide +kernel
theorem dL_stone_27 : decode cL_stone 27 = .ok (.astore 7, 2) := by decide +kernel
theorem dL_stone_29 : decode cL_stone 29 = .ok (.iconst 3, 1) := by decide +kernel
theorem dL_stone_30 : decode cL_stone 30 = .ok (.ireturn, 1) := by decide +kernel
theorem dL_stone_31 : decode cL_stone 31 = .ok (.iconst 0, 1) := by decide +kernel
theorem dL_stone_32 : decode cL_stone 32 = .ok (.ireturn, 1) := by decide +kernel
theorem dL_drift_0 : decode cL_drift 0 = .ok (.aload_n 3, 1) := by decide +kernel
theorem dL_drift_1 : decode cL_drift 1 = .ok (.iconst 0, 1) := by decide +kernel
theorem dL_drift_2 : decode cL_drift 2 = .ok (.aload_n 0, 1) := by decide +kernel
theorem dL_drift_3 : decode cL_drift 3 = .ok (.iload_n 1, 1) := by decide +kernel
theorem dL_drift_4 : decode cL_drift 4 = .ok (.iload_n 2, 1) := by decide +kernel
theorem dL_drift_5 : decode cL_drift 5 = .ok (.invokevirtual 23, 3) := by decide +kernel
theorem dL_drift_8 : decode cL_drift 8 = .ok (.i2l, 1) := by decide +kernel
theorem dL_drift_9 : decode cL_drift 9 = .ok (.lastore, 1) := by decide +kernel
theorem dL_drift_10 : decode cL_drift 10 = .ok (.goto 11, 3) := by decide +kernel
theorem dL_drift_13 : decode cL_drift 13 = .ok (.astore 4, 2) := by decide +kernel
theorem dL_drift_15 : decode cL_drift 15 = .ok (.iconst 1, 1) := by decide +kernel
theorem dL_drift_16 : decode cL_drift 16 = .ok (.ireturn, 1) := by decide +kernel
theorem dL_drift_17 : decode cL_drift 17 = .ok (.astore 4, 2) := by decide +kernel
theorem dL_drift_19 : decode cL_drift 19 = .ok (.iconst 2, 1) := by decide +kernel
theorem dL_drift_20 : decode cL_drift 20 = .ok (.ireturn, 1) := by decide +kernel
theorem dL_drift_21 : decode cL_drift 21 = .ok (.iconst 0, 1) := by decide +kernel
theorem dL_drift_22 : decode cL_drift 22 = .ok (.ireturn, 1) := by decide +kernel
theorem dL_sort_0 : decode cL_sort 0 = .ok (.aload_n 3, 1) := by decide +kernel
theorem dL_sort_1 : decode cL_sort 1 = .ok (.iconst 0, 1) := by decide +kernel
theorem dL_sort_2 : decode cL_sort 2 = .ok (.aload_n 0, 1) := by decide +kernel
theorem dL_sort_3 : decode cL_sort 3 = .ok (.iload_n 1, 1) := by decide +kernel
theorem dL_sort_4 : decode cL_sort 4 = .ok (.iload_n 2, 1) := by decide +kernel
theorem dL_sort_5 : decode cL_sort 5 = .ok (.invokevirtual 27, 3) := by decide +kernel
theorem dL_sort_8 : decode cL_sort 8 = .ok (.i2l, 1) := by decide +kernel
theorem dL_sort_9 : decode cL_sort 9 = .ok (.lastore, 1) := by decide +kernel
theorem dL_sort_10 : decode cL_sort 10 = .ok (.goto 11, 3) := by decide +kernel
theorem dL_sort_13 : decode cL_sort 13 = .ok (.astore 4, 2) := by decide +kernel
theorem dL_sort_15 : decode cL_sort 15 = .ok (.iconst 1, 1) := by decide +kernel
theorem dL_sort_16 : decode cL_sort 16 = .ok (.ireturn, 1) := by decide +kernel
theorem dL_sort_17 : decode cL_sort 17 = .ok (.astore 4, 2) := by decide +kernel
theorem dL_sort_19 : decode cL_sort 19 = .ok (.iconst 2, 1) := by decide +kernel
theorem dL_sort_20 : decode cL_sort 20 = .ok (.ireturn, 1) := by decide +kernel
theorem dL_sort_21 : decode cL_sort 21 = .ok (.iconst 0, 1) := by decide +kernel
theorem dL_sort_22 : decode cL_sort 22 = .ok (.ireturn, 1) := by decide +kernel
theorem dL_price_0 : decode cL_price 0 = .ok (.aload 4, 2) := by decide +kernel
theorem dL_price_2 : decode cL_price 2 = .ok (.iconst 0, 1) := by decide +kernel
theorem dL_price_3 : decode cL_price 3 = .ok (.aload_n 0, 1) := by decide +kernel
theorem dL_price_4 : decode cL_price 4 = .ok (.iload_n 1, 1) := by decide +kernel
theorem dL_price_5 : decode cL_price 5 = .ok (.iload_n 2, 1) := by decide +kernel
theorem dL_price_6 : decode cL_price 6 = .ok (.iload_n 3, 1) := by decide +kernel
theorem dL_price_7 : decode cL_price 7 = .ok (.invokevirtual 30, 3) := by decide +kernel
theorem dL_price_10 : decode cL_price 10 = .ok (.i2l, 1) := by decide +kernel
theorem dL_price_11 : decode cL_price 11 = .ok (.lastore, 1) := by decide +kernel
theorem dL_price_12 : decode cL_price 12 = .ok (.goto 11, 3) := by decide +kernel
theorem dL_price_15 : decode cL_price 15 = .ok (.astore 5, 2) := by decide +kernel
theorem dL_price_17 : decode cL_price 17 = .ok (.iconst 1, 1) := by decide +kernel
theorem dL_price_18 : decode cL_price 18 = .ok (.ireturn, 1) := by decide +kernel
theorem dL_price_19 : decode cL_price 19 = .ok (.astore 5, 2) := by decide +kernel
theorem dL_price_21 : decode cL_price 21 = .ok (.iconst 2, 1) := by decide +kernel
theorem dL_price_22 : decode cL_price 22 = .ok (.ireturn, 1) := by decide +kernel
theorem dL_price_23 : decode cL_price 23 = .ok (.iconst 0, 1) := by decide +kernel
theorem dL_price_24 : decode cL_price 24 = .ok (.ireturn, 1) := by decide +kernel
theorem dL_value_0 : decode cL_value 0 = .ok (.aload_n 2, 1) := by decide +kernel
theorem dL_value_1 : decode cL_value 1 = .ok (.iconst 0, 1) := by decide +kernel
theorem dL_value_2 : decode cL_value 2 = .ok (.aload_n 0, 1) := by decide +kernel
theorem dL_value_3 : decode cL_value 3 = .ok (.iload_n 1, 1) := by decide +kernel
theorem dL_value_4 : decode cL_value 4 = .ok (.invokevirtual 34, 3) := by decide +kernel
theorem dL_value_7 : decode cL_value 7 = .ok (.i2l, 1) := by decide +kernel
theorem dL_value_8 : decode cL_value 8 = .ok (.lastore, 1) := by decide +kernel
theorem dL_value_9 : decode cL_value 9 = .ok (.goto 6, 3) := by decide +kernel
theorem dL_value_12 : decode cL_value 12 = .ok (.astore_n 3, 1) := by decide +kernel
theorem dL_value_13 : decode cL_value 13 = .ok (.iconst 1, 1) := by decide +kernel
theorem dL_value_14 : decode cL_value 14 = .ok (.ireturn, 1) := by decide +kernel
theorem dL_value_15 : decode cL_value 15 = .ok (.iconst 0, 1) := by decide +kernel
theorem dL_value_16 : decode cL_value 16 = .ok (.ireturn, 1) := by decide +kernel
theorem dL_stoneIs_0 : decode cL_stoneIs 0 = .ok (.aload_n 3, 1) := by decide +kernel
theorem dL_stoneIs_1 : decode cL_stoneIs 1 = .ok (.iconst 0, 1) := by decide +kernel
theorem dL_stoneIs_2 : decode cL_stoneIs 2 = .ok (.aload_n 0, 1) := by decide +kernel
theorem dL_stoneIs_3 : decode cL_stoneIs 3 = .ok (.iload_n 1, 1) := by decide +kernel
theorem dL_stoneIs_4 : decode cL_stoneIs 4 = .ok (.iload_n 2, 1) := by decide +kernel
theorem dL_stoneIs_5 : decode cL_stoneIs 5 = .ok (.invokevirtual 37, 3) := by decide +kernel
theorem dL_stoneIs_8 : decode cL_stoneIs 8 = .ok (.i2l, 1) := by decide +kernel
theorem dL_stoneIs_9 : decode cL_stoneIs 9 = .ok (.lastore, 1) := by decide +kernel
theorem dL_stoneIs_10 : decode cL_stoneIs 10 = .ok (.goto 11, 3) := by decide +kernel
theorem dL_stoneIs_13 : decode cL_stoneIs 13 = .ok (.astore 4, 2) := by decide +kernel
theorem dL_stoneIs_15 : decode cL_stoneIs 15 = .ok (.iconst 1, 1) := by decide +kernel
theorem dL_stoneIs_16 : decode cL_stoneIs 16 = .ok (.ireturn, 1) := by decide +kernel
theorem dL_stoneIs_17 : decode cL_stoneIs 17 = .ok (.astore 4, 2) := by decide +kernel
theorem dL_stoneIs_19 : decode cL_stoneIs 19 = .ok (.iconst 2, 1) := by decide +kernel
theorem dL_stoneIs_20 : decode cL_stoneIs 20 = .ok (.ireturn, 1) := by decide +kernel
theorem dL_stoneIs_21 : decode cL_stoneIs 21 = .ok (.iconst 0, 1) := by decide +kernel
theorem dL_stoneIs_22 : decode cL_stoneIs 22 = .ok (.ireturn, 1) := by decide +kernel
theorem dL_boxes_0 : decode cL_boxes 0 = .ok (.aload_n 2, 1) := by decide +kernel
theorem dL_boxes_1 : decode cL_boxes 1 = .ok (.iconst 0, 1) := by decide +kernel
theorem dL_boxes_2 : decode cL_boxes 2 = .ok (.aload_n 0, 1) := by decide +kernel
theorem dL_boxes_3 : decode cL_boxes 3 = .ok (.iload_n 1, 1) := by decide +kernel
theorem dL_boxes_4 : decode cL_boxes 4 = .ok (.invokevirtual 40, 3) := by decide +kernel
theorem dL_boxes_7 : decode cL_boxes 7 = .ok (.i2l, 1) := by decide +kernel
theorem dL_boxes_8 : decode cL_boxes 8 = .ok (.lastore, 1) := by decide +kernel
theorem dL_boxes_9 : decode cL_boxes 9 = .ok (.goto 6, 3) := by decide +kernel
theorem dL_boxes_12 : decode cL_boxes 12 = .ok (.astore_n 3, 1) := by decide +kernel
theorem dL_boxes_13 : decode cL_boxes 13 = .ok (.iconst 1, 1) := by decide +kernel
theorem dL_boxes_14 : decode cL_boxes 14 = .ok (.ireturn, 1) := by decide +kernel
theorem dL_boxes_15 : decode cL_boxes 15 = .ok (.iconst 0, 1) := by decide +kernel
theorem dL_boxes_16 : decode cL_boxes 16 = .ok (.ireturn, 1) := by decide +kernel
theorem dL_boxValue_0 : decode cL_boxValue 0 = .ok (.aload_n 2, 1) := by decide +kernel
theorem dL_boxValue_1 : decode cL_boxValue 1 = .ok (.iconst 0, 1) := by decide +kernel
theorem dL_boxValue_2 : decode cL_boxValue 2 = .ok (.aload_n 0, 1) := by decide +kernel
theorem dL_boxValue_3 : decode cL_boxValue 3 = .ok (.iload_n 1, 1) := by decide +kernel
theorem dL_boxValue_4 : decode cL_boxValue 4 = .ok (.invokevirtual 43, 3) := by decide +kernel
theorem dL_boxValue_7 : decode cL_boxValue 7 = .ok (.i2l, 1) := by decide +kernel
theorem dL_boxValue_8 : decode cL_boxValue 8 = .ok (.lastore, 1) := by decide +kernel
theorem dL_boxValue_9 : decode cL_boxValue 9 = .ok (.goto 6, 3) := by decide +kernel
theorem dL_boxValue_12 : decode cL_boxValue 12 = .ok (.astore_n 3, 1) := by decide +kernel
theorem dL_boxValue_13 : decode cL_boxValue 13 = .ok (.iconst 1, 1) := by decide +kernel
theorem dL_boxValue_14 : decode cL_boxValue 14 = .ok (.ireturn, 1) := by decide +kernel
theorem dL_boxValue_15 : decode cL_boxValue 15 = .ok (.iconst 0, 1) := by decide +kernel
theorem dL_boxValue_16 : decode cL_boxValue 16 = .ok (.ireturn, 1) := by decide +kernel
theorem dL_offered_0 : decode cL_offered 0 = .ok (.aload_n 2, 1) := by decide +kernel
theorem dL_offered_1 : decode cL_offered 1 = .ok (.iconst 0, 1) := by decide +kernel
theorem dL_offered_2 : decode cL_offered 2 = .ok (.aload_n 0, 1) := by decide +kernel
theorem dL_offered_3 : decode cL_offered 3 = .ok (.iload_n 1, 1) := by decide +kernel
theorem dL_offered_4 : decode cL_offered 4 = .ok (.invokevirtual 46, 3) := by decide +kernel
theorem dL_offered_7 : decode cL_offered 7 = .ok (.i2l, 1) := by decide +kernel
theorem dL_offered_8 : decode cL_offered 8 = .ok (.lastore, 1) := by decide +kernel
theorem dL_offered_9 : decode cL_offered 9 = .ok (.goto 6, 3) := by decide +kernel
theorem dL_offered_12 : decode cL_offered 12 = .ok (.astore_n 3, 1) := by decide +kernel
theorem dL_offered_13 : decode cL_offered 13 = .ok (.iconst 1, 1) := by decide +kernel
theorem dL_offered_14 : decode cL_offered 14 = .ok (.ireturn, 1) := by decide +kernel
theorem dL_offered_15 : decode cL_offered 15 = .ok (.iconst 0, 1) := by decide +kernel
theorem dL_offered_16 : decode cL_offered 16 = .ok (.ireturn, 1) := by decide +kernel
theorem dL_take_0 : decode cL_take 0 = .ok (.aload_n 3, 1) := by decide +kernel
theorem dL_take_1 : decode cL_take 1 = .ok (.iconst 0, 1) := by decide +kernel
theorem dL_take_2 : decode cL_take 2 = .ok (.aload_n 0, 1) := by decide +kernel
theorem dL_take_3 : decode cL_take 3 = .ok (.iload_n 1, 1) := by decide +kernel
theorem dL_take_4 : decode cL_take 4 = .ok (.iload_n 2, 1) := by decide +kernel
theorem dL_take_5 : decode cL_take 5 = .ok (.invokevirtual 49, 3) := by decide +kernel
theorem dL_take_8 : decode cL_take 8 = .ok (.i2l, 1) := by decide +kernel
theorem dL_take_9 : decode cL_take 9 = .ok (.lastore, 1) := by decide +kernel
theorem dL_take_10 : decode cL_take 10 = .ok (.goto 11, 3) := by decide +kernel
theorem dL_take_13 : decode cL_take 13 = .ok (.astore 4, 2) := by decide +kernel
theorem dL_take_15 : decode cL_take 15 = .ok (.iconst 1, 1) := by decide +kernel
theorem dL_take_16 : decode cL_take 16 = .ok (.ireturn, 1) := by decide +kernel
theorem dL_take_17 : decode cL_take 17 = .ok (.astore 4, 2) := by decide +kernel
theorem dL_take_19 : decode cL_take 19 = .ok (.iconst 2, 1) := by decide +kernel
theorem dL_take_20 : decode cL_take 20 = .ok (.ireturn, 1) := by decide +kernel
theorem dL_take_21 : decode cL_take 21 = .ok (.iconst 0, 1) := by decide +kernel
theorem dL_take_22 : decode cL_take 22 = .ok (.ireturn, 1) := by decide +kernel
theorem dL_tender_0 : decode cL_tender 0 = .ok (.aload_n 0, 1) := by decide +kernel
theorem dL_tender_1 : decode cL_tender 1 = .ok (.iload_n 1, 1) := by decide +kernel
theorem dL_tender_2 : decode cL_tender 2 = .ok (.iload_n 2, 1) := by decide +kernel
theorem dL_tender_3 : decode cL_tender 3 = .ok (.invokevirtual 53, 3) := by decide +kernel
theorem dL_tender_6 : decode cL_tender 6 = .ok (.goto 12, 3) := by decide +kernel
theorem dL_tender_9 : decode cL_tender 9 = .ok (.astore_n 3, 1) := by decide +kernel
theorem dL_tender_10 : decode cL_tender 10 = .ok (.iconst 1, 1) := by decide +kernel
theorem dL_tender_11 : decode cL_tender 11 = .ok (.ireturn, 1) := by decide +kernel
theorem dL_tender_12 : decode cL_tender 12 = .ok (.astore_n 3, 1) := by decide +kernel
theorem dL_tender_13 : decode cL_tender 13 = .ok (.iconst 2, 1) := by decide +kernel
theorem dL_tender_14 : decode cL_tender 14 = .ok (.ireturn, 1) := by decide +kernel
theorem dL_tender_15 : decode cL_tender 15 = .ok (.astore_n 3, 1) := by decide +kernel
theorem dL_tender_16 : decode cL_tender 16 = .ok (.iconst 3, 1) := by decide +kernel
theorem dL_tender_17 : decode cL_tender 17 = .ok (.ireturn, 1) := by decide +kernel
theorem dL_tender_18 : decode cL_tender 18 = .ok (.iconst 0, 1) := by decide +kernel
theorem dL_tender_19 : decode cL_tender 19 = .ok (.ireturn, 1) := by decide +kernel
theorem dL_bid_0 : decode cL_bid 0 = .ok (.aload_n 3, 1) := by decide +kernel
theorem dL_bid_1 : decode cL_bid 1 = .ok (.iconst 0, 1) := by decide +kernel
theorem dL_bid_2 : decode cL_bid 2 = .ok (.aload_n 0, 1) := by decide +kernel
theorem dL_bid_3 : decode cL_bid 3 = .ok (.iload_n 1, 1) := by decide +kernel
theorem dL_bid_4 : decode cL_bid 4 = .ok (.iload_n 2, 1) := by decide +kernel
theorem dL_bid_5 : decode cL_bid 5 = .ok (.invokevirtual 57, 3) := by decide +kernel
theorem dL_bid_8 : decode cL_bid 8 = .ok (.i2l, 1) := by decide +kernel
theorem dL_bid_9 : decode cL_bid 9 = .ok (.lastore, 1) := by decide +kernel
theorem dL_bid_10 : decode cL_bid 10 = .ok (.goto 15, 3) := by decide +kernel
theorem dL_bid_13 : decode cL_bid 13 = .ok (.astore 4, 2) := by decide +kernel
theorem dL_bid_15 : decode cL_bid 15 = .ok (.iconst 1, 1) := by decide +kernel
theorem dL_bid_16 : decode cL_bid 16 = .ok (.ireturn, 1) := by decide +kernel
theorem dL_bid_17 : decode cL_bid 17 = .ok (.astore 4, 2) := by decide +kernel
theorem dL_bid_19 : decode cL_bid 19 = .ok (.iconst 2, 1) := by decide +kernel
theorem dL_bid_20 : decode cL_bid 20 = .ok (.ireturn, 1) := by decide +kernel
theorem dL_bid_21 : decode cL_bid 21 = .ok (.astore 4, 2) := by decide +kernel
theorem dL_bid_23 : decode cL_bid 23 = .ok (.iconst 3, 1) := by decide +kernel
theorem dL_bid_24 : decode cL_bid 24 = .ok (.ireturn, 1) := by decide +kernel
theorem dL_bid_25 : decode cL_bid 25 = .ok (.iconst 0, 1) := by decide +kernel
theorem dL_bid_26 : decode cL_bid 26 = .ok (.ireturn, 1) := by decide +kernel
theorem dL_close_0 : decode cL_close 0 = .ok (.aload_n 1, 1) := by decide +kernel
theorem dL_close_1 : decode cL_close 1 = .ok (.iconst 0, 1) := by decide +kernel
theorem dL_close_2 : decode cL_close 2 = .ok (.aload_n 0, 1) := by decide +kernel
theorem dL_close_3 : decode cL_close 3 = .ok (.invokevirtual 60, 3) := by decide +kernel
theorem dL_close_6 : decode cL_close 6 = .ok (.i2l, 1) := by decide +kernel
theorem dL_close_7 : decode cL_close 7 = .ok (.lastore, 1) := by decide +kernel
theorem dL_close_8 : decode cL_close 8 = .ok (.goto 6, 3) := by decide +kernel
theorem dL_close_11 : decode cL_close 11 = .ok (.astore_n 2, 1) := by decide +kernel
theorem dL_close_12 : decode cL_close 12 = .ok (.iconst 1, 1) := by decide +kernel
theorem dL_close_13 : decode cL_close 13 = .ok (.ireturn, 1) := by decide +kernel
theorem dL_close_14 : decode cL_close 14 = .ok (.iconst 0, 1) := by decide +kernel
theorem dL_close_15 : decode cL_close 15 = .ok (.ireturn, 1) := by decide +kernel
theorem dL_plan_0 : decode cL_plan 0 = .ok (.aload_n 2, 1) := by decide +kernel
theorem dL_plan_1 : decode cL_plan 1 = .ok (.iconst 0, 1) := by decide +kernel
theorem dL_plan_2 : decode cL_plan 2 = .ok (.aload_n 0, 1) := by decide +kernel
theorem dL_plan_3 : decode cL_plan 3 = .ok (.iload_n 1, 1) := by decide +kernel
theorem dL_plan_4 : decode cL_plan 4 = .ok (.invokevirtual 64, 3) := by decide +kernel
theorem dL_plan_7 : decode cL_plan 7 = .ok (.i2l, 1) := by decide +kernel
theorem dL_plan_8 : decode cL_plan 8 = .ok (.lastore, 1) := by decide +kernel
theorem dL_plan_9 : decode cL_plan 9 = .ok (.goto 6, 3) := by decide +kernel
theorem dL_plan_12 : decode cL_plan 12 = .ok (.astore_n 3, 1) := by decide +kernel
theorem dL_plan_13 : decode cL_plan 13 = .ok (.iconst 1, 1) := by decide +kernel
theorem dL_plan_14 : decode cL_plan 14 = .ok (.ireturn, 1) := by decide +kernel
theorem dL_plan_15 : decode cL_plan 15 = .ok (.iconst 0, 1) := by decide +kernel
theorem dL_plan_16 : decode cL_plan 16 = .ok (.ireturn, 1) := by decide +kernel
theorem dL_planAnew_0 : decode cL_planAnew 0 = .ok (.aload_n 2, 1) := by decide +kernel
theorem dL_planAnew_1 : decode cL_planAnew 1 = .ok (.iconst 0, 1) := by decide +kernel
theorem dL_planAnew_2 : decode cL_planAnew 2 = .ok (.aload_n 0, 1) := by decide +kernel
theorem dL_planAnew_3 : decode cL_planAnew 3 = .ok (.iload_n 1, 1) := by decide +kernel
theorem dL_planAnew_4 : decode cL_planAnew 4 = .ok (.invokevirtual 67, 3) := by decide +kernel
theorem dL_planAnew_7 : decode cL_planAnew 7 = .ok (.i2l, 1) := by decide +kernel
theorem dL_planAnew_8 : decode cL_planAnew 8 = .ok (.lastore, 1) := by decide +kernel
theorem dL_planAnew_9 : decode cL_planAnew 9 = .ok (.goto 6, 3) := by decide +kernel
theorem dL_planAnew_12 : decode cL_planAnew 12 = .ok (.astore_n 3, 1) := by decide +kernel
theorem dL_planAnew_13 : decode cL_planAnew 13 = .ok (.iconst 1, 1) := by decide +kernel
theorem dL_planAnew_14 : decode cL_planAnew 14 = .ok (.ireturn, 1) := by decide +kernel
theorem dL_planAnew_15 : decode cL_planAnew 15 = .ok (.iconst 0, 1) := by decide +kernel
theorem dL_planAnew_16 : decode cL_planAnew 16 = .ok (.ireturn, 1) := by decide +kernel
theorem dL_cut_0 : decode cL_cut 0 = .ok (.aload_n 2, 1) := by decide +kernel
theorem dL_cut_1 : decode cL_cut 1 = .ok (.iconst 0, 1) := by decide +kernel
theorem dL_cut_2 : decode cL_cut 2 = .ok (.aload_n 0, 1) := by decide +kernel
theorem dL_cut_3 : decode cL_cut 3 = .ok (.iload_n 1, 1) := by decide +kernel
theorem dL_cut_4 : decode cL_cut 4 = .ok (.invokevirtual 70, 3) := by decide +kernel
theorem dL_cut_7 : decode cL_cut 7 = .ok (.i2l, 1) := by decide +kernel
theorem dL_cut_8 : decode cL_cut 8 = .ok (.lastore, 1) := by decide +kernel
theorem dL_cut_9 : decode cL_cut 9 = .ok (.goto 9, 3) := by decide +kernel
theorem dL_cut_12 : decode cL_cut 12 = .ok (.astore_n 3, 1) := by decide +kernel
theorem dL_cut_13 : decode cL_cut 13 = .ok (.iconst 1, 1) := by decide +kernel
theorem dL_cut_14 : decode cL_cut 14 = .ok (.ireturn, 1) := by decide +kernel
theorem dL_cut_15 : decode cL_cut 15 = .ok (.astore_n 3, 1) := by decide +kernel
theorem dL_cut_16 : decode cL_cut 16 = .ok (.iconst 2, 1) := by decide +kernel
theorem dL_cut_17 : decode cL_cut 17 = .ok (.ireturn, 1) := by decide +kernel
theorem dL_cut_18 : decode cL_cut 18 = .ok (.iconst 0, 1) := by decide +kernel
theorem dL_cut_19 : decode cL_cut 19 = .ok (.ireturn, 1) := by decide +kernel
theorem dL_recut_0 : decode cL_recut 0 = .ok (.aload_n 3, 1) := by decide +kernel
theorem dL_recut_1 : decode cL_recut 1 = .ok (.iconst 0, 1) := by decide +kernel
theorem dL_recut_2 : decode cL_recut 2 = .ok (.aload_n 0, 1) := by decide +kernel
theorem dL_recut_3 : decode cL_recut 3 = .ok (.iload_n 1, 1) := by decide +kernel
theorem dL_recut_4 : decode cL_recut 4 = .ok (.iload_n 2, 1) := by decide +kernel
theorem dL_recut_5 : decode cL_recut 5 = .ok (.invokevirtual 73, 3) := by decide +kernel
theorem dL_recut_8 : decode cL_recut 8 = .ok (.i2l, 1) := by decide +kernel
theorem dL_recut_9 : decode cL_recut 9 = .ok (.lastore, 1) := by decide +kernel
theorem dL_recut_10 : decode cL_recut 10 = .ok (.goto 11, 3) := by decide +kernel
theorem dL_recut_13 : decode cL_recut 13 = .ok (.astore 4, 2) := by decide +kernel
theorem dL_recut_15 : decode cL_recut 15 = .ok (.iconst 1, 1) := by decide +kernel
theorem dL_recut_16 : decode cL_recut 16 = .ok (.ireturn, 1) := by decide +kernel
theorem dL_recut_17 : decode cL_recut 17 = .ok (.astore 4, 2) := by decide +kernel
theorem dL_recut_19 : decode cL_recut 19 = .ok (.iconst 2, 1) := by decide +kernel
theorem dL_recut_20 : decode cL_recut 20 = .ok (.ireturn, 1) := by decide +kernel
theorem dL_recut_21 : decode cL_recut 21 = .ok (.iconst 0, 1) := by decide +kernel
theorem dL_recut_22 : decode cL_recut 22 = .ok (.ireturn, 1) := by decide +kernel
theorem dL_polished_0 : decode cL_polished 0 = .ok (.aload_n 3, 1) := by decide +kernel
theorem dL_polished_1 : decode cL_polished 1 = .ok (.iconst 0, 1) := by decide +kernel
theorem dL_polished_2 : decode cL_polished 2 = .ok (.aload_n 0, 1) := by decide +kernel
theorem dL_polished_3 : decode cL_polished 3 = .ok (.iload_n 1, 1) := by decide +kernel
theorem dL_polished_4 : decode cL_polished 4 = .ok (.iload_n 2, 1) := by decide +kernel
theorem dL_polished_5 : decode cL_polished 5 = .ok (.invokevirtual 76, 3) := by decide +kernel
theorem dL_polished_8 : decode cL_polished 8 = .ok (.i2l, 1) := by decide +kernel
theorem dL_polished_9 : decode cL_polished 9 = .ok (.lastore, 1) := by decide +kernel
theorem dL_polished_10 : decode cL_polished 10 = .ok (.goto 11, 3) := by decide +kernel
theorem dL_polished_13 : decode cL_polished 13 = .ok (.astore 4, 2) := by decide +kernel
theorem dL_polished_15 : decode cL_polished 15 = .ok (.iconst 1, 1) := by decide +kernel
theorem dL_polished_16 : decode cL_polished 16 = .ok (.ireturn, 1) := by decide +kernel
theorem dL_polished_17 : decode cL_polished 17 = .ok (.astore 4, 2) := by decide +kernel
theorem dL_polished_19 : decode cL_polished 19 = .ok (.iconst 2, 1) := by decide +kernel
theorem dL_polished_20 : decode cL_polished 20 = .ok (.ireturn, 1) := by decide +kernel
theorem dL_polished_21 : decode cL_polished 21 = .ok (.iconst 0, 1) := by decide +kernel
theorem dL_polished_22 : decode cL_polished 22 = .ok (.ireturn, 1) := by decide +kernel
theorem dL_scale_0 : decode cL_scale 0 = .ok (.aload_n 3, 1) := by decide +kernel
theorem dL_scale_1 : decode cL_scale 1 = .ok (.iconst 0, 1) := by decide +kernel
theorem dL_scale_2 : decode cL_scale 2 = .ok (.aload_n 0, 1) := by decide +kernel
theorem dL_scale_3 : decode cL_scale 3 = .ok (.iload_n 1, 1) := by decide +kernel
theorem dL_scale_4 : decode cL_scale 4 = .ok (.iload_n 2, 1) := by decide +kernel
theorem dL_scale_5 : decode cL_scale 5 = .ok (.invokevirtual 79, 3) := by decide +kernel
theorem dL_scale_8 : decode cL_scale 8 = .ok (.i2l, 1) := by decide +kernel
theorem dL_scale_9 : decode cL_scale 9 = .ok (.lastore, 1) := by decide +kernel
theorem dL_scale_10 : decode cL_scale 10 = .ok (.goto 11, 3) := by decide +kernel
theorem dL_scale_13 : decode cL_scale 13 = .ok (.astore 4, 2) := by decide +kernel
theorem dL_scale_15 : decode cL_scale 15 = .ok (.iconst 1, 1) := by decide +kernel
theorem dL_scale_16 : decode cL_scale 16 = .ok (.ireturn, 1) := by decide +kernel
theorem dL_scale_17 : decode cL_scale 17 = .ok (.astore 4, 2) := by decide +kernel
theorem dL_scale_19 : decode cL_scale 19 = .ok (.iconst 2, 1) := by decide +kernel
theorem dL_scale_20 : decode cL_scale 20 = .ok (.ireturn, 1) := by decide +kernel
theorem dL_scale_21 : decode cL_scale 21 = .ok (.iconst 0, 1) := by decide +kernel
theorem dL_scale_22 : decode cL_scale 22 = .ok (.ireturn, 1) := by decide +kernel
theorem dL_look_0 : decode cL_look 0 = .ok (.aload_n 3, 1) := by decide +kernel
theorem dL_look_1 : decode cL_look 1 = .ok (.iconst 0, 1) := by decide +kernel
theorem dL_look_2 : decode cL_look 2 = .ok (.aload_n 0, 1) := by decide +kernel
theorem dL_look_3 : decode cL_look 3 = .ok (.iload_n 1, 1) := by decide +kernel
theorem dL_look_4 : decode cL_look 4 = .ok (.iload_n 2, 1) := by decide +kernel
theorem dL_look_5 : decode cL_look 5 = .ok (.invokevirtual 82, 3) := by decide +kernel
theorem dL_look_8 : decode cL_look 8 = .ok (.i2l, 1) := by decide +kernel
theorem dL_look_9 : decode cL_look 9 = .ok (.lastore, 1) := by decide +kernel
theorem dL_look_10 : decode cL_look 10 = .ok (.goto 11, 3) := by decide +kernel
theorem dL_look_13 : decode cL_look 13 = .ok (.astore 4, 2) := by decide +kernel
theorem dL_look_15 : decode cL_look 15 = .ok (.iconst 1, 1) := by decide +kernel
theorem dL_look_16 : decode cL_look 16 = .ok (.ireturn, 1) := by decide +kernel
theorem dL_look_17 : decode cL_look 17 = .ok (.astore 4, 2) := by decide +kernel
theorem dL_look_19 : decode cL_look 19 = .ok (.iconst 2, 1) := by decide +kernel
theorem dL_look_20 : decode cL_look 20 = .ok (.ireturn, 1) := by decide +kernel
theorem dL_look_21 : decode cL_look 21 = .ok (.iconst 0, 1) := by decide +kernel
theorem dL_look_22 : decode cL_look 22 = .ok (.ireturn, 1) := by decide +kernel
theorem dL_paper_0 : decode cL_paper 0 = .ok (.aload_n 3, 1) := by decide +kernel
theorem dL_paper_1 : decode cL_paper 1 = .ok (.iconst 0, 1) := by decide +kernel
theorem dL_paper_2 : decode cL_paper 2 = .ok (.aload_n 0, 1) := by decide +kernel
theorem dL_paper_3 : decode cL_paper 3 = .ok (.iload_n 1, 1) := by decide +kernel
theorem dL_paper_4 : decode cL_paper 4 = .ok (.iload_n 2, 1) := by decide +kernel
theorem dL_paper_5 : decode cL_paper 5 = .ok (.invokevirtual 85, 3) := by decide +kernel
theorem dL_paper_8 : decode cL_paper 8 = .ok (.i2l, 1) := by decide +kernel
theorem dL_paper_9 : decode cL_paper 9 = .ok (.lastore, 1) := by decide +kernel
theorem dL_paper_10 : decode cL_paper 10 = .ok (.goto 11, 3) := by decide +kernel
theorem dL_paper_13 : decode cL_paper 13 = .ok (.astore 4, 2) := by decide +kernel
theorem dL_paper_15 : decode cL_paper 15 = .ok (.iconst 1, 1) := by decide +kernel
theorem dL_paper_16 : decode cL_paper 16 = .ok (.ireturn, 1) := by decide +kernel
theorem dL_paper_17 : decode cL_paper 17 = .ok (.astore 4, 2) := by decide +kernel
theorem dL_paper_19 : decode cL_paper 19 = .ok (.iconst 2, 1) := by decide +kernel
theorem dL_paper_20 : decode cL_paper 20 = .ok (.ireturn, 1) := by decide +kernel
theorem dL_paper_21 : decode cL_paper 21 = .ok (.iconst 0, 1) := by decide +kernel
theorem dL_paper_22 : decode cL_paper 22 = .ok (.ireturn, 1) := by decide +kernel
theorem dL_all_0 : decode cL_all 0 = .ok (.aload_n 2, 1) := by decide +kernel
theorem dL_all_1 : decode cL_all 1 = .ok (.iconst 0, 1) := by decide +kernel
theorem dL_all_2 : decode cL_all 2 = .ok (.aload_n 0, 1) := by decide +kernel
theorem dL_all_3 : decode cL_all 3 = .ok (.iload_n 1, 1) := by decide +kernel
theorem dL_all_4 : decode cL_all 4 = .ok (.invokevirtual 88, 3) := by decide +kernel
theorem dL_all_7 : decode cL_all 7 = .ok (.i2l, 1) := by decide +kernel
theorem dL_all_8 : decode cL_all 8 = .ok (.lastore, 1) := by decide +kernel
theorem dL_all_9 : decode cL_all 9 = .ok (.goto 6, 3) := by decide +kernel
theorem dL_all_12 : decode cL_all 12 = .ok (.astore_n 3, 1) := by decide +kernel
theorem dL_all_13 : decode cL_all 13 = .ok (.iconst 1, 1) := by decide +kernel
theorem dL_all_14 : decode cL_all 14 = .ok (.ireturn, 1) := by decide +kernel
theorem dL_all_15 : decode cL_all 15 = .ok (.iconst 0, 1) := by decide +kernel
theorem dL_all_16 : decode cL_all 16 = .ok (.ireturn, 1) := by decide +kernel
end
section
theorem dL_law_0 : decode cL_law 0 = .ok (.new 8, 3) := by decide +kernel
theorem dL_law_3 : decode cL_law 3 = .ok (.dup, 1) := by decide +kernel
theorem dL_law_4 : decode cL_law 4 = .ok (.invokespecial 91, 3) := by decide +kernel
theorem dL_law_7 : decode cL_law 7 = .ok (.astore_n 1, 1) := by decide +kernel
theorem dL_law_8 : decode cL_law 8 = .ok (.new 92, 3) := by decide +kernel
theorem dL_law_11 : decode cL_law 11 = .ok (.dup, 1) := by decide +kernel
theorem dL_law_12 : decode cL_law 12 = .ok (.invokespecial 94, 3) := by decide +kernel
theorem dL_law_15 : decode cL_law 15 = .ok (.astore_n 2, 1) := by decide +kernel
theorem dL_law_16 : decode cL_law 16 = .ok (.iconst 1, 1) := by decide +kernel
theorem dL_law_17 : decode cL_law 17 = .ok (.newarray .long, 2) := by decide +kernel
theorem dL_law_19 : decode cL_law 19 = .ok (.astore_n 3, 1) := by decide +kernel
theorem dL_law_20 : decode cL_law 20 = .ok (.iconst 0, 1) := by decide +kernel
theorem dL_law_21 : decode cL_law 21 = .ok (.istore 4, 2) := by decide +kernel
theorem dL_law_23 : decode cL_law 23 = .ok (.iload 4, 2) := by decide +kernel
theorem dL_law_25 : decode cL_law 25 = .ok (.aload_n 0, 1) := by decide +kernel
theorem dL_law_26 : decode cL_law 26 = .ok (.arraylength, 1) := by decide +kernel
theorem dL_law_27 : decode cL_law 27 = .ok (.bipush 6, 2) := by decide +kernel
theorem dL_law_29 : decode cL_law 29 = .ok (.isub, 1) := by decide +kernel
theorem dL_law_30 : decode cL_law 30 = .ok (.if_icmp .gt 1600, 3) := by decide +kernel
theorem dL_law_33 : decode cL_law 33 = .ok (.aload_n 0, 1) := by decide +kernel
theorem dL_law_34 : decode cL_law 34 = .ok (.iload 4, 2) := by decide +kernel
theorem dL_law_36 : decode cL_law 36 = .ok (.iaload, 1) := by decide +kernel
theorem dL_law_37 : decode cL_law 37 = .ok (.bipush 31, 2) := by decide +kernel
theorem dL_law_39 : decode cL_law 39 = .ok (.iand, 1) := by decide +kernel
theorem dL_law_40 : decode cL_law 40 = .ok (.tableswitch 1584 0 22 #[108, 164, 268, 336, 404, 484, 540, 608, 664, 720, 776, 860, 908, 976, 1020, 1076, 1132, 1188, 1256, 1324, 1392, 1460, 1528], 108) := by decide +kernel
theorem dL_law_148 : decode cL_law 148 = .ok (.aload_n 1, 1) := by decide +kernel
theorem dL_law_149 : decode cL_law 149 = .ok (.aload_n 0, 1) := by decide +kernel
theorem dL_law_150 : decode cL_law 150 = .ok (.iload 4, 2) := by decide +kernel
theorem dL_law_152 : decode cL_law 152 = .ok (.iconst 1, 1) := by decide +kernel
theorem dL_law_153 : decode cL_law 153 = .ok (.iadd, 1) := by decide +kernel
theorem dL_law_154 : decode cL_law 154 = .ok (.iaload, 1) := by decide +kernel
theorem dL_law_155 : decode cL_law 155 = .ok (.aload_n 3, 1) := by decide +kernel
theorem dL_law_156 : decode cL_law 156 = .ok (.invokestatic 95, 3) := by decide +kernel
theorem dL_law_159 : decode cL_law 159 = .ok (.istore 5, 2) := by decide +kernel
theorem dL_law_161 : decode cL_law 161 = .ok (.aload_n 2, 1) := by decide +kernel
theorem dL_law_162 : decode cL_law 162 = .ok (.aload_n 0, 1) := by decide +kernel
theorem dL_law_163 : decode cL_law 163 = .ok (.iload 4, 2) := by decide +kernel
theorem dL_law_165 : decode cL_law 165 = .ok (.iconst 1, 1) := by decide +kernel
theorem dL_law_166 : decode cL_law 166 = .ok (.iadd, 1) := by decide +kernel
theorem dL_law_167 : decode cL_law 167 = .ok (.iaload, 1) := by decide +kernel
theorem dL_law_168 : decode cL_law 168 = .ok (.invokevirtual 100, 3) := by decide +kernel
theorem dL_law_171 : decode cL_law 171 = .ok (.istore 6, 2) := by decide +kernel
theorem dL_law_173 : decode cL_law 173 = .ok (.aload_n 2, 1) := by decide +kernel
theorem dL_law_174 : decode cL_law 174 = .ok (.invokevirtual 101, 3) := by decide +kernel
theorem dL_law_177 : decode cL_law 177 = .ok (.iload 5, 2) := by decide +kernel
theorem dL_law_179 : decode cL_law 179 = .ok (.if_icmp .eq 5, 3) := by decide +kernel
theorem dL_law_182 : decode cL_law 182 = .ok (.iconst 0, 1) := by decide +kernel
theorem dL_law_183 : decode cL_law 183 = .ok (.ireturn, 1) := by decide +kernel
theorem dL_law_184 : decode cL_law 184 = .ok (.iload 5, 2) := by decide +kernel
theorem dL_law_186 : decode cL_law 186 = .ok (.ifCond .ne 15, 3) := by decide +kernel
theorem dL_law_189 : decode cL_law 189 = .ok (.aload_n 3, 1) := by decide +kernel
theorem dL_law_190 : decode cL_law 190 = .ok (.iconst 0, 1) := by decide +kernel
theorem dL_law_191 : decode cL_law 191 = .ok (.laload, 1) := by decide +kernel
theorem dL_law_192 : decode cL_law 192 = .ok (.iload 6, 2) := by decide +kernel
theorem dL_law_194 : decode cL_law 194 = .ok (.i2l, 1) := by decide +kernel
theorem dL_law_195 : decode cL_law 195 = .ok (.lcmp, 1) := by decide +kernel
theorem dL_law_196 : decode cL_law 196 = .ok (.ifCond .eq 5, 3) := by decide +kernel
theorem dL_law_199 : decode cL_law 199 = .ok (.iconst 0, 1) := by decide +kernel
theorem dL_law_200 : decode cL_law 200 = .ok (.ireturn, 1) := by decide +kernel
theorem dL_law_201 : decode cL_law 201 = .ok (.goto 1423, 3) := by decide +kernel
theorem dL_law_204 : decode cL_law 204 = .ok (.aload_n 1, 1) := by decide +kernel
theorem dL_law_205 : decode cL_law 205 = .ok (.aload_n 0, 1) := by decide +kernel
theorem dL_law_206 : decode cL_law 206 = .ok (.iload 4, 2) := by decide +kernel
theorem dL_law_208 : decode cL_law 208 = .ok (.iconst 1, 1) := by decide +kernel
theorem dL_law_209 : decode cL_law 209 = .ok (.iadd, 1) := by decide +kernel
theorem dL_law_210 : decode cL_law 210 = .ok (.iaload, 1) := by decide +kernel
theorem dL_law_211 : decode cL_law 211 = .ok (.aload_n 0, 1) := by decide +kernel
theorem dL_law_212 : decode cL_law 212 = .ok (.iload 4, 2) := by decide +kernel
theorem dL_law_214 : decode cL_law 214 = .ok (.iconst 2, 1) := by decide +kernel
theorem dL_law_215 : decode cL_law 215 = .ok (.iadd, 1) := by decide +kernel
theorem dL_law_216 : decode cL_law 216 = .ok (.iaload, 1) := by decide +kernel
theorem dL_law_217 : decode cL_law 217 = .ok (.aload_n 0, 1) := by decide +kernel
theorem dL_law_218 : decode cL_law 218 = .ok (.iload 4, 2) := by decide +kernel
theorem dL_law_220 : decode cL_law 220 = .ok (.iconst 3, 1) := by decide +kernel
theorem dL_law_221 : decode cL_law 221 = .ok (.iadd, 1) := by decide +kernel
theorem dL_law_222 : decode cL_law 222 = .ok (.iaload, 1) := by decide +kernel
theorem dL_law_223 : decode cL_law 223 = .ok (.aload_n 0, 1) := by decide +kernel
theorem dL_law_224 : decode cL_law 224 = .ok (.iload 4, 2) := by decide +kernel
theorem dL_law_226 : decode cL_law 226 = .ok (.iconst 4, 1) := by decide +kernel
theorem dL_law_227 : decode cL_law 227 = .ok (.iadd, 1) := by decide +kernel
theorem dL_law_228 : decode cL_law 228 = .ok (.iaload, 1) := by decide +kernel
theorem dL_law_229 : decode cL_law 229 = .ok (.aload_n 0, 1) := by decide +kernel
theorem dL_law_230 : decode cL_law 230 = .ok (.iload 4, 2) := by decide +kernel
theorem dL_law_232 : decode cL_law 232 = .ok (.iconst 5, 1) := by decide +kernel
theorem dL_law_233 : decode cL_law 233 = .ok (.iadd, 1) := by decide +kernel
theorem dL_law_234 : decode cL_law 234 = .ok (.iaload, 1) := by decide +kernel
theorem dL_law_235 : decode cL_law 235 = .ok (.aload_n 3, 1) := by decide +kernel
theorem dL_law_236 : decode cL_law 236 = .ok (.invokestatic 104, 3) := by decide +kernel
theorem dL_law_239 : decode cL_law 239 = .ok (.istore 5, 2) := by decide +kernel
theorem dL_law_241 : decode cL_law 241 = .ok (.aload_n 2, 1) := by decide +kernel
theorem dL_law_242 : decode cL_law 242 = .ok (.aload_n 0, 1) := by decide +kernel
theorem dL_law_243 : decode cL_law 243 = .ok (.iload 4, 2) := by decide +kernel
theorem dL_law_245 : decode cL_law 245 = .ok (.iconst 1, 1) := by decide +kernel
theorem dL_law_246 : decode cL_law 246 = .ok (.iadd, 1) := by decide +kernel
theorem dL_law_247 : decode cL_law 247 = .ok (.iaload, 1) := by decide +kernel
theorem dL_law_248 : decode cL_law 248 = .ok (.aload_n 0, 1) := by decide +kernel
theorem dL_law_249 : decode cL_law 249 = .ok (.iload 4, 2) := by decide +kernel
theorem dL_law_251 : decode cL_law 251 = .ok (.iconst 2, 1) := by decide +kernel
theorem dL_law_252 : decode cL_law 252 = .ok (.iadd, 1) := by decide +kernel
theorem dL_law_253 : decode cL_law 253 = .ok (.iaload, 1) := by decide +kernel
theorem dL_law_254 : decode cL_law 254 = .ok (.aload_n 0, 1) := by decide +kernel
theorem dL_law_255 : decode cL_law 255 = .ok (.iload 4, 2) := by decide +kernel
theorem dL_law_257 : decode cL_law 257 = .ok (.iconst 3, 1) := by decide +kernel
theorem dL_law_258 : decode cL_law 258 = .ok (.iadd, 1) := by decide +kernel
theorem dL_law_259 : decode cL_law 259 = .ok (.iaload, 1) := by decide +kernel
theorem dL_law_260 : decode cL_law 260 = .ok (.aload_n 0, 1) := by decide +kernel
theorem dL_law_261 : decode cL_law 261 = .ok (.iload 4, 2) := by decide +kernel
theorem dL_law_263 : decode cL_law 263 = .ok (.iconst 4, 1) := by decide +kernel
theorem dL_law_264 : decode cL_law 264 = .ok (.iadd, 1) := by decide +kernel
theorem dL_law_265 : decode cL_law 265 = .ok (.iaload, 1) := by decide +kernel
theorem dL_law_266 : decode cL_law 266 = .ok (.aload_n 0, 1) := by decide +kernel
theorem dL_law_267 : decode cL_law 267 = .ok (.iload 4, 2) := by decide +kernel
theorem dL_law_269 : decode cL_law 269 = .ok (.iconst 5, 1) := by decide +kernel
theorem dL_law_270 : decode cL_law 270 = .ok (.iadd, 1) := by decide +kernel
theorem dL_law_271 : decode cL_law 271 = .ok (.iaload, 1) := by decide +kernel
theorem dL_law_272 : decode cL_law 272 = .ok (.invokevirtual 107, 3) := by decide +kernel
theorem dL_law_275 : decode cL_law 275 = .ok (.istore 6, 2) := by decide +kernel
theorem dL_law_277 : decode cL_law 277 = .ok (.aload_n 2, 1) := by decide +kernel
theorem dL_law_278 : decode cL_law 278 = .ok (.invokevirtual 101, 3) := by decide +kernel
theorem dL_law_281 : decode cL_law 281 = .ok (.iload 5, 2) := by decide +kernel
theorem dL_law_283 : decode cL_law 283 = .ok (.if_icmp .eq 5, 3) := by decide +kernel
theorem dL_law_286 : decode cL_law 286 = .ok (.iconst 0, 1) := by decide +kernel
theorem dL_law_287 : decode cL_law 287 = .ok (.ireturn, 1) := by decide +kernel
theorem dL_law_288 : decode cL_law 288 = .ok (.iload 5, 2) := by decide +kernel
theorem dL_law_290 : decode cL_law 290 = .ok (.ifCond .ne 15, 3) := by decide +kernel
theorem dL_law_293 : decode cL_law 293 = .ok (.aload_n 3, 1) := by decide +kernel
theorem dL_law_294 : decode cL_law 294 = .ok (.iconst 0, 1) := by decide +kernel
theorem dL_law_295 : decode cL_law 295 = .ok (.laload, 1) := by decide +kernel
theorem dL_law_296 : decode cL_law 296 = .ok (.iload 6, 2) := by decide +kernel
theorem dL_law_298 : decode cL_law 298 = .ok (.i2l, 1) := by decide +kernel
theorem dL_law_299 : decode cL_law 299 = .ok (.lcmp, 1) := by decide +kernel
theorem dL_law_300 : decode cL_law 300 = .ok (.ifCond .eq 5, 3) := by decide +kernel
theorem dL_law_303 : decode cL_law 303 = .ok (.iconst 0, 1) := by decide +kernel
theorem dL_law_304 : decode cL_law 304 = .ok (.ireturn, 1) := by decide +kernel
theorem dL_law_305 : decode cL_law 305 = .ok (.goto 1319, 3) := by decide +kernel
theorem dL_law_308 : decode cL_law 308 = .ok (.aload_n 1, 1) := by decide +kernel
theorem dL_law_309 : decode cL_law 309 = .ok (.aload_n 0, 1) := by decide +kernel
theorem dL_law_310 : decode cL_law 310 = .ok (.iload 4, 2) := by decide +kernel
theorem dL_law_312 : decode cL_law 312 = .ok (.iconst 1, 1) := by decide +kernel
theorem dL_law_313 : decode cL_law 313 = .ok (.iadd, 1) := by decide +kernel
theorem dL_law_314 : decode cL_law 314 = .ok (.iaload, 1) := by decide +kernel
theorem dL_law_315 : decode cL_law 315 = .ok (.aload_n 0, 1) := by decide +kernel
theorem dL_law_316 : decode cL_law 316 = .ok (.iload 4, 2) := by decide +kernel
theorem dL_law_318 : decode cL_law 318 = .ok (.iconst 2, 1) := by decide +kernel
theorem dL_law_319 : decode cL_law 319 = .ok (.iadd, 1) := by decide +kernel
theorem dL_law_320 : decode cL_law 320 = .ok (.iaload, 1) := by decide +kernel
theorem dL_law_321 : decode cL_law 321 = .ok (.aload_n 3, 1) := by decide +kernel
theorem dL_law_322 : decode cL_law 322 = .ok (.invokestatic 108, 3) := by decide +kernel
theorem dL_law_325 : decode cL_law 325 = .ok (.istore 5, 2) := by decide +kernel
theorem dL_law_327 : decode cL_law 327 = .ok (.aload_n 2, 1) := by decide +kernel
theorem dL_law_328 : decode cL_law 328 = .ok (.aload_n 0, 1) := by decide +kernel
theorem dL_law_329 : decode cL_law 329 = .ok (.iload 4, 2) := by decide +kernel
theorem dL_law_331 : decode cL_law 331 = .ok (.iconst 1, 1) := by decide +kernel
theorem dL_law_332 : decode cL_law 332 = .ok (.iadd, 1) := by decide +kernel
theorem dL_law_333 : decode cL_law 333 = .ok (.iaload, 1) := by decide +kernel
theorem dL_law_334 : decode cL_law 334 = .ok (.aload_n 0, 1) := by decide +kernel
theorem dL_law_335 : decode cL_law 335 = .ok (.iload 4, 2) := by decide +kernel
theorem dL_law_337 : decode cL_law 337 = .ok (.iconst 2, 1) := by decide +kernel
theorem dL_law_338 : decode cL_law 338 = .ok (.iadd, 1) := by decide +kernel
theorem dL_law_339 : decode cL_law 339 = .ok (.iaload, 1) := by decide +kernel
theorem dL_law_340 : decode cL_law 340 = .ok (.invokevirtual 111, 3) := by decide +kernel
theorem dL_law_343 : decode cL_law 343 = .ok (.istore 6, 2) := by decide +kernel
theorem dL_law_345 : decode cL_law 345 = .ok (.aload_n 2, 1) := by decide +kernel
theorem dL_law_346 : decode cL_law 346 = .ok (.invokevirtual 101, 3) := by decide +kernel
theorem dL_law_349 : decode cL_law 349 = .ok (.iload 5, 2) := by decide +kernel
theorem dL_law_351 : decode cL_law 351 = .ok (.if_icmp .eq 5, 3) := by decide +kernel
theorem dL_law_354 : decode cL_law 354 = .ok (.iconst 0, 1) := by decide +kernel
theorem dL_law_355 : decode cL_law 355 = .ok (.ireturn, 1) := by decide +kernel
theorem dL_law_356 : decode cL_law 356 = .ok (.iload 5, 2) := by decide +kernel
theorem dL_law_358 : decode cL_law 358 = .ok (.ifCond .ne 15, 3) := by decide +kernel
theorem dL_law_361 : decode cL_law 361 = .ok (.aload_n 3, 1) := by decide +kernel
theorem dL_law_362 : decode cL_law 362 = .ok (.iconst 0, 1) := by decide +kernel
theorem dL_law_363 : decode cL_law 363 = .ok (.laload, 1) := by decide +kernel
theorem dL_law_364 : decode cL_law 364 = .ok (.iload 6, 2) := by decide +kernel
theorem dL_law_366 : decode cL_law 366 = .ok (.i2l, 1) := by decide +kernel
theorem dL_law_367 : decode cL_law 367 = .ok (.lcmp, 1) := by decide +kernel
theorem dL_law_368 : decode cL_law 368 = .ok (.ifCond .eq 5, 3) := by decide +kernel
theorem dL_law_371 : decode cL_law 371 = .ok (.iconst 0, 1) := by decide +kernel
theorem dL_law_372 : decode cL_law 372 = .ok (.ireturn, 1) := by decide +kernel
theorem dL_law_373 : decode cL_law 373 = .ok (.goto 1251, 3) := by decide +kernel
theorem dL_law_376 : decode cL_law 376 = .ok (.aload_n 1, 1) := by decide +kernel
theorem dL_law_377 : decode cL_law 377 = .ok (.aload_n 0, 1) := by decide +kernel
theorem dL_law_378 : decode cL_law 378 = .ok (.iload 4, 2) := by decide +kernel
theorem dL_law_380 : decode cL_law 380 = .ok (.iconst 1, 1) := by decide +kernel
theorem dL_law_381 : decode cL_law 381 = .ok (.iadd, 1) := by decide +kernel
theorem dL_law_382 : decode cL_law 382 = .ok (.iaload, 1) := by decide +kernel
theorem dL_law_383 : decode cL_law 383 = .ok (.aload_n 0, 1) := by decide +kernel
theorem dL_law_384 : decode cL_law 384 = .ok (.iload 4, 2) := by decide +kernel
theorem dL_law_386 : decode cL_law 386 = .ok (.iconst 2, 1) := by decide +kernel
theorem dL_law_387 : decode cL_law 387 = .ok (.iadd, 1) := by decide +kernel
theorem dL_law_388 : decode cL_law 388 = .ok (.iaload, 1) := by decide +kernel
theorem dL_law_389 : decode cL_law 389 = .ok (.aload_n 3, 1) := by decide +kernel
theorem dL_law_390 : decode cL_law 390 = .ok (.invokestatic 112, 3) := by decide +kernel
theorem dL_law_393 : decode cL_law 393 = .ok (.istore 5, 2) := by decide +kernel
theorem dL_law_395 : decode cL_law 395 = .ok (.aload_n 2, 1) := by decide +kernel
theorem dL_law_396 : decode cL_law 396 = .ok (.aload_n 0, 1) := by decide +kernel
theorem dL_law_397 : decode cL_law 397 = .ok (.iload 4, 2) := by decide +kernel
theorem dL_law_399 : decode cL_law 399 = .ok (.iconst 1, 1) := by decide +kernel
theorem dL_law_400 : decode cL_law 400 = .ok (.iadd, 1) := by decide +kernel
theorem dL_law_401 : decode cL_law 401 = .ok (.iaload, 1) := by decide +kernel
theorem dL_law_402 : decode cL_law 402 = .ok (.aload_n 0, 1) := by decide +kernel
theorem dL_law_403 : decode cL_law 403 = .ok (.iload 4, 2) := by decide +kernel
theorem dL_law_405 : decode cL_law 405 = .ok (.iconst 2, 1) := by decide +kernel
theorem dL_law_406 : decode cL_law 406 = .ok (.iadd, 1) := by decide +kernel
theorem dL_law_407 : decode cL_law 407 = .ok (.iaload, 1) := by decide +kernel
theorem dL_law_408 : decode cL_law 408 = .ok (.invokevirtual 114, 3) := by decide +kernel
theorem dL_law_411 : decode cL_law 411 = .ok (.istore 6, 2) := by decide +kernel
theorem dL_law_413 : decode cL_law 413 = .ok (.aload_n 2, 1) := by decide +kernel
theorem dL_law_414 : decode cL_law 414 = .ok (.invokevirtual 101, 3) := by decide +kernel
theorem dL_law_417 : decode cL_law 417 = .ok (.iload 5, 2) := by decide +kernel
theorem dL_law_419 : decode cL_law 419 = .ok (.if_icmp .eq 5, 3) := by decide +kernel
theorem dL_law_422 : decode cL_law 422 = .ok (.iconst 0, 1) := by decide +kernel
theorem dL_law_423 : decode cL_law 423 = .ok (.ireturn, 1) := by decide +kernel
theorem dL_law_424 : decode cL_law 424 = .ok (.iload 5, 2) := by decide +kernel
theorem dL_law_426 : decode cL_law 426 = .ok (.ifCond .ne 15, 3) := by decide +kernel
theorem dL_law_429 : decode cL_law 429 = .ok (.aload_n 3, 1) := by decide +kernel
theorem dL_law_430 : decode cL_law 430 = .ok (.iconst 0, 1) := by decide +kernel
theorem dL_law_431 : decode cL_law 431 = .ok (.laload, 1) := by decide +kernel
theorem dL_law_432 : decode cL_law 432 = .ok (.iload 6, 2) := by decide +kernel
theorem dL_law_434 : decode cL_law 434 = .ok (.i2l, 1) := by decide +kernel
theorem dL_law_435 : decode cL_law 435 = .ok (.lcmp, 1) := by decide +kernel
theorem dL_law_436 : decode cL_law 436 = .ok (.ifCond .eq 5, 3) := by decide +kernel
theorem dL_law_439 : decode cL_law 439 = .ok (.iconst 0, 1) := by decide +kernel
theorem dL_law_440 : decode cL_law 440 = .ok (.ireturn, 1) := by decide +kernel
theorem dL_law_441 : decode cL_law 441 = .ok (.goto 1183, 3) := by decide +kernel
theorem dL_law_444 : decode cL_law 444 = .ok (.aload_n 1, 1) := by decide +kernel
theorem dL_law_445 : decode cL_law 445 = .ok (.aload_n 0, 1) := by decide +kernel
theorem dL_law_446 : decode cL_law 446 = .ok (.iload 4, 2) := by decide +kernel
theorem dL_law_448 : decode cL_law 448 = .ok (.iconst 1, 1) := by decide +kernel
theorem dL_law_449 : decode cL_law 449 = .ok (.iadd, 1) := by decide +kernel
theorem dL_law_450 : decode cL_law 450 = .ok (.iaload, 1) := by decide +kernel
theorem dL_law_451 : decode cL_law 451 = .ok (.aload_n 0, 1) := by decide +kernel
theorem dL_law_452 : decode cL_law 452 = .ok (.iload 4, 2) := by decide +kernel
theorem dL_law_454 : decode cL_law 454 = .ok (.iconst 2, 1) := by decide +kernel
theorem dL_law_455 : decode cL_law 455 = .ok (.iadd, 1) := by decide +kernel
theorem dL_law_456 : decode cL_law 456 = .ok (.iaload, 1) := by decide +kernel
theorem dL_law_457 : decode cL_law 457 = .ok (.aload_n 0, 1) := by decide +kernel
theorem dL_law_458 : decode cL_law 458 = .ok (.iload 4, 2) := by decide +kernel
theorem dL_law_460 : decode cL_law 460 = .ok (.iconst 3, 1) := by decide +kernel
theorem dL_law_461 : decode cL_law 461 = .ok (.iadd, 1) := by decide +kernel
theorem dL_law_462 : decode cL_law 462 = .ok (.iaload, 1) := by decide +kernel
theorem dL_law_463 : decode cL_law 463 = .ok (.aload_n 3, 1) := by decide +kernel
theorem dL_law_464 : decode cL_law 464 = .ok (.invokestatic 115, 3) := by decide +kernel
theorem dL_law_467 : decode cL_law 467 = .ok (.istore 5, 2) := by decide +kernel
theorem dL_law_469 : decode cL_law 469 = .ok (.aload_n 2, 1) := by decide +kernel
theorem dL_law_470 : decode cL_law 470 = .ok (.aload_n 0, 1) := by decide +kernel
theorem dL_law_471 : decode cL_law 471 = .ok (.iload 4, 2) := by decide +kernel
theorem dL_law_473 : decode cL_law 473 = .ok (.iconst 1, 1) := by decide +kernel
theorem dL_law_474 : decode cL_law 474 = .ok (.iadd, 1) := by decide +kernel
theorem dL_law_475 : decode cL_law 475 = .ok (.iaload, 1) := by decide +kernel
theorem dL_law_476 : decode cL_law 476 = .ok (.aload_n 0, 1) := by decide +kernel
theorem dL_law_477 : decode cL_law 477 = .ok (.iload 4, 2) := by decide +kernel
theorem dL_law_479 : decode cL_law 479 = .ok (.iconst 2, 1) := by decide +kernel
theorem dL_law_480 : decode cL_law 480 = .ok (.iadd, 1) := by decide +kernel
theorem dL_law_481 : decode cL_law 481 = .ok (.iaload, 1) := by decide +kernel
theorem dL_law_482 : decode cL_law 482 = .ok (.aload_n 0, 1) := by decide +kernel
theorem dL_law_483 : decode cL_law 483 = .ok (.iload 4, 2) := by decide +kernel
theorem dL_law_485 : decode cL_law 485 = .ok (.iconst 3, 1) := by decide +kernel
theorem dL_law_486 : decode cL_law 486 = .ok (.iadd, 1) := by decide +kernel
theorem dL_law_487 : decode cL_law 487 = .ok (.iaload, 1) := by decide +kernel
theorem dL_law_488 : decode cL_law 488 = .ok (.invokevirtual 118, 3) := by decide +kernel
theorem dL_law_491 : decode cL_law 491 = .ok (.istore 6, 2) := by decide +kernel
theorem dL_law_493 : decode cL_law 493 = .ok (.aload_n 2, 1) := by decide +kernel
theorem dL_law_494 : decode cL_law 494 = .ok (.invokevirtual 101, 3) := by decide +kernel
theorem dL_law_497 : decode cL_law 497 = .ok (.iload 5, 2) := by decide +kernel
theorem dL_law_499 : decode cL_law 499 = .ok (.if_icmp .eq 5, 3) := by decide +kernel
theorem dL_law_502 : decode cL_law 502 = .ok (.iconst 0, 1) := by decide +kernel
theorem dL_law_503 : decode cL_law 503 = .ok (.ireturn, 1) := by decide +kernel
theorem dL_law_504 : decode cL_law 504 = .ok (.iload 5, 2) := by decide +kernel
theorem dL_law_506 : decode cL_law 506 = .ok (.ifCond .ne 15, 3) := by decide +kernel
theorem dL_law_509 : decode cL_law 509 = .ok (.aload_n 3, 1) := by decide +kernel
theorem dL_law_510 : decode cL_law 510 = .ok (.iconst 0, 1) := by decide +kernel
theorem dL_law_511 : decode cL_law 511 = .ok (.laload, 1) := by decide +kernel
theorem dL_law_512 : decode cL_law 512 = .ok (.iload 6, 2) := by decide +kernel
theorem dL_law_514 : decode cL_law 514 = .ok (.i2l, 1) := by decide +kernel
theorem dL_law_515 : decode cL_law 515 = .ok (.lcmp, 1) := by decide +kernel
theorem dL_law_516 : decode cL_law 516 = .ok (.ifCond .eq 5, 3) := by decide +kernel
theorem dL_law_519 : decode cL_law 519 = .ok (.iconst 0, 1) := by decide +kernel
theorem dL_law_520 : decode cL_law 520 = .ok (.ireturn, 1) := by decide +kernel
theorem dL_law_521 : decode cL_law 521 = .ok (.goto 1103, 3) := by decide +kernel
theorem dL_law_524 : decode cL_law 524 = .ok (.aload_n 1, 1) := by decide +kernel
theorem dL_law_525 : decode cL_law 525 = .ok (.aload_n 0, 1) := by decide +kernel
theorem dL_law_526 : decode cL_law 526 = .ok (.iload 4, 2) := by decide +kernel
theorem dL_law_528 : decode cL_law 528 = .ok (.iconst 1, 1) := by decide +kernel
theorem dL_law_529 : decode cL_law 529 = .ok (.iadd, 1) := by decide +kernel
theorem dL_law_530 : decode cL_law 530 = .ok (.iaload, 1) := by decide +kernel
theorem dL_law_531 : decode cL_law 531 = .ok (.aload_n 3, 1) := by decide +kernel
theorem dL_law_532 : decode cL_law 532 = .ok (.invokestatic 119, 3) := by decide +kernel
theorem dL_law_535 : decode cL_law 535 = .ok (.istore 5, 2) := by decide +kernel
theorem dL_law_537 : decode cL_law 537 = .ok (.aload_n 2, 1) := by decide +kernel
theorem dL_law_538 : decode cL_law 538 = .ok (.aload_n 0, 1) := by decide +kernel
theorem dL_law_539 : decode cL_law 539 = .ok (.iload 4, 2) := by decide +kernel
theorem dL_law_541 : decode cL_law 541 = .ok (.iconst 1, 1) := by decide +kernel
theorem dL_law_542 : decode cL_law 542 = .ok (.iadd, 1) := by decide +kernel
theorem dL_law_543 : decode cL_law 543 = .ok (.iaload, 1) := by decide +kernel
theorem dL_law_544 : decode cL_law 544 = .ok (.invokevirtual 121, 3) := by decide +kernel
theorem dL_law_547 : decode cL_law 547 = .ok (.istore 6, 2) := by decide +kernel
theorem dL_law_549 : decode cL_law 549 = .ok (.aload_n 2, 1) := by decide +kernel
theorem dL_law_550 : decode cL_law 550 = .ok (.invokevirtual 101, 3) := by decide +kernel
theorem dL_law_553 : decode cL_law 553 = .ok (.iload 5, 2) := by decide +kernel
theorem dL_law_555 : decode cL_law 555 = .ok (.if_icmp .eq 5, 3) := by decide +kernel
theorem dL_law_558 : decode cL_law 558 = .ok (.iconst 0, 1) := by decide +kernel
theorem dL_law_559 : decode cL_law 559 = .ok (.ireturn, 1) := by decide +kernel
theorem dL_law_560 : decode cL_law 560 = .ok (.iload 5, 2) := by decide +kernel
theorem dL_law_562 : decode cL_law 562 = .ok (.ifCond .ne 15, 3) := by decide +kernel
theorem dL_law_565 : decode cL_law 565 = .ok (.aload_n 3, 1) := by decide +kernel
theorem dL_law_566 : decode cL_law 566 = .ok (.iconst 0, 1) := by decide +kernel
theorem dL_law_567 : decode cL_law 567 = .ok (.laload, 1) := by decide +kernel
theorem dL_law_568 : decode cL_law 568 = .ok (.iload 6, 2) := by decide +kernel
theorem dL_law_570 : decode cL_law 570 = .ok (.i2l, 1) := by decide +kernel
theorem dL_law_571 : decode cL_law 571 = .ok (.lcmp, 1) := by decide +kernel
theorem dL_law_572 : decode cL_law 572 = .ok (.ifCond .eq 5, 3) := by decide +kernel
theorem dL_law_575 : decode cL_law 575 = .ok (.iconst 0, 1) := by decide +kernel
theorem dL_law_576 : decode cL_law 576 = .ok (.ireturn, 1) := by decide +kernel
theorem dL_law_577 : decode cL_law 577 = .ok (.goto 1047, 3) := by decide +kernel
theorem dL_law_580 : decode cL_law 580 = .ok (.aload_n 1, 1) := by decide +kernel
theorem dL_law_581 : decode cL_law 581 = .ok (.aload_n 0, 1) := by decide +kernel
theorem dL_law_582 : decode cL_law 582 = .ok (.iload 4, 2) := by decide +kernel
theorem dL_law_584 : decode cL_law 584 = .ok (.iconst 1, 1) := by decide +kernel
theorem dL_law_585 : decode cL_law 585 = .ok (.iadd, 1) := by decide +kernel
theorem dL_law_586 : decode cL_law 586 = .ok (.iaload, 1) := by decide +kernel
theorem dL_law_587 : decode cL_law 587 = .ok (.aload_n 0, 1) := by decide +kernel
theorem dL_law_588 : decode cL_law 588 = .ok (.iload 4, 2) := by decide +kernel
theorem dL_law_590 : decode cL_law 590 = .ok (.iconst 2, 1) := by decide +kernel
theorem dL_law_591 : decode cL_law 591 = .ok (.iadd, 1) := by decide +kernel
theorem dL_law_592 : decode cL_law 592 = .ok (.iaload, 1) := by decide +kernel
theorem dL_law_593 : decode cL_law 593 = .ok (.aload_n 3, 1) := by decide +kernel
theorem dL_law_594 : decode cL_law 594 = .ok (.invokestatic 122, 3) := by decide +kernel
theorem dL_law_597 : decode cL_law 597 = .ok (.istore 5, 2) := by decide +kernel
theorem dL_law_599 : decode cL_law 599 = .ok (.aload_n 2, 1) := by decide +kernel
theorem dL_law_600 : decode cL_law 600 = .ok (.aload_n 0, 1) := by decide +kernel
theorem dL_law_601 : decode cL_law 601 = .ok (.iload 4, 2) := by decide +kernel
theorem dL_law_603 : decode cL_law 603 = .ok (.iconst 1, 1) := by decide +kernel
theorem dL_law_604 : decode cL_law 604 = .ok (.iadd, 1) := by decide +kernel
theorem dL_law_605 : decode cL_law 605 = .ok (.iaload, 1) := by decide +kernel
theorem dL_law_606 : decode cL_law 606 = .ok (.aload_n 0, 1) := by decide +kernel
theorem dL_law_607 : decode cL_law 607 = .ok (.iload 4, 2) := by decide +kernel
theorem dL_law_609 : decode cL_law 609 = .ok (.iconst 2, 1) := by decide +kernel
theorem dL_law_610 : decode cL_law 610 = .ok (.iadd, 1) := by decide +kernel
theorem dL_law_611 : decode cL_law 611 = .ok (.iaload, 1) := by decide +kernel
theorem dL_law_612 : decode cL_law 612 = .ok (.invokevirtual 124, 3) := by decide +kernel
theorem dL_law_615 : decode cL_law 615 = .ok (.istore 6, 2) := by decide +kernel
theorem dL_law_617 : decode cL_law 617 = .ok (.aload_n 2, 1) := by decide +kernel
theorem dL_law_618 : decode cL_law 618 = .ok (.invokevirtual 101, 3) := by decide +kernel
theorem dL_law_621 : decode cL_law 621 = .ok (.iload 5, 2) := by decide +kernel
theorem dL_law_623 : decode cL_law 623 = .ok (.if_icmp .eq 5, 3) := by decide +kernel
theorem dL_law_626 : decode cL_law 626 = .ok (.iconst 0, 1) := by decide +kernel
theorem dL_law_627 : decode cL_law 627 = .ok (.ireturn, 1) := by decide +kernel
theorem dL_law_628 : decode cL_law 628 = .ok (.iload 5, 2) := by decide +kernel
theorem dL_law_630 : decode cL_law 630 = .ok (.ifCond .ne 15, 3) := by decide +kernel
theorem dL_law_633 : decode cL_law 633 = .ok (.aload_n 3, 1) := by decide +kernel
theorem dL_law_634 : decode cL_law 634 = .ok (.iconst 0, 1) := by decide +kernel
theorem dL_law_635 : decode cL_law 635 = .ok (.laload, 1) := by decide +kernel
theorem dL_law_636 : decode cL_law 636 = .ok (.iload 6, 2) := by decide +kernel
theorem dL_law_638 : decode cL_law 638 = .ok (.i2l, 1) := by decide +kernel
theorem dL_law_639 : decode cL_law 639 = .ok (.lcmp, 1) := by decide +kernel
theorem dL_law_640 : decode cL_law 640 = .ok (.ifCond .eq 5, 3) := by decide +kernel
theorem dL_law_643 : decode cL_law 643 = .ok (.iconst 0, 1) := by decide +kernel
theorem dL_law_644 : decode cL_law 644 = .ok (.ireturn, 1) := by decide +kernel
theorem dL_law_645 : decode cL_law 645 = .ok (.goto 979, 3) := by decide +kernel
theorem dL_law_648 : decode cL_law 648 = .ok (.aload_n 1, 1) := by decide +kernel
theorem dL_law_649 : decode cL_law 649 = .ok (.aload_n 0, 1) := by decide +kernel
theorem dL_law_650 : decode cL_law 650 = .ok (.iload 4, 2) := by decide +kernel
theorem dL_law_652 : decode cL_law 652 = .ok (.iconst 1, 1) := by decide +kernel
theorem dL_law_653 : decode cL_law 653 = .ok (.iadd, 1) := by decide +kernel
theorem dL_law_654 : decode cL_law 654 = .ok (.iaload, 1) := by decide +kernel
theorem dL_law_655 : decode cL_law 655 = .ok (.aload_n 3, 1) := by decide +kernel
theorem dL_law_656 : decode cL_law 656 = .ok (.invokestatic 125, 3) := by decide +kernel
theorem dL_law_659 : decode cL_law 659 = .ok (.istore 5, 2) := by decide +kernel
theorem dL_law_661 : decode cL_law 661 = .ok (.aload_n 2, 1) := by decide +kernel
theorem dL_law_662 : decode cL_law 662 = .ok (.aload_n 0, 1) := by decide +kernel
theorem dL_law_663 : decode cL_law 663 = .ok (.iload 4, 2) := by decide +kernel
theorem dL_law_665 : decode cL_law 665 = .ok (.iconst 1, 1) := by decide +kernel
theorem dL_law_666 : decode cL_law 666 = .ok (.iadd, 1) := by decide +kernel
theorem dL_law_667 : decode cL_law 667 = .ok (.iaload, 1) := by decide +kernel
theorem dL_law_668 : decode cL_law 668 = .ok (.invokevirtual 127, 3) := by decide +kernel
theorem dL_law_671 : decode cL_law 671 = .ok (.istore 6, 2) := by decide +kernel
theorem dL_law_673 : decode cL_law 673 = .ok (.aload_n 2, 1) := by decide +kernel
theorem dL_law_674 : decode cL_law 674 = .ok (.invokevirtual 101, 3) := by decide +kernel
theorem dL_law_677 : decode cL_law 677 = .ok (.iload 5, 2) := by decide +kernel
theorem dL_law_679 : decode cL_law 679 = .ok (.if_icmp .eq 5, 3) := by decide +kernel
theorem dL_law_682 : decode cL_law 682 = .ok (.iconst 0, 1) := by decide +kernel
theorem dL_law_683 : decode cL_law 683 = .ok (.ireturn, 1) := by decide +kernel
theorem dL_law_684 : decode cL_law 684 = .ok (.iload 5, 2) := by decide +kernel
theorem dL_law_686 : decode cL_law 686 = .ok (.ifCond .ne 15, 3) := by decide +kernel
theorem dL_law_689 : decode cL_law 689 = .ok (.aload_n 3, 1) := by decide +kernel
theorem dL_law_690 : decode cL_law 690 = .ok (.iconst 0, 1) := by decide +kernel
theorem dL_law_691 : decode cL_law 691 = .ok (.laload, 1) := by decide +kernel
theorem dL_law_692 : decode cL_law 692 = .ok (.iload 6, 2) := by decide +kernel
theorem dL_law_694 : decode cL_law 694 = .ok (.i2l, 1) := by decide +kernel
theorem dL_law_695 : decode cL_law 695 = .ok (.lcmp, 1) := by decide +kernel
theorem dL_law_696 : decode cL_law 696 = .ok (.ifCond .eq 5, 3) := by decide +kernel
theorem dL_law_699 : decode cL_law 699 = .ok (.iconst 0, 1) := by decide +kernel
theorem dL_law_700 : decode cL_law 700 = .ok (.ireturn, 1) := by decide +kernel
theorem dL_law_701 : decode cL_law 701 = .ok (.goto 923, 3) := by decide +kernel
theorem dL_law_704 : decode cL_law 704 = .ok (.aload_n 1, 1) := by decide +kernel
theorem dL_law_705 : decode cL_law 705 = .ok (.aload_n 0, 1) := by decide +kernel
theorem dL_law_706 : decode cL_law 706 = .ok (.iload 4, 2) := by decide +kernel
theorem dL_law_708 : decode cL_law 708 = .ok (.iconst 1, 1) := by decide +kernel
theorem dL_law_709 : decode cL_law 709 = .ok (.iadd, 1) := by decide +kernel
theorem dL_law_710 : decode cL_law 710 = .ok (.iaload, 1) := by decide +kernel
theorem dL_law_711 : decode cL_law 711 = .ok (.aload_n 3, 1) := by decide +kernel
theorem dL_law_712 : decode cL_law 712 = .ok (.invokestatic 128, 3) := by decide +kernel
theorem dL_law_715 : decode cL_law 715 = .ok (.istore 5, 2) := by decide +kernel
theorem dL_law_717 : decode cL_law 717 = .ok (.aload_n 2, 1) := by decide +kernel
theorem dL_law_718 : decode cL_law 718 = .ok (.aload_n 0, 1) := by decide +kernel
theorem dL_law_719 : decode cL_law 719 = .ok (.iload 4, 2) := by decide +kernel
theorem dL_law_721 : decode cL_law 721 = .ok (.iconst 1, 1) := by decide +kernel
theorem dL_law_722 : decode cL_law 722 = .ok (.iadd, 1) := by decide +kernel
theorem dL_law_723 : decode cL_law 723 = .ok (.iaload, 1) := by decide +kernel
theorem dL_law_724 : decode cL_law 724 = .ok (.invokevirtual 130, 3) := by decide +kernel
theorem dL_law_727 : decode cL_law 727 = .ok (.istore 6, 2) := by decide +kernel
theorem dL_law_729 : decode cL_law 729 = .ok (.aload_n 2, 1) := by decide +kernel
theorem dL_law_730 : decode cL_law 730 = .ok (.invokevirtual 101, 3) := by decide +kernel
theorem dL_law_733 : decode cL_law 733 = .ok (.iload 5, 2) := by decide +kernel
theorem dL_law_735 : decode cL_law 735 = .ok (.if_icmp .eq 5, 3) := by decide +kernel
theorem dL_law_738 : decode cL_law 738 = .ok (.iconst 0, 1) := by decide +kernel
theorem dL_law_739 : decode cL_law 739 = .ok (.ireturn, 1) := by decide +kernel
theorem dL_law_740 : decode cL_law 740 = .ok (.iload 5, 2) := by decide +kernel
theorem dL_law_742 : decode cL_law 742 = .ok (.ifCond .ne 15, 3) := by decide +kernel
theorem dL_law_745 : decode cL_law 745 = .ok (.aload_n 3, 1) := by decide +kernel
theorem dL_law_746 : decode cL_law 746 = .ok (.iconst 0, 1) := by decide +kernel
theorem dL_law_747 : decode cL_law 747 = .ok (.laload, 1) := by decide +kernel
theorem dL_law_748 : decode cL_law 748 = .ok (.iload 6, 2) := by decide +kernel
theorem dL_law_750 : decode cL_law 750 = .ok (.i2l, 1) := by decide +kernel
theorem dL_law_751 : decode cL_law 751 = .ok (.lcmp, 1) := by decide +kernel
theorem dL_law_752 : decode cL_law 752 = .ok (.ifCond .eq 5, 3) := by decide +kernel
theorem dL_law_755 : decode cL_law 755 = .ok (.iconst 0, 1) := by decide +kernel
theorem dL_law_756 : decode cL_law 756 = .ok (.ireturn, 1) := by decide +kernel
theorem dL_law_757 : decode cL_law 757 = .ok (.goto 867, 3) := by decide +kernel
theorem dL_law_760 : decode cL_law 760 = .ok (.aload_n 1, 1) := by decide +kernel
theorem dL_law_761 : decode cL_law 761 = .ok (.aload_n 0, 1) := by decide +kernel
theorem dL_law_762 : decode cL_law 762 = .ok (.iload 4, 2) := by decide +kernel
theorem dL_law_764 : decode cL_law 764 = .ok (.iconst 1, 1) := by decide +kernel
theorem dL_law_765 : decode cL_law 765 = .ok (.iadd, 1) := by decide +kernel
theorem dL_law_766 : decode cL_law 766 = .ok (.iaload, 1) := by decide +kernel
theorem dL_law_767 : decode cL_law 767 = .ok (.aload_n 3, 1) := by decide +kernel
theorem dL_law_768 : decode cL_law 768 = .ok (.invokestatic 131, 3) := by decide +kernel
theorem dL_law_771 : decode cL_law 771 = .ok (.istore 5, 2) := by decide +kernel
theorem dL_law_773 : decode cL_law 773 = .ok (.aload_n 2, 1) := by decide +kernel
theorem dL_law_774 : decode cL_law 774 = .ok (.aload_n 0, 1) := by decide +kernel
theorem dL_law_775 : decode cL_law 775 = .ok (.iload 4, 2) := by decide +kernel
theorem dL_law_777 : decode cL_law 777 = .ok (.iconst 1, 1) := by decide +kernel
theorem dL_law_778 : decode cL_law 778 = .ok (.iadd, 1) := by decide +kernel
theorem dL_law_779 : decode cL_law 779 = .ok (.iaload, 1) := by decide +kernel
theorem dL_law_780 : decode cL_law 780 = .ok (.invokevirtual 133, 3) := by decide +kernel
theorem dL_law_783 : decode cL_law 783 = .ok (.istore 6, 2) := by decide +kernel
theorem dL_law_785 : decode cL_law 785 = .ok (.aload_n 2, 1) := by decide +kernel
theorem dL_law_786 : decode cL_law 786 = .ok (.invokevirtual 101, 3) := by decide +kernel
theorem dL_law_789 : decode cL_law 789 = .ok (.iload 5, 2) := by decide +kernel
theorem dL_law_791 : decode cL_law 791 = .ok (.if_icmp .eq 5, 3) := by decide +kernel
theorem dL_law_794 : decode cL_law 794 = .ok (.iconst 0, 1) := by decide +kernel
theorem dL_law_795 : decode cL_law 795 = .ok (.ireturn, 1) := by decide +kernel
theorem dL_law_796 : decode cL_law 796 = .ok (.iload 5, 2) := by decide +kernel
theorem dL_law_798 : decode cL_law 798 = .ok (.ifCond .ne 15, 3) := by decide +kernel
theorem dL_law_801 : decode cL_law 801 = .ok (.aload_n 3, 1) := by decide +kernel
theorem dL_law_802 : decode cL_law 802 = .ok (.iconst 0, 1) := by decide +kernel
theorem dL_law_803 : decode cL_law 803 = .ok (.laload, 1) := by decide +kernel
theorem dL_law_804 : decode cL_law 804 = .ok (.iload 6, 2) := by decide +kernel
theorem dL_law_806 : decode cL_law 806 = .ok (.i2l, 1) := by decide +kernel
theorem dL_law_807 : decode cL_law 807 = .ok (.lcmp, 1) := by decide +kernel
theorem dL_law_808 : decode cL_law 808 = .ok (.ifCond .eq 5, 3) := by decide +kernel
theorem dL_law_811 : decode cL_law 811 = .ok (.iconst 0, 1) := by decide +kernel
theorem dL_law_812 : decode cL_law 812 = .ok (.ireturn, 1) := by decide +kernel
theorem dL_law_813 : decode cL_law 813 = .ok (.goto 811, 3) := by decide +kernel
theorem dL_law_816 : decode cL_law 816 = .ok (.aload_n 1, 1) := by decide +kernel
theorem dL_law_817 : decode cL_law 817 = .ok (.aload_n 0, 1) := by decide +kernel
theorem dL_law_818 : decode cL_law 818 = .ok (.iload 4, 2) := by decide +kernel
theorem dL_law_820 : decode cL_law 820 = .ok (.iconst 1, 1) := by decide +kernel
theorem dL_law_821 : decode cL_law 821 = .ok (.iadd, 1) := by decide +kernel
theorem dL_law_822 : decode cL_law 822 = .ok (.iaload, 1) := by decide +kernel
theorem dL_law_823 : decode cL_law 823 = .ok (.aload_n 0, 1) := by decide +kernel
theorem dL_law_824 : decode cL_law 824 = .ok (.iload 4, 2) := by decide +kernel
theorem dL_law_826 : decode cL_law 826 = .ok (.iconst 2, 1) := by decide +kernel
theorem dL_law_827 : decode cL_law 827 = .ok (.iadd, 1) := by decide +kernel
theorem dL_law_828 : decode cL_law 828 = .ok (.iaload, 1) := by decide +kernel
theorem dL_law_829 : decode cL_law 829 = .ok (.ifCond .eq 7, 3) := by decide +kernel
theorem dL_law_832 : decode cL_law 832 = .ok (.iconst 1, 1) := by decide +kernel
theorem dL_law_833 : decode cL_law 833 = .ok (.goto 4, 3) := by decide +kernel
theorem dL_law_836 : decode cL_law 836 = .ok (.iconst 0, 1) := by decide +kernel
theorem dL_law_837 : decode cL_law 837 = .ok (.aload_n 3, 1) := by decide +kernel
theorem dL_law_838 : decode cL_law 838 = .ok (.invokestatic 134, 3) := by decide +kernel
theorem dL_law_841 : decode cL_law 841 = .ok (.istore 5, 2) := by decide +kernel
theorem dL_law_843 : decode cL_law 843 = .ok (.aload_n 2, 1) := by decide +kernel
theorem dL_law_844 : decode cL_law 844 = .ok (.aload_n 0, 1) := by decide +kernel
theorem dL_law_845 : decode cL_law 845 = .ok (.iload 4, 2) := by decide +kernel
theorem dL_law_847 : decode cL_law 847 = .ok (.iconst 1, 1) := by decide +kernel
theorem dL_law_848 : decode cL_law 848 = .ok (.iadd, 1) := by decide +kernel
theorem dL_law_849 : decode cL_law 849 = .ok (.iaload, 1) := by decide +kernel
theorem dL_law_850 : decode cL_law 850 = .ok (.aload_n 0, 1) := by decide +kernel
theorem dL_law_851 : decode cL_law 851 = .ok (.iload 4, 2) := by decide +kernel
theorem dL_law_853 : decode cL_law 853 = .ok (.iconst 2, 1) := by decide +kernel
theorem dL_law_854 : decode cL_law 854 = .ok (.iadd, 1) := by decide +kernel
theorem dL_law_855 : decode cL_law 855 = .ok (.iaload, 1) := by decide +kernel
theorem dL_law_856 : decode cL_law 856 = .ok (.ifCond .eq 7, 3) := by decide +kernel
theorem dL_law_859 : decode cL_law 859 = .ok (.iconst 1, 1) := by decide +kernel
theorem dL_law_860 : decode cL_law 860 = .ok (.goto 4, 3) := by decide +kernel
theorem dL_law_863 : decode cL_law 863 = .ok (.iconst 0, 1) := by decide +kernel
theorem dL_law_864 : decode cL_law 864 = .ok (.invokevirtual 137, 3) := by decide +kernel
theorem dL_law_867 : decode cL_law 867 = .ok (.istore 6, 2) := by decide +kernel
theorem dL_law_869 : decode cL_law 869 = .ok (.aload_n 2, 1) := by decide +kernel
theorem dL_law_870 : decode cL_law 870 = .ok (.invokevirtual 101, 3) := by decide +kernel
theorem dL_law_873 : decode cL_law 873 = .ok (.iload 5, 2) := by decide +kernel
theorem dL_law_875 : decode cL_law 875 = .ok (.if_icmp .eq 5, 3) := by decide +kernel
theorem dL_law_878 : decode cL_law 878 = .ok (.iconst 0, 1) := by decide +kernel
theorem dL_law_879 : decode cL_law 879 = .ok (.ireturn, 1) := by decide +kernel
theorem dL_law_880 : decode cL_law 880 = .ok (.iload 5, 2) := by decide +kernel
theorem dL_law_882 : decode cL_law 882 = .ok (.ifCond .ne 15, 3) := by decide +kernel
theorem dL_law_885 : decode cL_law 885 = .ok (.aload_n 3, 1) := by decide +kernel
theorem dL_law_886 : decode cL_law 886 = .ok (.iconst 0, 1) := by decide +kernel
theorem dL_law_887 : decode cL_law 887 = .ok (.laload, 1) := by decide +kernel
theorem dL_law_888 : decode cL_law 888 = .ok (.iload 6, 2) := by decide +kernel
theorem dL_law_890 : decode cL_law 890 = .ok (.i2l, 1) := by decide +kernel
theorem dL_law_891 : decode cL_law 891 = .ok (.lcmp, 1) := by decide +kernel
theorem dL_law_892 : decode cL_law 892 = .ok (.ifCond .eq 5, 3) := by decide +kernel
theorem dL_law_895 : decode cL_law 895 = .ok (.iconst 0, 1) := by decide +kernel
theorem dL_law_896 : decode cL_law 896 = .ok (.ireturn, 1) := by decide +kernel
theorem dL_law_897 : decode cL_law 897 = .ok (.goto 727, 3) := by decide +kernel
theorem dL_law_900 : decode cL_law 900 = .ok (.aload_n 1, 1) := by decide +kernel
theorem dL_law_901 : decode cL_law 901 = .ok (.aload_n 0, 1) := by decide +kernel
theorem dL_law_902 : decode cL_law 902 = .ok (.iload 4, 2) := by decide +kernel
theorem dL_law_904 : decode cL_law 904 = .ok (.iconst 1, 1) := by decide +kernel
theorem dL_law_905 : decode cL_law 905 = .ok (.iadd, 1) := by decide +kernel
theorem dL_law_906 : decode cL_law 906 = .ok (.iaload, 1) := by decide +kernel
theorem dL_law_907 : decode cL_law 907 = .ok (.aload_n 0, 1) := by decide +kernel
theorem dL_law_908 : decode cL_law 908 = .ok (.iload 4, 2) := by decide +kernel
theorem dL_law_910 : decode cL_law 910 = .ok (.iconst 2, 1) := by decide +kernel
theorem dL_law_911 : decode cL_law 911 = .ok (.iadd, 1) := by decide +kernel
theorem dL_law_912 : decode cL_law 912 = .ok (.iaload, 1) := by decide +kernel
theorem dL_law_913 : decode cL_law 913 = .ok (.invokestatic 138, 3) := by decide +kernel
theorem dL_law_916 : decode cL_law 916 = .ok (.istore 5, 2) := by decide +kernel
theorem dL_law_918 : decode cL_law 918 = .ok (.aload_n 2, 1) := by decide +kernel
theorem dL_law_919 : decode cL_law 919 = .ok (.aload_n 0, 1) := by decide +kernel
theorem dL_law_920 : decode cL_law 920 = .ok (.iload 4, 2) := by decide +kernel
theorem dL_law_922 : decode cL_law 922 = .ok (.iconst 1, 1) := by decide +kernel
theorem dL_law_923 : decode cL_law 923 = .ok (.iadd, 1) := by decide +kernel
theorem dL_law_924 : decode cL_law 924 = .ok (.iaload, 1) := by decide +kernel
theorem dL_law_925 : decode cL_law 925 = .ok (.aload_n 0, 1) := by decide +kernel
theorem dL_law_926 : decode cL_law 926 = .ok (.iload 4, 2) := by decide +kernel
theorem dL_law_928 : decode cL_law 928 = .ok (.iconst 2, 1) := by decide +kernel
theorem dL_law_929 : decode cL_law 929 = .ok (.iadd, 1) := by decide +kernel
theorem dL_law_930 : decode cL_law 930 = .ok (.iaload, 1) := by decide +kernel
theorem dL_law_931 : decode cL_law 931 = .ok (.invokevirtual 141, 3) := by decide +kernel
theorem dL_law_934 : decode cL_law 934 = .ok (.aload_n 2, 1) := by decide +kernel
theorem dL_law_935 : decode cL_law 935 = .ok (.invokevirtual 101, 3) := by decide +kernel
theorem dL_law_938 : decode cL_law 938 = .ok (.iload 5, 2) := by decide +kernel
theorem dL_law_940 : decode cL_law 940 = .ok (.if_icmp .eq 5, 3) := by decide +kernel
theorem dL_law_943 : decode cL_law 943 = .ok (.iconst 0, 1) := by decide +kernel
theorem dL_law_944 : decode cL_law 944 = .ok (.ireturn, 1) := by decide +kernel
theorem dL_law_945 : decode cL_law 945 = .ok (.goto 679, 3) := by decide +kernel
theorem dL_law_948 : decode cL_law 948 = .ok (.aload_n 1, 1) := by decide +kernel
theorem dL_law_949 : decode cL_law 949 = .ok (.aload_n 0, 1) := by decide +kernel
theorem dL_law_950 : decode cL_law 950 = .ok (.iload 4, 2) := by decide +kernel
theorem dL_law_952 : decode cL_law 952 = .ok (.iconst 1, 1) := by decide +kernel
theorem dL_law_953 : decode cL_law 953 = .ok (.iadd, 1) := by decide +kernel
theorem dL_law_954 : decode cL_law 954 = .ok (.iaload, 1) := by decide +kernel
theorem dL_law_955 : decode cL_law 955 = .ok (.aload_n 0, 1) := by decide +kernel
theorem dL_law_956 : decode cL_law 956 = .ok (.iload 4, 2) := by decide +kernel
theorem dL_law_958 : decode cL_law 958 = .ok (.iconst 2, 1) := by decide +kernel
theorem dL_law_959 : decode cL_law 959 = .ok (.iadd, 1) := by decide +kernel
theorem dL_law_960 : decode cL_law 960 = .ok (.iaload, 1) := by decide +kernel
theorem dL_law_961 : decode cL_law 961 = .ok (.aload_n 3, 1) := by decide +kernel
theorem dL_law_962 : decode cL_law 962 = .ok (.invokestatic 142, 3) := by decide +kernel
theorem dL_law_965 : decode cL_law 965 = .ok (.istore 5, 2) := by decide +kernel
theorem dL_law_967 : decode cL_law 967 = .ok (.aload_n 2, 1) := by decide +kernel
theorem dL_law_968 : decode cL_law 968 = .ok (.aload_n 0, 1) := by decide +kernel
theorem dL_law_969 : decode cL_law 969 = .ok (.iload 4, 2) := by decide +kernel
theorem dL_law_971 : decode cL_law 971 = .ok (.iconst 1, 1) := by decide +kernel
theorem dL_law_972 : decode cL_law 972 = .ok (.iadd, 1) := by decide +kernel
theorem dL_law_973 : decode cL_law 973 = .ok (.iaload, 1) := by decide +kernel
theorem dL_law_974 : decode cL_law 974 = .ok (.aload_n 0, 1) := by decide +kernel
theorem dL_law_975 : decode cL_law 975 = .ok (.iload 4, 2) := by decide +kernel
theorem dL_law_977 : decode cL_law 977 = .ok (.iconst 2, 1) := by decide +kernel
theorem dL_law_978 : decode cL_law 978 = .ok (.iadd, 1) := by decide +kernel
theorem dL_law_979 : decode cL_law 979 = .ok (.iaload, 1) := by decide +kernel
theorem dL_law_980 : decode cL_law 980 = .ok (.invokevirtual 144, 3) := by decide +kernel
theorem dL_law_983 : decode cL_law 983 = .ok (.istore 6, 2) := by decide +kernel
theorem dL_law_985 : decode cL_law 985 = .ok (.aload_n 2, 1) := by decide +kernel
theorem dL_law_986 : decode cL_law 986 = .ok (.invokevirtual 101, 3) := by decide +kernel
theorem dL_law_989 : decode cL_law 989 = .ok (.iload 5, 2) := by decide +kernel
theorem dL_law_991 : decode cL_law 991 = .ok (.if_icmp .eq 5, 3) := by decide +kernel
theorem dL_law_994 : decode cL_law 994 = .ok (.iconst 0, 1) := by decide +kernel
theorem dL_law_995 : decode cL_law 995 = .ok (.ireturn, 1) := by decide +kernel
theorem dL_law_996 : decode cL_law 996 = .ok (.iload 5, 2) := by decide +kernel
theorem dL_law_998 : decode cL_law 998 = .ok (.ifCond .ne 15, 3) := by decide +kernel
theorem dL_law_1001 : decode cL_law 1001 = .ok (.aload_n 3, 1) := by decide +kernel
theorem dL_law_1002 : decode cL_law 1002 = .ok (.iconst 0, 1) := by decide +kernel
theorem dL_law_1003 : decode cL_law 1003 = .ok (.laload, 1) := by decide +kernel
theorem dL_law_1004 : decode cL_law 1004 = .ok (.iload 6, 2) := by decide +kernel
theorem dL_law_1006 : decode cL_law 1006 = .ok (.i2l, 1) := by decide +kernel
theorem dL_law_1007 : decode cL_law 1007 = .ok (.lcmp, 1) := by decide +kernel
theorem dL_law_1008 : decode cL_law 1008 = .ok (.ifCond .eq 5, 3) := by decide +kernel
theorem dL_law_1011 : decode cL_law 1011 = .ok (.iconst 0, 1) := by decide +kernel
theorem dL_law_1012 : decode cL_law 1012 = .ok (.ireturn, 1) := by decide +kernel
theorem dL_law_1013 : decode cL_law 1013 = .ok (.goto 611, 3) := by decide +kernel
theorem dL_law_1016 : decode cL_law 1016 = .ok (.aload_n 1, 1) := by decide +kernel
theorem dL_law_1017 : decode cL_law 1017 = .ok (.aload_n 3, 1) := by decide +kernel
theorem dL_law_1018 : decode cL_law 1018 = .ok (.invokestatic 145, 3) := by decide +kernel
theorem dL_law_1021 : decode cL_law 1021 = .ok (.istore 5, 2) := by decide +kernel
theorem dL_law_1023 : decode cL_law 1023 = .ok (.aload_n 2, 1) := by decide +kernel
theorem dL_law_1024 : decode cL_law 1024 = .ok (.invokevirtual 148, 3) := by decide +kernel
theorem dL_law_1027 : decode cL_law 1027 = .ok (.istore 6, 2) := by decide +kernel
theorem dL_law_1029 : decode cL_law 1029 = .ok (.aload_n 2, 1) := by decide +kernel
theorem dL_law_1030 : decode cL_law 1030 = .ok (.invokevirtual 101, 3) := by decide +kernel
theorem dL_law_1033 : decode cL_law 1033 = .ok (.iload 5, 2) := by decide +kernel
theorem dL_law_1035 : decode cL_law 1035 = .ok (.if_icmp .eq 5, 3) := by decide +kernel
theorem dL_law_1038 : decode cL_law 1038 = .ok (.iconst 0, 1) := by decide +kernel
theorem dL_law_1039 : decode cL_law 1039 = .ok (.ireturn, 1) := by decide +kernel
theorem dL_law_1040 : decode cL_law 1040 = .ok (.iload 5, 2) := by decide +kernel
theorem dL_law_1042 : decode cL_law 1042 = .ok (.ifCond .ne 15, 3) := by decide +kernel
theorem dL_law_1045 : decode cL_law 1045 = .ok (.aload_n 3, 1) := by decide +kernel
theorem dL_law_1046 : decode cL_law 1046 = .ok (.iconst 0, 1) := by decide +kernel
theorem dL_law_1047 : decode cL_law 1047 = .ok (.laload, 1) := by decide +kernel
theorem dL_law_1048 : decode cL_law 1048 = .ok (.iload 6, 2) := by decide +kernel
theorem dL_law_1050 : decode cL_law 1050 = .ok (.i2l, 1) := by decide +kernel
theorem dL_law_1051 : decode cL_law 1051 = .ok (.lcmp, 1) := by decide +kernel
theorem dL_law_1052 : decode cL_law 1052 = .ok (.ifCond .eq 5, 3) := by decide +kernel
theorem dL_law_1055 : decode cL_law 1055 = .ok (.iconst 0, 1) := by decide +kernel
theorem dL_law_1056 : decode cL_law 1056 = .ok (.ireturn, 1) := by decide +kernel
theorem dL_law_1057 : decode cL_law 1057 = .ok (.goto 567, 3) := by decide +kernel
theorem dL_law_1060 : decode cL_law 1060 = .ok (.aload_n 1, 1) := by decide +kernel
theorem dL_law_1061 : decode cL_law 1061 = .ok (.aload_n 0, 1) := by decide +kernel
theorem dL_law_1062 : decode cL_law 1062 = .ok (.iload 4, 2) := by decide +kernel
theorem dL_law_1064 : decode cL_law 1064 = .ok (.iconst 1, 1) := by decide +kernel
theorem dL_law_1065 : decode cL_law 1065 = .ok (.iadd, 1) := by decide +kernel
theorem dL_law_1066 : decode cL_law 1066 = .ok (.iaload, 1) := by decide +kernel
theorem dL_law_1067 : decode cL_law 1067 = .ok (.aload_n 3, 1) := by decide +kernel
theorem dL_law_1068 : decode cL_law 1068 = .ok (.invokestatic 149, 3) := by decide +kernel
theorem dL_law_1071 : decode cL_law 1071 = .ok (.istore 5, 2) := by decide +kernel
theorem dL_law_1073 : decode cL_law 1073 = .ok (.aload_n 2, 1) := by decide +kernel
theorem dL_law_1074 : decode cL_law 1074 = .ok (.aload_n 0, 1) := by decide +kernel
theorem dL_law_1075 : decode cL_law 1075 = .ok (.iload 4, 2) := by decide +kernel
theorem dL_law_1077 : decode cL_law 1077 = .ok (.iconst 1, 1) := by decide +kernel
theorem dL_law_1078 : decode cL_law 1078 = .ok (.iadd, 1) := by decide +kernel
theorem dL_law_1079 : decode cL_law 1079 = .ok (.iaload, 1) := by decide +kernel
theorem dL_law_1080 : decode cL_law 1080 = .ok (.invokevirtual 151, 3) := by decide +kernel
theorem dL_law_1083 : decode cL_law 1083 = .ok (.istore 6, 2) := by decide +kernel
theorem dL_law_1085 : decode cL_law 1085 = .ok (.aload_n 2, 1) := by decide +kernel
theorem dL_law_1086 : decode cL_law 1086 = .ok (.invokevirtual 101, 3) := by decide +kernel
theorem dL_law_1089 : decode cL_law 1089 = .ok (.iload 5, 2) := by decide +kernel
theorem dL_law_1091 : decode cL_law 1091 = .ok (.if_icmp .eq 5, 3) := by decide +kernel
theorem dL_law_1094 : decode cL_law 1094 = .ok (.iconst 0, 1) := by decide +kernel
theorem dL_law_1095 : decode cL_law 1095 = .ok (.ireturn, 1) := by decide +kernel
theorem dL_law_1096 : decode cL_law 1096 = .ok (.iload 5, 2) := by decide +kernel
theorem dL_law_1098 : decode cL_law 1098 = .ok (.ifCond .ne 15, 3) := by decide +kernel
theorem dL_law_1101 : decode cL_law 1101 = .ok (.aload_n 3, 1) := by decide +kernel
theorem dL_law_1102 : decode cL_law 1102 = .ok (.iconst 0, 1) := by decide +kernel
theorem dL_law_1103 : decode cL_law 1103 = .ok (.laload, 1) := by decide +kernel
theorem dL_law_1104 : decode cL_law 1104 = .ok (.iload 6, 2) := by decide +kernel
theorem dL_law_1106 : decode cL_law 1106 = .ok (.i2l, 1) := by decide +kernel
theorem dL_law_1107 : decode cL_law 1107 = .ok (.lcmp, 1) := by decide +kernel
theorem dL_law_1108 : decode cL_law 1108 = .ok (.ifCond .eq 5, 3) := by decide +kernel
theorem dL_law_1111 : decode cL_law 1111 = .ok (.iconst 0, 1) := by decide +kernel
theorem dL_law_1112 : decode cL_law 1112 = .ok (.ireturn, 1) := by decide +kernel
theorem dL_law_1113 : decode cL_law 1113 = .ok (.goto 511, 3) := by decide +kernel
theorem dL_law_1116 : decode cL_law 1116 = .ok (.aload_n 1, 1) := by decide +kernel
theorem dL_law_1117 : decode cL_law 1117 = .ok (.aload_n 0, 1) := by decide +kernel
theorem dL_law_1118 : decode cL_law 1118 = .ok (.iload 4, 2) := by decide +kernel
theorem dL_law_1120 : decode cL_law 1120 = .ok (.iconst 1, 1) := by decide +kernel
theorem dL_law_1121 : decode cL_law 1121 = .ok (.iadd, 1) := by decide +kernel
theorem dL_law_1122 : decode cL_law 1122 = .ok (.iaload, 1) := by decide +kernel
theorem dL_law_1123 : decode cL_law 1123 = .ok (.aload_n 3, 1) := by decide +kernel
theorem dL_law_1124 : decode cL_law 1124 = .ok (.invokestatic 152, 3) := by decide +kernel
theorem dL_law_1127 : decode cL_law 1127 = .ok (.istore 5, 2) := by decide +kernel
theorem dL_law_1129 : decode cL_law 1129 = .ok (.aload_n 2, 1) := by decide +kernel
theorem dL_law_1130 : decode cL_law 1130 = .ok (.aload_n 0, 1) := by decide +kernel
theorem dL_law_1131 : decode cL_law 1131 = .ok (.iload 4, 2) := by decide +kernel
theorem dL_law_1133 : decode cL_law 1133 = .ok (.iconst 1, 1) := by decide +kernel
theorem dL_law_1134 : decode cL_law 1134 = .ok (.iadd, 1) := by decide +kernel
theorem dL_law_1135 : decode cL_law 1135 = .ok (.iaload, 1) := by decide +kernel
theorem dL_law_1136 : decode cL_law 1136 = .ok (.invokevirtual 154, 3) := by decide +kernel
theorem dL_law_1139 : decode cL_law 1139 = .ok (.istore 6, 2) := by decide +kernel
theorem dL_law_1141 : decode cL_law 1141 = .ok (.aload_n 2, 1) := by decide +kernel
theorem dL_law_1142 : decode cL_law 1142 = .ok (.invokevirtual 101, 3) := by decide +kernel
theorem dL_law_1145 : decode cL_law 1145 = .ok (.iload 5, 2) := by decide +kernel
theorem dL_law_1147 : decode cL_law 1147 = .ok (.if_icmp .eq 5, 3) := by decide +kernel
theorem dL_law_1150 : decode cL_law 1150 = .ok (.iconst 0, 1) := by decide +kernel
theorem dL_law_1151 : decode cL_law 1151 = .ok (.ireturn, 1) := by decide +kernel
theorem dL_law_1152 : decode cL_law 1152 = .ok (.iload 5, 2) := by decide +kernel
theorem dL_law_1154 : decode cL_law 1154 = .ok (.ifCond .ne 15, 3) := by decide +kernel
theorem dL_law_1157 : decode cL_law 1157 = .ok (.aload_n 3, 1) := by decide +kernel
theorem dL_law_1158 : decode cL_law 1158 = .ok (.iconst 0, 1) := by decide +kernel
theorem dL_law_1159 : decode cL_law 1159 = .ok (.laload, 1) := by decide +kernel
theorem dL_law_1160 : decode cL_law 1160 = .ok (.iload 6, 2) := by decide +kernel
theorem dL_law_1162 : decode cL_law 1162 = .ok (.i2l, 1) := by decide +kernel
theorem dL_law_1163 : decode cL_law 1163 = .ok (.lcmp, 1) := by decide +kernel
theorem dL_law_1164 : decode cL_law 1164 = .ok (.ifCond .eq 5, 3) := by decide +kernel
theorem dL_law_1167 : decode cL_law 1167 = .ok (.iconst 0, 1) := by decide +kernel
theorem dL_law_1168 : decode cL_law 1168 = .ok (.ireturn, 1) := by decide +kernel
theorem dL_law_1169 : decode cL_law 1169 = .ok (.goto 455, 3) := by decide +kernel
theorem dL_law_1172 : decode cL_law 1172 = .ok (.aload_n 1, 1) := by decide +kernel
theorem dL_law_1173 : decode cL_law 1173 = .ok (.aload_n 0, 1) := by decide +kernel
theorem dL_law_1174 : decode cL_law 1174 = .ok (.iload 4, 2) := by decide +kernel
theorem dL_law_1176 : decode cL_law 1176 = .ok (.iconst 1, 1) := by decide +kernel
theorem dL_law_1177 : decode cL_law 1177 = .ok (.iadd, 1) := by decide +kernel
theorem dL_law_1178 : decode cL_law 1178 = .ok (.iaload, 1) := by decide +kernel
theorem dL_law_1179 : decode cL_law 1179 = .ok (.aload_n 3, 1) := by decide +kernel
theorem dL_law_1180 : decode cL_law 1180 = .ok (.invokestatic 155, 3) := by decide +kernel
theorem dL_law_1183 : decode cL_law 1183 = .ok (.istore 5, 2) := by decide +kernel
theorem dL_law_1185 : decode cL_law 1185 = .ok (.aload_n 2, 1) := by decide +kernel
theorem dL_law_1186 : decode cL_law 1186 = .ok (.aload_n 0, 1) := by decide +kernel
theorem dL_law_1187 : decode cL_law 1187 = .ok (.iload 4, 2) := by decide +kernel
theorem dL_law_1189 : decode cL_law 1189 = .ok (.iconst 1, 1) := by decide +kernel
theorem dL_law_1190 : decode cL_law 1190 = .ok (.iadd, 1) := by decide +kernel
theorem dL_law_1191 : decode cL_law 1191 = .ok (.iaload, 1) := by decide +kernel
theorem dL_law_1192 : decode cL_law 1192 = .ok (.invokevirtual 157, 3) := by decide +kernel
theorem dL_law_1195 : decode cL_law 1195 = .ok (.istore 6, 2) := by decide +kernel
theorem dL_law_1197 : decode cL_law 1197 = .ok (.aload_n 2, 1) := by decide +kernel
theorem dL_law_1198 : decode cL_law 1198 = .ok (.invokevirtual 101, 3) := by decide +kernel
theorem dL_law_1201 : decode cL_law 1201 = .ok (.iload 5, 2) := by decide +kernel
theorem dL_law_1203 : decode cL_law 1203 = .ok (.if_icmp .eq 5, 3) := by decide +kernel
theorem dL_law_1206 : decode cL_law 1206 = .ok (.iconst 0, 1) := by decide +kernel
theorem dL_law_1207 : decode cL_law 1207 = .ok (.ireturn, 1) := by decide +kernel
theorem dL_law_1208 : decode cL_law 1208 = .ok (.iload 5, 2) := by decide +kernel
theorem dL_law_1210 : decode cL_law 1210 = .ok (.ifCond .ne 15, 3) := by decide +kernel
theorem dL_law_1213 : decode cL_law 1213 = .ok (.aload_n 3, 1) := by decide +kernel
theorem dL_law_1214 : decode cL_law 1214 = .ok (.iconst 0, 1) := by decide +kernel
theorem dL_law_1215 : decode cL_law 1215 = .ok (.laload, 1) := by decide +kernel
theorem dL_law_1216 : decode cL_law 1216 = .ok (.iload 6, 2) := by decide +kernel
theorem dL_law_1218 : decode cL_law 1218 = .ok (.i2l, 1) := by decide +kernel
theorem dL_law_1219 : decode cL_law 1219 = .ok (.lcmp, 1) := by decide +kernel
theorem dL_law_1220 : decode cL_law 1220 = .ok (.ifCond .eq 5, 3) := by decide +kernel
theorem dL_law_1223 : decode cL_law 1223 = .ok (.iconst 0, 1) := by decide +kernel
theorem dL_law_1224 : decode cL_law 1224 = .ok (.ireturn, 1) := by decide +kernel
theorem dL_law_1225 : decode cL_law 1225 = .ok (.goto 399, 3) := by decide +kernel
theorem dL_law_1228 : decode cL_law 1228 = .ok (.aload_n 1, 1) := by decide +kernel
theorem dL_law_1229 : decode cL_law 1229 = .ok (.aload_n 0, 1) := by decide +kernel
theorem dL_law_1230 : decode cL_law 1230 = .ok (.iload 4, 2) := by decide +kernel
theorem dL_law_1232 : decode cL_law 1232 = .ok (.iconst 1, 1) := by decide +kernel
theorem dL_law_1233 : decode cL_law 1233 = .ok (.iadd, 1) := by decide +kernel
theorem dL_law_1234 : decode cL_law 1234 = .ok (.iaload, 1) := by decide +kernel
theorem dL_law_1235 : decode cL_law 1235 = .ok (.aload_n 0, 1) := by decide +kernel
theorem dL_law_1236 : decode cL_law 1236 = .ok (.iload 4, 2) := by decide +kernel
theorem dL_law_1238 : decode cL_law 1238 = .ok (.iconst 2, 1) := by decide +kernel
theorem dL_law_1239 : decode cL_law 1239 = .ok (.iadd, 1) := by decide +kernel
theorem dL_law_1240 : decode cL_law 1240 = .ok (.iaload, 1) := by decide +kernel
theorem dL_law_1241 : decode cL_law 1241 = .ok (.aload_n 3, 1) := by decide +kernel
theorem dL_law_1242 : decode cL_law 1242 = .ok (.invokestatic 158, 3) := by decide +kernel
theorem dL_law_1245 : decode cL_law 1245 = .ok (.istore 5, 2) := by decide +kernel
theorem dL_law_1247 : decode cL_law 1247 = .ok (.aload_n 2, 1) := by decide +kernel
theorem dL_law_1248 : decode cL_law 1248 = .ok (.aload_n 0, 1) := by decide +kernel
theorem dL_law_1249 : decode cL_law 1249 = .ok (.iload 4, 2) := by decide +kernel
theorem dL_law_1251 : decode cL_law 1251 = .ok (.iconst 1, 1) := by decide +kernel
theorem dL_law_1252 : decode cL_law 1252 = .ok (.iadd, 1) := by decide +kernel
theorem dL_law_1253 : decode cL_law 1253 = .ok (.iaload, 1) := by decide +kernel
theorem dL_law_1254 : decode cL_law 1254 = .ok (.aload_n 0, 1) := by decide +kernel
theorem dL_law_1255 : decode cL_law 1255 = .ok (.iload 4, 2) := by decide +kernel
theorem dL_law_1257 : decode cL_law 1257 = .ok (.iconst 2, 1) := by decide +kernel
theorem dL_law_1258 : decode cL_law 1258 = .ok (.iadd, 1) := by decide +kernel
theorem dL_law_1259 : decode cL_law 1259 = .ok (.iaload, 1) := by decide +kernel
theorem dL_law_1260 : decode cL_law 1260 = .ok (.invokevirtual 160, 3) := by decide +kernel
theorem dL_law_1263 : decode cL_law 1263 = .ok (.istore 6, 2) := by decide +kernel
theorem dL_law_1265 : decode cL_law 1265 = .ok (.aload_n 2, 1) := by decide +kernel
theorem dL_law_1266 : decode cL_law 1266 = .ok (.invokevirtual 101, 3) := by decide +kernel
theorem dL_law_1269 : decode cL_law 1269 = .ok (.iload 5, 2) := by decide +kernel
theorem dL_law_1271 : decode cL_law 1271 = .ok (.if_icmp .eq 5, 3) := by decide +kernel
theorem dL_law_1274 : decode cL_law 1274 = .ok (.iconst 0, 1) := by decide +kernel
theorem dL_law_1275 : decode cL_law 1275 = .ok (.ireturn, 1) := by decide +kernel
theorem dL_law_1276 : decode cL_law 1276 = .ok (.iload 5, 2) := by decide +kernel
theorem dL_law_1278 : decode cL_law 1278 = .ok (.ifCond .ne 15, 3) := by decide +kernel
theorem dL_law_1281 : decode cL_law 1281 = .ok (.aload_n 3, 1) := by decide +kernel
theorem dL_law_1282 : decode cL_law 1282 = .ok (.iconst 0, 1) := by decide +kernel
theorem dL_law_1283 : decode cL_law 1283 = .ok (.laload, 1) := by decide +kernel
theorem dL_law_1284 : decode cL_law 1284 = .ok (.iload 6, 2) := by decide +kernel
theorem dL_law_1286 : decode cL_law 1286 = .ok (.i2l, 1) := by decide +kernel
theorem dL_law_1287 : decode cL_law 1287 = .ok (.lcmp, 1) := by decide +kernel
theorem dL_law_1288 : decode cL_law 1288 = .ok (.ifCond .eq 5, 3) := by decide +kernel
theorem dL_law_1291 : decode cL_law 1291 = .ok (.iconst 0, 1) := by decide +kernel
theorem dL_law_1292 : decode cL_law 1292 = .ok (.ireturn, 1) := by decide +kernel
theorem dL_law_1293 : decode cL_law 1293 = .ok (.goto 331, 3) := by decide +kernel
theorem dL_law_1296 : decode cL_law 1296 = .ok (.aload_n 1, 1) := by decide +kernel
theorem dL_law_1297 : decode cL_law 1297 = .ok (.aload_n 0, 1) := by decide +kernel
theorem dL_law_1298 : decode cL_law 1298 = .ok (.iload 4, 2) := by decide +kernel
theorem dL_law_1300 : decode cL_law 1300 = .ok (.iconst 1, 1) := by decide +kernel
theorem dL_law_1301 : decode cL_law 1301 = .ok (.iadd, 1) := by decide +kernel
theorem dL_law_1302 : decode cL_law 1302 = .ok (.iaload, 1) := by decide +kernel
theorem dL_law_1303 : decode cL_law 1303 = .ok (.aload_n 0, 1) := by decide +kernel
theorem dL_law_1304 : decode cL_law 1304 = .ok (.iload 4, 2) := by decide +kernel
theorem dL_law_1306 : decode cL_law 1306 = .ok (.iconst 2, 1) := by decide +kernel
theorem dL_law_1307 : decode cL_law 1307 = .ok (.iadd, 1) := by decide +kernel
theorem dL_law_1308 : decode cL_law 1308 = .ok (.iaload, 1) := by decide +kernel
theorem dL_law_1309 : decode cL_law 1309 = .ok (.aload_n 3, 1) := by decide +kernel
theorem dL_law_1310 : decode cL_law 1310 = .ok (.invokestatic 161, 3) := by decide +kernel
theorem dL_law_1313 : decode cL_law 1313 = .ok (.istore 5, 2) := by decide +kernel
theorem dL_law_1315 : decode cL_law 1315 = .ok (.aload_n 2, 1) := by decide +kernel
theorem dL_law_1316 : decode cL_law 1316 = .ok (.aload_n 0, 1) := by decide +kernel
theorem dL_law_1317 : decode cL_law 1317 = .ok (.iload 4, 2) := by decide +kernel
theorem dL_law_1319 : decode cL_law 1319 = .ok (.iconst 1, 1) := by decide +kernel
theorem dL_law_1320 : decode cL_law 1320 = .ok (.iadd, 1) := by decide +kernel
theorem dL_law_1321 : decode cL_law 1321 = .ok (.iaload, 1) := by decide +kernel
theorem dL_law_1322 : decode cL_law 1322 = .ok (.aload_n 0, 1) := by decide +kernel
theorem dL_law_1323 : decode cL_law 1323 = .ok (.iload 4, 2) := by decide +kernel
theorem dL_law_1325 : decode cL_law 1325 = .ok (.iconst 2, 1) := by decide +kernel
theorem dL_law_1326 : decode cL_law 1326 = .ok (.iadd, 1) := by decide +kernel
theorem dL_law_1327 : decode cL_law 1327 = .ok (.iaload, 1) := by decide +kernel
theorem dL_law_1328 : decode cL_law 1328 = .ok (.invokevirtual 163, 3) := by decide +kernel
theorem dL_law_1331 : decode cL_law 1331 = .ok (.istore 6, 2) := by decide +kernel
theorem dL_law_1333 : decode cL_law 1333 = .ok (.aload_n 2, 1) := by decide +kernel
theorem dL_law_1334 : decode cL_law 1334 = .ok (.invokevirtual 101, 3) := by decide +kernel
theorem dL_law_1337 : decode cL_law 1337 = .ok (.iload 5, 2) := by decide +kernel
theorem dL_law_1339 : decode cL_law 1339 = .ok (.if_icmp .eq 5, 3) := by decide +kernel
theorem dL_law_1342 : decode cL_law 1342 = .ok (.iconst 0, 1) := by decide +kernel
theorem dL_law_1343 : decode cL_law 1343 = .ok (.ireturn, 1) := by decide +kernel
theorem dL_law_1344 : decode cL_law 1344 = .ok (.iload 5, 2) := by decide +kernel
theorem dL_law_1346 : decode cL_law 1346 = .ok (.ifCond .ne 15, 3) := by decide +kernel
theorem dL_law_1349 : decode cL_law 1349 = .ok (.aload_n 3, 1) := by decide +kernel
theorem dL_law_1350 : decode cL_law 1350 = .ok (.iconst 0, 1) := by decide +kernel
theorem dL_law_1351 : decode cL_law 1351 = .ok (.laload, 1) := by decide +kernel
theorem dL_law_1352 : decode cL_law 1352 = .ok (.iload 6, 2) := by decide +kernel
theorem dL_law_1354 : decode cL_law 1354 = .ok (.i2l, 1) := by decide +kernel
theorem dL_law_1355 : decode cL_law 1355 = .ok (.lcmp, 1) := by decide +kernel
theorem dL_law_1356 : decode cL_law 1356 = .ok (.ifCond .eq 5, 3) := by decide +kernel
theorem dL_law_1359 : decode cL_law 1359 = .ok (.iconst 0, 1) := by decide +kernel
theorem dL_law_1360 : decode cL_law 1360 = .ok (.ireturn, 1) := by decide +kernel
theorem dL_law_1361 : decode cL_law 1361 = .ok (.goto 263, 3) := by decide +kernel
theorem dL_law_1364 : decode cL_law 1364 = .ok (.aload_n 1, 1) := by decide +kernel
theorem dL_law_1365 : decode cL_law 1365 = .ok (.aload_n 0, 1) := by decide +kernel
theorem dL_law_1366 : decode cL_law 1366 = .ok (.iload 4, 2) := by decide +kernel
theorem dL_law_1368 : decode cL_law 1368 = .ok (.iconst 1, 1) := by decide +kernel
theorem dL_law_1369 : decode cL_law 1369 = .ok (.iadd, 1) := by decide +kernel
theorem dL_law_1370 : decode cL_law 1370 = .ok (.iaload, 1) := by decide +kernel
theorem dL_law_1371 : decode cL_law 1371 = .ok (.aload_n 0, 1) := by decide +kernel
theorem dL_law_1372 : decode cL_law 1372 = .ok (.iload 4, 2) := by decide +kernel
theorem dL_law_1374 : decode cL_law 1374 = .ok (.iconst 2, 1) := by decide +kernel
theorem dL_law_1375 : decode cL_law 1375 = .ok (.iadd, 1) := by decide +kernel
theorem dL_law_1376 : decode cL_law 1376 = .ok (.iaload, 1) := by decide +kernel
theorem dL_law_1377 : decode cL_law 1377 = .ok (.aload_n 3, 1) := by decide +kernel
theorem dL_law_1378 : decode cL_law 1378 = .ok (.invokestatic 164, 3) := by decide +kernel
theorem dL_law_1381 : decode cL_law 1381 = .ok (.istore 5, 2) := by decide +kernel
theorem dL_law_1383 : decode cL_law 1383 = .ok (.aload_n 2, 1) := by decide +kernel
theorem dL_law_1384 : decode cL_law 1384 = .ok (.aload_n 0, 1) := by decide +kernel
theorem dL_law_1385 : decode cL_law 1385 = .ok (.iload 4, 2) := by decide +kernel
theorem dL_law_1387 : decode cL_law 1387 = .ok (.iconst 1, 1) := by decide +kernel
theorem dL_law_1388 : decode cL_law 1388 = .ok (.iadd, 1) := by decide +kernel
theorem dL_law_1389 : decode cL_law 1389 = .ok (.iaload, 1) := by decide +kernel
theorem dL_law_1390 : decode cL_law 1390 = .ok (.aload_n 0, 1) := by decide +kernel
theorem dL_law_1391 : decode cL_law 1391 = .ok (.iload 4, 2) := by decide +kernel
theorem dL_law_1393 : decode cL_law 1393 = .ok (.iconst 2, 1) := by decide +kernel
theorem dL_law_1394 : decode cL_law 1394 = .ok (.iadd, 1) := by decide +kernel
theorem dL_law_1395 : decode cL_law 1395 = .ok (.iaload, 1) := by decide +kernel
theorem dL_law_1396 : decode cL_law 1396 = .ok (.invokevirtual 166, 3) := by decide +kernel
theorem dL_law_1399 : decode cL_law 1399 = .ok (.istore 6, 2) := by decide +kernel
theorem dL_law_1401 : decode cL_law 1401 = .ok (.aload_n 2, 1) := by decide +kernel
theorem dL_law_1402 : decode cL_law 1402 = .ok (.invokevirtual 101, 3) := by decide +kernel
theorem dL_law_1405 : decode cL_law 1405 = .ok (.iload 5, 2) := by decide +kernel
theorem dL_law_1407 : decode cL_law 1407 = .ok (.if_icmp .eq 5, 3) := by decide +kernel
theorem dL_law_1410 : decode cL_law 1410 = .ok (.iconst 0, 1) := by decide +kernel
theorem dL_law_1411 : decode cL_law 1411 = .ok (.ireturn, 1) := by decide +kernel
theorem dL_law_1412 : decode cL_law 1412 = .ok (.iload 5, 2) := by decide +kernel
theorem dL_law_1414 : decode cL_law 1414 = .ok (.ifCond .ne 15, 3) := by decide +kernel
theorem dL_law_1417 : decode cL_law 1417 = .ok (.aload_n 3, 1) := by decide +kernel
theorem dL_law_1418 : decode cL_law 1418 = .ok (.iconst 0, 1) := by decide +kernel
theorem dL_law_1419 : decode cL_law 1419 = .ok (.laload, 1) := by decide +kernel
theorem dL_law_1420 : decode cL_law 1420 = .ok (.iload 6, 2) := by decide +kernel
theorem dL_law_1422 : decode cL_law 1422 = .ok (.i2l, 1) := by decide +kernel
theorem dL_law_1423 : decode cL_law 1423 = .ok (.lcmp, 1) := by decide +kernel
theorem dL_law_1424 : decode cL_law 1424 = .ok (.ifCond .eq 5, 3) := by decide +kernel
theorem dL_law_1427 : decode cL_law 1427 = .ok (.iconst 0, 1) := by decide +kernel
theorem dL_law_1428 : decode cL_law 1428 = .ok (.ireturn, 1) := by decide +kernel
theorem dL_law_1429 : decode cL_law 1429 = .ok (.goto 195, 3) := by decide +kernel
theorem dL_law_1432 : decode cL_law 1432 = .ok (.aload_n 1, 1) := by decide +kernel
theorem dL_law_1433 : decode cL_law 1433 = .ok (.aload_n 0, 1) := by decide +kernel
theorem dL_law_1434 : decode cL_law 1434 = .ok (.iload 4, 2) := by decide +kernel
theorem dL_law_1436 : decode cL_law 1436 = .ok (.iconst 1, 1) := by decide +kernel
theorem dL_law_1437 : decode cL_law 1437 = .ok (.iadd, 1) := by decide +kernel
theorem dL_law_1438 : decode cL_law 1438 = .ok (.iaload, 1) := by decide +kernel
theorem dL_law_1439 : decode cL_law 1439 = .ok (.aload_n 0, 1) := by decide +kernel
theorem dL_law_1440 : decode cL_law 1440 = .ok (.iload 4, 2) := by decide +kernel
theorem dL_law_1442 : decode cL_law 1442 = .ok (.iconst 2, 1) := by decide +kernel
theorem dL_law_1443 : decode cL_law 1443 = .ok (.iadd, 1) := by decide +kernel
theorem dL_law_1444 : decode cL_law 1444 = .ok (.iaload, 1) := by decide +kernel
theorem dL_law_1445 : decode cL_law 1445 = .ok (.aload_n 3, 1) := by decide +kernel
theorem dL_law_1446 : decode cL_law 1446 = .ok (.invokestatic 167, 3) := by decide +kernel
theorem dL_law_1449 : decode cL_law 1449 = .ok (.istore 5, 2) := by decide +kernel
theorem dL_law_1451 : decode cL_law 1451 = .ok (.aload_n 2, 1) := by decide +kernel
theorem dL_law_1452 : decode cL_law 1452 = .ok (.aload_n 0, 1) := by decide +kernel
theorem dL_law_1453 : decode cL_law 1453 = .ok (.iload 4, 2) := by decide +kernel
theorem dL_law_1455 : decode cL_law 1455 = .ok (.iconst 1, 1) := by decide +kernel
theorem dL_law_1456 : decode cL_law 1456 = .ok (.iadd, 1) := by decide +kernel
theorem dL_law_1457 : decode cL_law 1457 = .ok (.iaload, 1) := by decide +kernel
theorem dL_law_1458 : decode cL_law 1458 = .ok (.aload_n 0, 1) := by decide +kernel
theorem dL_law_1459 : decode cL_law 1459 = .ok (.iload 4, 2) := by decide +kernel
theorem dL_law_1461 : decode cL_law 1461 = .ok (.iconst 2, 1) := by decide +kernel
theorem dL_law_1462 : decode cL_law 1462 = .ok (.iadd, 1) := by decide +kernel
theorem dL_law_1463 : decode cL_law 1463 = .ok (.iaload, 1) := by decide +kernel
theorem dL_law_1464 : decode cL_law 1464 = .ok (.invokevirtual 169, 3) := by decide +kernel
theorem dL_law_1467 : decode cL_law 1467 = .ok (.istore 6, 2) := by decide +kernel
theorem dL_law_1469 : decode cL_law 1469 = .ok (.aload_n 2, 1) := by decide +kernel
theorem dL_law_1470 : decode cL_law 1470 = .ok (.invokevirtual 101, 3) := by decide +kernel
theorem dL_law_1473 : decode cL_law 1473 = .ok (.iload 5, 2) := by decide +kernel
theorem dL_law_1475 : decode cL_law 1475 = .ok (.if_icmp .eq 5, 3) := by decide +kernel
theorem dL_law_1478 : decode cL_law 1478 = .ok (.iconst 0, 1) := by decide +kernel
theorem dL_law_1479 : decode cL_law 1479 = .ok (.ireturn, 1) := by decide +kernel
theorem dL_law_1480 : decode cL_law 1480 = .ok (.iload 5, 2) := by decide +kernel
theorem dL_law_1482 : decode cL_law 1482 = .ok (.ifCond .ne 15, 3) := by decide +kernel
theorem dL_law_1485 : decode cL_law 1485 = .ok (.aload_n 3, 1) := by decide +kernel
theorem dL_law_1486 : decode cL_law 1486 = .ok (.iconst 0, 1) := by decide +kernel
theorem dL_law_1487 : decode cL_law 1487 = .ok (.laload, 1) := by decide +kernel
theorem dL_law_1488 : decode cL_law 1488 = .ok (.iload 6, 2) := by decide +kernel
theorem dL_law_1490 : decode cL_law 1490 = .ok (.i2l, 1) := by decide +kernel
theorem dL_law_1491 : decode cL_law 1491 = .ok (.lcmp, 1) := by decide +kernel
theorem dL_law_1492 : decode cL_law 1492 = .ok (.ifCond .eq 5, 3) := by decide +kernel
theorem dL_law_1495 : decode cL_law 1495 = .ok (.iconst 0, 1) := by decide +kernel
theorem dL_law_1496 : decode cL_law 1496 = .ok (.ireturn, 1) := by decide +kernel
theorem dL_law_1497 : decode cL_law 1497 = .ok (.goto 127, 3) := by decide +kernel
theorem dL_law_1500 : decode cL_law 1500 = .ok (.aload_n 1, 1) := by decide +kernel
theorem dL_law_1501 : decode cL_law 1501 = .ok (.aload_n 0, 1) := by decide +kernel
theorem dL_law_1502 : decode cL_law 1502 = .ok (.iload 4, 2) := by decide +kernel
theorem dL_law_1504 : decode cL_law 1504 = .ok (.iconst 1, 1) := by decide +kernel
theorem dL_law_1505 : decode cL_law 1505 = .ok (.iadd, 1) := by decide +kernel
theorem dL_law_1506 : decode cL_law 1506 = .ok (.iaload, 1) := by decide +kernel
theorem dL_law_1507 : decode cL_law 1507 = .ok (.aload_n 0, 1) := by decide +kernel
theorem dL_law_1508 : decode cL_law 1508 = .ok (.iload 4, 2) := by decide +kernel
theorem dL_law_1510 : decode cL_law 1510 = .ok (.iconst 2, 1) := by decide +kernel
theorem dL_law_1511 : decode cL_law 1511 = .ok (.iadd, 1) := by decide +kernel
theorem dL_law_1512 : decode cL_law 1512 = .ok (.iaload, 1) := by decide +kernel
theorem dL_law_1513 : decode cL_law 1513 = .ok (.aload_n 3, 1) := by decide +kernel
theorem dL_law_1514 : decode cL_law 1514 = .ok (.invokestatic 170, 3) := by decide +kernel
theorem dL_law_1517 : decode cL_law 1517 = .ok (.istore 5, 2) := by decide +kernel
theorem dL_law_1519 : decode cL_law 1519 = .ok (.aload_n 2, 1) := by decide +kernel
theorem dL_law_1520 : decode cL_law 1520 = .ok (.aload_n 0, 1) := by decide +kernel
theorem dL_law_1521 : decode cL_law 1521 = .ok (.iload 4, 2) := by decide +kernel
theorem dL_law_1523 : decode cL_law 1523 = .ok (.iconst 1, 1) := by decide +kernel
theorem dL_law_1524 : decode cL_law 1524 = .ok (.iadd, 1) := by decide +kernel
theorem dL_law_1525 : decode cL_law 1525 = .ok (.iaload, 1) := by decide +kernel
theorem dL_law_1526 : decode cL_law 1526 = .ok (.aload_n 0, 1) := by decide +kernel
theorem dL_law_1527 : decode cL_law 1527 = .ok (.iload 4, 2) := by decide +kernel
theorem dL_law_1529 : decode cL_law 1529 = .ok (.iconst 2, 1) := by decide +kernel
theorem dL_law_1530 : decode cL_law 1530 = .ok (.iadd, 1) := by decide +kernel
theorem dL_law_1531 : decode cL_law 1531 = .ok (.iaload, 1) := by decide +kernel
theorem dL_law_1532 : decode cL_law 1532 = .ok (.invokevirtual 172, 3) := by decide +kernel
theorem dL_law_1535 : decode cL_law 1535 = .ok (.istore 6, 2) := by decide +kernel
theorem dL_law_1537 : decode cL_law 1537 = .ok (.aload_n 2, 1) := by decide +kernel
theorem dL_law_1538 : decode cL_law 1538 = .ok (.invokevirtual 101, 3) := by decide +kernel
theorem dL_law_1541 : decode cL_law 1541 = .ok (.iload 5, 2) := by decide +kernel
theorem dL_law_1543 : decode cL_law 1543 = .ok (.if_icmp .eq 5, 3) := by decide +kernel
theorem dL_law_1546 : decode cL_law 1546 = .ok (.iconst 0, 1) := by decide +kernel
theorem dL_law_1547 : decode cL_law 1547 = .ok (.ireturn, 1) := by decide +kernel
theorem dL_law_1548 : decode cL_law 1548 = .ok (.iload 5, 2) := by decide +kernel
theorem dL_law_1550 : decode cL_law 1550 = .ok (.ifCond .ne 15, 3) := by decide +kernel
theorem dL_law_1553 : decode cL_law 1553 = .ok (.aload_n 3, 1) := by decide +kernel
theorem dL_law_1554 : decode cL_law 1554 = .ok (.iconst 0, 1) := by decide +kernel
theorem dL_law_1555 : decode cL_law 1555 = .ok (.laload, 1) := by decide +kernel
theorem dL_law_1556 : decode cL_law 1556 = .ok (.iload 6, 2) := by decide +kernel
theorem dL_law_1558 : decode cL_law 1558 = .ok (.i2l, 1) := by decide +kernel
theorem dL_law_1559 : decode cL_law 1559 = .ok (.lcmp, 1) := by decide +kernel
theorem dL_law_1560 : decode cL_law 1560 = .ok (.ifCond .eq 5, 3) := by decide +kernel
theorem dL_law_1563 : decode cL_law 1563 = .ok (.iconst 0, 1) := by decide +kernel
theorem dL_law_1564 : decode cL_law 1564 = .ok (.ireturn, 1) := by decide +kernel
theorem dL_law_1565 : decode cL_law 1565 = .ok (.goto 59, 3) := by decide +kernel
theorem dL_law_1568 : decode cL_law 1568 = .ok (.aload_n 1, 1) := by decide +kernel
theorem dL_law_1569 : decode cL_law 1569 = .ok (.aload_n 0, 1) := by decide +kernel
theorem dL_law_1570 : decode cL_law 1570 = .ok (.iload 4, 2) := by decide +kernel
theorem dL_law_1572 : decode cL_law 1572 = .ok (.iconst 1, 1) := by decide +kernel
theorem dL_law_1573 : decode cL_law 1573 = .ok (.iadd, 1) := by decide +kernel
theorem dL_law_1574 : decode cL_law 1574 = .ok (.iaload, 1) := by decide +kernel
theorem dL_law_1575 : decode cL_law 1575 = .ok (.aload_n 3, 1) := by decide +kernel
theorem dL_law_1576 : decode cL_law 1576 = .ok (.invokestatic 173, 3) := by decide +kernel
theorem dL_law_1579 : decode cL_law 1579 = .ok (.istore 5, 2) := by decide +kernel
theorem dL_law_1581 : decode cL_law 1581 = .ok (.aload_n 2, 1) := by decide +kernel
theorem dL_law_1582 : decode cL_law 1582 = .ok (.aload_n 0, 1) := by decide +kernel
theorem dL_law_1583 : decode cL_law 1583 = .ok (.iload 4, 2) := by decide +kernel
theorem dL_law_1585 : decode cL_law 1585 = .ok (.iconst 1, 1) := by decide +kernel
theorem dL_law_1586 : decode cL_law 1586 = .ok (.iadd, 1) := by decide +kernel
theorem dL_law_1587 : decode cL_law 1587 = .ok (.iaload, 1) := by decide +kernel
theorem dL_law_1588 : decode cL_law 1588 = .ok (.invokevirtual 175, 3) := by decide +kernel
theorem dL_law_1591 : decode cL_law 1591 = .ok (.istore 6, 2) := by decide +kernel
theorem dL_law_1593 : decode cL_law 1593 = .ok (.aload_n 2, 1) := by decide +kernel
theorem dL_law_1594 : decode cL_law 1594 = .ok (.invokevirtual 101, 3) := by decide +kernel
theorem dL_law_1597 : decode cL_law 1597 = .ok (.iload 5, 2) := by decide +kernel
theorem dL_law_1599 : decode cL_law 1599 = .ok (.if_icmp .eq 5, 3) := by decide +kernel
theorem dL_law_1602 : decode cL_law 1602 = .ok (.iconst 0, 1) := by decide +kernel
theorem dL_law_1603 : decode cL_law 1603 = .ok (.ireturn, 1) := by decide +kernel
theorem dL_law_1604 : decode cL_law 1604 = .ok (.iload 5, 2) := by decide +kernel
theorem dL_law_1606 : decode cL_law 1606 = .ok (.ifCond .ne 15, 3) := by decide +kernel
theorem dL_law_1609 : decode cL_law 1609 = .ok (.aload_n 3, 1) := by decide +kernel
theorem dL_law_1610 : decode cL_law 1610 = .ok (.iconst 0, 1) := by decide +kernel
theorem dL_law_1611 : decode cL_law 1611 = .ok (.laload, 1) := by decide +kernel
theorem dL_law_1612 : decode cL_law 1612 = .ok (.iload 6, 2) := by decide +kernel
theorem dL_law_1614 : decode cL_law 1614 = .ok (.i2l, 1) := by decide +kernel
theorem dL_law_1615 : decode cL_law 1615 = .ok (.lcmp, 1) := by decide +kernel
theorem dL_law_1616 : decode cL_law 1616 = .ok (.ifCond .eq 5, 3) := by decide +kernel
theorem dL_law_1619 : decode cL_law 1619 = .ok (.iconst 0, 1) := by decide +kernel
theorem dL_law_1620 : decode cL_law 1620 = .ok (.ireturn, 1) := by decide +kernel
theorem dL_law_1621 : decode cL_law 1621 = .ok (.goto 3, 3) := by decide +kernel
theorem dL_law_1624 : decode cL_law 1624 = .ok (.iinc 4 6, 3) := by decide +kernel
theorem dL_law_1627 : decode cL_law 1627 = .ok (.goto (-1604), 3) := by decide +kernel
theorem dL_law_1630 : decode cL_law 1630 = .ok (.iconst 1, 1) := by decide +kernel
theorem dL_law_1631 : decode cL_law 1631 = .ok (.ireturn, 1) := by decide +kernel
end
section
def NF : List (String × Nat × String × String × String × String) := [("DiamondBook", 222, "DiamondBook$Tender", "rough", "LDiamondBook$Rough;", "DiamondBook"), ("DiamondBook", 360, "DiamondBook$Tender", "reserve", "I", "DiamondBook"), ("DiamondBook$Gem", 54, "DiamondBook$Opinions", "count", "I", "DiamondBook"), ("DiamondBook$Rough", 49, "DiamondBook$Opinions", "count", "I", "DiamondBook"), ("DiamondBook$Gem", 57, "DiamondBook$Opinions", "first", "I", "DiamondBook"), ("DiamondBook$Rough", 52, "DiamondBook$Opinions", "first", "I", "DiamondBook"), ("DiamondBook$Gem", 60, "DiamondBook$Opinions", "second", "I", "DiamondBook"), ("DiamondBook$Rough", 55, "DiamondBook$Opinions", "second", "I", "DiamondBook"), ("DiamondBook$Gem", 22, "DiamondBook$Rough", "number", "I", "DiamondBook"), ("DiamondBook", 166, "DiamondBook$Rough", "lot", "I", "DiamondBook"), ("DiamondBook$Gem", 34, "DiamondBook$Rough", "pit", "I", "DiamondBook"), ("DiamondBook$Gem", 50, "DiamondBook$Rough", "weight", "I", "DiamondBook"), ("DiamondBook$PriceBook", 25, "DiamondBook$Rough", "weight", "I", "DiamondBook"), ("DiamondBook", 262, "DiamondBook$Rough", "weight", "I", "DiamondBook"), ("DiamondBook", 128, "DiamondBook$Rough", "colour", "I", "DiamondBook"), ("DiamondBook$Gem", 30, "DiamondBook$Rough", "clarity", "I", "DiamondBook"), ("DiamondBook", 131, "DiamondBook$Rough", "clarity", "I", "DiamondBook"), ("DiamondBook", 235, "DiamondBook$Rough", "flaws", "I", "DiamondBook"), ("DiamondBook", 112, "DiamondBook$Rough", "sorts", "LDiamondBook$Opinions;", "DiamondBook"), ("DiamondBook", 109, "DiamondBook$Rough", "state", "I", "DiamondBook"), ("DiamondBook$Gem", 40, "DiamondBook$Rough", "owner", "I", "DiamondBook"), ("DiamondBook", 160, "DiamondBook$Rough", "owner", "I", "DiamondBook"), ("DiamondBook", 163, "DiamondBook$Rough", "box", "I", "DiamondBook"), ("DiamondBook", 169, "DiamondBook$Rough", "paid", "I", "DiamondBook"), ("DiamondBook", 281, "DiamondBook$Gem", "rough", "I", "DiamondBook"), ("DiamondBook", 309, "DiamondBook$Gem", "clarity", "I", "DiamondBook"), ("DiamondBook", 299, "DiamondBook$Gem", "origin", "I", "DiamondBook"), ("DiamondBook", 289, "DiamondBook$Gem", "owner", "I", "DiamondBook"), ("DiamondBook", 283, "DiamondBook$Gem", "firstCell", "I", "DiamondBook"), ("DiamondBook", 286, "DiamondBook$Gem", "cells", "I", "DiamondBook"), ("DiamondBook", 304, "DiamondBook$Gem", "looks", "LDiamondBook$Opinions;", "DiamondBook"), ("DiamondBook", 280, "DiamondBook$Gem", "weight", "I", "DiamondBook"), ("DiamondBook", 296, "DiamondBook$Gem", "paperPit", "I", "DiamondBook")]
def NM : List (String × Nat × MethodName × String) := [("DiamondBook", 40, ⟨"DiamondBook$Tender", "<init>", "()V"⟩, "DiamondBook"), ("DiamondBook$Rough", 11, ⟨"DiamondBook$Opinions", "<init>", "()V"⟩, "DiamondBook"), ("DiamondBook$PriceBook", 15, ⟨"DiamondBook", "isIn", "(II)Z"⟩, "DiamondBook"), ("DiamondBook$Tender", 29, ⟨"DiamondBook", "isIn", "(II)Z"⟩, "DiamondBook"), ("DiamondBook$Gem", 11, ⟨"DiamondBook$Opinions", "<init>", "()V"⟩, "DiamondBook")]
def SW : List (Nat × String) := [(329, "there is none of this number"), (80, "there are as many parcels as there can be"), (332, "an argument is out of range"), (92, "there are as many stones as there can be"), (337, "there is no such stone"), (126, "the stone is not here to be sorted by this sorter"), (174, "a stone has no such thing to tell"), (192, "no box is offered to the buyer"), (208, "the stone is not here, or a tender is on"), (214, "no tender is on"), (249, "the stone is in a box, or cut"), (257, "there would be too many polished stones"), (339, "there is no such polished stone"), (302, "a polished stone has no such thing to tell"), (307, "the lab has looked at it, or it has a grade"), (310, "it has a paper, or papers would cover too much"), (325, "there is no such weight of all")]
def DN : List MethodName := [⟨"java/lang/RuntimeException", "<init>", "(Ljava/lang/String;)V"⟩, ⟨"java/lang/Exception", "<init>", "(Ljava/lang/String;)V"⟩, ⟨"java/lang/Throwable", "<init>", "(Ljava/lang/String;)V"⟩]
def XN : List String := ["java/lang/IllegalStateException", "java/lang/IndexOutOfBoundsException", "java/lang/IllegalArgumentException"]
/-! ===== the layer: a world by tags (a list of tags, their addresses, what each holds), the words in one list, a judgement without heaps ===== -/
abbrev Mm : Type := Nat → Nat → Int32
abbrev St : Type := List Nat × (Nat → Nat) × (Nat → va_E)
abbrev Gt : Type := va_G × (Nat → ClassId)
def up (σ : Mm) (r j : Nat) (x : Int32) : Mm := fun r' => if r' = r then upd (σ r) j x else σ r'
def tyG (D : Gt) : List (ClassId × FieldType) := [(D.2 0, .int), (D.2 1, .boolean), (D.2 2, .long), (D.2 3, .object RX3), (D.2 4, .object RX0)]
def wS (S : St) : va_W := S.1.map (fun k => (S.2.1 k, S.2.2 k))
def wA (S : St) (sz : Nat) : Nat → Prop := fun q => (∃ k, k ∈ S.1 ∧ q = S.2.1 k) ∨ sz ≤ q
/-- the words of the tables that stay, whatever has been resolved -/
def UW : List Cond := lw_tbl.filter goodWord
theorem UW_m {w : Cond} {i : Nat} (h : lw_tbl[i]? = some w) (hg : goodWord w = true) : w ∈ UW := List.mem_filter.mpr ⟨List.mem_of_getElem? h, hg⟩
theorem UW_r (ws : List Cond) (ps : List Nat) (hp : ws = ps.filterMap (fun i => lw_tbl[i]?)) (h : ws.all goodWord = true) : ∀ w ∈ ws, w ∈ UW := fun w hw => by
  have h1 := List.all_eq_true.mp h w hw
  rw [hp] at hw
  obtain ⟨i, -, hi⟩ := List.mem_filterMap.mp hw
  exact UW_m hi h1
def uws (y : MethodName) (cc : ByteArray) (n : Nat) (ret : Option FieldType) : List Cond := Cond.code y cc n ret :: UW
theorem UW_ok {w : Cond} (h : w ∈ UW) : (w.onTables && w.keeps) = true ∨ ∃ ty, w = .arrayClass ty := good_of_word (List.mem_filter.mp h).2
theorem uws_in {y : MethodName} {cc : ByteArray} {n : Nat} {ret : Option FieldType} (h : Cond.code y cc n ret ∈ UW) : GoodIn UW (uws y cc n ret) := fun w hw => by
  rcases List.mem_cons.mp hw with e | e
  · subst e
    exact ⟨h, UW_ok h⟩
  · exact ⟨e, UW_ok e⟩
def uwsW (y : MethodName) (cc : ByteArray) (n : Nat) (ret : Option FieldType) (hh : List (Nat × Nat × Nat × Nat)) : List Cond := Cond.codeWith y cc n ret hh :: UW
theorem uwsW_in {y : MethodName} {cc : ByteArray} {n : Nat} {ret : Option FieldType} {hh : List (Nat × Nat × Nat × Nat)} (h : Cond.codeWith y cc n ret hh ∈ UW) : GoodIn UW (uwsW y cc n ret hh) := fun w hw => by
  rcases List.mem_cons.mp hw with e | e
  · subst e
    exact ⟨h, UW_ok h⟩
  · exact ⟨e, UW_ok e⟩
/-- links of private members of nest mates, texts of exceptions: what a start must know of its machine beside the words -/
def EN (s : State) : Prop := ((∀ X ∈ XN, va_Nw (.castable X X) s) ∧ ∀ y ∈ DN, va_Nw (.declares y) s) ∧ (∀ q ∈ NF, va_Nw (.fieldLinkNest q.1 q.2.1 q.2.2.1 q.2.2.2.1 q.2.2.2.2.1 q.2.2.2.2.2) s) ∧ (∀ q ∈ NM, va_Nw (.methodLinkNest q.1 q.2.1 q.2.2.1 q.2.2.2) s) ∧ ∀ q ∈ SW, ∃ sa : Nat, vk_R RX5 q.1 q.2 sa s
theorem EN.same {u U : State} (h : U.vm = u.vm) (he : EN u) : EN U := ⟨⟨fun q hq => va_Nw.same rfl h.symm (he.1.1 q hq), fun q hq => va_Nw.same rfl h.symm (he.1.2 q hq)⟩, fun q hq => va_Nw.same rfl h.symm (he.2.1 q hq), fun q hq => va_Nw.same rfl h.symm (he.2.2.1 q hq), fun q hq => by
  obtain ⟨sa, h1⟩ := he.2.2.2 q hq
  exact ⟨sa, vk_R.same h h1⟩⟩
theorem EN.warm {s U : State} (hW : s.WarmedH U.vm) (he : EN s) : EN U := ⟨⟨fun q hq => va_Nw.warmC hW (he.1.1 q hq), fun q hq => va_Nw.warmD hW (he.1.2 q hq)⟩, fun q hq => va_Nw.warmF hW (he.2.1 q hq), fun q hq => va_Nw.warmM hW (he.2.2.1 q hq), fun q hq => by
  obtain ⟨sa, h1⟩ := he.2.2.2 q hq
  exact ⟨sa, vk_R.warm hW h1⟩⟩
def SZ (A : Nat → Prop) (U : State) (H : Heap) : Prop := vx_Zq Bundle.tN "UNASSIGNED_STACK" Bundle.steD A U H ∧ vx_Zq Bundle.tN "SUPPRESSED_SENTINEL" Bundle.listD A U H
def PreB (D : Gt) (S : St) (sz : Nat) (U : State) : Prop := U.heap.size = sz ∧ va_P D.1 vwCl (wS S) U.heap ∧ va_D (fun _ => True) (wS S) ∧ va_K D.1 vwCl (tyG D) U ∧ EN U ∧ SZ (wA S sz) U U.heap
def PoB (D : Gt) (A : Nat → Prop) (S : St) (t : State) : Prop := va_P D.1 vwCl (wS S) t.heap ∧ va_D A (wS S)
theorem PreB.blind {D : Gt} {S : St} {sz : Nat} {As : List Value} : FrameBlind (va_Pc As (PreB D S sz)) := fun a U g mk q => by
  obtain ⟨q0, q1, qP, qD, qK, qE, qZ⟩ := q
  exact ⟨q0, q1, qP, qD, va_K.moved (u := U) (U := U.calling g mk a) (Vm.Alike.refl U.vm) qK, EN.same (u := U) (U := U.calling g mk a) rfl qE, qZ.1.moved (u := U) (U := U.calling g mk a) (Vm.Alike.refl U.vm), qZ.2.moved (u := U) (U := U.calling g mk a) (Vm.Alike.refl U.vm)⟩
/-- what holds all through a method's body -/
def CX (D : Gt) (A : Nat → Prop) (own : String) (cc : ByteArray) (n : Nat) (ret : Option FieldType) (tb : List ExceptionTableEntry) (p : Program) (s : State) (m : MethodId) (args : Array Value) (meth : Method) (c : Code) : Prop :=
  (p.tables.exec = Jvm.exec ∧ c.code = cc ∧ c.maxLocals = n ∧ s.vm.findClass own = some m.cls ∧ ∀ w ∈ UW, w.before args s = true) ∧ va_K D.1 vwCl (tyG D) s ∧ EN s ∧ SZ A s s.heap ∧ meth.sig.returnType = ret ∧ meth.locks = false ∧ (∀ q : Nat, s.heap.size ≤ q → A q) ∧ c.exceptionTable.toList = tb
/-- locals by their places, none: nothing said -/
def ents : Nat → List (Option Value) → List (Nat × Value)
  | _, [] => []
  | i, none :: L => ents (i + 1) L
  | i, some v :: L => (i, v) :: ents (i + 1) L
theorem mem_ents {k : Nat} {v : Value} : ∀ (L : List (Option Value)) (i : Nat), (k, v) ∈ ents i L ↔ i ≤ k ∧ L[k - i]? = some (some v)
  | [], i => by simp [ents]
  | none :: L, i => by
    rw [ents, mem_ents L (i + 1)]
    constructor
    · rintro ⟨h1, h2⟩
      refine ⟨by omega, ?_⟩
      rw [show k - i = (k - (i + 1)) + 1 by omega, List.getElem?_cons_succ]
      exact h2
    · rintro ⟨h1, h2⟩
      by_cases e : k = i
      · subst e
        rw [Nat.sub_self, List.getElem?_cons_zero] at h2
        cases h2
      · refine ⟨by omega, ?_⟩
        rw [show k - i = (k - (i + 1)) + 1 by omega, List.getElem?_cons_succ] at h2
        exact h2
  | some w :: L, i => by
    rw [ents, List.mem_cons, mem_ents L (i + 1)]
    constructor
    · rintro (h | ⟨h1, h2⟩)
      · cases h
        exact ⟨Nat.le_refl _, by rw [Nat.sub_self]; rfl⟩
      · refine ⟨by omega, ?_⟩
        rw [show k - i = (k - (i + 1)) + 1 by omega, List.getElem?_cons_succ]
        exact h2
    · rintro ⟨h1, h2⟩
      by_cases e : k = i
      · subst e
        rw [Nat.sub_self, List.getElem?_cons_zero] at h2
        cases h2
        exact Or.inl rfl
      · refine Or.inr ⟨by omega, ?_⟩
        rw [show k - i = (k - (i + 1)) + 1 by omega, List.getElem?_cons_succ] at h2
        exact h2
def lL (ls : Array Slot) (n : Nat) (L : List (Option Value)) : Prop := lv_has ls n (ents 0 L) ∧ L.length = n ∧ ∀ (k : Nat) (v : Value), L[k]? = some (some v) → v.category = 1
theorem lL_at {ls : Array Slot} {n : Nat} {L : List (Option Value)} (h : lL ls n L) (k : Nat) {v : Value} (hk : L[k]? = some (some v)) : ls[k]? = some (.val v) := h.1.2.2 (k, v) ((mem_ents L 0).mpr ⟨Nat.zero_le _, hk⟩)
theorem lL_lt {ls : Array Slot} {n : Nat} {L : List (Option Value)} (h : lL ls n L) {k : Nat} {x : Option Value} (hk : L[k]? = some x) : k < n := by
  have := (List.getElem?_eq_some_iff.mp hk).1
  rw [h.2.1] at this
  exact this
theorem lL_st {ls ls' : Array Slot} {n : Nat} {L L' : List (Option Value)} {i : Nat} {v : Value} {x : Option Value} (h : lL ls n L) (hx : L[i]? = some x) (hv : v.category = 1) (hL : L.set i (some v) = L') (h' : lv_has ls' n ((i, v) :: (ents 0 L).filter (fun q => !(q.1 == i) && !(q.1 + 1 == i && q.2.category == 2)))) : lL ls' n L' := by
  subst hL
  have hi : i < L.length := (List.getElem?_eq_some_iff.mp hx).1
  have key : ∀ (k : Nat) (w : Value), (L.set i (some v))[k]? = some (some w) → (k = i ∧ w = v) ∨ (k ≠ i ∧ L[k]? = some (some w)) := by
    intro k w hk
    by_cases e : k = i
    · subst e
      rw [List.getElem?_set_self hi] at hk
      cases hk
      exact Or.inl ⟨rfl, rfl⟩
    · rw [List.getElem?_set_ne (Ne.symm e)] at hk
      exact Or.inr ⟨e, hk⟩
  refine ⟨⟨h'.1, h'.2.1, ?_⟩, by rw [List.length_set]; exact h.2.1, ?_⟩
  · rintro ⟨k, w⟩ hq
    obtain ⟨-, hk⟩ := (mem_ents _ 0).mp hq
    rw [Nat.sub_zero] at hk
    apply h'.2.2
    rcases key k w hk with ⟨rfl, rfl⟩ | ⟨e, hk⟩
    · exact List.mem_cons_self
    · refine List.mem_cons_of_mem _ (List.mem_filter.mpr ⟨(mem_ents L 0).mpr ⟨Nat.zero_le _, hk⟩, ?_⟩)
      have hc := h.2.2 k w hk
      simp [e, hc]
  · intro k w hk
    rcases key k w hk with ⟨rfl, rfl⟩ | ⟨e, hk⟩
    · exact hv
    · exact h.2.2 k w hk
theorem ents_args : ∀ (As : List Value) (i r : Nat), (∀ v ∈ As, v.category = 1) → ents i (As.map some ++ List.replicate r none) = lv_args i As
  | [], i, r, _ => by
    show ents i (List.replicate r none) = []
    induction r generalizing i with
    | zero => rfl
    | succ r ih => rw [List.replicate_succ, ents]; exact ih _
  | v :: vs, i, r, h => by
    have hv : v.category = 1 := h v List.mem_cons_self
    show (i, v) :: ents (i + 1) (vs.map some ++ List.replicate r none) = (i, v) :: lv_args (if v.category = 2 then i + 2 else i + 1) vs
    rw [ents_args vs (i + 1) r (fun w hw => h w (List.mem_cons_of_mem _ hw)), if_neg (by omega)]
theorem sl_len : ∀ (As : List Value), (∀ v ∈ As, v.category = 1) → (lg_sl As).length = As.length
  | [], _ => rfl
  | v :: vs, h => by
    have hv : v.category = 1 := h v List.mem_cons_self
    have e : lg_sl (v :: vs) = (if v.category = 2 then [Slot.val v, .second] else [.val v]) ++ lg_sl vs := rfl
    rw [e, if_neg (by omega), List.length_append, sl_len vs (fun w hw => h w (List.mem_cons_of_mem _ hw))]
    simp; omega
theorem lL_entry {As : List Value} {n : Nat} (h : ∀ v ∈ As, v.category = 1) (hn : As.length ≤ n) : lL ((lg_sl As ++ List.replicate (n - (lg_sl As).length) Slot.unset).toArray) n (As.map some ++ List.replicate (n - As.length) none) := by
  have hs := sl_len As h
  refine ⟨?_, by simp; omega, ?_⟩
  · rw [ents_args As 0 _ h]
    exact lv_entry As (by omega)
  · intro k v hk
    have hm := List.mem_of_getElem? hk
    rcases List.mem_append.mp hm with q | q
    · obtain ⟨w, hw, e⟩ := List.mem_map.mp q
      cases e
      exact h _ hw
    · have := (List.mem_replicate.mp q).2
      cases this
/-- the judgement: from every heap that holds the world, with these locals and this stack, at this place -/
def V (D : Gt) (A : Nat → Prop) (n : Nat) (S : St) (p : Program) (l : Launch) (e : Env) (R : Room) (s : State) (m : MethodId) (args : Array Value) (below : List Frame) (meth : Method) (c : Code) (cells slots : Nat) (Q : State → Prop) (pc : Nat) (L : List (Option Value)) (st : List Value) : Prop :=
  ∀ (H : Heap) (locs : List Loc) (ls : Array Slot), va_P D.1 vwCl (wS S) H → va_D A (wS S) → va_S A s.heap H locs → lL ls n L → W p l e R s m args below meth c H locs cells slots Q (F0 m pc ls st)
/-- contracts: an int (or boolean), nothing, a reference or null; each may throw what ex says, with the world as it was -/
def XCs (D : Gt) (S : St) (A : Nat → Prop) (ex : String → Prop) : String → State → State → Prop := vx_X (fun _ : Unit => True) (fun E _ t => ex E ∧ PoB D A S t) A
def KI (D : Gt) (l : Launch) (y : MethodName) (ws : List Cond) (rm : Room) (As : List Value) (S : St) (post : Int32 → St → Prop) (ex : String → Prop) (mc ms : Nat) : Prop := ∀ sz : Nat, vx_Met l y ws rm (va_Pc As (PreB D S sz)) (va_Qi post (PoB D (wA S sz)) (wA S sz)) (XCs D S (wA S sz) ex) mc ms (wA S sz)
def KV (D : Gt) (l : Launch) (y : MethodName) (ws : List Cond) (rm : Room) (As : List Value) (S : St) (post : St → Prop) (ex : String → Prop) (mc ms : Nat) : Prop := ∀ sz : Nat, vx_Met l y ws rm (va_Pc As (PreB D S sz)) (va_Qv post (PoB D (wA S sz)) (wA S sz)) (XCs D S (wA S sz) ex) mc ms (wA S sz)
def KQ (D : Gt) (l : Launch) (y : MethodName) (ws : List Cond) (rm : Room) (As : List Value) (S : St) (post : Option Nat → St → Prop) (ex : String → Prop) (mc ms : Nat) : Prop := ∀ sz : Nat, vx_Met l y ws rm (va_Pc As (PreB D S sz)) (va_Qq post (PoB D (wA S sz)) (wA S sz)) (XCs D S (wA S sz) ex) mc ms (wA S sz)
theorem K_of {D : Gt} {l : Launch} {y : MethodName} {cc : ByteArray} {n : Nat} {ret : Option FieldType} {rm : Room} {As : List Value} {S : St} {XC : String → State → State → Prop} {mc ms : Nat} {sz : Nat} {Qc : Array Value → State → Outcome → State → Prop} (hy : plainName y.cls = true) (hc : ∀ v ∈ As, v.category = 1) (hn : As.length ≤ n)
    (body : ∀ (p : Program) (e : Env) (s : State) (m : MethodId) (below : List Frame) (meth : Method) (c : Code), sz = s.heap.size → CX D (wA S sz) y.cls cc n ret [] p s m As.toArray meth c → V D (wA S sz) n S p l e rm s m As.toArray below meth c 0 0 (vx_MQ below Qc XC As.toArray s mc ms (wA S sz)) 0 (As.map some ++ List.replicate (n - As.length) none) []) :
    vx_Met l y (uws y cc n ret) rm (va_Pc As (PreB D S sz)) Qc XC mc ms (wA S sz) := by
  refine vx_ofW (cc := cc) (maxL := n) (ret := ret) hy rfl ?_
  intro p e s m args below meth c s₁ B hml htab hv
  obtain ⟨rfl, hsz, hP, hD, hK, hE, hZ⟩ := hv
  have hts := atoms_spec (ws := uws y cc n ret) B.pre
  have htb : c.exceptionTable.toList = [] := List.eq_nil_iff_forall_not_mem.mpr (fun x hx => htab x hx)
  have C : CX D (wA S sz) y.cls cc n ret [] p s m As.toArray meth c := ⟨⟨B.exec, B.bytes, hml, findClass_of_methodNamed B.named, fun w hw => hts w (List.mem_cons_of_mem _ hw)⟩, hK, hE, hZ, B.returns, B.notSynchronized, fun q hq => Or.inr (by rw [← hsz]; exact hq), htb⟩
  have hV := body p e s m below meth c hsz.symm C
  rw [lg_entry_eq]
  refine hV s.heap [] _ hP (hD.weaken (fun k q hk _ => ?_)) va_S.rf (lL_entry hc hn)
  obtain ⟨t, ht, e⟩ := List.mem_map.mp (List.mem_of_getElem? hk)
  exact Or.inl ⟨t, ht, by rw [← e]⟩
/-- a callee's world within the caller's -/
theorem wA_sub {A : Nat → Prop} {S : St} {H0 H : Heap} {locs : List Loc} (hA : ∀ q : Nat, H0.size ≤ q → A q) (hD : va_D A (wS S)) (hS : va_S A H0 H locs) : ∀ q, wA S H.size q → A q := by
  rintro q (⟨k, hk, rfl⟩ | h)
  · obtain ⟨i, hi⟩ := List.getElem?_of_mem (List.mem_map.mpr ⟨k, hk, rfl⟩ : (S.2.1 k, S.2.2 k) ∈ wS S)
    exact hD.2 i _ hi
  · exact hA q (Nat.le_trans hS.1 h)
theorem SZ.go {A B : Nat → Prop} {s U : State} {H : Heap} {locs : List Loc} (hZ : SZ A s s.heap) (hS : va_S A s.heap H locs) (hAB : ∀ q, B q → A q) (hvm : s.vm.Alike U.vm) : SZ B U H :=
  ⟨((hZ.1.kept (fun a h1 h2 => hS.2.1 a h1 h2)).moved hvm).narrow hAB, ((hZ.2.kept (fun a h1 h2 => hS.2.1 a h1 h2)).moved hvm).narrow hAB⟩
section LROWS
variable {D : Gt} {A : Nat → Prop} {own : String} {cc : ByteArray} {n : Nat} {ret : Option FieldType} {tb : List ExceptionTableEntry} {p : Program} {l : Launch} {e : Env} {R : Room} {s : State} {m : MethodId} {args : Array Value} {below : List Frame} {meth : Method} {c : Code} {cells slots : Nat} {Q : State → Prop} {S : St} {pc : Nat} {L : List (Option Value)} {st : List Value}
theorem pre_of (C : CX D A own cc n ret tb p s m args meth c) {H : Heap} {locs : List Loc} {As : List Value} (hP : va_P D.1 vwCl (wS S) H) (hD : va_D A (wS S)) (hS : va_S A s.heap H locs) : PreS s H (va_Pc As (PreB D S H.size)) As := by
  refine ⟨PreB.blind, fun U hU hW => ⟨rfl, by rw [hU], by rw [hU]; exact hP, hD.weaken (fun _ _ _ _ => trivial), va_K.moved hW.alike C.2.1, EN.warm hW C.2.2.1, ?_⟩⟩
  rw [hU]
  exact C.2.2.2.1.go hS (wA_sub C.2.2.2.2.2.2.1 hD hS) hW.alike
theorem preV_of (C : CX D A own cc n ret tb p s m args meth c) {H : Heap} {locs : List Loc} {As : List Value} {t ci : Nat} {r : vw_C} {fs : List Value} (hP : va_P D.1 vwCl (wS S) H) (hD : va_D A (wS S)) (hS : va_S A s.heap H locs) (ht : t ∈ S.1) (ho : S.2.2 t = .inr (ci, fs)) (hc : vwCl[ci]? = some r) : PreV s H r.1 (S.2.1 t) (va_Pc (.ref (S.2.1 t) :: As) (PreB D S H.size)) As := by
  obtain ⟨h1, h2⟩ := pre_of (As := .ref (S.2.1 t) :: As) C hP hD hS
  obtain ⟨i, hi⟩ := List.getElem?_of_mem (List.mem_map.mpr ⟨t, ht, rfl⟩ : (S.2.1 t, S.2.2 t) ∈ wS S)
  rw [ho] at hi
  exact ⟨h1, va_recv C.2.1 hP hc hi, h2⟩
/-- where a callee has thrown, and the caller lets it through, its own world being as at its start -/
theorem thrown_on (C : CX D A own cc n ret [] p s m args meth c) {Qc : Array Value → State → Outcome → State → Prop} {ex exc : String → Prop} {mc ms : Nat} {S0 : St} (he : ∀ E, ex E → exc E) (hS0 : S = S0) {E : String} {ce : Cell} {q9 : Addr} {H1 : Heap} {locs1 : List Loc} {ls : Array Slot} {rest : List Value} (hx : ex E) (hP : va_P D.1 vwCl (wS S) H1) (hD : va_D A (wS S)) (hS : va_S A s.heap H1 locs1) (h1 : H1[q9]? = some ce) (h2 : ce.vm = .none) (h3 : s.vm.findClass E = some ce.cls) (hc : cells ≤ mc) (hs : slots ≤ ms) :
    vx_W p l e R s m args below meth c H1 locs1 cells slots (vx_MQ below Qc (XCs D S0 A exc) args s mc ms A) (F0 m pc ls rest) q9 := by
  subst hS0
  have htb : c.exceptionTable.toList = [] := C.2.2.2.2.2.2.2
  refine vx_outP C.1.2.2.2.1 C.2.2.2.2.2.1 (fun z hz => by rw [htb] at hz; cases hz) h1 h2 h3 (fun t ht _ => ⟨(), trivial, ⟨he _ hx, by rw [PoB, ht]; exact ⟨hP, hD⟩⟩, hS.F ht⟩) hS.2.2 hc hs
theorem inU0 : ∀ w ∈ wsX00, w ∈ UW := UW_r _ [679, 681, 683, 685, 687, 689, 691, 693, 695] (by decide +kernel) (by decide +kernel)
theorem inU1 : ∀ w ∈ wsX10, w ∈ UW := UW_r _ [304, 306, 308, 310, 312] (by decide +kernel) (by decide +kernel)
theorem inU2 : ∀ w ∈ wsX20, w ∈ UW := UW_r _ [72] (by decide +kernel) (by decide +kernel)
theorem inU3 : ∀ w ∈ wsX30, w ∈ UW := UW_r _ [342, 344, 346, 348, 350, 352, 354, 356, 358, 360, 362, 364] (by decide +kernel) (by decide +kernel)
theorem inU4 : ∀ w ∈ wsX40, w ∈ UW := UW_r _ [87, 89, 91] (by decide +kernel) (by decide +kernel)
theorem inU5 : ∀ w ∈ wsX50, w ∈ UW := UW_r _ [116, 118, 120, 122, 124, 126, 128, 130, 132, 134, 136, 138, 140, 142, 144, 146, 148] (by decide +kernel) (by decide +kernel)
theorem inU6 : ∀ w ∈ wsX60, w ∈ UW := UW_r _ [824, 826, 828, 830, 832, 834, 836, 838, 840, 842, 844, 846, 848, 850, 852, 854, 856, 858, 860, 862, 864, 866, 868, 870, 872, 874, 876, 878, 880, 882, 884, 886, 888, 890, 892, 894, 896, 898, 900] (by decide +kernel) (by decide +kernel)
theorem xw_ISE : ∀ w ∈ (vx_atS RX5 82 "java/lang/IllegalStateException" ["java/lang/RuntimeException", "java/lang/Exception"]), (w ∈ lw_tbl ∧ goodWord w = true) ∨ w ∈ XN.map (fun X => Cond.castable X X) ∨ w ∈ DN.map Cond.declares := by decide +kernel
theorem xg_ISE : ∀ w ∈ (vx_atS RX5 82 "java/lang/IllegalStateException" ["java/lang/RuntimeException", "java/lang/Exception"]), vx_ot w = true := by decide +kernel
theorem xw_IOB : ∀ w ∈ (vx_atS RX5 331 "java/lang/IndexOutOfBoundsException" ["java/lang/RuntimeException", "java/lang/Exception"]), (w ∈ lw_tbl ∧ goodWord w = true) ∨ w ∈ XN.map (fun X => Cond.castable X X) ∨ w ∈ DN.map Cond.declares := by decide +kernel
theorem xg_IOB : ∀ w ∈ (vx_atS RX5 331 "java/lang/IndexOutOfBoundsException" ["java/lang/RuntimeException", "java/lang/Exception"]), vx_ot w = true := by decide +kernel
theorem xw_IAE : ∀ w ∈ (vx_atS RX5 176 "java/lang/IllegalArgumentException" ["java/lang/RuntimeException", "java/lang/Exception"]), (w ∈ lw_tbl ∧ goodWord w = true) ∨ w ∈ XN.map (fun X => Cond.castable X X) ∨ w ∈ DN.map Cond.declares := by decide +kernel
theorem xg_IAE : ∀ w ∈ (vx_atS RX5 176 "java/lang/IllegalArgumentException" ["java/lang/RuntimeException", "java/lang/Exception"]), vx_ot w = true := by decide +kernel
theorem r_iconst (C : CX D A own cc n ret tb p s m args meth c) {k : Int} {v : Int32} (d : decode cc pc = .ok (.iconst k, 1)) (hv : Int32.ofInt k = v) (kk : V D A n S p l e R s m args below meth c cells slots Q (pc + 1) L (.int v :: st)) : V D A n S p l e R s m args below meth c cells slots Q pc L st := fun H locs ls hP hD hS hl => lv_iconst C.1.1 C.1.2.1 d hv (kk H locs ls hP hD hS hl)
theorem r_bipush (C : CX D A own cc n ret tb p s m args meth c) {k : Int} {v : Int32} (d : decode cc pc = .ok (.bipush k, 2)) (hv : (Int8.ofInt k).toInt32 = v) (kk : V D A n S p l e R s m args below meth c cells slots Q (pc + 2) L (.int v :: st)) : V D A n S p l e R s m args below meth c cells slots Q pc L st := fun H locs ls hP hD hS hl => lv_bipush C.1.1 C.1.2.1 d hv (kk H locs ls hP hD hS hl)
theorem r_sipush (C : CX D A own cc n ret tb p s m args meth c) {k : Int} {v : Int32} (d : decode cc pc = .ok (.sipush k, 3)) (hv : (Int16.ofInt k).toInt32 = v) (kk : V D A n S p l e R s m args below meth c cells slots Q (pc + 3) L (.int v :: st)) : V D A n S p l e R s m args below meth c cells slots Q pc L st := fun H locs ls hP hD hS hl => lv_sipush C.1.1 C.1.2.1 d hv (kk H locs ls hP hD hS hl)
theorem r_null (C : CX D A own cc n ret tb p s m args meth c) (d : decode cc pc = .ok (.aconst_null, 1)) (kk : V D A n S p l e R s m args below meth c cells slots Q (pc + 1) L (.null :: st)) : V D A n S p l e R s m args below meth c cells slots Q pc L st := fun H locs ls hP hD hS hl => lv_null C.1.1 C.1.2.1 d (kk H locs ls hP hD hS hl)
theorem r_iadd (C : CX D A own cc n ret tb p s m args meth c) {x y : Int32} (d : decode cc pc = .ok (.iadd, 1)) (kk : V D A n S p l e R s m args below meth c cells slots Q (pc + 1) L (.int (x + y) :: st)) : V D A n S p l e R s m args below meth c cells slots Q pc L (.int y :: .int x :: st) := fun H locs ls hP hD hS hl => lv_iadd C.1.1 C.1.2.1 d (kk H locs ls hP hD hS hl)
theorem r_isub (C : CX D A own cc n ret tb p s m args meth c) {x y : Int32} (d : decode cc pc = .ok (.isub, 1)) (kk : V D A n S p l e R s m args below meth c cells slots Q (pc + 1) L (.int (x - y) :: st)) : V D A n S p l e R s m args below meth c cells slots Q pc L (.int y :: .int x :: st) := fun H locs ls hP hD hS hl => lv_isub C.1.1 C.1.2.1 d (kk H locs ls hP hD hS hl)
theorem r_imul (C : CX D A own cc n ret tb p s m args meth c) {x y : Int32} (d : decode cc pc = .ok (.imul, 1)) (kk : V D A n S p l e R s m args below meth c cells slots Q (pc + 1) L (.int (x * y) :: st)) : V D A n S p l e R s m args below meth c cells slots Q pc L (.int y :: .int x :: st) := fun H locs ls hP hD hS hl => lv_imul C.1.1 C.1.2.1 d (kk H locs ls hP hD hS hl)
theorem r_iand (C : CX D A own cc n ret tb p s m args meth c) {x y : Int32} (d : decode cc pc = .ok (.iand, 1)) (kk : V D A n S p l e R s m args below meth c cells slots Q (pc + 1) L (.int (x &&& y) :: st)) : V D A n S p l e R s m args below meth c cells slots Q pc L (.int y :: .int x :: st) := fun H locs ls hP hD hS hl => lv_iand C.1.1 C.1.2.1 d (kk H locs ls hP hD hS hl)
theorem r_ior (C : CX D A own cc n ret tb p s m args meth c) {x y : Int32} (d : decode cc pc = .ok (.ior, 1)) (kk : V D A n S p l e R s m args below meth c cells slots Q (pc + 1) L (.int (x ||| y) :: st)) : V D A n S p l e R s m args below meth c cells slots Q pc L (.int y :: .int x :: st) := fun H locs ls hP hD hS hl => lv_ior C.1.1 C.1.2.1 d (kk H locs ls hP hD hS hl)
theorem r_ishl (C : CX D A own cc n ret tb p s m args meth c) {x y : Int32} (d : decode cc pc = .ok (.ishl, 1)) (kk : V D A n S p l e R s m args below meth c cells slots Q (pc + 1) L (.int (x <<< (y &&& 31)) :: st)) : V D A n S p l e R s m args below meth c cells slots Q pc L (.int y :: .int x :: st) := fun H locs ls hP hD hS hl => lv_ishl C.1.1 C.1.2.1 d (kk H locs ls hP hD hS hl)
theorem r_ishr (C : CX D A own cc n ret tb p s m args meth c) {x y : Int32} (d : decode cc pc = .ok (.ishr, 1)) (kk : V D A n S p l e R s m args below meth c cells slots Q (pc + 1) L (.int (x >>> (y &&& 31)) :: st)) : V D A n S p l e R s m args below meth c cells slots Q pc L (.int y :: .int x :: st) := fun H locs ls hP hD hS hl => lv_ishr C.1.1 C.1.2.1 d (kk H locs ls hP hD hS hl)
theorem r_idiv (C : CX D A own cc n ret tb p s m args meth c) {x y : Int32} (d : decode cc pc = .ok (.idiv, 1)) (hne : ¬ y = 0) (kk : V D A n S p l e R s m args below meth c cells slots Q (pc + 1) L (.int (x / y) :: st)) : V D A n S p l e R s m args below meth c cells slots Q pc L (.int y :: .int x :: st) := fun H locs ls hP hD hS hl => lv_idiv C.1.1 C.1.2.1 d hne (kk H locs ls hP hD hS hl)
theorem r_irem (C : CX D A own cc n ret tb p s m args meth c) {x y : Int32} (d : decode cc pc = .ok (.irem, 1)) (hne : ¬ y = 0) (kk : V D A n S p l e R s m args below meth c cells slots Q (pc + 1) L (.int (x - x / y * y) :: st)) : V D A n S p l e R s m args below meth c cells slots Q pc L (.int y :: .int x :: st) := fun H locs ls hP hD hS hl => lv_irem C.1.1 C.1.2.1 d hne (kk H locs ls hP hD hS hl)
theorem r_ineg (C : CX D A own cc n ret tb p s m args meth c) {x : Int32} (d : decode cc pc = .ok (.ineg, 1)) (kk : V D A n S p l e R s m args below meth c cells slots Q (pc + 1) L (.int (-x) :: st)) : V D A n S p l e R s m args below meth c cells slots Q pc L (.int x :: st) := fun H locs ls hP hD hS hl => lv_ineg C.1.1 C.1.2.1 d (kk H locs ls hP hD hS hl)
theorem r_i2l (C : CX D A own cc n ret tb p s m args meth c) {x : Int32} (d : decode cc pc = .ok (.i2l, 1)) (kk : V D A n S p l e R s m args below meth c cells slots Q (pc + 1) L (.long x.toInt64 :: st)) : V D A n S p l e R s m args below meth c cells slots Q pc L (.int x :: st) := fun H locs ls hP hD hS hl => lv_i2l C.1.1 C.1.2.1 d rfl (kk H locs ls hP hD hS hl)
theorem r_lcmp (C : CX D A own cc n ret tb p s m args meth c) {x y : Int64} (d : decode cc pc = .ok (.lcmp, 1)) (kk : V D A n S p l e R s m args below meth c cells slots Q (pc + 1) L (.int (lg_cmp x y) :: st)) : V D A n S p l e R s m args below meth c cells slots Q pc L (.long y :: .long x :: st) := fun H locs ls hP hD hS hl => W.lcmp C.1.1 C.1.2.1 d (kk H locs ls hP hD hS hl)
theorem r_dup (C : CX D A own cc n ret tb p s m args meth c) {v : Value} (d : decode cc pc = .ok (.dup, 1)) (hv : v.category = 1) (kk : V D A n S p l e R s m args below meth c cells slots Q (pc + 1) L (v :: v :: st)) : V D A n S p l e R s m args below meth c cells slots Q pc L (v :: st) := fun H locs ls hP hD hS hl => lv_dup C.1.1 C.1.2.1 d hv (kk H locs ls hP hD hS hl)
theorem r_pop (C : CX D A own cc n ret tb p s m args meth c) {v : Value} (d : decode cc pc = .ok (.pop, 1)) (hv : v.category = 1) (kk : V D A n S p l e R s m args below meth c cells slots Q (pc + 1) L st) : V D A n S p l e R s m args below meth c cells slots Q pc L (v :: st) := fun H locs ls hP hD hS hl => lv_pop C.1.1 C.1.2.1 d hv (kk H locs ls hP hD hS hl)
theorem r_dup2 (C : CX D A own cc n ret tb p s m args meth c) {v u : Value} (d : decode cc pc = .ok (.dup2, 1)) (hv : v.category = 1) (hu : u.category = 1) (kk : V D A n S p l e R s m args below meth c cells slots Q (pc + 1) L (v :: u :: v :: u :: st)) : V D A n S p l e R s m args below meth c cells slots Q pc L (v :: u :: st) := fun H locs ls hP hD hS hl => lv_dup2_11 C.1.1 C.1.2.1 d hv hu (kk H locs ls hP hD hS hl)
theorem r_if_eq (C : CX D A own cc n ret tb p s m args meth c) {off : Int} {tgt : Nat} {x : Int32} (d : decode cc pc = .ok (.ifCond .eq off, 3)) (ht : (pc : Int) + off = (tgt : Int)) (kt : (x = 0) → V D A n S p l e R s m args below meth c cells slots Q tgt L st) (kf : (¬ x = 0) → V D A n S p l e R s m args below meth c cells slots Q (pc + 3) L st) : V D A n S p l e R s m args below meth c cells slots Q pc L (.int x :: st) := fun H locs ls hP hD hS hl => lv_if_eq C.1.1 C.1.2.1 d ht (fun h => kt h H locs ls hP hD hS hl) (fun h => kf h H locs ls hP hD hS hl)
theorem r_if_lt (C : CX D A own cc n ret tb p s m args meth c) {off : Int} {tgt : Nat} {x : Int32} (d : decode cc pc = .ok (.ifCond .lt off, 3)) (ht : (pc : Int) + off = (tgt : Int)) (kt : (x < 0) → V D A n S p l e R s m args below meth c cells slots Q tgt L st) (kf : (¬ x < 0) → V D A n S p l e R s m args below meth c cells slots Q (pc + 3) L st) : V D A n S p l e R s m args below meth c cells slots Q pc L (.int x :: st) := fun H locs ls hP hD hS hl => lv_if_lt C.1.1 C.1.2.1 d ht (fun h => kt h H locs ls hP hD hS hl) (fun h => kf h H locs ls hP hD hS hl)
theorem r_if_ge (C : CX D A own cc n ret tb p s m args meth c) {off : Int} {tgt : Nat} {x : Int32} (d : decode cc pc = .ok (.ifCond .ge off, 3)) (ht : (pc : Int) + off = (tgt : Int)) (kt : (0 ≤ x) → V D A n S p l e R s m args below meth c cells slots Q tgt L st) (kf : (¬ 0 ≤ x) → V D A n S p l e R s m args below meth c cells slots Q (pc + 3) L st) : V D A n S p l e R s m args below meth c cells slots Q pc L (.int x :: st) := fun H locs ls hP hD hS hl => lv_if_ge C.1.1 C.1.2.1 d ht (fun h => kt h H locs ls hP hD hS hl) (fun h => kf h H locs ls hP hD hS hl)
theorem r_if_gt (C : CX D A own cc n ret tb p s m args meth c) {off : Int} {tgt : Nat} {x : Int32} (d : decode cc pc = .ok (.ifCond .gt off, 3)) (ht : (pc : Int) + off = (tgt : Int)) (kt : (0 < x) → V D A n S p l e R s m args below meth c cells slots Q tgt L st) (kf : (¬ 0 < x) → V D A n S p l e R s m args below meth c cells slots Q (pc + 3) L st) : V D A n S p l e R s m args below meth c cells slots Q pc L (.int x :: st) := fun H locs ls hP hD hS hl => lv_if_gt C.1.1 C.1.2.1 d ht (fun h => kt h H locs ls hP hD hS hl) (fun h => kf h H locs ls hP hD hS hl)
theorem r_if_le (C : CX D A own cc n ret tb p s m args meth c) {off : Int} {tgt : Nat} {x : Int32} (d : decode cc pc = .ok (.ifCond .le off, 3)) (ht : (pc : Int) + off = (tgt : Int)) (kt : (x ≤ 0) → V D A n S p l e R s m args below meth c cells slots Q tgt L st) (kf : (¬ x ≤ 0) → V D A n S p l e R s m args below meth c cells slots Q (pc + 3) L st) : V D A n S p l e R s m args below meth c cells slots Q pc L (.int x :: st) := fun H locs ls hP hD hS hl => lv_if_le C.1.1 C.1.2.1 d ht (fun h => kt h H locs ls hP hD hS hl) (fun h => kf h H locs ls hP hD hS hl)
theorem r_if_ne (C : CX D A own cc n ret tb p s m args meth c) {off : Int} {tgt : Nat} {x : Int32} (d : decode cc pc = .ok (.ifCond .ne off, 3)) (ht : (pc : Int) + off = (tgt : Int)) (kt : (¬ x = 0) → V D A n S p l e R s m args below meth c cells slots Q tgt L st) (kf : (x = 0) → V D A n S p l e R s m args below meth c cells slots Q (pc + 3) L st) : V D A n S p l e R s m args below meth c cells slots Q pc L (.int x :: st) := fun H locs ls hP hD hS hl => lv_if_ne C.1.1 C.1.2.1 d ht (fun h => kt h H locs ls hP hD hS hl) (fun h => kf h H locs ls hP hD hS hl)
theorem r_icmp_eq (C : CX D A own cc n ret tb p s m args meth c) {off : Int} {tgt : Nat} {x y : Int32} (d : decode cc pc = .ok (.if_icmp .eq off, 3)) (ht : (pc : Int) + off = (tgt : Int)) (kt : (x = y) → V D A n S p l e R s m args below meth c cells slots Q tgt L st) (kf : (¬ x = y) → V D A n S p l e R s m args below meth c cells slots Q (pc + 3) L st) : V D A n S p l e R s m args below meth c cells slots Q pc L (.int y :: .int x :: st) := fun H locs ls hP hD hS hl => lv_icmp_eq C.1.1 C.1.2.1 d ht (fun h => kt h H locs ls hP hD hS hl) (fun h => kf h H locs ls hP hD hS hl)
theorem r_icmp_lt (C : CX D A own cc n ret tb p s m args meth c) {off : Int} {tgt : Nat} {x y : Int32} (d : decode cc pc = .ok (.if_icmp .lt off, 3)) (ht : (pc : Int) + off = (tgt : Int)) (kt : (x < y) → V D A n S p l e R s m args below meth c cells slots Q tgt L st) (kf : (¬ x < y) → V D A n S p l e R s m args below meth c cells slots Q (pc + 3) L st) : V D A n S p l e R s m args below meth c cells slots Q pc L (.int y :: .int x :: st) := fun H locs ls hP hD hS hl => lv_icmp_lt C.1.1 C.1.2.1 d ht (fun h => kt h H locs ls hP hD hS hl) (fun h => kf h H locs ls hP hD hS hl)
theorem r_icmp_ge (C : CX D A own cc n ret tb p s m args meth c) {off : Int} {tgt : Nat} {x y : Int32} (d : decode cc pc = .ok (.if_icmp .ge off, 3)) (ht : (pc : Int) + off = (tgt : Int)) (kt : (y ≤ x) → V D A n S p l e R s m args below meth c cells slots Q tgt L st) (kf : (¬ y ≤ x) → V D A n S p l e R s m args below meth c cells slots Q (pc + 3) L st) : V D A n S p l e R s m args below meth c cells slots Q pc L (.int y :: .int x :: st) := fun H locs ls hP hD hS hl => lv_icmp_ge C.1.1 C.1.2.1 d ht (fun h => kt h H locs ls hP hD hS hl) (fun h => kf h H locs ls hP hD hS hl)
theorem r_icmp_gt (C : CX D A own cc n ret tb p s m args meth c) {off : Int} {tgt : Nat} {x y : Int32} (d : decode cc pc = .ok (.if_icmp .gt off, 3)) (ht : (pc : Int) + off = (tgt : Int)) (kt : (y < x) → V D A n S p l e R s m args below meth c cells slots Q tgt L st) (kf : (¬ y < x) → V D A n S p l e R s m args below meth c cells slots Q (pc + 3) L st) : V D A n S p l e R s m args below meth c cells slots Q pc L (.int y :: .int x :: st) := fun H locs ls hP hD hS hl => lv_icmp_gt C.1.1 C.1.2.1 d ht (fun h => kt h H locs ls hP hD hS hl) (fun h => kf h H locs ls hP hD hS hl)
theorem r_icmp_le (C : CX D A own cc n ret tb p s m args meth c) {off : Int} {tgt : Nat} {x y : Int32} (d : decode cc pc = .ok (.if_icmp .le off, 3)) (ht : (pc : Int) + off = (tgt : Int)) (kt : (x ≤ y) → V D A n S p l e R s m args below meth c cells slots Q tgt L st) (kf : (¬ x ≤ y) → V D A n S p l e R s m args below meth c cells slots Q (pc + 3) L st) : V D A n S p l e R s m args below meth c cells slots Q pc L (.int y :: .int x :: st) := fun H locs ls hP hD hS hl => lv_icmp_le C.1.1 C.1.2.1 d ht (fun h => kt h H locs ls hP hD hS hl) (fun h => kf h H locs ls hP hD hS hl)
theorem r_icmp_ne (C : CX D A own cc n ret tb p s m args meth c) {off : Int} {tgt : Nat} {x y : Int32} (d : decode cc pc = .ok (.if_icmp .ne off, 3)) (ht : (pc : Int) + off = (tgt : Int)) (kt : (¬ x = y) → V D A n S p l e R s m args below meth c cells slots Q tgt L st) (kf : (x = y) → V D A n S p l e R s m args below meth c cells slots Q (pc + 3) L st) : V D A n S p l e R s m args below meth c cells slots Q pc L (.int y :: .int x :: st) := fun H locs ls hP hD hS hl => lv_icmp_ne C.1.1 C.1.2.1 d ht (fun h => kt h H locs ls hP hD hS hl) (fun h => kf h H locs ls hP hD hS hl)
noncomputable def bI (P : Prop) : Int32 := @ite Int32 P (Classical.propDecidable P) 1 0
theorem bI_t {P : Prop} (h : P) : bI P = 1 := by unfold bI; exact if_pos h
theorem bI_f {P : Prop} (h : ¬ P) : bI P = 0 := by unfold bI; exact if_neg h
theorem bI_0 {P : Prop} : bI P = 0 ↔ ¬ P := by
  by_cases h : P
  · rw [bI_t h]; exact ⟨fun q => absurd q (by decide), fun q => absurd h q⟩
  · rw [bI_f h]; exact ⟨fun _ => h, fun _ => rfl⟩
theorem bI_n {P : Prop} : narrow .boolean (.int (bI P)) = .int (bI P) := by
  by_cases h : P
  · rw [bI_t h]; rfl
  · rw [bI_f h]; rfl
theorem bI_c {P Q : Prop} (h : P ↔ Q) : bI P = bI Q := by rw [propext h]
noncomputable def iF {α : Type} (P : Prop) (a b : α) : α := @ite α P (Classical.propDecidable P) a b
theorem iF_t {α : Type} {P : Prop} {a b : α} (h : P) : iF P a b = a := by unfold iF; exact if_pos h
theorem iF_f {α : Type} {P : Prop} {a b : α} (h : ¬ P) : iF P a b = b := by unfold iF; exact if_neg h
theorem r_if_eq_b (C : CX D A own cc n ret tb p s m args meth c) {off : Int} {tgt : Nat} {B : Prop} (d : decode cc pc = .ok (.ifCond .eq off, 3)) (ht : (pc : Int) + off = (tgt : Int)) (kt : (¬ B) → V D A n S p l e R s m args below meth c cells slots Q tgt L st) (kf : B → V D A n S p l e R s m args below meth c cells slots Q (pc + 3) L st) : V D A n S p l e R s m args below meth c cells slots Q pc L (.int (bI B) :: st) := fun H locs ls hP hD hS hl => lv_if_eq C.1.1 C.1.2.1 d ht (fun h => kt (bI_0.mp h) H locs ls hP hD hS hl) (fun h => kf (Classical.not_not.mp (fun q => h (bI_0.mpr q))) H locs ls hP hD hS hl)
theorem r_if_ne_b (C : CX D A own cc n ret tb p s m args meth c) {off : Int} {tgt : Nat} {B : Prop} (d : decode cc pc = .ok (.ifCond .ne off, 3)) (ht : (pc : Int) + off = (tgt : Int)) (kt : B → V D A n S p l e R s m args below meth c cells slots Q tgt L st) (kf : (¬ B) → V D A n S p l e R s m args below meth c cells slots Q (pc + 3) L st) : V D A n S p l e R s m args below meth c cells slots Q pc L (.int (bI B) :: st) := fun H locs ls hP hD hS hl => lv_if_ne C.1.1 C.1.2.1 d ht (fun h => kt (Classical.not_not.mp (fun q => h (bI_0.mpr q))) H locs ls hP hD hS hl) (fun h => kf (bI_0.mp h) H locs ls hP hD hS hl)
theorem r_icmp_geN (C : CX D A own cc n ret tb p s m args meth c) {off : Int} {tgt : Nat} {a b : Nat} (d : decode cc pc = .ok (.if_icmp .ge off, 3)) (ht : (pc : Int) + off = (tgt : Int)) (ha : a < 2 ^ 31) (hb : b < 2 ^ 31) (kt : b ≤ a → V D A n S p l e R s m args below meth c cells slots Q tgt L st) (kf : a < b → V D A n S p l e R s m args below meth c cells slots Q (pc + 3) L st) : V D A n S p l e R s m args below meth c cells slots Q pc L (.int (nI b) :: .int (nI a) :: st) := r_icmp_ge C d ht (fun h => kt ((nI_leI hb ha).mp h)) (fun h => kf (Nat.not_le.mp (fun q => h ((nI_leI hb ha).mpr q))))
theorem r_icmp_ltN (C : CX D A own cc n ret tb p s m args meth c) {off : Int} {tgt : Nat} {a b : Nat} (d : decode cc pc = .ok (.if_icmp .lt off, 3)) (ht : (pc : Int) + off = (tgt : Int)) (ha : a < 2 ^ 31) (hb : b < 2 ^ 31) (kt : a < b → V D A n S p l e R s m args below meth c cells slots Q tgt L st) (kf : b ≤ a → V D A n S p l e R s m args below meth c cells slots Q (pc + 3) L st) : V D A n S p l e R s m args below meth c cells slots Q pc L (.int (nI b) :: .int (nI a) :: st) := r_icmp_lt C d ht (fun h => kt ((nI_ltI ha hb).mp h)) (fun h => kf (Nat.not_lt.mp (fun q => h ((nI_ltI ha hb).mpr q))))
theorem r_icmp_leN (C : CX D A own cc n ret tb p s m args meth c) {off : Int} {tgt : Nat} {a b : Nat} (d : decode cc pc = .ok (.if_icmp .le off, 3)) (ht : (pc : Int) + off = (tgt : Int)) (ha : a < 2 ^ 31) (hb : b < 2 ^ 31) (kt : a ≤ b → V D A n S p l e R s m args below meth c cells slots Q tgt L st) (kf : b < a → V D A n S p l e R s m args below meth c cells slots Q (pc + 3) L st) : V D A n S p l e R s m args below meth c cells slots Q pc L (.int (nI b) :: .int (nI a) :: st) := r_icmp_le C d ht (fun h => kt ((nI_leI ha hb).mp h)) (fun h => kf (Nat.not_le.mp (fun q => h ((nI_leI ha hb).mpr q))))
theorem r_icmp_gtN (C : CX D A own cc n ret tb p s m args meth c) {off : Int} {tgt : Nat} {a b : Nat} (d : decode cc pc = .ok (.if_icmp .gt off, 3)) (ht : (pc : Int) + off = (tgt : Int)) (ha : a < 2 ^ 31) (hb : b < 2 ^ 31) (kt : b < a → V D A n S p l e R s m args below meth c cells slots Q tgt L st) (kf : a ≤ b → V D A n S p l e R s m args below meth c cells slots Q (pc + 3) L st) : V D A n S p l e R s m args below meth c cells slots Q pc L (.int (nI b) :: .int (nI a) :: st) := r_icmp_gt C d ht (fun h => kt ((nI_ltI hb ha).mp h)) (fun h => kf (Nat.not_lt.mp (fun q => h ((nI_ltI hb ha).mpr q))))
theorem r_goto (C : CX D A own cc n ret tb p s m args meth c) {off : Int} {tgt : Nat} (d : decode cc pc = .ok (.goto off, 3)) (ht : (pc : Int) + off = (tgt : Int)) (kk : V D A n S p l e R s m args below meth c cells slots Q tgt L st) : V D A n S p l e R s m args below meth c cells slots Q pc L st := fun H locs ls hP hD hS hl => lv_goto C.1.1 C.1.2.1 d ht (kk H locs ls hP hD hS hl)
theorem r_ifnull_r (C : CX D A own cc n ret tb p s m args meth c) {x : Nat} {off : Int} (d : decode cc pc = .ok (.ifnull off, 3)) (kk : V D A n S p l e R s m args below meth c cells slots Q (pc + 3) L st) : V D A n S p l e R s m args below meth c cells slots Q pc L (.ref x :: st) := fun H locs ls hP hD hS hl => lv_ifnull C.1.1 C.1.2.1 d (kk H locs ls hP hD hS hl)
theorem r_ifnull_n (C : CX D A own cc n ret tb p s m args meth c) {off : Int} {tgt : Nat} (d : decode cc pc = .ok (.ifnull off, 3)) (ht : (pc : Int) + off = (tgt : Int)) (kk : V D A n S p l e R s m args below meth c cells slots Q tgt L st) : V D A n S p l e R s m args below meth c cells slots Q pc L (.null :: st) := fun H locs ls hP hD hS hl => lv_ifnullN C.1.1 C.1.2.1 d ht (kk H locs ls hP hD hS hl)
theorem r_ifnonnull_r (C : CX D A own cc n ret tb p s m args meth c) {x : Nat} {off : Int} {tgt : Nat} (d : decode cc pc = .ok (.ifnonnull off, 3)) (ht : (pc : Int) + off = (tgt : Int)) (kk : V D A n S p l e R s m args below meth c cells slots Q tgt L st) : V D A n S p l e R s m args below meth c cells slots Q pc L (.ref x :: st) := fun H locs ls hP hD hS hl => lv_ifnonnull C.1.1 C.1.2.1 d ht (kk H locs ls hP hD hS hl)
theorem r_ifnonnull_n (C : CX D A own cc n ret tb p s m args meth c) {off : Int} (d : decode cc pc = .ok (.ifnonnull off, 3)) (kk : V D A n S p l e R s m args below meth c cells slots Q (pc + 3) L st) : V D A n S p l e R s m args below meth c cells slots Q pc L (.null :: st) := fun H locs ls hP hD hS hl => lv_ifnonnullN C.1.1 C.1.2.1 d (kk H locs ls hP hD hS hl)
theorem r_ifnull_q (C : CX D A own cc n ret tb p s m args meth c) {r : Option Nat} {off : Int} {tgt : Nat} (d : decode cc pc = .ok (.ifnull off, 3)) (ht : (pc : Int) + off = (tgt : Int)) (kt : r = none → V D A n S p l e R s m args below meth c cells slots Q tgt L st) (kf : ∀ x : Nat, r = some x → V D A n S p l e R s m args below meth c cells slots Q (pc + 3) L st) : V D A n S p l e R s m args below meth c cells slots Q pc L (va_rf r :: st) := by
  cases r with
  | none => exact r_ifnull_n C d ht (kt rfl)
  | some x => exact r_ifnull_r C d (kf x rfl)
theorem r_ifnonnull_q (C : CX D A own cc n ret tb p s m args meth c) {r : Option Nat} {off : Int} {tgt : Nat} (d : decode cc pc = .ok (.ifnonnull off, 3)) (ht : (pc : Int) + off = (tgt : Int)) (kt : ∀ x : Nat, r = some x → V D A n S p l e R s m args below meth c cells slots Q tgt L st) (kf : r = none → V D A n S p l e R s m args below meth c cells slots Q (pc + 3) L st) : V D A n S p l e R s m args below meth c cells slots Q pc L (va_rf r :: st) := by
  cases r with
  | none => exact r_ifnonnull_n C d (kf rfl)
  | some x => exact r_ifnonnull_r C d ht (kt x rfl)
theorem r_acmp_ne (C : CX D A own cc n ret tb p s m args meth c) {off : Int} {tgt : Nat} {rx ry : Option Nat} (d : decode cc pc = .ok (.if_acmp .ne off, 3)) (ht : (pc : Int) + off = (tgt : Int)) (kt : (¬ rx = ry) → V D A n S p l e R s m args below meth c cells slots Q tgt L st) (kf : (rx = ry) → V D A n S p l e R s m args below meth c cells slots Q (pc + 3) L st) : V D A n S p l e R s m args below meth c cells slots Q pc L (va_rf ry :: va_rf rx :: st) := fun H locs ls hP hD hS hl => lv_acmp_ne C.1.1 C.1.2.1 d ht (fun h => kt h H locs ls hP hD hS hl) (fun h => kf h H locs ls hP hD hS hl)
theorem va_rf_cat (r : Option Nat) : (va_rf r).category = 1 := by cases r <;> rfl
theorem r_iload0 (C : CX D A own cc n ret tb p s m args meth c) {Lr : List (Option Value)} {x : Int32} (d : decode cc pc = .ok (.iload_n 0, 1)) (kk : V D A n S p l e R s m args below meth c cells slots Q (pc + 1) (some (.int x) :: Lr) (.int x :: st)) : V D A n S p l e R s m args below meth c cells slots Q pc (some (.int x) :: Lr) st := fun H locs ls hP hD hS hl => lv_iload_n C.1.1 C.1.2.1 d rfl (lL_at hl 0 rfl) (kk H locs ls hP hD hS hl)
theorem r_aload0 (C : CX D A own cc n ret tb p s m args meth c) {Lr : List (Option Value)} {x : Nat} (d : decode cc pc = .ok (.aload_n 0, 1)) (kk : V D A n S p l e R s m args below meth c cells slots Q (pc + 1) (some (.ref x) :: Lr) (.ref x :: st)) : V D A n S p l e R s m args below meth c cells slots Q pc (some (.ref x) :: Lr) st := fun H locs ls hP hD hS hl => lv_aload_n C.1.1 C.1.2.1 d rfl (lL_at hl 0 rfl) (kk H locs ls hP hD hS hl)
theorem r_aloadn0 (C : CX D A own cc n ret tb p s m args meth c) {Lr : List (Option Value)}  (d : decode cc pc = .ok (.aload_n 0, 1)) (kk : V D A n S p l e R s m args below meth c cells slots Q (pc + 1) (some (.null) :: Lr) (.null :: st)) : V D A n S p l e R s m args below meth c cells slots Q pc (some (.null) :: Lr) st := fun H locs ls hP hD hS hl => lv_aload_nN C.1.1 C.1.2.1 d rfl (lL_at hl 0 rfl) (kk H locs ls hP hD hS hl)
theorem r_aloadq0 (C : CX D A own cc n ret tb p s m args meth c) {Lr : List (Option Value)} {r : Option Nat} (d : decode cc pc = .ok (.aload_n 0, 1)) (kk : V D A n S p l e R s m args below meth c cells slots Q (pc + 1) (some (va_rf r) :: Lr) (va_rf r :: st)) : V D A n S p l e R s m args below meth c cells slots Q pc (some (va_rf r) :: Lr) st := by
  cases r with
  | none => exact r_aloadn0 C d kk
  | some x => exact r_aload0 C d kk
theorem r_istore0 (C : CX D A own cc n ret tb p s m args meth c) {Lr : List (Option Value)} {z : Option Value} {x : Int32} (d : decode cc pc = .ok (.istore_n 0, 1)) (kk : V D A n S p l e R s m args below meth c cells slots Q (pc + 1) (some (.int x) :: Lr) st) : V D A n S p l e R s m args below meth c cells slots Q pc (z :: Lr) (.int x :: st) := fun H locs ls hP hD hS hl => lv_istore_n C.1.1 C.1.2.1 d rfl hl.1 (lL_lt hl (k := 0) rfl) rfl (fun ls2 h2 => kk H locs ls2 hP hD hS (lL_st hl (i := 0) rfl rfl rfl h2))
theorem r_astore0 (C : CX D A own cc n ret tb p s m args meth c) {Lr : List (Option Value)} {z : Option Value} {x : Nat} (d : decode cc pc = .ok (.astore_n 0, 1)) (kk : V D A n S p l e R s m args below meth c cells slots Q (pc + 1) (some (.ref x) :: Lr) st) : V D A n S p l e R s m args below meth c cells slots Q pc (z :: Lr) (.ref x :: st) := fun H locs ls hP hD hS hl => lv_astore_n C.1.1 C.1.2.1 d rfl hl.1 (lL_lt hl (k := 0) rfl) rfl (fun ls2 h2 => kk H locs ls2 hP hD hS (lL_st hl (i := 0) rfl rfl rfl h2))
theorem r_astoren0 (C : CX D A own cc n ret tb p s m args meth c) {Lr : List (Option Value)} {z : Option Value}  (d : decode cc pc = .ok (.astore_n 0, 1)) (kk : V D A n S p l e R s m args below meth c cells slots Q (pc + 1) (some (.null) :: Lr) st) : V D A n S p l e R s m args below meth c cells slots Q pc (z :: Lr) (.null :: st) := fun H locs ls hP hD hS hl => lv_astore_nN C.1.1 C.1.2.1 d rfl hl.1 (lL_lt hl (k := 0) rfl) rfl (fun ls2 h2 => kk H locs ls2 hP hD hS (lL_st hl (i := 0) rfl rfl rfl h2))
theorem r_astoreq0 (C : CX D A own cc n ret tb p s m args meth c) {Lr : List (Option Value)} {z : Option Value} {r : Option Nat} (d : decode cc pc = .ok (.astore_n 0, 1)) (kk : V D A n S p l e R s m args below meth c cells slots Q (pc + 1) (some (va_rf r) :: Lr) st) : V D A n S p l e R s m args below meth c cells slots Q pc (z :: Lr) (va_rf r :: st) := by
  cases r with
  | none => exact r_astoren0 C d kk
  | some x => exact r_astore0 C d kk
theorem r_iinc0 (C : CX D A own cc n ret tb p s m args meth c) {Lr : List (Option Value)} {k : Int} {x v : Int32} (d : decode cc pc = .ok (.iinc 0 k, 3)) (hv : x + Int32.ofInt k = v) (kk : V D A n S p l e R s m args below meth c cells slots Q (pc + 3) (some (.int v) :: Lr) st) : V D A n S p l e R s m args below meth c cells slots Q pc (some (.int x) :: Lr) st := fun H locs ls hP hD hS hl => by
  obtain ⟨j, hj⟩ := List.getElem?_of_mem ((mem_ents (some (Value.int x) :: Lr) 0).mpr ⟨Nat.zero_le 0, (rfl : (some (Value.int x) :: Lr)[0 - 0]? = some (some (Value.int x)))⟩)
  exact lv_iinc C.1.1 C.1.2.1 d hl.1 hj hv (lL_lt hl (k := 0) rfl) rfl (fun ls2 h2 => kk H locs ls2 hP hD hS (lL_st hl (i := 0) rfl rfl rfl h2))
theorem r_iload1 (C : CX D A own cc n ret tb p s m args meth c) {a0 : Option Value} {Lr : List (Option Value)} {x : Int32} (d : decode cc pc = .ok (.iload_n 1, 1)) (kk : V D A n S p l e R s m args below meth c cells slots Q (pc + 1) (a0 :: some (.int x) :: Lr) (.int x :: st)) : V D A n S p l e R s m args below meth c cells slots Q pc (a0 :: some (.int x) :: Lr) st := fun H locs ls hP hD hS hl => lv_iload_n C.1.1 C.1.2.1 d rfl (lL_at hl 1 rfl) (kk H locs ls hP hD hS hl)
theorem r_aload1 (C : CX D A own cc n ret tb p s m args meth c) {a0 : Option Value} {Lr : List (Option Value)} {x : Nat} (d : decode cc pc = .ok (.aload_n 1, 1)) (kk : V D A n S p l e R s m args below meth c cells slots Q (pc + 1) (a0 :: some (.ref x) :: Lr) (.ref x :: st)) : V D A n S p l e R s m args below meth c cells slots Q pc (a0 :: some (.ref x) :: Lr) st := fun H locs ls hP hD hS hl => lv_aload_n C.1.1 C.1.2.1 d rfl (lL_at hl 1 rfl) (kk H locs ls hP hD hS hl)
theorem r_aloadn1 (C : CX D A own cc n ret tb p s m args meth c) {a0 : Option Value} {Lr : List (Option Value)}  (d : decode cc pc = .ok (.aload_n 1, 1)) (kk : V D A n S p l e R s m args below meth c cells slots Q (pc + 1) (a0 :: some (.null) :: Lr) (.null :: st)) : V D A n S p l e R s m args below meth c cells slots Q pc (a0 :: some (.null) :: Lr) st := fun H locs ls hP hD hS hl => lv_aload_nN C.1.1 C.1.2.1 d rfl (lL_at hl 1 rfl) (kk H locs ls hP hD hS hl)
theorem r_aloadq1 (C : CX D A own cc n ret tb p s m args meth c) {a0 : Option Value} {Lr : List (Option Value)} {r : Option Nat} (d : decode cc pc = .ok (.aload_n 1, 1)) (kk : V D A n S p l e R s m args below meth c cells slots Q (pc + 1) (a0 :: some (va_rf r) :: Lr) (va_rf r :: st)) : V D A n S p l e R s m args below meth c cells slots Q pc (a0 :: some (va_rf r) :: Lr) st := by
  cases r with
  | none => exact r_aloadn1 C d kk
  | some x => exact r_aload1 C d kk
theorem r_istore1 (C : CX D A own cc n ret tb p s m args meth c) {a0 : Option Value} {Lr : List (Option Value)} {z : Option Value} {x : Int32} (d : decode cc pc = .ok (.istore_n 1, 1)) (kk : V D A n S p l e R s m args below meth c cells slots Q (pc + 1) (a0 :: some (.int x) :: Lr) st) : V D A n S p l e R s m args below meth c cells slots Q pc (a0 :: z :: Lr) (.int x :: st) := fun H locs ls hP hD hS hl => lv_istore_n C.1.1 C.1.2.1 d rfl hl.1 (lL_lt hl (k := 1) rfl) rfl (fun ls2 h2 => kk H locs ls2 hP hD hS (lL_st hl (i := 1) rfl rfl rfl h2))
theorem r_astore1 (C : CX D A own cc n ret tb p s m args meth c) {a0 : Option Value} {Lr : List (Option Value)} {z : Option Value} {x : Nat} (d : decode cc pc = .ok (.astore_n 1, 1)) (kk : V D A n S p l e R s m args below meth c cells slots Q (pc + 1) (a0 :: some (.ref x) :: Lr) st) : V D A n S p l e R s m args below meth c cells slots Q pc (a0 :: z :: Lr) (.ref x :: st) := fun H locs ls hP hD hS hl => lv_astore_n C.1.1 C.1.2.1 d rfl hl.1 (lL_lt hl (k := 1) rfl) rfl (fun ls2 h2 => kk H locs ls2 hP hD hS (lL_st hl (i := 1) rfl rfl rfl h2))
theorem r_astoren1 (C : CX D A own cc n ret tb p s m args meth c) {a0 : Option Value} {Lr : List (Option Value)} {z : Option Value}  (d : decode cc pc = .ok (.astore_n 1, 1)) (kk : V D A n S p l e R s m args below meth c cells slots Q (pc + 1) (a0 :: some (.null) :: Lr) st) : V D A n S p l e R s m args below meth c cells slots Q pc (a0 :: z :: Lr) (.null :: st) := fun H locs ls hP hD hS hl => lv_astore_nN C.1.1 C.1.2.1 d rfl hl.1 (lL_lt hl (k := 1) rfl) rfl (fun ls2 h2 => kk H locs ls2 hP hD hS (lL_st hl (i := 1) rfl rfl rfl h2))
theorem r_astoreq1 (C : CX D A own cc n ret tb p s m args meth c) {a0 : Option Value} {Lr : List (Option Value)} {z : Option Value} {r : Option Nat} (d : decode cc pc = .ok (.astore_n 1, 1)) (kk : V D A n S p l e R s m args below meth c cells slots Q (pc + 1) (a0 :: some (va_rf r) :: Lr) st) : V D A n S p l e R s m args below meth c cells slots Q pc (a0 :: z :: Lr) (va_rf r :: st) := by
  cases r with
  | none => exact r_astoren1 C d kk
  | some x => exact r_astore1 C d kk
theorem r_iinc1 (C : CX D A own cc n ret tb p s m args meth c) {a0 : Option Value} {Lr : List (Option Value)} {k : Int} {x v : Int32} (d : decode cc pc = .ok (.iinc 1 k, 3)) (hv : x + Int32.ofInt k = v) (kk : V D A n S p l e R s m args below meth c cells slots Q (pc + 3) (a0 :: some (.int v) :: Lr) st) : V D A n S p l e R s m args below meth c cells slots Q pc (a0 :: some (.int x) :: Lr) st := fun H locs ls hP hD hS hl => by
  obtain ⟨j, hj⟩ := List.getElem?_of_mem ((mem_ents (a0 :: some (Value.int x) :: Lr) 0).mpr ⟨Nat.zero_le 1, (rfl : (a0 :: some (Value.int x) :: Lr)[1 - 0]? = some (some (Value.int x)))⟩)
  exact lv_iinc C.1.1 C.1.2.1 d hl.1 hj hv (lL_lt hl (k := 1) rfl) rfl (fun ls2 h2 => kk H locs ls2 hP hD hS (lL_st hl (i := 1) rfl rfl rfl h2))
theorem r_iload2 (C : CX D A own cc n ret tb p s m args meth c) {a0 a1 : Option Value} {Lr : List (Option Value)} {x : Int32} (d : decode cc pc = .ok (.iload_n 2, 1)) (kk : V D A n S p l e R s m args below meth c cells slots Q (pc + 1) (a0 :: a1 :: some (.int x) :: Lr) (.int x :: st)) : V D A n S p l e R s m args below meth c cells slots Q pc (a0 :: a1 :: some (.int x) :: Lr) st := fun H locs ls hP hD hS hl => lv_iload_n C.1.1 C.1.2.1 d rfl (lL_at hl 2 rfl) (kk H locs ls hP hD hS hl)
theorem r_aload2 (C : CX D A own cc n ret tb p s m args meth c) {a0 a1 : Option Value} {Lr : List (Option Value)} {x : Nat} (d : decode cc pc = .ok (.aload_n 2, 1)) (kk : V D A n S p l e R s m args below meth c cells slots Q (pc + 1) (a0 :: a1 :: some (.ref x) :: Lr) (.ref x :: st)) : V D A n S p l e R s m args below meth c cells slots Q pc (a0 :: a1 :: some (.ref x) :: Lr) st := fun H locs ls hP hD hS hl => lv_aload_n C.1.1 C.1.2.1 d rfl (lL_at hl 2 rfl) (kk H locs ls hP hD hS hl)
theorem r_aloadn2 (C : CX D A own cc n ret tb p s m args meth c) {a0 a1 : Option Value} {Lr : List (Option Value)}  (d : decode cc pc = .ok (.aload_n 2, 1)) (kk : V D A n S p l e R s m args below meth c cells slots Q (pc + 1) (a0 :: a1 :: some (.null) :: Lr) (.null :: st)) : V D A n S p l e R s m args below meth c cells slots Q pc (a0 :: a1 :: some (.null) :: Lr) st := fun H locs ls hP hD hS hl => lv_aload_nN C.1.1 C.1.2.1 d rfl (lL_at hl 2 rfl) (kk H locs ls hP hD hS hl)
theorem r_aloadq2 (C : CX D A own cc n ret tb p s m args meth c) {a0 a1 : Option Value} {Lr : List (Option Value)} {r : Option Nat} (d : decode cc pc = .ok (.aload_n 2, 1)) (kk : V D A n S p l e R s m args below meth c cells slots Q (pc + 1) (a0 :: a1 :: some (va_rf r) :: Lr) (va_rf r :: st)) : V D A n S p l e R s m args below meth c cells slots Q pc (a0 :: a1 :: some (va_rf r) :: Lr) st := by
  cases r with
  | none => exact r_aloadn2 C d kk
  | some x => exact r_aload2 C d kk
theorem r_istore2 (C : CX D A own cc n ret tb p s m args meth c) {a0 a1 : Option Value} {Lr : List (Option Value)} {z : Option Value} {x : Int32} (d : decode cc pc = .ok (.istore_n 2, 1)) (kk : V D A n S p l e R s m args below meth c cells slots Q (pc + 1) (a0 :: a1 :: some (.int x) :: Lr) st) : V D A n S p l e R s m args below meth c cells slots Q pc (a0 :: a1 :: z :: Lr) (.int x :: st) := fun H locs ls hP hD hS hl => lv_istore_n C.1.1 C.1.2.1 d rfl hl.1 (lL_lt hl (k := 2) rfl) rfl (fun ls2 h2 => kk H locs ls2 hP hD hS (lL_st hl (i := 2) rfl rfl rfl h2))
theorem r_astore2 (C : CX D A own cc n ret tb p s m args meth c) {a0 a1 : Option Value} {Lr : List (Option Value)} {z : Option Value} {x : Nat} (d : decode cc pc = .ok (.astore_n 2, 1)) (kk : V D A n S p l e R s m args below meth c cells slots Q (pc + 1) (a0 :: a1 :: some (.ref x) :: Lr) st) : V D A n S p l e R s m args below meth c cells slots Q pc (a0 :: a1 :: z :: Lr) (.ref x :: st) := fun H locs ls hP hD hS hl => lv_astore_n C.1.1 C.1.2.1 d rfl hl.1 (lL_lt hl (k := 2) rfl) rfl (fun ls2 h2 => kk H locs ls2 hP hD hS (lL_st hl (i := 2) rfl rfl rfl h2))
theorem r_astoren2 (C : CX D A own cc n ret tb p s m args meth c) {a0 a1 : Option Value} {Lr : List (Option Value)} {z : Option Value}  (d : decode cc pc = .ok (.astore_n 2, 1)) (kk : V D A n S p l e R s m args below meth c cells slots Q (pc + 1) (a0 :: a1 :: some (.null) :: Lr) st) : V D A n S p l e R s m args below meth c cells slots Q pc (a0 :: a1 :: z :: Lr) (.null :: st) := fun H locs ls hP hD hS hl => lv_astore_nN C.1.1 C.1.2.1 d rfl hl.1 (lL_lt hl (k := 2) rfl) rfl (fun ls2 h2 => kk H locs ls2 hP hD hS (lL_st hl (i := 2) rfl rfl rfl h2))
theorem r_astoreq2 (C : CX D A own cc n ret tb p s m args meth c) {a0 a1 : Option Value} {Lr : List (Option Value)} {z : Option Value} {r : Option Nat} (d : decode cc pc = .ok (.astore_n 2, 1)) (kk : V D A n S p l e R s m args below meth c cells slots Q (pc + 1) (a0 :: a1 :: some (va_rf r) :: Lr) st) : V D A n S p l e R s m args below meth c cells slots Q pc (a0 :: a1 :: z :: Lr) (va_rf r :: st) := by
  cases r with
  | none => exact r_astoren2 C d kk
  | some x => exact r_astore2 C d kk
theorem r_iinc2 (C : CX D A own cc n ret tb p s m args meth c) {a0 a1 : Option Value} {Lr : List (Option Value)} {k : Int} {x v : Int32} (d : decode cc pc = .ok (.iinc 2 k, 3)) (hv : x + Int32.ofInt k = v) (kk : V D A n S p l e R s m args below meth c cells slots Q (pc + 3) (a0 :: a1 :: some (.int v) :: Lr) st) : V D A n S p l e R s m args below meth c cells slots Q pc (a0 :: a1 :: some (.int x) :: Lr) st := fun H locs ls hP hD hS hl => by
  obtain ⟨j, hj⟩ := List.getElem?_of_mem ((mem_ents (a0 :: a1 :: some (Value.int x) :: Lr) 0).mpr ⟨Nat.zero_le 2, (rfl : (a0 :: a1 :: some (Value.int x) :: Lr)[2 - 0]? = some (some (Value.int x)))⟩)
  exact lv_iinc C.1.1 C.1.2.1 d hl.1 hj hv (lL_lt hl (k := 2) rfl) rfl (fun ls2 h2 => kk H locs ls2 hP hD hS (lL_st hl (i := 2) rfl rfl rfl h2))
theorem r_iload3 (C : CX D A own cc n ret tb p s m args meth c) {a0 a1 a2 : Option Value} {Lr : List (Option Value)} {x : Int32} (d : decode cc pc = .ok (.iload_n 3, 1)) (kk : V D A n S p l e R s m args below meth c cells slots Q (pc + 1) (a0 :: a1 :: a2 :: some (.int x) :: Lr) (.int x :: st)) : V D A n S p l e R s m args below meth c cells slots Q pc (a0 :: a1 :: a2 :: some (.int x) :: Lr) st := fun H locs ls hP hD hS hl => lv_iload_n C.1.1 C.1.2.1 d rfl (lL_at hl 3 rfl) (kk H locs ls hP hD hS hl)
theorem r_aload3 (C : CX D A own cc n ret tb p s m args meth c) {a0 a1 a2 : Option Value} {Lr : List (Option Value)} {x : Nat} (d : decode cc pc = .ok (.aload_n 3, 1)) (kk : V D A n S p l e R s m args below meth c cells slots Q (pc + 1) (a0 :: a1 :: a2 :: some (.ref x) :: Lr) (.ref x :: st)) : V D A n S p l e R s m args below meth c cells slots Q pc (a0 :: a1 :: a2 :: some (.ref x) :: Lr) st := fun H locs ls hP hD hS hl => lv_aload_n C.1.1 C.1.2.1 d rfl (lL_at hl 3 rfl) (kk H locs ls hP hD hS hl)
theorem r_aloadn3 (C : CX D A own cc n ret tb p s m args meth c) {a0 a1 a2 : Option Value} {Lr : List (Option Value)}  (d : decode cc pc = .ok (.aload_n 3, 1)) (kk : V D A n S p l e R s m args below meth c cells slots Q (pc + 1) (a0 :: a1 :: a2 :: some (.null) :: Lr) (.null :: st)) : V D A n S p l e R s m args below meth c cells slots Q pc (a0 :: a1 :: a2 :: some (.null) :: Lr) st := fun H locs ls hP hD hS hl => lv_aload_nN C.1.1 C.1.2.1 d rfl (lL_at hl 3 rfl) (kk H locs ls hP hD hS hl)
theorem r_aloadq3 (C : CX D A own cc n ret tb p s m args meth c) {a0 a1 a2 : Option Value} {Lr : List (Option Value)} {r : Option Nat} (d : decode cc pc = .ok (.aload_n 3, 1)) (kk : V D A n S p l e R s m args below meth c cells slots Q (pc + 1) (a0 :: a1 :: a2 :: some (va_rf r) :: Lr) (va_rf r :: st)) : V D A n S p l e R s m args below meth c cells slots Q pc (a0 :: a1 :: a2 :: some (va_rf r) :: Lr) st := by
  cases r with
  | none => exact r_aloadn3 C d kk
  | some x => exact r_aload3 C d kk
theorem r_istore3 (C : CX D A own cc n ret tb p s m args meth c) {a0 a1 a2 : Option Value} {Lr : List (Option Value)} {z : Option Value} {x : Int32} (d : decode cc pc = .ok (.istore_n 3, 1)) (kk : V D A n S p l e R s m args below meth c cells slots Q (pc + 1) (a0 :: a1 :: a2 :: some (.int x) :: Lr) st) : V D A n S p l e R s m args below meth c cells slots Q pc (a0 :: a1 :: a2 :: z :: Lr) (.int x :: st) := fun H locs ls hP hD hS hl => lv_istore_n C.1.1 C.1.2.1 d rfl hl.1 (lL_lt hl (k := 3) rfl) rfl (fun ls2 h2 => kk H locs ls2 hP hD hS (lL_st hl (i := 3) rfl rfl rfl h2))
theorem r_astore3 (C : CX D A own cc n ret tb p s m args meth c) {a0 a1 a2 : Option Value} {Lr : List (Option Value)} {z : Option Value} {x : Nat} (d : decode cc pc = .ok (.astore_n 3, 1)) (kk : V D A n S p l e R s m args below meth c cells slots Q (pc + 1) (a0 :: a1 :: a2 :: some (.ref x) :: Lr) st) : V D A n S p l e R s m args below meth c cells slots Q pc (a0 :: a1 :: a2 :: z :: Lr) (.ref x :: st) := fun H locs ls hP hD hS hl => lv_astore_n C.1.1 C.1.2.1 d rfl hl.1 (lL_lt hl (k := 3) rfl) rfl (fun ls2 h2 => kk H locs ls2 hP hD hS (lL_st hl (i := 3) rfl rfl rfl h2))
theorem r_astoren3 (C : CX D A own cc n ret tb p s m args meth c) {a0 a1 a2 : Option Value} {Lr : List (Option Value)} {z : Option Value}  (d : decode cc pc = .ok (.astore_n 3, 1)) (kk : V D A n S p l e R s m args below meth c cells slots Q (pc + 1) (a0 :: a1 :: a2 :: some (.null) :: Lr) st) : V D A n S p l e R s m args below meth c cells slots Q pc (a0 :: a1 :: a2 :: z :: Lr) (.null :: st) := fun H locs ls hP hD hS hl => lv_astore_nN C.1.1 C.1.2.1 d rfl hl.1 (lL_lt hl (k := 3) rfl) rfl (fun ls2 h2 => kk H locs ls2 hP hD hS (lL_st hl (i := 3) rfl rfl rfl h2))
theorem r_astoreq3 (C : CX D A own cc n ret tb p s m args meth c) {a0 a1 a2 : Option Value} {Lr : List (Option Value)} {z : Option Value} {r : Option Nat} (d : decode cc pc = .ok (.astore_n 3, 1)) (kk : V D A n S p l e R s m args below meth c cells slots Q (pc + 1) (a0 :: a1 :: a2 :: some (va_rf r) :: Lr) st) : V D A n S p l e R s m args below meth c cells slots Q pc (a0 :: a1 :: a2 :: z :: Lr) (va_rf r :: st) := by
  cases r with
  | none => exact r_astoren3 C d kk
  | some x => exact r_astore3 C d kk
theorem r_iinc3 (C : CX D A own cc n ret tb p s m args meth c) {a0 a1 a2 : Option Value} {Lr : List (Option Value)} {k : Int} {x v : Int32} (d : decode cc pc = .ok (.iinc 3 k, 3)) (hv : x + Int32.ofInt k = v) (kk : V D A n S p l e R s m args below meth c cells slots Q (pc + 3) (a0 :: a1 :: a2 :: some (.int v) :: Lr) st) : V D A n S p l e R s m args below meth c cells slots Q pc (a0 :: a1 :: a2 :: some (.int x) :: Lr) st := fun H locs ls hP hD hS hl => by
  obtain ⟨j, hj⟩ := List.getElem?_of_mem ((mem_ents (a0 :: a1 :: a2 :: some (Value.int x) :: Lr) 0).mpr ⟨Nat.zero_le 3, (rfl : (a0 :: a1 :: a2 :: some (Value.int x) :: Lr)[3 - 0]? = some (some (Value.int x)))⟩)
  exact lv_iinc C.1.1 C.1.2.1 d hl.1 hj hv (lL_lt hl (k := 3) rfl) rfl (fun ls2 h2 => kk H locs ls2 hP hD hS (lL_st hl (i := 3) rfl rfl rfl h2))
theorem r_iload4 (C : CX D A own cc n ret tb p s m args meth c) {a0 a1 a2 a3 : Option Value} {Lr : List (Option Value)} {x : Int32} (d : decode cc pc = .ok (.iload 4, 2)) (kk : V D A n S p l e R s m args below meth c cells slots Q (pc + 2) (a0 :: a1 :: a2 :: a3 :: some (.int x) :: Lr) (.int x :: st)) : V D A n S p l e R s m args below meth c cells slots Q pc (a0 :: a1 :: a2 :: a3 :: some (.int x) :: Lr) st := fun H locs ls hP hD hS hl => lv_iload C.1.1 C.1.2.1 d (lL_at hl 4 rfl) (kk H locs ls hP hD hS hl)
theorem r_aload4 (C : CX D A own cc n ret tb p s m args meth c) {a0 a1 a2 a3 : Option Value} {Lr : List (Option Value)} {x : Nat} (d : decode cc pc = .ok (.aload 4, 2)) (kk : V D A n S p l e R s m args below meth c cells slots Q (pc + 2) (a0 :: a1 :: a2 :: a3 :: some (.ref x) :: Lr) (.ref x :: st)) : V D A n S p l e R s m args below meth c cells slots Q pc (a0 :: a1 :: a2 :: a3 :: some (.ref x) :: Lr) st := fun H locs ls hP hD hS hl => lv_aload C.1.1 C.1.2.1 d (lL_at hl 4 rfl) (kk H locs ls hP hD hS hl)
theorem r_aloadn4 (C : CX D A own cc n ret tb p s m args meth c) {a0 a1 a2 a3 : Option Value} {Lr : List (Option Value)}  (d : decode cc pc = .ok (.aload 4, 2)) (kk : V D A n S p l e R s m args below meth c cells slots Q (pc + 2) (a0 :: a1 :: a2 :: a3 :: some (.null) :: Lr) (.null :: st)) : V D A n S p l e R s m args below meth c cells slots Q pc (a0 :: a1 :: a2 :: a3 :: some (.null) :: Lr) st := fun H locs ls hP hD hS hl => lv_aloadN C.1.1 C.1.2.1 d (lL_at hl 4 rfl) (kk H locs ls hP hD hS hl)
theorem r_aloadq4 (C : CX D A own cc n ret tb p s m args meth c) {a0 a1 a2 a3 : Option Value} {Lr : List (Option Value)} {r : Option Nat} (d : decode cc pc = .ok (.aload 4, 2)) (kk : V D A n S p l e R s m args below meth c cells slots Q (pc + 2) (a0 :: a1 :: a2 :: a3 :: some (va_rf r) :: Lr) (va_rf r :: st)) : V D A n S p l e R s m args below meth c cells slots Q pc (a0 :: a1 :: a2 :: a3 :: some (va_rf r) :: Lr) st := by
  cases r with
  | none => exact r_aloadn4 C d kk
  | some x => exact r_aload4 C d kk
theorem r_istore4 (C : CX D A own cc n ret tb p s m args meth c) {a0 a1 a2 a3 : Option Value} {Lr : List (Option Value)} {z : Option Value} {x : Int32} (d : decode cc pc = .ok (.istore 4, 2)) (kk : V D A n S p l e R s m args below meth c cells slots Q (pc + 2) (a0 :: a1 :: a2 :: a3 :: some (.int x) :: Lr) st) : V D A n S p l e R s m args below meth c cells slots Q pc (a0 :: a1 :: a2 :: a3 :: z :: Lr) (.int x :: st) := fun H locs ls hP hD hS hl => lv_istore C.1.1 C.1.2.1 d hl.1 (lL_lt hl (k := 4) rfl) rfl (fun ls2 h2 => kk H locs ls2 hP hD hS (lL_st hl (i := 4) rfl rfl rfl h2))
theorem r_astore4 (C : CX D A own cc n ret tb p s m args meth c) {a0 a1 a2 a3 : Option Value} {Lr : List (Option Value)} {z : Option Value} {x : Nat} (d : decode cc pc = .ok (.astore 4, 2)) (kk : V D A n S p l e R s m args below meth c cells slots Q (pc + 2) (a0 :: a1 :: a2 :: a3 :: some (.ref x) :: Lr) st) : V D A n S p l e R s m args below meth c cells slots Q pc (a0 :: a1 :: a2 :: a3 :: z :: Lr) (.ref x :: st) := fun H locs ls hP hD hS hl => lv_astore C.1.1 C.1.2.1 d hl.1 (lL_lt hl (k := 4) rfl) rfl (fun ls2 h2 => kk H locs ls2 hP hD hS (lL_st hl (i := 4) rfl rfl rfl h2))
theorem r_astoren4 (C : CX D A own cc n ret tb p s m args meth c) {a0 a1 a2 a3 : Option Value} {Lr : List (Option Value)} {z : Option Value}  (d : decode cc pc = .ok (.astore 4, 2)) (kk : V D A n S p l e R s m args below meth c cells slots Q (pc + 2) (a0 :: a1 :: a2 :: a3 :: some (.null) :: Lr) st) : V D A n S p l e R s m args below meth c cells slots Q pc (a0 :: a1 :: a2 :: a3 :: z :: Lr) (.null :: st) := fun H locs ls hP hD hS hl => lv_astoreN C.1.1 C.1.2.1 d hl.1 (lL_lt hl (k := 4) rfl) rfl (fun ls2 h2 => kk H locs ls2 hP hD hS (lL_st hl (i := 4) rfl rfl rfl h2))
theorem r_astoreq4 (C : CX D A own cc n ret tb p s m args meth c) {a0 a1 a2 a3 : Option Value} {Lr : List (Option Value)} {z : Option Value} {r : Option Nat} (d : decode cc pc = .ok (.astore 4, 2)) (kk : V D A n S p l e R s m args below meth c cells slots Q (pc + 2) (a0 :: a1 :: a2 :: a3 :: some (va_rf r) :: Lr) st) : V D A n S p l e R s m args below meth c cells slots Q pc (a0 :: a1 :: a2 :: a3 :: z :: Lr) (va_rf r :: st) := by
  cases r with
  | none => exact r_astoren4 C d kk
  | some x => exact r_astore4 C d kk
theorem r_iinc4 (C : CX D A own cc n ret tb p s m args meth c) {a0 a1 a2 a3 : Option Value} {Lr : List (Option Value)} {k : Int} {x v : Int32} (d : decode cc pc = .ok (.iinc 4 k, 3)) (hv : x + Int32.ofInt k = v) (kk : V D A n S p l e R s m args below meth c cells slots Q (pc + 3) (a0 :: a1 :: a2 :: a3 :: some (.int v) :: Lr) st) : V D A n S p l e R s m args below meth c cells slots Q pc (a0 :: a1 :: a2 :: a3 :: some (.int x) :: Lr) st := fun H locs ls hP hD hS hl => by
  obtain ⟨j, hj⟩ := List.getElem?_of_mem ((mem_ents (a0 :: a1 :: a2 :: a3 :: some (Value.int x) :: Lr) 0).mpr ⟨Nat.zero_le 4, (rfl : (a0 :: a1 :: a2 :: a3 :: some (Value.int x) :: Lr)[4 - 0]? = some (some (Value.int x)))⟩)
  exact lv_iinc C.1.1 C.1.2.1 d hl.1 hj hv (lL_lt hl (k := 4) rfl) rfl (fun ls2 h2 => kk H locs ls2 hP hD hS (lL_st hl (i := 4) rfl rfl rfl h2))
theorem r_iload5 (C : CX D A own cc n ret tb p s m args meth c) {a0 a1 a2 a3 a4 : Option Value} {Lr : List (Option Value)} {x : Int32} (d : decode cc pc = .ok (.iload 5, 2)) (kk : V D A n S p l e R s m args below meth c cells slots Q (pc + 2) (a0 :: a1 :: a2 :: a3 :: a4 :: some (.int x) :: Lr) (.int x :: st)) : V D A n S p l e R s m args below meth c cells slots Q pc (a0 :: a1 :: a2 :: a3 :: a4 :: some (.int x) :: Lr) st := fun H locs ls hP hD hS hl => lv_iload C.1.1 C.1.2.1 d (lL_at hl 5 rfl) (kk H locs ls hP hD hS hl)
theorem r_aload5 (C : CX D A own cc n ret tb p s m args meth c) {a0 a1 a2 a3 a4 : Option Value} {Lr : List (Option Value)} {x : Nat} (d : decode cc pc = .ok (.aload 5, 2)) (kk : V D A n S p l e R s m args below meth c cells slots Q (pc + 2) (a0 :: a1 :: a2 :: a3 :: a4 :: some (.ref x) :: Lr) (.ref x :: st)) : V D A n S p l e R s m args below meth c cells slots Q pc (a0 :: a1 :: a2 :: a3 :: a4 :: some (.ref x) :: Lr) st := fun H locs ls hP hD hS hl => lv_aload C.1.1 C.1.2.1 d (lL_at hl 5 rfl) (kk H locs ls hP hD hS hl)
theorem r_aloadn5 (C : CX D A own cc n ret tb p s m args meth c) {a0 a1 a2 a3 a4 : Option Value} {Lr : List (Option Value)}  (d : decode cc pc = .ok (.aload 5, 2)) (kk : V D A n S p l e R s m args below meth c cells slots Q (pc + 2) (a0 :: a1 :: a2 :: a3 :: a4 :: some (.null) :: Lr) (.null :: st)) : V D A n S p l e R s m args below meth c cells slots Q pc (a0 :: a1 :: a2 :: a3 :: a4 :: some (.null) :: Lr) st := fun H locs ls hP hD hS hl => lv_aloadN C.1.1 C.1.2.1 d (lL_at hl 5 rfl) (kk H locs ls hP hD hS hl)
theorem r_aloadq5 (C : CX D A own cc n ret tb p s m args meth c) {a0 a1 a2 a3 a4 : Option Value} {Lr : List (Option Value)} {r : Option Nat} (d : decode cc pc = .ok (.aload 5, 2)) (kk : V D A n S p l e R s m args below meth c cells slots Q (pc + 2) (a0 :: a1 :: a2 :: a3 :: a4 :: some (va_rf r) :: Lr) (va_rf r :: st)) : V D A n S p l e R s m args below meth c cells slots Q pc (a0 :: a1 :: a2 :: a3 :: a4 :: some (va_rf r) :: Lr) st := by
  cases r with
  | none => exact r_aloadn5 C d kk
  | some x => exact r_aload5 C d kk
theorem r_istore5 (C : CX D A own cc n ret tb p s m args meth c) {a0 a1 a2 a3 a4 : Option Value} {Lr : List (Option Value)} {z : Option Value} {x : Int32} (d : decode cc pc = .ok (.istore 5, 2)) (kk : V D A n S p l e R s m args below meth c cells slots Q (pc + 2) (a0 :: a1 :: a2 :: a3 :: a4 :: some (.int x) :: Lr) st) : V D A n S p l e R s m args below meth c cells slots Q pc (a0 :: a1 :: a2 :: a3 :: a4 :: z :: Lr) (.int x :: st) := fun H locs ls hP hD hS hl => lv_istore C.1.1 C.1.2.1 d hl.1 (lL_lt hl (k := 5) rfl) rfl (fun ls2 h2 => kk H locs ls2 hP hD hS (lL_st hl (i := 5) rfl rfl rfl h2))
theorem r_astore5 (C : CX D A own cc n ret tb p s m args meth c) {a0 a1 a2 a3 a4 : Option Value} {Lr : List (Option Value)} {z : Option Value} {x : Nat} (d : decode cc pc = .ok (.astore 5, 2)) (kk : V D A n S p l e R s m args below meth c cells slots Q (pc + 2) (a0 :: a1 :: a2 :: a3 :: a4 :: some (.ref x) :: Lr) st) : V D A n S p l e R s m args below meth c cells slots Q pc (a0 :: a1 :: a2 :: a3 :: a4 :: z :: Lr) (.ref x :: st) := fun H locs ls hP hD hS hl => lv_astore C.1.1 C.1.2.1 d hl.1 (lL_lt hl (k := 5) rfl) rfl (fun ls2 h2 => kk H locs ls2 hP hD hS (lL_st hl (i := 5) rfl rfl rfl h2))
theorem r_astoren5 (C : CX D A own cc n ret tb p s m args meth c) {a0 a1 a2 a3 a4 : Option Value} {Lr : List (Option Value)} {z : Option Value}  (d : decode cc pc = .ok (.astore 5, 2)) (kk : V D A n S p l e R s m args below meth c cells slots Q (pc + 2) (a0 :: a1 :: a2 :: a3 :: a4 :: some (.null) :: Lr) st) : V D A n S p l e R s m args below meth c cells slots Q pc (a0 :: a1 :: a2 :: a3 :: a4 :: z :: Lr) (.null :: st) := fun H locs ls hP hD hS hl => lv_astoreN C.1.1 C.1.2.1 d hl.1 (lL_lt hl (k := 5) rfl) rfl (fun ls2 h2 => kk H locs ls2 hP hD hS (lL_st hl (i := 5) rfl rfl rfl h2))
theorem r_astoreq5 (C : CX D A own cc n ret tb p s m args meth c) {a0 a1 a2 a3 a4 : Option Value} {Lr : List (Option Value)} {z : Option Value} {r : Option Nat} (d : decode cc pc = .ok (.astore 5, 2)) (kk : V D A n S p l e R s m args below meth c cells slots Q (pc + 2) (a0 :: a1 :: a2 :: a3 :: a4 :: some (va_rf r) :: Lr) st) : V D A n S p l e R s m args below meth c cells slots Q pc (a0 :: a1 :: a2 :: a3 :: a4 :: z :: Lr) (va_rf r :: st) := by
  cases r with
  | none => exact r_astoren5 C d kk
  | some x => exact r_astore5 C d kk
theorem r_iinc5 (C : CX D A own cc n ret tb p s m args meth c) {a0 a1 a2 a3 a4 : Option Value} {Lr : List (Option Value)} {k : Int} {x v : Int32} (d : decode cc pc = .ok (.iinc 5 k, 3)) (hv : x + Int32.ofInt k = v) (kk : V D A n S p l e R s m args below meth c cells slots Q (pc + 3) (a0 :: a1 :: a2 :: a3 :: a4 :: some (.int v) :: Lr) st) : V D A n S p l e R s m args below meth c cells slots Q pc (a0 :: a1 :: a2 :: a3 :: a4 :: some (.int x) :: Lr) st := fun H locs ls hP hD hS hl => by
  obtain ⟨j, hj⟩ := List.getElem?_of_mem ((mem_ents (a0 :: a1 :: a2 :: a3 :: a4 :: some (Value.int x) :: Lr) 0).mpr ⟨Nat.zero_le 5, (rfl : (a0 :: a1 :: a2 :: a3 :: a4 :: some (Value.int x) :: Lr)[5 - 0]? = some (some (Value.int x)))⟩)
  exact lv_iinc C.1.1 C.1.2.1 d hl.1 hj hv (lL_lt hl (k := 5) rfl) rfl (fun ls2 h2 => kk H locs ls2 hP hD hS (lL_st hl (i := 5) rfl rfl rfl h2))
theorem r_iload6 (C : CX D A own cc n ret tb p s m args meth c) {a0 a1 a2 a3 a4 a5 : Option Value} {Lr : List (Option Value)} {x : Int32} (d : decode cc pc = .ok (.iload 6, 2)) (kk : V D A n S p l e R s m args below meth c cells slots Q (pc + 2) (a0 :: a1 :: a2 :: a3 :: a4 :: a5 :: some (.int x) :: Lr) (.int x :: st)) : V D A n S p l e R s m args below meth c cells slots Q pc (a0 :: a1 :: a2 :: a3 :: a4 :: a5 :: some (.int x) :: Lr) st := fun H locs ls hP hD hS hl => lv_iload C.1.1 C.1.2.1 d (lL_at hl 6 rfl) (kk H locs ls hP hD hS hl)
theorem r_aload6 (C : CX D A own cc n ret tb p s m args meth c) {a0 a1 a2 a3 a4 a5 : Option Value} {Lr : List (Option Value)} {x : Nat} (d : decode cc pc = .ok (.aload 6, 2)) (kk : V D A n S p l e R s m args below meth c cells slots Q (pc + 2) (a0 :: a1 :: a2 :: a3 :: a4 :: a5 :: some (.ref x) :: Lr) (.ref x :: st)) : V D A n S p l e R s m args below meth c cells slots Q pc (a0 :: a1 :: a2 :: a3 :: a4 :: a5 :: some (.ref x) :: Lr) st := fun H locs ls hP hD hS hl => lv_aload C.1.1 C.1.2.1 d (lL_at hl 6 rfl) (kk H locs ls hP hD hS hl)
theorem r_aloadn6 (C : CX D A own cc n ret tb p s m args meth c) {a0 a1 a2 a3 a4 a5 : Option Value} {Lr : List (Option Value)}  (d : decode cc pc = .ok (.aload 6, 2)) (kk : V D A n S p l e R s m args below meth c cells slots Q (pc + 2) (a0 :: a1 :: a2 :: a3 :: a4 :: a5 :: some (.null) :: Lr) (.null :: st)) : V D A n S p l e R s m args below meth c cells slots Q pc (a0 :: a1 :: a2 :: a3 :: a4 :: a5 :: some (.null) :: Lr) st := fun H locs ls hP hD hS hl => lv_aloadN C.1.1 C.1.2.1 d (lL_at hl 6 rfl) (kk H locs ls hP hD hS hl)
theorem r_aloadq6 (C : CX D A own cc n ret tb p s m args meth c) {a0 a1 a2 a3 a4 a5 : Option Value} {Lr : List (Option Value)} {r : Option Nat} (d : decode cc pc = .ok (.aload 6, 2)) (kk : V D A n S p l e R s m args below meth c cells slots Q (pc + 2) (a0 :: a1 :: a2 :: a3 :: a4 :: a5 :: some (va_rf r) :: Lr) (va_rf r :: st)) : V D A n S p l e R s m args below meth c cells slots Q pc (a0 :: a1 :: a2 :: a3 :: a4 :: a5 :: some (va_rf r) :: Lr) st := by
  cases r with
  | none => exact r_aloadn6 C d kk
  | some x => exact r_aload6 C d kk
theorem r_istore6 (C : CX D A own cc n ret tb p s m args meth c) {a0 a1 a2 a3 a4 a5 : Option Value} {Lr : List (Option Value)} {z : Option Value} {x : Int32} (d : decode cc pc = .ok (.istore 6, 2)) (kk : V D A n S p l e R s m args below meth c cells slots Q (pc + 2) (a0 :: a1 :: a2 :: a3 :: a4 :: a5 :: some (.int x) :: Lr) st) : V D A n S p l e R s m args below meth c cells slots Q pc (a0 :: a1 :: a2 :: a3 :: a4 :: a5 :: z :: Lr) (.int x :: st) := fun H locs ls hP hD hS hl => lv_istore C.1.1 C.1.2.1 d hl.1 (lL_lt hl (k := 6) rfl) rfl (fun ls2 h2 => kk H locs ls2 hP hD hS (lL_st hl (i := 6) rfl rfl rfl h2))
theorem r_astore6 (C : CX D A own cc n ret tb p s m args meth c) {a0 a1 a2 a3 a4 a5 : Option Value} {Lr : List (Option Value)} {z : Option Value} {x : Nat} (d : decode cc pc = .ok (.astore 6, 2)) (kk : V D A n S p l e R s m args below meth c cells slots Q (pc + 2) (a0 :: a1 :: a2 :: a3 :: a4 :: a5 :: some (.ref x) :: Lr) st) : V D A n S p l e R s m args below meth c cells slots Q pc (a0 :: a1 :: a2 :: a3 :: a4 :: a5 :: z :: Lr) (.ref x :: st) := fun H locs ls hP hD hS hl => lv_astore C.1.1 C.1.2.1 d hl.1 (lL_lt hl (k := 6) rfl) rfl (fun ls2 h2 => kk H locs ls2 hP hD hS (lL_st hl (i := 6) rfl rfl rfl h2))
theorem r_astoren6 (C : CX D A own cc n ret tb p s m args meth c) {a0 a1 a2 a3 a4 a5 : Option Value} {Lr : List (Option Value)} {z : Option Value}  (d : decode cc pc = .ok (.astore 6, 2)) (kk : V D A n S p l e R s m args below meth c cells slots Q (pc + 2) (a0 :: a1 :: a2 :: a3 :: a4 :: a5 :: some (.null) :: Lr) st) : V D A n S p l e R s m args below meth c cells slots Q pc (a0 :: a1 :: a2 :: a3 :: a4 :: a5 :: z :: Lr) (.null :: st) := fun H locs ls hP hD hS hl => lv_astoreN C.1.1 C.1.2.1 d hl.1 (lL_lt hl (k := 6) rfl) rfl (fun ls2 h2 => kk H locs ls2 hP hD hS (lL_st hl (i := 6) rfl rfl rfl h2))
theorem r_astoreq6 (C : CX D A own cc n ret tb p s m args meth c) {a0 a1 a2 a3 a4 a5 : Option Value} {Lr : List (Option Value)} {z : Option Value} {r : Option Nat} (d : decode cc pc = .ok (.astore 6, 2)) (kk : V D A n S p l e R s m args below meth c cells slots Q (pc + 2) (a0 :: a1 :: a2 :: a3 :: a4 :: a5 :: some (va_rf r) :: Lr) st) : V D A n S p l e R s m args below meth c cells slots Q pc (a0 :: a1 :: a2 :: a3 :: a4 :: a5 :: z :: Lr) (va_rf r :: st) := by
  cases r with
  | none => exact r_astoren6 C d kk
  | some x => exact r_astore6 C d kk
theorem r_iinc6 (C : CX D A own cc n ret tb p s m args meth c) {a0 a1 a2 a3 a4 a5 : Option Value} {Lr : List (Option Value)} {k : Int} {x v : Int32} (d : decode cc pc = .ok (.iinc 6 k, 3)) (hv : x + Int32.ofInt k = v) (kk : V D A n S p l e R s m args below meth c cells slots Q (pc + 3) (a0 :: a1 :: a2 :: a3 :: a4 :: a5 :: some (.int v) :: Lr) st) : V D A n S p l e R s m args below meth c cells slots Q pc (a0 :: a1 :: a2 :: a3 :: a4 :: a5 :: some (.int x) :: Lr) st := fun H locs ls hP hD hS hl => by
  obtain ⟨j, hj⟩ := List.getElem?_of_mem ((mem_ents (a0 :: a1 :: a2 :: a3 :: a4 :: a5 :: some (Value.int x) :: Lr) 0).mpr ⟨Nat.zero_le 6, (rfl : (a0 :: a1 :: a2 :: a3 :: a4 :: a5 :: some (Value.int x) :: Lr)[6 - 0]? = some (some (Value.int x)))⟩)
  exact lv_iinc C.1.1 C.1.2.1 d hl.1 hj hv (lL_lt hl (k := 6) rfl) rfl (fun ls2 h2 => kk H locs ls2 hP hD hS (lL_st hl (i := 6) rfl rfl rfl h2))
theorem r_iload7 (C : CX D A own cc n ret tb p s m args meth c) {a0 a1 a2 a3 a4 a5 a6 : Option Value} {Lr : List (Option Value)} {x : Int32} (d : decode cc pc = .ok (.iload 7, 2)) (kk : V D A n S p l e R s m args below meth c cells slots Q (pc + 2) (a0 :: a1 :: a2 :: a3 :: a4 :: a5 :: a6 :: some (.int x) :: Lr) (.int x :: st)) : V D A n S p l e R s m args below meth c cells slots Q pc (a0 :: a1 :: a2 :: a3 :: a4 :: a5 :: a6 :: some (.int x) :: Lr) st := fun H locs ls hP hD hS hl => lv_iload C.1.1 C.1.2.1 d (lL_at hl 7 rfl) (kk H locs ls hP hD hS hl)
theorem r_aload7 (C : CX D A own cc n ret tb p s m args meth c) {a0 a1 a2 a3 a4 a5 a6 : Option Value} {Lr : List (Option Value)} {x : Nat} (d : decode cc pc = .ok (.aload 7, 2)) (kk : V D A n S p l e R s m args below meth c cells slots Q (pc + 2) (a0 :: a1 :: a2 :: a3 :: a4 :: a5 :: a6 :: some (.ref x) :: Lr) (.ref x :: st)) : V D A n S p l e R s m args below meth c cells slots Q pc (a0 :: a1 :: a2 :: a3 :: a4 :: a5 :: a6 :: some (.ref x) :: Lr) st := fun H locs ls hP hD hS hl => lv_aload C.1.1 C.1.2.1 d (lL_at hl 7 rfl) (kk H locs ls hP hD hS hl)
theorem r_aloadn7 (C : CX D A own cc n ret tb p s m args meth c) {a0 a1 a2 a3 a4 a5 a6 : Option Value} {Lr : List (Option Value)}  (d : decode cc pc = .ok (.aload 7, 2)) (kk : V D A n S p l e R s m args below meth c cells slots Q (pc + 2) (a0 :: a1 :: a2 :: a3 :: a4 :: a5 :: a6 :: some (.null) :: Lr) (.null :: st)) : V D A n S p l e R s m args below meth c cells slots Q pc (a0 :: a1 :: a2 :: a3 :: a4 :: a5 :: a6 :: some (.null) :: Lr) st := fun H locs ls hP hD hS hl => lv_aloadN C.1.1 C.1.2.1 d (lL_at hl 7 rfl) (kk H locs ls hP hD hS hl)
theorem r_aloadq7 (C : CX D A own cc n ret tb p s m args meth c) {a0 a1 a2 a3 a4 a5 a6 : Option Value} {Lr : List (Option Value)} {r : Option Nat} (d : decode cc pc = .ok (.aload 7, 2)) (kk : V D A n S p l e R s m args below meth c cells slots Q (pc + 2) (a0 :: a1 :: a2 :: a3 :: a4 :: a5 :: a6 :: some (va_rf r) :: Lr) (va_rf r :: st)) : V D A n S p l e R s m args below meth c cells slots Q pc (a0 :: a1 :: a2 :: a3 :: a4 :: a5 :: a6 :: some (va_rf r) :: Lr) st := by
  cases r with
  | none => exact r_aloadn7 C d kk
  | some x => exact r_aload7 C d kk
theorem r_istore7 (C : CX D A own cc n ret tb p s m args meth c) {a0 a1 a2 a3 a4 a5 a6 : Option Value} {Lr : List (Option Value)} {z : Option Value} {x : Int32} (d : decode cc pc = .ok (.istore 7, 2)) (kk : V D A n S p l e R s m args below meth c cells slots Q (pc + 2) (a0 :: a1 :: a2 :: a3 :: a4 :: a5 :: a6 :: some (.int x) :: Lr) st) : V D A n S p l e R s m args below meth c cells slots Q pc (a0 :: a1 :: a2 :: a3 :: a4 :: a5 :: a6 :: z :: Lr) (.int x :: st) := fun H locs ls hP hD hS hl => lv_istore C.1.1 C.1.2.1 d hl.1 (lL_lt hl (k := 7) rfl) rfl (fun ls2 h2 => kk H locs ls2 hP hD hS (lL_st hl (i := 7) rfl rfl rfl h2))
theorem r_astore7 (C : CX D A own cc n ret tb p s m args meth c) {a0 a1 a2 a3 a4 a5 a6 : Option Value} {Lr : List (Option Value)} {z : Option Value} {x : Nat} (d : decode cc pc = .ok (.astore 7, 2)) (kk : V D A n S p l e R s m args below meth c cells slots Q (pc + 2) (a0 :: a1 :: a2 :: a3 :: a4 :: a5 :: a6 :: some (.ref x) :: Lr) st) : V D A n S p l e R s m args below meth c cells slots Q pc (a0 :: a1 :: a2 :: a3 :: a4 :: a5 :: a6 :: z :: Lr) (.ref x :: st) := fun H locs ls hP hD hS hl => lv_astore C.1.1 C.1.2.1 d hl.1 (lL_lt hl (k := 7) rfl) rfl (fun ls2 h2 => kk H locs ls2 hP hD hS (lL_st hl (i := 7) rfl rfl rfl h2))
theorem r_astoren7 (C : CX D A own cc n ret tb p s m args meth c) {a0 a1 a2 a3 a4 a5 a6 : Option Value} {Lr : List (Option Value)} {z : Option Value}  (d : decode cc pc = .ok (.astore 7, 2)) (kk : V D A n S p l e R s m args below meth c cells slots Q (pc + 2) (a0 :: a1 :: a2 :: a3 :: a4 :: a5 :: a6 :: some (.null) :: Lr) st) : V D A n S p l e R s m args below meth c cells slots Q pc (a0 :: a1 :: a2 :: a3 :: a4 :: a5 :: a6 :: z :: Lr) (.null :: st) := fun H locs ls hP hD hS hl => lv_astoreN C.1.1 C.1.2.1 d hl.1 (lL_lt hl (k := 7) rfl) rfl (fun ls2 h2 => kk H locs ls2 hP hD hS (lL_st hl (i := 7) rfl rfl rfl h2))
theorem r_astoreq7 (C : CX D A own cc n ret tb p s m args meth c) {a0 a1 a2 a3 a4 a5 a6 : Option Value} {Lr : List (Option Value)} {z : Option Value} {r : Option Nat} (d : decode cc pc = .ok (.astore 7, 2)) (kk : V D A n S p l e R s m args below meth c cells slots Q (pc + 2) (a0 :: a1 :: a2 :: a3 :: a4 :: a5 :: a6 :: some (va_rf r) :: Lr) st) : V D A n S p l e R s m args below meth c cells slots Q pc (a0 :: a1 :: a2 :: a3 :: a4 :: a5 :: a6 :: z :: Lr) (va_rf r :: st) := by
  cases r with
  | none => exact r_astoren7 C d kk
  | some x => exact r_astore7 C d kk
theorem r_iinc7 (C : CX D A own cc n ret tb p s m args meth c) {a0 a1 a2 a3 a4 a5 a6 : Option Value} {Lr : List (Option Value)} {k : Int} {x v : Int32} (d : decode cc pc = .ok (.iinc 7 k, 3)) (hv : x + Int32.ofInt k = v) (kk : V D A n S p l e R s m args below meth c cells slots Q (pc + 3) (a0 :: a1 :: a2 :: a3 :: a4 :: a5 :: a6 :: some (.int v) :: Lr) st) : V D A n S p l e R s m args below meth c cells slots Q pc (a0 :: a1 :: a2 :: a3 :: a4 :: a5 :: a6 :: some (.int x) :: Lr) st := fun H locs ls hP hD hS hl => by
  obtain ⟨j, hj⟩ := List.getElem?_of_mem ((mem_ents (a0 :: a1 :: a2 :: a3 :: a4 :: a5 :: a6 :: some (Value.int x) :: Lr) 0).mpr ⟨Nat.zero_le 7, (rfl : (a0 :: a1 :: a2 :: a3 :: a4 :: a5 :: a6 :: some (Value.int x) :: Lr)[7 - 0]? = some (some (Value.int x)))⟩)
  exact lv_iinc C.1.1 C.1.2.1 d hl.1 hj hv (lL_lt hl (k := 7) rfl) rfl (fun ls2 h2 => kk H locs ls2 hP hD hS (lL_st hl (i := 7) rfl rfl rfl h2))
theorem r_iload8 (C : CX D A own cc n ret tb p s m args meth c) {a0 a1 a2 a3 a4 a5 a6 a7 : Option Value} {Lr : List (Option Value)} {x : Int32} (d : decode cc pc = .ok (.iload 8, 2)) (kk : V D A n S p l e R s m args below meth c cells slots Q (pc + 2) (a0 :: a1 :: a2 :: a3 :: a4 :: a5 :: a6 :: a7 :: some (.int x) :: Lr) (.int x :: st)) : V D A n S p l e R s m args below meth c cells slots Q pc (a0 :: a1 :: a2 :: a3 :: a4 :: a5 :: a6 :: a7 :: some (.int x) :: Lr) st := fun H locs ls hP hD hS hl => lv_iload C.1.1 C.1.2.1 d (lL_at hl 8 rfl) (kk H locs ls hP hD hS hl)
theorem r_aload8 (C : CX D A own cc n ret tb p s m args meth c) {a0 a1 a2 a3 a4 a5 a6 a7 : Option Value} {Lr : List (Option Value)} {x : Nat} (d : decode cc pc = .ok (.aload 8, 2)) (kk : V D A n S p l e R s m args below meth c cells slots Q (pc + 2) (a0 :: a1 :: a2 :: a3 :: a4 :: a5 :: a6 :: a7 :: some (.ref x) :: Lr) (.ref x :: st)) : V D A n S p l e R s m args below meth c cells slots Q pc (a0 :: a1 :: a2 :: a3 :: a4 :: a5 :: a6 :: a7 :: some (.ref x) :: Lr) st := fun H locs ls hP hD hS hl => lv_aload C.1.1 C.1.2.1 d (lL_at hl 8 rfl) (kk H locs ls hP hD hS hl)
theorem r_aloadn8 (C : CX D A own cc n ret tb p s m args meth c) {a0 a1 a2 a3 a4 a5 a6 a7 : Option Value} {Lr : List (Option Value)}  (d : decode cc pc = .ok (.aload 8, 2)) (kk : V D A n S p l e R s m args below meth c cells slots Q (pc + 2) (a0 :: a1 :: a2 :: a3 :: a4 :: a5 :: a6 :: a7 :: some (.null) :: Lr) (.null :: st)) : V D A n S p l e R s m args below meth c cells slots Q pc (a0 :: a1 :: a2 :: a3 :: a4 :: a5 :: a6 :: a7 :: some (.null) :: Lr) st := fun H locs ls hP hD hS hl => lv_aloadN C.1.1 C.1.2.1 d (lL_at hl 8 rfl) (kk H locs ls hP hD hS hl)
theorem r_aloadq8 (C : CX D A own cc n ret tb p s m args meth c) {a0 a1 a2 a3 a4 a5 a6 a7 : Option Value} {Lr : List (Option Value)} {r : Option Nat} (d : decode cc pc = .ok (.aload 8, 2)) (kk : V D A n S p l e R s m args below meth c cells slots Q (pc + 2) (a0 :: a1 :: a2 :: a3 :: a4 :: a5 :: a6 :: a7 :: some (va_rf r) :: Lr) (va_rf r :: st)) : V D A n S p l e R s m args below meth c cells slots Q pc (a0 :: a1 :: a2 :: a3 :: a4 :: a5 :: a6 :: a7 :: some (va_rf r) :: Lr) st := by
  cases r with
  | none => exact r_aloadn8 C d kk
  | some x => exact r_aload8 C d kk
theorem r_istore8 (C : CX D A own cc n ret tb p s m args meth c) {a0 a1 a2 a3 a4 a5 a6 a7 : Option Value} {Lr : List (Option Value)} {z : Option Value} {x : Int32} (d : decode cc pc = .ok (.istore 8, 2)) (kk : V D A n S p l e R s m args below meth c cells slots Q (pc + 2) (a0 :: a1 :: a2 :: a3 :: a4 :: a5 :: a6 :: a7 :: some (.int x) :: Lr) st) : V D A n S p l e R s m args below meth c cells slots Q pc (a0 :: a1 :: a2 :: a3 :: a4 :: a5 :: a6 :: a7 :: z :: Lr) (.int x :: st) := fun H locs ls hP hD hS hl => lv_istore C.1.1 C.1.2.1 d hl.1 (lL_lt hl (k := 8) rfl) rfl (fun ls2 h2 => kk H locs ls2 hP hD hS (lL_st hl (i := 8) rfl rfl rfl h2))
theorem r_astore8 (C : CX D A own cc n ret tb p s m args meth c) {a0 a1 a2 a3 a4 a5 a6 a7 : Option Value} {Lr : List (Option Value)} {z : Option Value} {x : Nat} (d : decode cc pc = .ok (.astore 8, 2)) (kk : V D A n S p l e R s m args below meth c cells slots Q (pc + 2) (a0 :: a1 :: a2 :: a3 :: a4 :: a5 :: a6 :: a7 :: some (.ref x) :: Lr) st) : V D A n S p l e R s m args below meth c cells slots Q pc (a0 :: a1 :: a2 :: a3 :: a4 :: a5 :: a6 :: a7 :: z :: Lr) (.ref x :: st) := fun H locs ls hP hD hS hl => lv_astore C.1.1 C.1.2.1 d hl.1 (lL_lt hl (k := 8) rfl) rfl (fun ls2 h2 => kk H locs ls2 hP hD hS (lL_st hl (i := 8) rfl rfl rfl h2))
theorem r_astoren8 (C : CX D A own cc n ret tb p s m args meth c) {a0 a1 a2 a3 a4 a5 a6 a7 : Option Value} {Lr : List (Option Value)} {z : Option Value}  (d : decode cc pc = .ok (.astore 8, 2)) (kk : V D A n S p l e R s m args below meth c cells slots Q (pc + 2) (a0 :: a1 :: a2 :: a3 :: a4 :: a5 :: a6 :: a7 :: some (.null) :: Lr) st) : V D A n S p l e R s m args below meth c cells slots Q pc (a0 :: a1 :: a2 :: a3 :: a4 :: a5 :: a6 :: a7 :: z :: Lr) (.null :: st) := fun H locs ls hP hD hS hl => lv_astoreN C.1.1 C.1.2.1 d hl.1 (lL_lt hl (k := 8) rfl) rfl (fun ls2 h2 => kk H locs ls2 hP hD hS (lL_st hl (i := 8) rfl rfl rfl h2))
theorem r_astoreq8 (C : CX D A own cc n ret tb p s m args meth c) {a0 a1 a2 a3 a4 a5 a6 a7 : Option Value} {Lr : List (Option Value)} {z : Option Value} {r : Option Nat} (d : decode cc pc = .ok (.astore 8, 2)) (kk : V D A n S p l e R s m args below meth c cells slots Q (pc + 2) (a0 :: a1 :: a2 :: a3 :: a4 :: a5 :: a6 :: a7 :: some (va_rf r) :: Lr) st) : V D A n S p l e R s m args below meth c cells slots Q pc (a0 :: a1 :: a2 :: a3 :: a4 :: a5 :: a6 :: a7 :: z :: Lr) (va_rf r :: st) := by
  cases r with
  | none => exact r_astoren8 C d kk
  | some x => exact r_astore8 C d kk
theorem r_iinc8 (C : CX D A own cc n ret tb p s m args meth c) {a0 a1 a2 a3 a4 a5 a6 a7 : Option Value} {Lr : List (Option Value)} {k : Int} {x v : Int32} (d : decode cc pc = .ok (.iinc 8 k, 3)) (hv : x + Int32.ofInt k = v) (kk : V D A n S p l e R s m args below meth c cells slots Q (pc + 3) (a0 :: a1 :: a2 :: a3 :: a4 :: a5 :: a6 :: a7 :: some (.int v) :: Lr) st) : V D A n S p l e R s m args below meth c cells slots Q pc (a0 :: a1 :: a2 :: a3 :: a4 :: a5 :: a6 :: a7 :: some (.int x) :: Lr) st := fun H locs ls hP hD hS hl => by
  obtain ⟨j, hj⟩ := List.getElem?_of_mem ((mem_ents (a0 :: a1 :: a2 :: a3 :: a4 :: a5 :: a6 :: a7 :: some (Value.int x) :: Lr) 0).mpr ⟨Nat.zero_le 8, (rfl : (a0 :: a1 :: a2 :: a3 :: a4 :: a5 :: a6 :: a7 :: some (Value.int x) :: Lr)[8 - 0]? = some (some (Value.int x)))⟩)
  exact lv_iinc C.1.1 C.1.2.1 d hl.1 hj hv (lL_lt hl (k := 8) rfl) rfl (fun ls2 h2 => kk H locs ls2 hP hD hS (lL_st hl (i := 8) rfl rfl rfl h2))
theorem r_iload9 (C : CX D A own cc n ret tb p s m args meth c) {a0 a1 a2 a3 a4 a5 a6 a7 a8 : Option Value} {Lr : List (Option Value)} {x : Int32} (d : decode cc pc = .ok (.iload 9, 2)) (kk : V D A n S p l e R s m args below meth c cells slots Q (pc + 2) (a0 :: a1 :: a2 :: a3 :: a4 :: a5 :: a6 :: a7 :: a8 :: some (.int x) :: Lr) (.int x :: st)) : V D A n S p l e R s m args below meth c cells slots Q pc (a0 :: a1 :: a2 :: a3 :: a4 :: a5 :: a6 :: a7 :: a8 :: some (.int x) :: Lr) st := fun H locs ls hP hD hS hl => lv_iload C.1.1 C.1.2.1 d (lL_at hl 9 rfl) (kk H locs ls hP hD hS hl)
theorem r_aload9 (C : CX D A own cc n ret tb p s m args meth c) {a0 a1 a2 a3 a4 a5 a6 a7 a8 : Option Value} {Lr : List (Option Value)} {x : Nat} (d : decode cc pc = .ok (.aload 9, 2)) (kk : V D A n S p l e R s m args below meth c cells slots Q (pc + 2) (a0 :: a1 :: a2 :: a3 :: a4 :: a5 :: a6 :: a7 :: a8 :: some (.ref x) :: Lr) (.ref x :: st)) : V D A n S p l e R s m args below meth c cells slots Q pc (a0 :: a1 :: a2 :: a3 :: a4 :: a5 :: a6 :: a7 :: a8 :: some (.ref x) :: Lr) st := fun H locs ls hP hD hS hl => lv_aload C.1.1 C.1.2.1 d (lL_at hl 9 rfl) (kk H locs ls hP hD hS hl)
theorem r_aloadn9 (C : CX D A own cc n ret tb p s m args meth c) {a0 a1 a2 a3 a4 a5 a6 a7 a8 : Option Value} {Lr : List (Option Value)}  (d : decode cc pc = .ok (.aload 9, 2)) (kk : V D A n S p l e R s m args below meth c cells slots Q (pc + 2) (a0 :: a1 :: a2 :: a3 :: a4 :: a5 :: a6 :: a7 :: a8 :: some (.null) :: Lr) (.null :: st)) : V D A n S p l e R s m args below meth c cells slots Q pc (a0 :: a1 :: a2 :: a3 :: a4 :: a5 :: a6 :: a7 :: a8 :: some (.null) :: Lr) st := fun H locs ls hP hD hS hl => lv_aloadN C.1.1 C.1.2.1 d (lL_at hl 9 rfl) (kk H locs ls hP hD hS hl)
theorem r_aloadq9 (C : CX D A own cc n ret tb p s m args meth c) {a0 a1 a2 a3 a4 a5 a6 a7 a8 : Option Value} {Lr : List (Option Value)} {r : Option Nat} (d : decode cc pc = .ok (.aload 9, 2)) (kk : V D A n S p l e R s m args below meth c cells slots Q (pc + 2) (a0 :: a1 :: a2 :: a3 :: a4 :: a5 :: a6 :: a7 :: a8 :: some (va_rf r) :: Lr) (va_rf r :: st)) : V D A n S p l e R s m args below meth c cells slots Q pc (a0 :: a1 :: a2 :: a3 :: a4 :: a5 :: a6 :: a7 :: a8 :: some (va_rf r) :: Lr) st := by
  cases r with
  | none => exact r_aloadn9 C d kk
  | some x => exact r_aload9 C d kk
theorem r_istore9 (C : CX D A own cc n ret tb p s m args meth c) {a0 a1 a2 a3 a4 a5 a6 a7 a8 : Option Value} {Lr : List (Option Value)} {z : Option Value} {x : Int32} (d : decode cc pc = .ok (.istore 9, 2)) (kk : V D A n S p l e R s m args below meth c cells slots Q (pc + 2) (a0 :: a1 :: a2 :: a3 :: a4 :: a5 :: a6 :: a7 :: a8 :: some (.int x) :: Lr) st) : V D A n S p l e R s m args below meth c cells slots Q pc (a0 :: a1 :: a2 :: a3 :: a4 :: a5 :: a6 :: a7 :: a8 :: z :: Lr) (.int x :: st) := fun H locs ls hP hD hS hl => lv_istore C.1.1 C.1.2.1 d hl.1 (lL_lt hl (k := 9) rfl) rfl (fun ls2 h2 => kk H locs ls2 hP hD hS (lL_st hl (i := 9) rfl rfl rfl h2))
theorem r_astore9 (C : CX D A own cc n ret tb p s m args meth c) {a0 a1 a2 a3 a4 a5 a6 a7 a8 : Option Value} {Lr : List (Option Value)} {z : Option Value} {x : Nat} (d : decode cc pc = .ok (.astore 9, 2)) (kk : V D A n S p l e R s m args below meth c cells slots Q (pc + 2) (a0 :: a1 :: a2 :: a3 :: a4 :: a5 :: a6 :: a7 :: a8 :: some (.ref x) :: Lr) st) : V D A n S p l e R s m args below meth c cells slots Q pc (a0 :: a1 :: a2 :: a3 :: a4 :: a5 :: a6 :: a7 :: a8 :: z :: Lr) (.ref x :: st) := fun H locs ls hP hD hS hl => lv_astore C.1.1 C.1.2.1 d hl.1 (lL_lt hl (k := 9) rfl) rfl (fun ls2 h2 => kk H locs ls2 hP hD hS (lL_st hl (i := 9) rfl rfl rfl h2))
theorem r_astoren9 (C : CX D A own cc n ret tb p s m args meth c) {a0 a1 a2 a3 a4 a5 a6 a7 a8 : Option Value} {Lr : List (Option Value)} {z : Option Value}  (d : decode cc pc = .ok (.astore 9, 2)) (kk : V D A n S p l e R s m args below meth c cells slots Q (pc + 2) (a0 :: a1 :: a2 :: a3 :: a4 :: a5 :: a6 :: a7 :: a8 :: some (.null) :: Lr) st) : V D A n S p l e R s m args below meth c cells slots Q pc (a0 :: a1 :: a2 :: a3 :: a4 :: a5 :: a6 :: a7 :: a8 :: z :: Lr) (.null :: st) := fun H locs ls hP hD hS hl => lv_astoreN C.1.1 C.1.2.1 d hl.1 (lL_lt hl (k := 9) rfl) rfl (fun ls2 h2 => kk H locs ls2 hP hD hS (lL_st hl (i := 9) rfl rfl rfl h2))
theorem r_astoreq9 (C : CX D A own cc n ret tb p s m args meth c) {a0 a1 a2 a3 a4 a5 a6 a7 a8 : Option Value} {Lr : List (Option Value)} {z : Option Value} {r : Option Nat} (d : decode cc pc = .ok (.astore 9, 2)) (kk : V D A n S p l e R s m args below meth c cells slots Q (pc + 2) (a0 :: a1 :: a2 :: a3 :: a4 :: a5 :: a6 :: a7 :: a8 :: some (va_rf r) :: Lr) st) : V D A n S p l e R s m args below meth c cells slots Q pc (a0 :: a1 :: a2 :: a3 :: a4 :: a5 :: a6 :: a7 :: a8 :: z :: Lr) (va_rf r :: st) := by
  cases r with
  | none => exact r_astoren9 C d kk
  | some x => exact r_astore9 C d kk
theorem r_iinc9 (C : CX D A own cc n ret tb p s m args meth c) {a0 a1 a2 a3 a4 a5 a6 a7 a8 : Option Value} {Lr : List (Option Value)} {k : Int} {x v : Int32} (d : decode cc pc = .ok (.iinc 9 k, 3)) (hv : x + Int32.ofInt k = v) (kk : V D A n S p l e R s m args below meth c cells slots Q (pc + 3) (a0 :: a1 :: a2 :: a3 :: a4 :: a5 :: a6 :: a7 :: a8 :: some (.int v) :: Lr) st) : V D A n S p l e R s m args below meth c cells slots Q pc (a0 :: a1 :: a2 :: a3 :: a4 :: a5 :: a6 :: a7 :: a8 :: some (.int x) :: Lr) st := fun H locs ls hP hD hS hl => by
  obtain ⟨j, hj⟩ := List.getElem?_of_mem ((mem_ents (a0 :: a1 :: a2 :: a3 :: a4 :: a5 :: a6 :: a7 :: a8 :: some (Value.int x) :: Lr) 0).mpr ⟨Nat.zero_le 9, (rfl : (a0 :: a1 :: a2 :: a3 :: a4 :: a5 :: a6 :: a7 :: a8 :: some (Value.int x) :: Lr)[9 - 0]? = some (some (Value.int x)))⟩)
  exact lv_iinc C.1.1 C.1.2.1 d hl.1 hj hv (lL_lt hl (k := 9) rfl) rfl (fun ls2 h2 => kk H locs ls2 hP hD hS (lL_st hl (i := 9) rfl rfl rfl h2))
theorem r_iload10 (C : CX D A own cc n ret tb p s m args meth c) {a0 a1 a2 a3 a4 a5 a6 a7 a8 a9 : Option Value} {Lr : List (Option Value)} {x : Int32} (d : decode cc pc = .ok (.iload 10, 2)) (kk : V D A n S p l e R s m args below meth c cells slots Q (pc + 2) (a0 :: a1 :: a2 :: a3 :: a4 :: a5 :: a6 :: a7 :: a8 :: a9 :: some (.int x) :: Lr) (.int x :: st)) : V D A n S p l e R s m args below meth c cells slots Q pc (a0 :: a1 :: a2 :: a3 :: a4 :: a5 :: a6 :: a7 :: a8 :: a9 :: some (.int x) :: Lr) st := fun H locs ls hP hD hS hl => lv_iload C.1.1 C.1.2.1 d (lL_at hl 10 rfl) (kk H locs ls hP hD hS hl)
theorem r_aload10 (C : CX D A own cc n ret tb p s m args meth c) {a0 a1 a2 a3 a4 a5 a6 a7 a8 a9 : Option Value} {Lr : List (Option Value)} {x : Nat} (d : decode cc pc = .ok (.aload 10, 2)) (kk : V D A n S p l e R s m args below meth c cells slots Q (pc + 2) (a0 :: a1 :: a2 :: a3 :: a4 :: a5 :: a6 :: a7 :: a8 :: a9 :: some (.ref x) :: Lr) (.ref x :: st)) : V D A n S p l e R s m args below meth c cells slots Q pc (a0 :: a1 :: a2 :: a3 :: a4 :: a5 :: a6 :: a7 :: a8 :: a9 :: some (.ref x) :: Lr) st := fun H locs ls hP hD hS hl => lv_aload C.1.1 C.1.2.1 d (lL_at hl 10 rfl) (kk H locs ls hP hD hS hl)
theorem r_aloadn10 (C : CX D A own cc n ret tb p s m args meth c) {a0 a1 a2 a3 a4 a5 a6 a7 a8 a9 : Option Value} {Lr : List (Option Value)}  (d : decode cc pc = .ok (.aload 10, 2)) (kk : V D A n S p l e R s m args below meth c cells slots Q (pc + 2) (a0 :: a1 :: a2 :: a3 :: a4 :: a5 :: a6 :: a7 :: a8 :: a9 :: some (.null) :: Lr) (.null :: st)) : V D A n S p l e R s m args below meth c cells slots Q pc (a0 :: a1 :: a2 :: a3 :: a4 :: a5 :: a6 :: a7 :: a8 :: a9 :: some (.null) :: Lr) st := fun H locs ls hP hD hS hl => lv_aloadN C.1.1 C.1.2.1 d (lL_at hl 10 rfl) (kk H locs ls hP hD hS hl)
theorem r_aloadq10 (C : CX D A own cc n ret tb p s m args meth c) {a0 a1 a2 a3 a4 a5 a6 a7 a8 a9 : Option Value} {Lr : List (Option Value)} {r : Option Nat} (d : decode cc pc = .ok (.aload 10, 2)) (kk : V D A n S p l e R s m args below meth c cells slots Q (pc + 2) (a0 :: a1 :: a2 :: a3 :: a4 :: a5 :: a6 :: a7 :: a8 :: a9 :: some (va_rf r) :: Lr) (va_rf r :: st)) : V D A n S p l e R s m args below meth c cells slots Q pc (a0 :: a1 :: a2 :: a3 :: a4 :: a5 :: a6 :: a7 :: a8 :: a9 :: some (va_rf r) :: Lr) st := by
  cases r with
  | none => exact r_aloadn10 C d kk
  | some x => exact r_aload10 C d kk
theorem r_istore10 (C : CX D A own cc n ret tb p s m args meth c) {a0 a1 a2 a3 a4 a5 a6 a7 a8 a9 : Option Value} {Lr : List (Option Value)} {z : Option Value} {x : Int32} (d : decode cc pc = .ok (.istore 10, 2)) (kk : V D A n S p l e R s m args below meth c cells slots Q (pc + 2) (a0 :: a1 :: a2 :: a3 :: a4 :: a5 :: a6 :: a7 :: a8 :: a9 :: some (.int x) :: Lr) st) : V D A n S p l e R s m args below meth c cells slots Q pc (a0 :: a1 :: a2 :: a3 :: a4 :: a5 :: a6 :: a7 :: a8 :: a9 :: z :: Lr) (.int x :: st) := fun H locs ls hP hD hS hl => lv_istore C.1.1 C.1.2.1 d hl.1 (lL_lt hl (k := 10) rfl) rfl (fun ls2 h2 => kk H locs ls2 hP hD hS (lL_st hl (i := 10) rfl rfl rfl h2))
theorem r_astore10 (C : CX D A own cc n ret tb p s m args meth c) {a0 a1 a2 a3 a4 a5 a6 a7 a8 a9 : Option Value} {Lr : List (Option Value)} {z : Option Value} {x : Nat} (d : decode cc pc = .ok (.astore 10, 2)) (kk : V D A n S p l e R s m args below meth c cells slots Q (pc + 2) (a0 :: a1 :: a2 :: a3 :: a4 :: a5 :: a6 :: a7 :: a8 :: a9 :: some (.ref x) :: Lr) st) : V D A n S p l e R s m args below meth c cells slots Q pc (a0 :: a1 :: a2 :: a3 :: a4 :: a5 :: a6 :: a7 :: a8 :: a9 :: z :: Lr) (.ref x :: st) := fun H locs ls hP hD hS hl => lv_astore C.1.1 C.1.2.1 d hl.1 (lL_lt hl (k := 10) rfl) rfl (fun ls2 h2 => kk H locs ls2 hP hD hS (lL_st hl (i := 10) rfl rfl rfl h2))
theorem r_astoren10 (C : CX D A own cc n ret tb p s m args meth c) {a0 a1 a2 a3 a4 a5 a6 a7 a8 a9 : Option Value} {Lr : List (Option Value)} {z : Option Value}  (d : decode cc pc = .ok (.astore 10, 2)) (kk : V D A n S p l e R s m args below meth c cells slots Q (pc + 2) (a0 :: a1 :: a2 :: a3 :: a4 :: a5 :: a6 :: a7 :: a8 :: a9 :: some (.null) :: Lr) st) : V D A n S p l e R s m args below meth c cells slots Q pc (a0 :: a1 :: a2 :: a3 :: a4 :: a5 :: a6 :: a7 :: a8 :: a9 :: z :: Lr) (.null :: st) := fun H locs ls hP hD hS hl => lv_astoreN C.1.1 C.1.2.1 d hl.1 (lL_lt hl (k := 10) rfl) rfl (fun ls2 h2 => kk H locs ls2 hP hD hS (lL_st hl (i := 10) rfl rfl rfl h2))
theorem r_astoreq10 (C : CX D A own cc n ret tb p s m args meth c) {a0 a1 a2 a3 a4 a5 a6 a7 a8 a9 : Option Value} {Lr : List (Option Value)} {z : Option Value} {r : Option Nat} (d : decode cc pc = .ok (.astore 10, 2)) (kk : V D A n S p l e R s m args below meth c cells slots Q (pc + 2) (a0 :: a1 :: a2 :: a3 :: a4 :: a5 :: a6 :: a7 :: a8 :: a9 :: some (va_rf r) :: Lr) st) : V D A n S p l e R s m args below meth c cells slots Q pc (a0 :: a1 :: a2 :: a3 :: a4 :: a5 :: a6 :: a7 :: a8 :: a9 :: z :: Lr) (va_rf r :: st) := by
  cases r with
  | none => exact r_astoren10 C d kk
  | some x => exact r_astore10 C d kk
theorem r_iinc10 (C : CX D A own cc n ret tb p s m args meth c) {a0 a1 a2 a3 a4 a5 a6 a7 a8 a9 : Option Value} {Lr : List (Option Value)} {k : Int} {x v : Int32} (d : decode cc pc = .ok (.iinc 10 k, 3)) (hv : x + Int32.ofInt k = v) (kk : V D A n S p l e R s m args below meth c cells slots Q (pc + 3) (a0 :: a1 :: a2 :: a3 :: a4 :: a5 :: a6 :: a7 :: a8 :: a9 :: some (.int v) :: Lr) st) : V D A n S p l e R s m args below meth c cells slots Q pc (a0 :: a1 :: a2 :: a3 :: a4 :: a5 :: a6 :: a7 :: a8 :: a9 :: some (.int x) :: Lr) st := fun H locs ls hP hD hS hl => by
  obtain ⟨j, hj⟩ := List.getElem?_of_mem ((mem_ents (a0 :: a1 :: a2 :: a3 :: a4 :: a5 :: a6 :: a7 :: a8 :: a9 :: some (Value.int x) :: Lr) 0).mpr ⟨Nat.zero_le 10, (rfl : (a0 :: a1 :: a2 :: a3 :: a4 :: a5 :: a6 :: a7 :: a8 :: a9 :: some (Value.int x) :: Lr)[10 - 0]? = some (some (Value.int x)))⟩)
  exact lv_iinc C.1.1 C.1.2.1 d hl.1 hj hv (lL_lt hl (k := 10) rfl) rfl (fun ls2 h2 => kk H locs ls2 hP hD hS (lL_st hl (i := 10) rfl rfl rfl h2))
theorem r_iload11 (C : CX D A own cc n ret tb p s m args meth c) {a0 a1 a2 a3 a4 a5 a6 a7 a8 a9 a10 : Option Value} {Lr : List (Option Value)} {x : Int32} (d : decode cc pc = .ok (.iload 11, 2)) (kk : V D A n S p l e R s m args below meth c cells slots Q (pc + 2) (a0 :: a1 :: a2 :: a3 :: a4 :: a5 :: a6 :: a7 :: a8 :: a9 :: a10 :: some (.int x) :: Lr) (.int x :: st)) : V D A n S p l e R s m args below meth c cells slots Q pc (a0 :: a1 :: a2 :: a3 :: a4 :: a5 :: a6 :: a7 :: a8 :: a9 :: a10 :: some (.int x) :: Lr) st := fun H locs ls hP hD hS hl => lv_iload C.1.1 C.1.2.1 d (lL_at hl 11 rfl) (kk H locs ls hP hD hS hl)
theorem r_aload11 (C : CX D A own cc n ret tb p s m args meth c) {a0 a1 a2 a3 a4 a5 a6 a7 a8 a9 a10 : Option Value} {Lr : List (Option Value)} {x : Nat} (d : decode cc pc = .ok (.aload 11, 2)) (kk : V D A n S p l e R s m args below meth c cells slots Q (pc + 2) (a0 :: a1 :: a2 :: a3 :: a4 :: a5 :: a6 :: a7 :: a8 :: a9 :: a10 :: some (.ref x) :: Lr) (.ref x :: st)) : V D A n S p l e R s m args below meth c cells slots Q pc (a0 :: a1 :: a2 :: a3 :: a4 :: a5 :: a6 :: a7 :: a8 :: a9 :: a10 :: some (.ref x) :: Lr) st := fun H locs ls hP hD hS hl => lv_aload C.1.1 C.1.2.1 d (lL_at hl 11 rfl) (kk H locs ls hP hD hS hl)
theorem r_aloadn11 (C : CX D A own cc n ret tb p s m args meth c) {a0 a1 a2 a3 a4 a5 a6 a7 a8 a9 a10 : Option Value} {Lr : List (Option Value)}  (d : decode cc pc = .ok (.aload 11, 2)) (kk : V D A n S p l e R s m args below meth c cells slots Q (pc + 2) (a0 :: a1 :: a2 :: a3 :: a4 :: a5 :: a6 :: a7 :: a8 :: a9 :: a10 :: some (.null) :: Lr) (.null :: st)) : V D A n S p l e R s m args below meth c cells slots Q pc (a0 :: a1 :: a2 :: a3 :: a4 :: a5 :: a6 :: a7 :: a8 :: a9 :: a10 :: some (.null) :: Lr) st := fun H locs ls hP hD hS hl => lv_aloadN C.1.1 C.1.2.1 d (lL_at hl 11 rfl) (kk H locs ls hP hD hS hl)
theorem r_aloadq11 (C : CX D A own cc n ret tb p s m args meth c) {a0 a1 a2 a3 a4 a5 a6 a7 a8 a9 a10 : Option Value} {Lr : List (Option Value)} {r : Option Nat} (d : decode cc pc = .ok (.aload 11, 2)) (kk : V D A n S p l e R s m args below meth c cells slots Q (pc + 2) (a0 :: a1 :: a2 :: a3 :: a4 :: a5 :: a6 :: a7 :: a8 :: a9 :: a10 :: some (va_rf r) :: Lr) (va_rf r :: st)) : V D A n S p l e R s m args below meth c cells slots Q pc (a0 :: a1 :: a2 :: a3 :: a4 :: a5 :: a6 :: a7 :: a8 :: a9 :: a10 :: some (va_rf r) :: Lr) st := by
  cases r with
  | none => exact r_aloadn11 C d kk
  | some x => exact r_aload11 C d kk
theorem r_istore11 (C : CX D A own cc n ret tb p s m args meth c) {a0 a1 a2 a3 a4 a5 a6 a7 a8 a9 a10 : Option Value} {Lr : List (Option Value)} {z : Option Value} {x : Int32} (d : decode cc pc = .ok (.istore 11, 2)) (kk : V D A n S p l e R s m args below meth c cells slots Q (pc + 2) (a0 :: a1 :: a2 :: a3 :: a4 :: a5 :: a6 :: a7 :: a8 :: a9 :: a10 :: some (.int x) :: Lr) st) : V D A n S p l e R s m args below meth c cells slots Q pc (a0 :: a1 :: a2 :: a3 :: a4 :: a5 :: a6 :: a7 :: a8 :: a9 :: a10 :: z :: Lr) (.int x :: st) := fun H locs ls hP hD hS hl => lv_istore C.1.1 C.1.2.1 d hl.1 (lL_lt hl (k := 11) rfl) rfl (fun ls2 h2 => kk H locs ls2 hP hD hS (lL_st hl (i := 11) rfl rfl rfl h2))
theorem r_astore11 (C : CX D A own cc n ret tb p s m args meth c) {a0 a1 a2 a3 a4 a5 a6 a7 a8 a9 a10 : Option Value} {Lr : List (Option Value)} {z : Option Value} {x : Nat} (d : decode cc pc = .ok (.astore 11, 2)) (kk : V D A n S p l e R s m args below meth c cells slots Q (pc + 2) (a0 :: a1 :: a2 :: a3 :: a4 :: a5 :: a6 :: a7 :: a8 :: a9 :: a10 :: some (.ref x) :: Lr) st) : V D A n S p l e R s m args below meth c cells slots Q pc (a0 :: a1 :: a2 :: a3 :: a4 :: a5 :: a6 :: a7 :: a8 :: a9 :: a10 :: z :: Lr) (.ref x :: st) := fun H locs ls hP hD hS hl => lv_astore C.1.1 C.1.2.1 d hl.1 (lL_lt hl (k := 11) rfl) rfl (fun ls2 h2 => kk H locs ls2 hP hD hS (lL_st hl (i := 11) rfl rfl rfl h2))
theorem r_astoren11 (C : CX D A own cc n ret tb p s m args meth c) {a0 a1 a2 a3 a4 a5 a6 a7 a8 a9 a10 : Option Value} {Lr : List (Option Value)} {z : Option Value}  (d : decode cc pc = .ok (.astore 11, 2)) (kk : V D A n S p l e R s m args below meth c cells slots Q (pc + 2) (a0 :: a1 :: a2 :: a3 :: a4 :: a5 :: a6 :: a7 :: a8 :: a9 :: a10 :: some (.null) :: Lr) st) : V D A n S p l e R s m args below meth c cells slots Q pc (a0 :: a1 :: a2 :: a3 :: a4 :: a5 :: a6 :: a7 :: a8 :: a9 :: a10 :: z :: Lr) (.null :: st) := fun H locs ls hP hD hS hl => lv_astoreN C.1.1 C.1.2.1 d hl.1 (lL_lt hl (k := 11) rfl) rfl (fun ls2 h2 => kk H locs ls2 hP hD hS (lL_st hl (i := 11) rfl rfl rfl h2))
theorem r_astoreq11 (C : CX D A own cc n ret tb p s m args meth c) {a0 a1 a2 a3 a4 a5 a6 a7 a8 a9 a10 : Option Value} {Lr : List (Option Value)} {z : Option Value} {r : Option Nat} (d : decode cc pc = .ok (.astore 11, 2)) (kk : V D A n S p l e R s m args below meth c cells slots Q (pc + 2) (a0 :: a1 :: a2 :: a3 :: a4 :: a5 :: a6 :: a7 :: a8 :: a9 :: a10 :: some (va_rf r) :: Lr) st) : V D A n S p l e R s m args below meth c cells slots Q pc (a0 :: a1 :: a2 :: a3 :: a4 :: a5 :: a6 :: a7 :: a8 :: a9 :: a10 :: z :: Lr) (va_rf r :: st) := by
  cases r with
  | none => exact r_astoren11 C d kk
  | some x => exact r_astore11 C d kk
theorem r_iinc11 (C : CX D A own cc n ret tb p s m args meth c) {a0 a1 a2 a3 a4 a5 a6 a7 a8 a9 a10 : Option Value} {Lr : List (Option Value)} {k : Int} {x v : Int32} (d : decode cc pc = .ok (.iinc 11 k, 3)) (hv : x + Int32.ofInt k = v) (kk : V D A n S p l e R s m args below meth c cells slots Q (pc + 3) (a0 :: a1 :: a2 :: a3 :: a4 :: a5 :: a6 :: a7 :: a8 :: a9 :: a10 :: some (.int v) :: Lr) st) : V D A n S p l e R s m args below meth c cells slots Q pc (a0 :: a1 :: a2 :: a3 :: a4 :: a5 :: a6 :: a7 :: a8 :: a9 :: a10 :: some (.int x) :: Lr) st := fun H locs ls hP hD hS hl => by
  obtain ⟨j, hj⟩ := List.getElem?_of_mem ((mem_ents (a0 :: a1 :: a2 :: a3 :: a4 :: a5 :: a6 :: a7 :: a8 :: a9 :: a10 :: some (Value.int x) :: Lr) 0).mpr ⟨Nat.zero_le 11, (rfl : (a0 :: a1 :: a2 :: a3 :: a4 :: a5 :: a6 :: a7 :: a8 :: a9 :: a10 :: some (Value.int x) :: Lr)[11 - 0]? = some (some (Value.int x)))⟩)
  exact lv_iinc C.1.1 C.1.2.1 d hl.1 hj hv (lL_lt hl (k := 11) rfl) rfl (fun ls2 h2 => kk H locs ls2 hP hD hS (lL_st hl (i := 11) rfl rfl rfl h2))
theorem r_wid  {k z : Nat} (h1 : cells ≤ k) (h2 : slots ≤ z) (kk : V D A n S p l e R s m args below meth c k z Q pc L st) : V D A n S p l e R s m args below meth c cells slots Q pc L st := fun H locs ls hP hD hS hl => W.widen h1 h2 (kk H locs ls hP hD hS hl)
theorem r_iret (C : CX D A own cc n ret tb p s m args meth c) {post : Int32 → St → Prop} {XC : String → State → State → Prop} {mc ms : Nat} {r : Int32} (hr : ret = some .int) (d : decode cc pc = .ok (.ireturn, 1)) (hp : post r S) (hc : cells ≤ mc) (hs : slots ≤ ms) : V D A n S p l e R s m args below meth c cells slots (vx_MQ below (va_Qi post (PoB D A) A) XC args s mc ms A) pc L [.int r] := fun H locs ls hP hD hS hl => W.widen hc hs (vx_ret (W.iret C.1.1 C.1.2.1 (C.2.2.2.2.1.trans hr) (fun t ht _ => ⟨⟨r, S, rfl, hp, by rw [PoB, ht]; exact ⟨hP, hD⟩⟩, hS.F ht⟩) hS.2.2 d C.2.2.2.2.2.1))
theorem r_zret (C : CX D A own cc n ret tb p s m args meth c) {post : Int32 → St → Prop} {XC : String → State → State → Prop} {mc ms : Nat} {r : Int32} (hr : ret = some .boolean) (hz : narrow .boolean (.int r) = .int r) (d : decode cc pc = .ok (.ireturn, 1)) (hp : post r S) (hc : cells ≤ mc) (hs : slots ≤ ms) : V D A n S p l e R s m args below meth c cells slots (vx_MQ below (va_Qi post (PoB D A) A) XC args s mc ms A) pc L [.int r] := fun H locs ls hP hD hS hl => W.widen hc hs (vx_ret (W.zret C.1.1 C.1.2.1 (C.2.2.2.2.1.trans hr) hz (fun t ht _ => ⟨⟨r, S, rfl, hp, by rw [PoB, ht]; exact ⟨hP, hD⟩⟩, hS.F ht⟩) hS.2.2 d C.2.2.2.2.2.1))
theorem r_vret (C : CX D A own cc n ret tb p s m args meth c) {post : St → Prop} {XC : String → State → State → Prop} {mc ms : Nat} (hr : ret = none) (d : decode cc pc = .ok (.return_, 1)) (hp : post S) (hc : cells ≤ mc) (hs : slots ≤ ms) : V D A n S p l e R s m args below meth c cells slots (vx_MQ below (va_Qv post (PoB D A) A) XC args s mc ms A) pc L [] := fun H locs ls hP hD hS hl => W.widen hc hs (vx_ret (W.vret C.1.1 C.1.2.1 (C.2.2.2.2.1.trans hr) (fun t ht _ => ⟨⟨S, rfl, hp, by rw [PoB, ht]; exact ⟨hP, hD⟩⟩, hS.F ht⟩) hS.2.2 d C.2.2.2.2.2.1))
theorem r_qret (C : CX D A own cc n ret tb p s m args meth c) {post : Option Nat → St → Prop} {XC : String → State → State → Prop} {mc ms : Nat} {r : Option Nat} {cn : String} (hr : ret = some (.object cn)) (d : decode cc pc = .ok (.areturn, 1)) (hp : post r S) (hc : cells ≤ mc) (hs : slots ≤ ms) : V D A n S p l e R s m args below meth c cells slots (vx_MQ below (va_Qq post (PoB D A) A) XC args s mc ms A) pc L [va_rf r] := fun H locs ls hP hD hS hl => W.widen hc hs (vx_ret (W.aret C.1.1 C.1.2.1 (C.2.2.2.2.1.trans hr) (Or.inl ⟨cn, rfl⟩) (va_rf_or r) (fun t ht _ => ⟨⟨r, S, rfl, hp, by rw [PoB, ht]; exact ⟨hP, hD⟩⟩, hS.F ht⟩) hS.2.2 d C.2.2.2.2.2.1))
theorem wS_at {T : List Nat} {ad : Nat → Nat} {f : Nat → va_E} {t : Nat} (ht : t ∈ T) : ∃ k : Nat, T[k]? = some t ∧ (wS (T, ad, f))[k]? = some (ad t, f t) := by
  obtain ⟨k, hk⟩ := List.getElem?_of_mem ht
  exact ⟨k, hk, by simp [wS, hk]⟩
theorem wS_set {T : List Nat} {ad : Nat → Nat} {f g : Nat → va_E} {e : va_E} {t k : Nat} (hD : va_D A (wS (T, ad, f))) (hk : T[k]? = some t) (hg : ∀ q : Nat, g q = va_up f t e q) : (wS (T, ad, f)).set k (ad t, e) = wS (T, ad, g) := by
  have hw : ∀ (j u : Nat), T[j]? = some u → (wS (T, ad, f))[j]? = some (ad u, f u) := fun j u h => by simp [wS, h]
  have hkl : k < (wS (T, ad, f)).length := (List.getElem?_eq_some_iff.mp (hw k t hk)).1
  apply List.ext_getElem?
  intro j
  by_cases hj : j = k
  · subst hj
    rw [List.getElem?_set_self hkl]
    simp [wS, hk, hg, va_up]
  · rw [List.getElem?_set_ne (Ne.symm hj)]
    cases hu : T[j]? with
    | none => simp [wS, hu]
    | some u =>
      have hut : u ≠ t := by
        intro e1
        subst e1
        exact hj (hD.1 j k _ _ (hw j u hu) (hw k u hk) rfl)
      simp [wS, hu, hg, va_up, hut]
theorem wS_push {T : List Nat} {ad ad' : Nat → Nat} {f g : Nat → va_E} {t : Nat} (h1 : ∀ k, k ∈ T → ad' k = ad k) (h2 : ∀ k, k ∈ T → g k = f k) : wS (T, ad, f) ++ [(ad' t, g t)] = wS (T ++ [t], ad', g) := by
  simp only [wS, List.map_append, List.map_cons, List.map_nil]
  congr 1
  apply List.map_congr_left
  intro k hk
  rw [h1 k hk, h2 k hk]
theorem wS_cg {T : List Nat} {ad ad' : Nat → Nat} {f g : Nat → va_E} (h1 : ∀ k, k ∈ T → ad' k = ad k) (h2 : ∀ k, k ∈ T → g k = f k) : wS (T, ad, f) = wS (T, ad', g) := by
  simp only [wS]
  apply List.map_congr_left
  intro k hk
  rw [h1 k hk, h2 k hk]
theorem r_cg {T : List Nat} {ad : Nat → Nat} {f : Nat → va_E} {ad2 : Nat → Nat} {g : Nat → va_E} (h1 : ∀ k, k ∈ T → ad2 k = ad k) (h2 : ∀ k, k ∈ T → g k = f k) (kk : V D A n (T, ad2, g) p l e R s m args below meth c cells slots Q pc L st) : V D A n (T, ad, f) p l e R s m args below meth c cells slots Q pc L st := fun H locs ls hP hD hS hl => kk H locs ls (by rw [← wS_cg h1 h2]; exact hP) (by rw [← wS_cg h1 h2]; exact hD) hS hl
theorem r_getf (C : CX D A own cc n ret tb p s m args meth c) {T : List Nat} {ad : Nat → Nat} {f : Nat → va_E} {Cn : String} {U : u_T} {N ci index : Nat} (hin : ∀ w ∈ u_ws Cn U N, w ∈ UW) (hc : vwCl[ci]? = some (Cn, U, N)) (k : Nat) (hk : k < N) {ref : String} (hl2 : Cond.fieldLink own index ref (U k).2.1 (U k).2.2.1 ∈ UW) (href : ref = (U k).1) {t : Nat} {fs : List Value} {v : Value} (ht : t ∈ T) (ho : f t = .inr (ci, fs)) (hv : fs[k]? = some v) (d : decode cc pc = .ok (.getfield index, 3)) (kk : V D A n (T, ad, f) p l e R s m args below meth c cells slots Q (pc + 3) L (v :: st)) : V D A n (T, ad, f) p l e R s m args below meth c cells slots Q pc L (.ref (ad t) :: st) := fun H locs ls hP hD hS hl => by
  subst href
  obtain ⟨q0, hq, hw⟩ := wS_at (ad := ad) (f := f) ht
  rw [ho] at hw
  exact va_get C.1.1 C.1.2.1 C.1.2.2.2.2 hin C.1.2.2.2.1 C.2.1 hP q0 hw hc k hk (C.1.2.2.2.2 _ hl2) (fun _ h => h) hv d (kk H locs ls hP hD hS hl)
theorem r_getfN (C : CX D A own cc n ret tb p s m args meth c) {T : List Nat} {ad : Nat → Nat} {f : Nat → va_E} {Cn : String} {U : u_T} {N ci index : Nat} (hin : ∀ w ∈ u_ws Cn U N, w ∈ UW) (hc : vwCl[ci]? = some (Cn, U, N)) (k : Nat) (hk : k < N) {ref host : String} (hl2 : (own, index, ref, (U k).2.1, (U k).2.2.1, host) ∈ NF) (href : ref = (U k).1) {t : Nat} {fs : List Value} {v : Value} (ht : t ∈ T) (ho : f t = .inr (ci, fs)) (hv : fs[k]? = some v) (d : decode cc pc = .ok (.getfield index, 3)) (kk : V D A n (T, ad, f) p l e R s m args below meth c cells slots Q (pc + 3) L (v :: st)) : V D A n (T, ad, f) p l e R s m args below meth c cells slots Q pc L (.ref (ad t) :: st) := fun H locs ls hP hD hS hl => by
  subst href
  obtain ⟨q0, hq, hw⟩ := wS_at (ad := ad) (f := f) ht
  rw [ho] at hw
  exact va_getN C.1.1 C.1.2.1 C.1.2.2.2.2 hin C.1.2.2.2.1 C.2.1 hP q0 hw hc k hk (va_Nw.use rfl (C.2.2.1.2.1 _ hl2)) (fun _ h => h) hv d (kk H locs ls hP hD hS hl)
theorem r_putf (C : CX D A own cc n ret tb p s m args meth c) {T : List Nat} {ad : Nat → Nat} {f : Nat → va_E} {Cn : String} {U : u_T} {N ci index : Nat} (hin : ∀ w ∈ u_ws Cn U N, w ∈ UW) (hc : vwCl[ci]? = some (Cn, U, N)) (k : Nat) (hk : k < N) {ref : String} (hl2 : Cond.fieldLink own index ref (U k).2.1 (U k).2.2.1 ∈ UW) (href : ref = (U k).1) (ty0 : Nat → FieldType) (hty : ∀ k, k < N → parseFieldDescriptor (U k).2.2.1 = some (ty0 k)) (hnm : ∀ a, a < N → ∀ b, b < N → a ≠ b → (U a).2.1 ≠ (U b).2.1) (hfin : (U k).2.2.2 = false) {ty : FieldType} {v : Value} (hd : parseFieldDescriptor (U k).2.2.1 = some ty) (hn : narrow ty v = v) (hfit : fits ty v = true) {t : Nat} {fs : List Value} (ht : t ∈ T) (ho : f t = .inr (ci, fs)) (hlen : k < fs.length) {g : Nat → va_E} (hg : ∀ q : Nat, g q = va_up f t (.inr (ci, fs.set k v)) q) (d : decode cc pc = .ok (.putfield index, 3)) (kk : V D A n (T, ad, g) p l e R s m args below meth c cells slots Q (pc + 3) L st) : V D A n (T, ad, f) p l e R s m args below meth c cells slots Q pc L (v :: .ref (ad t) :: st) := fun H locs ls hP hD hS hl => by
  subst href
  obtain ⟨q0, hq, hw⟩ := wS_at (ad := ad) (f := f) ht
  rw [ho] at hw
  refine va_put C.1.1 C.1.2.1 C.1.2.2.2.2 hin ty0 hty hnm C.1.2.2.2.1 C.2.1 hP hD hS q0 hw hc k hk (C.1.2.2.2.2 _ hl2) (fun _ h => h) hfin hd hn hfit hlen d fun H1 locs1 hP1 hD1 hS1 => ?_
  rw [wS_set hD hq hg] at hP1 hD1
  exact kk H1 locs1 ls hP1 hD1 hS1 hl
theorem r_putfN (C : CX D A own cc n ret tb p s m args meth c) {T : List Nat} {ad : Nat → Nat} {f : Nat → va_E} {Cn : String} {U : u_T} {N ci index : Nat} (hin : ∀ w ∈ u_ws Cn U N, w ∈ UW) (hc : vwCl[ci]? = some (Cn, U, N)) (k : Nat) (hk : k < N) {ref host : String} (hl2 : (own, index, ref, (U k).2.1, (U k).2.2.1, host) ∈ NF) (href : ref = (U k).1) (ty0 : Nat → FieldType) (hty : ∀ k, k < N → parseFieldDescriptor (U k).2.2.1 = some (ty0 k)) (hnm : ∀ a, a < N → ∀ b, b < N → a ≠ b → (U a).2.1 ≠ (U b).2.1) (hfin : (U k).2.2.2 = false) {ty : FieldType} {v : Value} (hd : parseFieldDescriptor (U k).2.2.1 = some ty) (hn : narrow ty v = v) (hfit : fits ty v = true) {t : Nat} {fs : List Value} (ht : t ∈ T) (ho : f t = .inr (ci, fs)) (hlen : k < fs.length) {g : Nat → va_E} (hg : ∀ q : Nat, g q = va_up f t (.inr (ci, fs.set k v)) q) (d : decode cc pc = .ok (.putfield index, 3)) (kk : V D A n (T, ad, g) p l e R s m args below meth c cells slots Q (pc + 3) L st) : V D A n (T, ad, f) p l e R s m args below meth c cells slots Q pc L (v :: .ref (ad t) :: st) := fun H locs ls hP hD hS hl => by
  subst href
  obtain ⟨q0, hq, hw⟩ := wS_at (ad := ad) (f := f) ht
  rw [ho] at hw
  refine va_putN C.1.1 C.1.2.1 C.1.2.2.2.2 hin ty0 hty hnm C.1.2.2.2.1 C.2.1 hP hD hS q0 hw hc k hk (va_Nw.use rfl (C.2.2.1.2.1 _ hl2)) (fun _ h => h) hfin hd hn hfit hlen d fun H1 locs1 hP1 hD1 hS1 => ?_
  rw [wS_set hD hq hg] at hP1 hD1
  exact kk H1 locs1 ls hP1 hD1 hS1 hl
theorem r_putfF (C : CX D A own cc n ret tb p s m args meth c) {T : List Nat} {ad : Nat → Nat} {f : Nat → va_E} {Cn : String} {U : u_T} {N ci index : Nat} (hin : ∀ w ∈ u_ws Cn U N, w ∈ UW) (hc : vwCl[ci]? = some (Cn, U, N)) (k : Nat) (hk : k < N) {ref : String} (hl2 : Cond.fieldLink own index ref (U k).2.1 (U k).2.2.1 ∈ UW) (href : ref = (U k).1) (ty0 : Nat → FieldType) (hty : ∀ k, k < N → parseFieldDescriptor (U k).2.2.1 = some (ty0 k)) (hnm : ∀ a, a < N → ∀ b, b < N → a ≠ b → (U a).2.1 ≠ (U b).2.1) (hfin : (U k).2.2.2 = true) (hinit : meth.name = "<init>") (hdecl : (U k).1 = own) {ty : FieldType} {v : Value} (hd : parseFieldDescriptor (U k).2.2.1 = some ty) (hn : narrow ty v = v) (hfit : fits ty v = true) {t : Nat} {fs : List Value} (ht : t ∈ T) (ho : f t = .inr (ci, fs)) (hlen : k < fs.length) {g : Nat → va_E} (hg : ∀ q : Nat, g q = va_up f t (.inr (ci, fs.set k v)) q) (d : decode cc pc = .ok (.putfield index, 3)) (kk : V D A n (T, ad, g) p l e R s m args below meth c cells slots Q (pc + 3) L st) : V D A n (T, ad, f) p l e R s m args below meth c cells slots Q pc L (v :: .ref (ad t) :: st) := fun H locs ls hP hD hS hl => by
  subst href
  obtain ⟨q0, hq, hw⟩ := wS_at (ad := ad) (f := f) ht
  rw [ho] at hw
  refine va_putF C.1.1 C.1.2.1 C.1.2.2.2.2 hin ty0 hty hnm C.1.2.2.2.1 C.2.1 hP hD hS q0 hw hc k hk (C.1.2.2.2.2 _ hl2) (fun _ h => h) hfin hinit hdecl hd hn hfit hlen d fun H1 locs1 hP1 hD1 hS1 => ?_
  rw [wS_set hD hq hg] at hP1 hD1
  exact kk H1 locs1 ls hP1 hD1 hS1 hl
theorem r_iald (C : CX D A own cc n ret tb p s m args meth c) {T : List Nat} {ad : Nat → Nat} {f : Nat → va_E} {t k : Nat} {N : Nat} {h : Nat → Int32} {x : Int32} (ht : t ∈ T) (ho : f t = .inl (D.2 0, N, .inl h)) (hx : x = nI k) (hk : k < N) (hN : N < 2 ^ 31) (d : decode cc pc = .ok (.iaload, 1)) (kk : V D A n (T, ad, f) p l e R s m args below meth c cells slots Q (pc + 1) L (.int (h k) :: st)) : V D A n (T, ad, f) p l e R s m args below meth c cells slots Q pc L (.int x :: .ref (ad t) :: st) := fun H locs ls hP hD hS hl => by
  subst hx
  obtain ⟨q0, hq, hw⟩ := wS_at (ad := ad) (f := f) ht
  rw [ho] at hw
  refine va_iald C.1.1 C.1.2.1 C.2.1 hP q0 0 hw rfl (vp_in_nI hk hN) d ?_
  rw [nI_clamp (Nat.lt_trans hk hN)]
  exact kk H locs ls hP hD hS hl
theorem r_iast (C : CX D A own cc n ret tb p s m args meth c) {T : List Nat} {ad : Nat → Nat} {f : Nat → va_E} {t k : Nat} {N : Nat} {h : Nat → Int32} {x y : Int32} (ht : t ∈ T) (ho : f t = .inl (D.2 0, N, .inl h)) (hx : x = nI k) (hk : k < N) (hN : N < 2 ^ 31) {g : Nat → va_E} (hg : ∀ q : Nat, g q = va_up f t (.inl (D.2 0, N, .inl (upd h k y))) q) (d : decode cc pc = .ok (.iastore, 1)) (kk : V D A n (T, ad, g) p l e R s m args below meth c cells slots Q (pc + 1) L st) : V D A n (T, ad, f) p l e R s m args below meth c cells slots Q pc L (.int y :: .int x :: .ref (ad t) :: st) := fun H locs ls hP hD hS hl => by
  subst hx
  obtain ⟨q0, hq, hw⟩ := wS_at (ad := ad) (f := f) ht
  rw [ho] at hw
  refine va_iast C.1.1 C.1.2.1 C.2.1 hP hD hS q0 0 hw rfl (vp_in_nI hk hN) d fun H1 locs1 hP1 hD1 hS1 => ?_
  rw [nI_clamp (Nat.lt_trans hk hN), wS_set hD hq hg] at hP1 hD1
  exact kk H1 locs1 ls hP1 hD1 hS1 hl
theorem r_zald (C : CX D A own cc n ret tb p s m args meth c) {T : List Nat} {ad : Nat → Nat} {f : Nat → va_E} {t k : Nat} {N : Nat} {h : Nat → Int32} {x : Int32} (ht : t ∈ T) (ho : f t = .inl (D.2 1, N, .inl h)) (hx : x = nI k) (hk : k < N) (hN : N < 2 ^ 31) (d : decode cc pc = .ok (.baload, 1)) (kk : V D A n (T, ad, f) p l e R s m args below meth c cells slots Q (pc + 1) L (.int (h k) :: st)) : V D A n (T, ad, f) p l e R s m args below meth c cells slots Q pc L (.int x :: .ref (ad t) :: st) := fun H locs ls hP hD hS hl => by
  subst hx
  obtain ⟨q0, hq, hw⟩ := wS_at (ad := ad) (f := f) ht
  rw [ho] at hw
  refine va_zald C.1.1 C.1.2.1 C.2.1 hP q0 1 hw rfl (vp_in_nI hk hN) d ?_
  rw [nI_clamp (Nat.lt_trans hk hN)]
  exact kk H locs ls hP hD hS hl
theorem r_alen (C : CX D A own cc n ret tb p s m args meth c) {T : List Nat} {ad : Nat → Nat} {f : Nat → va_E} {t : Nat} {N : Nat} {tk : Nat} {ty : FieldType} {cA : ClassId} {x : (Nat → Int32) ⊕ (Nat → Int64) ⊕ (Nat → UInt32) ⊕ (Nat → UInt64) ⊕ (Nat → Option Nat)} {v : Int32} (ht : t ∈ T) (ho : f t = .inl (cA, N, x)) (hty : (tyG D)[tk]? = some (cA, ty)) (hv : Int32.ofNat N = v) (d : decode cc pc = .ok (.arraylength, 1)) (kk : V D A n (T, ad, f) p l e R s m args below meth c cells slots Q (pc + 1) L (.int v :: st)) : V D A n (T, ad, f) p l e R s m args below meth c cells slots Q pc L (.ref (ad t) :: st) := fun H locs ls hP hD hS hl => by
  obtain ⟨q0, hq, hw⟩ := wS_at (ad := ad) (f := f) ht
  rw [ho] at hw
  exact va_alen C.1.1 C.1.2.1 C.2.1 hP q0 tk hw hty hv d (kk H locs ls hP hD hS hl)
theorem r_aald (C : CX D A own cc n ret tb p s m args meth c) {T : List Nat} {ad : Nat → Nat} {f : Nat → va_E} {t k : Nat} {N tk : Nat} {cA : ClassId} {Cn : String} {h : Nat → Option Nat} {x : Int32} (ht : t ∈ T) (ho : f t = .inl (cA, N, .inr (.inr (.inr (.inr h))))) (hty : (tyG D)[tk]? = some (cA, .object Cn)) (hx : x = nI k) (hk : k < N) (hN : N < 2 ^ 31) (d : decode cc pc = .ok (.aaload, 1)) (kk : V D A n (T, ad, f) p l e R s m args below meth c cells slots Q (pc + 1) L (va_rf (h k) :: st)) : V D A n (T, ad, f) p l e R s m args below meth c cells slots Q pc L (.int x :: .ref (ad t) :: st) := fun H locs ls hP hD hS hl => by
  subst hx
  obtain ⟨q0, hq, hw⟩ := wS_at (ad := ad) (f := f) ht
  rw [ho] at hw
  refine va_aldq C.1.1 C.1.2.1 C.2.1 hP q0 tk hw hty (vp_in_nI hk hN) d ?_
  rw [nI_clamp (Nat.lt_trans hk hN)]
  exact kk H locs ls hP hD hS hl
theorem r_aast (C : CX D A own cc n ret tb p s m args meth c) {T : List Nat} {ad : Nat → Nat} {f : Nat → va_E} {t u k : Nat} {N tk ci : Nat} {r : vw_C} {cA : ClassId} {fs : List Value} {h : Nat → Option Nat} {x : Int32} (ht : t ∈ T) (ho : f t = .inl (cA, N, .inr (.inr (.inr (.inr h))))) (hty : (tyG D)[tk]? = some (cA, .object r.1)) (hu : u ∈ T) (hou : f u = .inr (ci, fs)) (hc : vwCl[ci]? = some r) (hx : x = nI k) (hk : k < N) (hN : N < 2 ^ 31) {g : Nat → va_E} (hg : ∀ q : Nat, g q = va_up f t (.inl (cA, N, .inr (.inr (.inr (.inr (va_up h k (some (ad u)))))))) q) (d : decode cc pc = .ok (.aastore, 1)) (kk : V D A n (T, ad, g) p l e R s m args below meth c cells slots Q (pc + 1) L st) : V D A n (T, ad, f) p l e R s m args below meth c cells slots Q pc L (.ref (ad u) :: .int x :: .ref (ad t) :: st) := fun H locs ls hP hD hS hl => by
  subst hx
  obtain ⟨q0, hq, hw⟩ := wS_at (ad := ad) (f := f) ht
  obtain ⟨q1, -, hw1⟩ := wS_at (ad := ad) (f := f) hu
  rw [ho] at hw
  rw [hou] at hw1
  refine va_astq C.1.1 C.1.2.1 C.2.1 hP hD hS q0 tk q1 ci hw hty hw1 hc (vp_in_nI hk hN) d fun H1 locs1 hP1 hD1 hS1 => ?_
  rw [nI_clamp (Nat.lt_trans hk hN), wS_set hD hq hg] at hP1 hD1
  exact kk H1 locs1 ls hP1 hD1 hS1 hl
theorem r_lald (C : CX D A own cc n ret tb p s m args meth c) {T : List Nat} {ad : Nat → Nat} {f : Nat → va_E} {t k : Nat} {N : Nat} {h : Nat → Int64} {x : Int32} (ht : t ∈ T) (ho : f t = .inl (D.2 2, N, .inr (.inl h))) (hx : x = nI k) (hk : k < N) (hN : N < 2 ^ 31) (d : decode cc pc = .ok (.laload, 1)) (kk : V D A n (T, ad, f) p l e R s m args below meth c cells slots Q (pc + 1) L (.long (h k) :: st)) : V D A n (T, ad, f) p l e R s m args below meth c cells slots Q pc L (.int x :: .ref (ad t) :: st) := fun H locs ls hP hD hS hl => by
  subst hx
  obtain ⟨q0, hq, hw⟩ := wS_at (ad := ad) (f := f) ht
  rw [ho] at hw
  refine va_lald C.1.1 C.1.2.1 C.2.1 hP q0 2 hw rfl (vp_in_nI hk hN) d ?_
  rw [nI_clamp (Nat.lt_trans hk hN)]
  exact kk H locs ls hP hD hS hl
theorem words_of {y : MethodName} {cc' : ByteArray} {n' na index : Nat} {ret' : Option FieldType} {rm : Room} {mc ms : Nat} (C : CX D A own cc n ret tb p s m args meth c) (hl : Cond.methodLink own index y ∈ UW) (hini : Cond.initialized y.cls ∈ UW) (hcd : Cond.code y cc' n' ret' ∈ UW) (hd : y.cls ≠ "java/lang/invoke/MethodHandle" ∧ y.cls ≠ "java/lang/invoke/VarHandle" ∧ (parseMethodDescriptor y.desc).map (fun d => d.parameters.length) = some na) (hrc : rm.cells = mc) (hrs : rm.slots = ms) (hR : rm.frames + 1 ≤ R.frames ∧ 8 + (n' + 11) + rm.locals ≤ R.locals) : CallB R s args own index y cc' n' ret' (uws y cc' n' ret') rm mc ms na :=
  callB_of na C.1.2.2.2.2 (uws_in hcd) rfl hrc hrs (C.1.2.2.2.2 _ hini) (C.1.2.2.2.2 _ hl) hd hR
theorem r_callVI (C : CX D A own cc n ret tb p s m args meth c) {y : MethodName} {cc' : ByteArray} {n' na index : Nat} {ret' : Option FieldType} {rm : Room} {mc ms : Nat} {post : Int32 → St → Prop} {ex : String → Prop} {As st0 : List Value}  {t ci : Nat} {r : vw_C} {fs : List Value} (hM : KI D l y (uws y cc' n' ret') rm (.ref (S.2.1 t) :: As) S post ex mc ms) (hl2 : Cond.methodLink own index y ∈ UW) (hi : Cond.instanceMethod y ∈ UW) (hse : Cond.selects r.1 y y ∈ UW) (hini : Cond.initialized y.cls ∈ UW) (hcd : Cond.code y cc' n' ret' ∈ UW) (hd : y.cls ≠ "java/lang/invoke/MethodHandle" ∧ y.cls ≠ "java/lang/invoke/VarHandle" ∧ (parseMethodDescriptor y.desc).map (fun d => d.parameters.length) = some na) (ht : t ∈ S.1) (ho : S.2.2 t = .inr (ci, fs)) (hc : vwCl[ci]? = some r) (hst : st0 = As.reverse ++ .ref (S.2.1 t) :: st) (hna : As.length = na) (hcat : (st.map fun v => v.category).sum ≤ 8) (hrm : rm.cells = mc ∧ rm.slots = ms) (hR : rm.frames + 1 ≤ R.frames ∧ 8 + (n' + 11) + rm.locals ≤ R.locals) (hf : cells + mc ≤ R.cells ∧ slots + ms ≤ R.slots) (d : decode cc pc = .ok (.invokevirtual index, 3)) (kx : ∀ (E : String) (ce : Cell) (q9 : Addr) (H1 : Heap) (locs1 : List Loc) (ls : Array Slot), ex E → va_P D.1 vwCl (wS S) H1 → va_D A (wS S) → va_S A s.heap H1 locs1 → lL ls n L → H1[q9]? = some ce → ce.vm = .none → s.vm.findClass E = some ce.cls → vx_W p l e R s m args below meth c H1 locs1 (cells + mc) (slots + ms) Q (F0 m pc ls st) q9) (kk : ∀ (r : Int32) (S1 : St), post r S1 → V D A n S1 p l e R s m args below meth c (cells + mc) (slots + ms) Q (pc + 3) L (.int r :: st)) : V D A n S p l e R s m args below meth c cells slots Q pc L st0 := fun H locs ls hP hD hS hl =>
  vx_calli (vx_runV C.1 (hM H.size) ⟨(words_of C hl2 hini hcd hd hrm.1 hrm.2 hR), C.1.2.2.2.2 _ hi, C.1.2.2.2.2 _ hse⟩ (preV_of C hP hD hS ht ho hc) rfl hna hl.1.1 hst (lv_room hcat) d hf) hS (fun q _ hq => wA_sub C.2.2.2.2.2.2.1 hD hS q hq) (fun q hq => wA_sub C.2.2.2.2.2.2.1 hD hS q hq) (fun q _ hq => wA_sub C.2.2.2.2.2.2.1 hD hS q hq) (fun E ce q9 u t H1 locs1 ht _ _ hx hz hk hS1 h1 h2 h3 => kx E ce q9 H1 locs1 ls hx.1 (by have hq := hx.2.1; rw [ht] at hq; exact hq) hD hS1 hl h1 h2 h3) (fun r u t H1 locs1 ht _ hp hb hz hk hS1 => kk r u hp H1 locs1 ls (by have hq := hb.1; rw [ht] at hq; exact hq) (hb.2.weaken (fun _ q _ hq => wA_sub C.2.2.2.2.2.2.1 hD hS _ hq)) hS1 hl)
theorem r_callSI (C : CX D A own cc n ret tb p s m args meth c) {y : MethodName} {cc' : ByteArray} {n' na index : Nat} {ret' : Option FieldType} {rm : Room} {mc ms : Nat} {post : Int32 → St → Prop} {ex : String → Prop} {As st0 : List Value}  (hM : KI D l y (uws y cc' n' ret') rm As S post ex mc ms) (hl2 : Cond.methodLink own index y ∈ UW) (hi : Cond.static y ∈ UW) (hini : Cond.initialized y.cls ∈ UW) (hcd : Cond.code y cc' n' ret' ∈ UW) (hd : y.cls ≠ "java/lang/invoke/MethodHandle" ∧ y.cls ≠ "java/lang/invoke/VarHandle" ∧ (parseMethodDescriptor y.desc).map (fun d => d.parameters.length) = some na) (hst : st0 = As.reverse ++ st) (hna : As.length = na) (hcat : (st.map fun v => v.category).sum ≤ 8) (hrm : rm.cells = mc ∧ rm.slots = ms) (hR : rm.frames + 1 ≤ R.frames ∧ 8 + (n' + 11) + rm.locals ≤ R.locals) (hf : cells + mc ≤ R.cells ∧ slots + ms ≤ R.slots) (d : decode cc pc = .ok (.invokestatic index, 3)) (kx : ∀ (E : String) (ce : Cell) (q9 : Addr) (H1 : Heap) (locs1 : List Loc) (ls : Array Slot), ex E → va_P D.1 vwCl (wS S) H1 → va_D A (wS S) → va_S A s.heap H1 locs1 → lL ls n L → H1[q9]? = some ce → ce.vm = .none → s.vm.findClass E = some ce.cls → vx_W p l e R s m args below meth c H1 locs1 (cells + mc) (slots + ms) Q (F0 m pc ls st) q9) (kk : ∀ (r : Int32) (S1 : St), post r S1 → V D A n S1 p l e R s m args below meth c (cells + mc) (slots + ms) Q (pc + 3) L (.int r :: st)) : V D A n S p l e R s m args below meth c cells slots Q pc L st0 := fun H locs ls hP hD hS hl =>
  vx_calli (vx_runS C.1 (hM H.size) ⟨(words_of C hl2 hini hcd hd hrm.1 hrm.2 hR), C.1.2.2.2.2 _ hi⟩ (pre_of C hP hD hS) rfl hna hl.1.1 hst (lv_room hcat) d hf) hS (fun q _ hq => wA_sub C.2.2.2.2.2.2.1 hD hS q hq) (fun q hq => wA_sub C.2.2.2.2.2.2.1 hD hS q hq) (fun q _ hq => wA_sub C.2.2.2.2.2.2.1 hD hS q hq) (fun E ce q9 u t H1 locs1 ht _ _ hx hz hk hS1 h1 h2 h3 => kx E ce q9 H1 locs1 ls hx.1 (by have hq := hx.2.1; rw [ht] at hq; exact hq) hD hS1 hl h1 h2 h3) (fun r u t H1 locs1 ht _ hp hb hz hk hS1 => kk r u hp H1 locs1 ls (by have hq := hb.1; rw [ht] at hq; exact hq) (hb.2.weaken (fun _ q _ hq => wA_sub C.2.2.2.2.2.2.1 hD hS _ hq)) hS1 hl)
theorem r_callTI (C : CX D A own cc n ret tb p s m args meth c) {host : String} {y : MethodName} {cc' : ByteArray} {n' na index : Nat} {ret' : Option FieldType} {rm : Room} {mc ms : Nat} {post : Int32 → St → Prop} {ex : String → Prop} {As st0 : List Value}  (hM : KI D l y (uws y cc' n' ret') rm As S post ex mc ms) (hl2 : (own, index, y, host) ∈ NM) (hi : Cond.static y ∈ UW) (hini : Cond.initialized y.cls ∈ UW) (hcd : Cond.code y cc' n' ret' ∈ UW) (hd : y.cls ≠ "java/lang/invoke/MethodHandle" ∧ y.cls ≠ "java/lang/invoke/VarHandle" ∧ (parseMethodDescriptor y.desc).map (fun d => d.parameters.length) = some na) (hst : st0 = As.reverse ++ st) (hna : As.length = na) (hcat : (st.map fun v => v.category).sum ≤ 8) (hrm : rm.cells = mc ∧ rm.slots = ms) (hR : rm.frames + 1 ≤ R.frames ∧ 8 + (n' + 11) + rm.locals ≤ R.locals) (hf : cells + mc ≤ R.cells ∧ slots + ms ≤ R.slots) (d : decode cc pc = .ok (.invokestatic index, 3)) (kx : ∀ (E : String) (ce : Cell) (q9 : Addr) (H1 : Heap) (locs1 : List Loc) (ls : Array Slot), ex E → va_P D.1 vwCl (wS S) H1 → va_D A (wS S) → va_S A s.heap H1 locs1 → lL ls n L → H1[q9]? = some ce → ce.vm = .none → s.vm.findClass E = some ce.cls → vx_W p l e R s m args below meth c H1 locs1 (cells + mc) (slots + ms) Q (F0 m pc ls st) q9) (kk : ∀ (r : Int32) (S1 : St), post r S1 → V D A n S1 p l e R s m args below meth c (cells + mc) (slots + ms) Q (pc + 3) L (.int r :: st)) : V D A n S p l e R s m args below meth c cells slots Q pc L st0 := fun H locs ls hP hD hS hl =>
  vx_calli (vx_runSN C.1 (hM H.size) ⟨va_cnB na C.1.2.2.2.2 (uws_in hcd) rfl hrm.1 hrm.2 (C.2.2.1.2.2.1 _ hl2) (C.1.2.2.2.2 _ hini) hd hR, C.1.2.2.2.2 _ hi, trivial⟩ (pre_of C hP hD hS) rfl hna hl.1.1 hst (lv_room hcat) d hf) hS (fun q _ hq => wA_sub C.2.2.2.2.2.2.1 hD hS q hq) (fun q hq => wA_sub C.2.2.2.2.2.2.1 hD hS q hq) (fun q _ hq => wA_sub C.2.2.2.2.2.2.1 hD hS q hq) (fun E ce q9 u t H1 locs1 ht _ _ hx hz hk hS1 h1 h2 h3 => kx E ce q9 H1 locs1 ls hx.1 (by have hq := hx.2.1; rw [ht] at hq; exact hq) hD hS1 hl h1 h2 h3) (fun r u t H1 locs1 ht _ hp hb hz hk hS1 => kk r u hp H1 locs1 ls (by have hq := hb.1; rw [ht] at hq; exact hq) (hb.2.weaken (fun _ q _ hq => wA_sub C.2.2.2.2.2.2.1 hD hS _ hq)) hS1 hl)
theorem r_callVV (C : CX D A own cc n ret tb p s m args meth c) {y : MethodName} {cc' : ByteArray} {n' na index : Nat} {ret' : Option FieldType} {rm : Room} {mc ms : Nat} {post : St → Prop} {ex : String → Prop} {As st0 : List Value}  {t ci : Nat} {r : vw_C} {fs : List Value} (hM : KV D l y (uws y cc' n' ret') rm (.ref (S.2.1 t) :: As) S post ex mc ms) (hl2 : Cond.methodLink own index y ∈ UW) (hi : Cond.instanceMethod y ∈ UW) (hse : Cond.selects r.1 y y ∈ UW) (hini : Cond.initialized y.cls ∈ UW) (hcd : Cond.code y cc' n' ret' ∈ UW) (hd : y.cls ≠ "java/lang/invoke/MethodHandle" ∧ y.cls ≠ "java/lang/invoke/VarHandle" ∧ (parseMethodDescriptor y.desc).map (fun d => d.parameters.length) = some na) (ht : t ∈ S.1) (ho : S.2.2 t = .inr (ci, fs)) (hc : vwCl[ci]? = some r) (hst : st0 = As.reverse ++ .ref (S.2.1 t) :: st) (hna : As.length = na) (hcat : (st.map fun v => v.category).sum ≤ 8) (hrm : rm.cells = mc ∧ rm.slots = ms) (hR : rm.frames + 1 ≤ R.frames ∧ 8 + (n' + 11) + rm.locals ≤ R.locals) (hf : cells + mc ≤ R.cells ∧ slots + ms ≤ R.slots) (d : decode cc pc = .ok (.invokevirtual index, 3)) (kx : ∀ (E : String) (ce : Cell) (q9 : Addr) (H1 : Heap) (locs1 : List Loc) (ls : Array Slot), ex E → va_P D.1 vwCl (wS S) H1 → va_D A (wS S) → va_S A s.heap H1 locs1 → lL ls n L → H1[q9]? = some ce → ce.vm = .none → s.vm.findClass E = some ce.cls → vx_W p l e R s m args below meth c H1 locs1 (cells + mc) (slots + ms) Q (F0 m pc ls st) q9) (kk : ∀ S1 : St, post S1 → V D A n S1 p l e R s m args below meth c (cells + mc) (slots + ms) Q (pc + 3) L st) : V D A n S p l e R s m args below meth c cells slots Q pc L st0 := fun H locs ls hP hD hS hl =>
  vx_callv (vx_runV C.1 (hM H.size) ⟨(words_of C hl2 hini hcd hd hrm.1 hrm.2 hR), C.1.2.2.2.2 _ hi, C.1.2.2.2.2 _ hse⟩ (preV_of C hP hD hS ht ho hc) rfl hna hl.1.1 hst (lv_room hcat) d hf) hS (fun q _ hq => wA_sub C.2.2.2.2.2.2.1 hD hS q hq) (fun q hq => wA_sub C.2.2.2.2.2.2.1 hD hS q hq) (fun q _ hq => wA_sub C.2.2.2.2.2.2.1 hD hS q hq) (fun E ce q9 u t H1 locs1 ht _ _ hx hz hk hS1 h1 h2 h3 => kx E ce q9 H1 locs1 ls hx.1 (by have hq := hx.2.1; rw [ht] at hq; exact hq) hD hS1 hl h1 h2 h3) (fun u t H1 locs1 ht _ hp hb hz hk hS1 => kk u hp H1 locs1 ls (by have hq := hb.1; rw [ht] at hq; exact hq) (hb.2.weaken (fun _ q _ hq => wA_sub C.2.2.2.2.2.2.1 hD hS _ hq)) hS1 hl)
theorem r_callSV (C : CX D A own cc n ret tb p s m args meth c) {y : MethodName} {cc' : ByteArray} {n' na index : Nat} {ret' : Option FieldType} {rm : Room} {mc ms : Nat} {post : St → Prop} {ex : String → Prop} {As st0 : List Value}  (hM : KV D l y (uws y cc' n' ret') rm As S post ex mc ms) (hl2 : Cond.methodLink own index y ∈ UW) (hi : Cond.static y ∈ UW) (hini : Cond.initialized y.cls ∈ UW) (hcd : Cond.code y cc' n' ret' ∈ UW) (hd : y.cls ≠ "java/lang/invoke/MethodHandle" ∧ y.cls ≠ "java/lang/invoke/VarHandle" ∧ (parseMethodDescriptor y.desc).map (fun d => d.parameters.length) = some na) (hst : st0 = As.reverse ++ st) (hna : As.length = na) (hcat : (st.map fun v => v.category).sum ≤ 8) (hrm : rm.cells = mc ∧ rm.slots = ms) (hR : rm.frames + 1 ≤ R.frames ∧ 8 + (n' + 11) + rm.locals ≤ R.locals) (hf : cells + mc ≤ R.cells ∧ slots + ms ≤ R.slots) (d : decode cc pc = .ok (.invokestatic index, 3)) (kx : ∀ (E : String) (ce : Cell) (q9 : Addr) (H1 : Heap) (locs1 : List Loc) (ls : Array Slot), ex E → va_P D.1 vwCl (wS S) H1 → va_D A (wS S) → va_S A s.heap H1 locs1 → lL ls n L → H1[q9]? = some ce → ce.vm = .none → s.vm.findClass E = some ce.cls → vx_W p l e R s m args below meth c H1 locs1 (cells + mc) (slots + ms) Q (F0 m pc ls st) q9) (kk : ∀ S1 : St, post S1 → V D A n S1 p l e R s m args below meth c (cells + mc) (slots + ms) Q (pc + 3) L st) : V D A n S p l e R s m args below meth c cells slots Q pc L st0 := fun H locs ls hP hD hS hl =>
  vx_callv (vx_runS C.1 (hM H.size) ⟨(words_of C hl2 hini hcd hd hrm.1 hrm.2 hR), C.1.2.2.2.2 _ hi⟩ (pre_of C hP hD hS) rfl hna hl.1.1 hst (lv_room hcat) d hf) hS (fun q _ hq => wA_sub C.2.2.2.2.2.2.1 hD hS q hq) (fun q hq => wA_sub C.2.2.2.2.2.2.1 hD hS q hq) (fun q _ hq => wA_sub C.2.2.2.2.2.2.1 hD hS q hq) (fun E ce q9 u t H1 locs1 ht _ _ hx hz hk hS1 h1 h2 h3 => kx E ce q9 H1 locs1 ls hx.1 (by have hq := hx.2.1; rw [ht] at hq; exact hq) hD hS1 hl h1 h2 h3) (fun u t H1 locs1 ht _ hp hb hz hk hS1 => kk u hp H1 locs1 ls (by have hq := hb.1; rw [ht] at hq; exact hq) (hb.2.weaken (fun _ q _ hq => wA_sub C.2.2.2.2.2.2.1 hD hS _ hq)) hS1 hl)
theorem r_callTV (C : CX D A own cc n ret tb p s m args meth c) {host : String} {y : MethodName} {cc' : ByteArray} {n' na index : Nat} {ret' : Option FieldType} {rm : Room} {mc ms : Nat} {post : St → Prop} {ex : String → Prop} {As st0 : List Value}  (hM : KV D l y (uws y cc' n' ret') rm As S post ex mc ms) (hl2 : (own, index, y, host) ∈ NM) (hi : Cond.static y ∈ UW) (hini : Cond.initialized y.cls ∈ UW) (hcd : Cond.code y cc' n' ret' ∈ UW) (hd : y.cls ≠ "java/lang/invoke/MethodHandle" ∧ y.cls ≠ "java/lang/invoke/VarHandle" ∧ (parseMethodDescriptor y.desc).map (fun d => d.parameters.length) = some na) (hst : st0 = As.reverse ++ st) (hna : As.length = na) (hcat : (st.map fun v => v.category).sum ≤ 8) (hrm : rm.cells = mc ∧ rm.slots = ms) (hR : rm.frames + 1 ≤ R.frames ∧ 8 + (n' + 11) + rm.locals ≤ R.locals) (hf : cells + mc ≤ R.cells ∧ slots + ms ≤ R.slots) (d : decode cc pc = .ok (.invokestatic index, 3)) (kx : ∀ (E : String) (ce : Cell) (q9 : Addr) (H1 : Heap) (locs1 : List Loc) (ls : Array Slot), ex E → va_P D.1 vwCl (wS S) H1 → va_D A (wS S) → va_S A s.heap H1 locs1 → lL ls n L → H1[q9]? = some ce → ce.vm = .none → s.vm.findClass E = some ce.cls → vx_W p l e R s m args below meth c H1 locs1 (cells + mc) (slots + ms) Q (F0 m pc ls st) q9) (kk : ∀ S1 : St, post S1 → V D A n S1 p l e R s m args below meth c (cells + mc) (slots + ms) Q (pc + 3) L st) : V D A n S p l e R s m args below meth c cells slots Q pc L st0 := fun H locs ls hP hD hS hl =>
  vx_callv (vx_runSN C.1 (hM H.size) ⟨va_cnB na C.1.2.2.2.2 (uws_in hcd) rfl hrm.1 hrm.2 (C.2.2.1.2.2.1 _ hl2) (C.1.2.2.2.2 _ hini) hd hR, C.1.2.2.2.2 _ hi, trivial⟩ (pre_of C hP hD hS) rfl hna hl.1.1 hst (lv_room hcat) d hf) hS (fun q _ hq => wA_sub C.2.2.2.2.2.2.1 hD hS q hq) (fun q hq => wA_sub C.2.2.2.2.2.2.1 hD hS q hq) (fun q _ hq => wA_sub C.2.2.2.2.2.2.1 hD hS q hq) (fun E ce q9 u t H1 locs1 ht _ _ hx hz hk hS1 h1 h2 h3 => kx E ce q9 H1 locs1 ls hx.1 (by have hq := hx.2.1; rw [ht] at hq; exact hq) hD hS1 hl h1 h2 h3) (fun u t H1 locs1 ht _ hp hb hz hk hS1 => kk u hp H1 locs1 ls (by have hq := hb.1; rw [ht] at hq; exact hq) (hb.2.weaken (fun _ q _ hq => wA_sub C.2.2.2.2.2.2.1 hD hS _ hq)) hS1 hl)
theorem r_callVQ (C : CX D A own cc n ret tb p s m args meth c) {y : MethodName} {cc' : ByteArray} {n' na index : Nat} {ret' : Option FieldType} {rm : Room} {mc ms : Nat} {post : Option Nat → St → Prop} {ex : String → Prop} {As st0 : List Value}  {t ci : Nat} {r : vw_C} {fs : List Value} (hM : KQ D l y (uws y cc' n' ret') rm (.ref (S.2.1 t) :: As) S post ex mc ms) (hl2 : Cond.methodLink own index y ∈ UW) (hi : Cond.instanceMethod y ∈ UW) (hse : Cond.selects r.1 y y ∈ UW) (hini : Cond.initialized y.cls ∈ UW) (hcd : Cond.code y cc' n' ret' ∈ UW) (hd : y.cls ≠ "java/lang/invoke/MethodHandle" ∧ y.cls ≠ "java/lang/invoke/VarHandle" ∧ (parseMethodDescriptor y.desc).map (fun d => d.parameters.length) = some na) (ht : t ∈ S.1) (ho : S.2.2 t = .inr (ci, fs)) (hc : vwCl[ci]? = some r) (hst : st0 = As.reverse ++ .ref (S.2.1 t) :: st) (hna : As.length = na) (hcat : (st.map fun v => v.category).sum ≤ 8) (hrm : rm.cells = mc ∧ rm.slots = ms) (hR : rm.frames + 1 ≤ R.frames ∧ 8 + (n' + 11) + rm.locals ≤ R.locals) (hf : cells + mc ≤ R.cells ∧ slots + ms ≤ R.slots) (d : decode cc pc = .ok (.invokevirtual index, 3)) (kx : ∀ (E : String) (ce : Cell) (q9 : Addr) (H1 : Heap) (locs1 : List Loc) (ls : Array Slot), ex E → va_P D.1 vwCl (wS S) H1 → va_D A (wS S) → va_S A s.heap H1 locs1 → lL ls n L → H1[q9]? = some ce → ce.vm = .none → s.vm.findClass E = some ce.cls → vx_W p l e R s m args below meth c H1 locs1 (cells + mc) (slots + ms) Q (F0 m pc ls st) q9) (kk : ∀ (r : Option Nat) (S1 : St), post r S1 → V D A n S1 p l e R s m args below meth c (cells + mc) (slots + ms) Q (pc + 3) L (va_rf r :: st)) : V D A n S p l e R s m args below meth c cells slots Q pc L st0 := fun H locs ls hP hD hS hl =>
  vx_callq (vx_runV C.1 (hM H.size) ⟨(words_of C hl2 hini hcd hd hrm.1 hrm.2 hR), C.1.2.2.2.2 _ hi, C.1.2.2.2.2 _ hse⟩ (preV_of C hP hD hS ht ho hc) rfl hna hl.1.1 hst (lv_room hcat) d hf) hS (fun q _ hq => wA_sub C.2.2.2.2.2.2.1 hD hS q hq) (fun q hq => wA_sub C.2.2.2.2.2.2.1 hD hS q hq) (fun q _ hq => wA_sub C.2.2.2.2.2.2.1 hD hS q hq) (fun E ce q9 u t H1 locs1 ht _ _ hx hz hk hS1 h1 h2 h3 => kx E ce q9 H1 locs1 ls hx.1 (by have hq := hx.2.1; rw [ht] at hq; exact hq) hD hS1 hl h1 h2 h3) (fun r u t H1 locs1 ht _ hp hb hz hk hS1 => kk r u hp H1 locs1 ls (by have hq := hb.1; rw [ht] at hq; exact hq) (hb.2.weaken (fun _ q _ hq => wA_sub C.2.2.2.2.2.2.1 hD hS _ hq)) hS1 hl)
theorem r_callSQ (C : CX D A own cc n ret tb p s m args meth c) {y : MethodName} {cc' : ByteArray} {n' na index : Nat} {ret' : Option FieldType} {rm : Room} {mc ms : Nat} {post : Option Nat → St → Prop} {ex : String → Prop} {As st0 : List Value}  (hM : KQ D l y (uws y cc' n' ret') rm As S post ex mc ms) (hl2 : Cond.methodLink own index y ∈ UW) (hi : Cond.static y ∈ UW) (hini : Cond.initialized y.cls ∈ UW) (hcd : Cond.code y cc' n' ret' ∈ UW) (hd : y.cls ≠ "java/lang/invoke/MethodHandle" ∧ y.cls ≠ "java/lang/invoke/VarHandle" ∧ (parseMethodDescriptor y.desc).map (fun d => d.parameters.length) = some na) (hst : st0 = As.reverse ++ st) (hna : As.length = na) (hcat : (st.map fun v => v.category).sum ≤ 8) (hrm : rm.cells = mc ∧ rm.slots = ms) (hR : rm.frames + 1 ≤ R.frames ∧ 8 + (n' + 11) + rm.locals ≤ R.locals) (hf : cells + mc ≤ R.cells ∧ slots + ms ≤ R.slots) (d : decode cc pc = .ok (.invokestatic index, 3)) (kx : ∀ (E : String) (ce : Cell) (q9 : Addr) (H1 : Heap) (locs1 : List Loc) (ls : Array Slot), ex E → va_P D.1 vwCl (wS S) H1 → va_D A (wS S) → va_S A s.heap H1 locs1 → lL ls n L → H1[q9]? = some ce → ce.vm = .none → s.vm.findClass E = some ce.cls → vx_W p l e R s m args below meth c H1 locs1 (cells + mc) (slots + ms) Q (F0 m pc ls st) q9) (kk : ∀ (r : Option Nat) (S1 : St), post r S1 → V D A n S1 p l e R s m args below meth c (cells + mc) (slots + ms) Q (pc + 3) L (va_rf r :: st)) : V D A n S p l e R s m args below meth c cells slots Q pc L st0 := fun H locs ls hP hD hS hl =>
  vx_callq (vx_runS C.1 (hM H.size) ⟨(words_of C hl2 hini hcd hd hrm.1 hrm.2 hR), C.1.2.2.2.2 _ hi⟩ (pre_of C hP hD hS) rfl hna hl.1.1 hst (lv_room hcat) d hf) hS (fun q _ hq => wA_sub C.2.2.2.2.2.2.1 hD hS q hq) (fun q hq => wA_sub C.2.2.2.2.2.2.1 hD hS q hq) (fun q _ hq => wA_sub C.2.2.2.2.2.2.1 hD hS q hq) (fun E ce q9 u t H1 locs1 ht _ _ hx hz hk hS1 h1 h2 h3 => kx E ce q9 H1 locs1 ls hx.1 (by have hq := hx.2.1; rw [ht] at hq; exact hq) hD hS1 hl h1 h2 h3) (fun r u t H1 locs1 ht _ hp hb hz hk hS1 => kk r u hp H1 locs1 ls (by have hq := hb.1; rw [ht] at hq; exact hq) (hb.2.weaken (fun _ q _ hq => wA_sub C.2.2.2.2.2.2.1 hD hS _ hq)) hS1 hl)
theorem r_callTQ (C : CX D A own cc n ret tb p s m args meth c) {host : String} {y : MethodName} {cc' : ByteArray} {n' na index : Nat} {ret' : Option FieldType} {rm : Room} {mc ms : Nat} {post : Option Nat → St → Prop} {ex : String → Prop} {As st0 : List Value}  (hM : KQ D l y (uws y cc' n' ret') rm As S post ex mc ms) (hl2 : (own, index, y, host) ∈ NM) (hi : Cond.static y ∈ UW) (hini : Cond.initialized y.cls ∈ UW) (hcd : Cond.code y cc' n' ret' ∈ UW) (hd : y.cls ≠ "java/lang/invoke/MethodHandle" ∧ y.cls ≠ "java/lang/invoke/VarHandle" ∧ (parseMethodDescriptor y.desc).map (fun d => d.parameters.length) = some na) (hst : st0 = As.reverse ++ st) (hna : As.length = na) (hcat : (st.map fun v => v.category).sum ≤ 8) (hrm : rm.cells = mc ∧ rm.slots = ms) (hR : rm.frames + 1 ≤ R.frames ∧ 8 + (n' + 11) + rm.locals ≤ R.locals) (hf : cells + mc ≤ R.cells ∧ slots + ms ≤ R.slots) (d : decode cc pc = .ok (.invokestatic index, 3)) (kx : ∀ (E : String) (ce : Cell) (q9 : Addr) (H1 : Heap) (locs1 : List Loc) (ls : Array Slot), ex E → va_P D.1 vwCl (wS S) H1 → va_D A (wS S) → va_S A s.heap H1 locs1 → lL ls n L → H1[q9]? = some ce → ce.vm = .none → s.vm.findClass E = some ce.cls → vx_W p l e R s m args below meth c H1 locs1 (cells + mc) (slots + ms) Q (F0 m pc ls st) q9) (kk : ∀ (r : Option Nat) (S1 : St), post r S1 → V D A n S1 p l e R s m args below meth c (cells + mc) (slots + ms) Q (pc + 3) L (va_rf r :: st)) : V D A n S p l e R s m args below meth c cells slots Q pc L st0 := fun H locs ls hP hD hS hl =>
  vx_callq (vx_runSN C.1 (hM H.size) ⟨va_cnB na C.1.2.2.2.2 (uws_in hcd) rfl hrm.1 hrm.2 (C.2.2.1.2.2.1 _ hl2) (C.1.2.2.2.2 _ hini) hd hR, C.1.2.2.2.2 _ hi, trivial⟩ (pre_of C hP hD hS) rfl hna hl.1.1 hst (lv_room hcat) d hf) hS (fun q _ hq => wA_sub C.2.2.2.2.2.2.1 hD hS q hq) (fun q hq => wA_sub C.2.2.2.2.2.2.1 hD hS q hq) (fun q _ hq => wA_sub C.2.2.2.2.2.2.1 hD hS q hq) (fun E ce q9 u t H1 locs1 ht _ _ hx hz hk hS1 h1 h2 h3 => kx E ce q9 H1 locs1 ls hx.1 (by have hq := hx.2.1; rw [ht] at hq; exact hq) hD hS1 hl h1 h2 h3) (fun r u t H1 locs1 ht _ hp hb hz hk hS1 => kk r u hp H1 locs1 ls (by have hq := hb.1; rw [ht] at hq; exact hq) (hb.2.weaken (fun _ q _ hq => wA_sub C.2.2.2.2.2.2.1 hD hS _ hq)) hS1 hl)
theorem r_callI (C : CX D A own cc n ret tb p s m args meth c) {y : MethodName} {cc' : ByteArray} {n' na index : Nat} {rm : Room} {mc ms : Nat} {post : Option Nat → St → Prop} {ex : String → Prop} {As st0 : List Value}  {t : Nat} (hM : KQ D l y (uws y cc' n' none) rm (.ref (S.2.1 t) :: As) S post ex mc ms) (hl2 : Cond.methodLink own index y ∈ UW) (hi : Cond.instanceMethod y ∈ UW) (hini : Cond.initialized y.cls ∈ UW) (hcd : Cond.code y cc' n' none ∈ UW) (hd : y.cls ≠ "java/lang/invoke/MethodHandle" ∧ y.cls ≠ "java/lang/invoke/VarHandle" ∧ (parseMethodDescriptor y.desc).map (fun d => d.parameters.length) = some na) (hyn : y.name = "<init>") (hst : st0 = As.reverse ++ .ref (S.2.1 t) :: st) (hna : As.length = na) (hcat : (st.map fun v => v.category).sum ≤ 8) (hrm : rm.cells = mc ∧ rm.slots = ms) (hR : rm.frames + 1 ≤ R.frames ∧ 8 + (n' + 11) + rm.locals ≤ R.locals) (hf : cells + mc ≤ R.cells ∧ slots + ms ≤ R.slots) (d : decode cc pc = .ok (.invokespecial index, 3)) (kx : ∀ (E : String) (ce : Cell) (q9 : Addr) (H1 : Heap) (locs1 : List Loc) (ls : Array Slot), ex E → va_P D.1 vwCl (wS S) H1 → va_D A (wS S) → va_S A s.heap H1 locs1 → lL ls n L → H1[q9]? = some ce → ce.vm = .none → s.vm.findClass E = some ce.cls → vx_W p l e R s m args below meth c H1 locs1 (cells + mc) (slots + ms) Q (F0 m pc ls st) q9) (kk : ∀ (r : Option Nat) (S1 : St), post r S1 → V D A n S1 p l e R s m args below meth c (cells + mc) (slots + ms) Q (pc + 3) L (va_rf r :: st)) : V D A n S p l e R s m args below meth c cells slots Q pc L st0 := fun H locs ls hP hD hS hl =>
  vx_callq (vx_runI C.1 (hM H.size) ⟨(words_of C hl2 hini hcd hd hrm.1 hrm.2 hR), hyn, C.1.2.2.2.2 _ hi⟩ (pre_of C hP hD hS) rfl hna hl.1.1 hst (lv_room hcat) d hf) hS (fun q _ hq => wA_sub C.2.2.2.2.2.2.1 hD hS q hq) (fun q hq => wA_sub C.2.2.2.2.2.2.1 hD hS q hq) (fun q _ hq => wA_sub C.2.2.2.2.2.2.1 hD hS q hq) (fun E ce q9 u t H1 locs1 ht _ _ hx hz hk hS1 h1 h2 h3 => kx E ce q9 H1 locs1 ls hx.1 (by have hq := hx.2.1; rw [ht] at hq; exact hq) hD hS1 hl h1 h2 h3) (fun r u t H1 locs1 ht _ hp hb hz hk hS1 => kk r u hp H1 locs1 ls (by have hq := hb.1; rw [ht] at hq; exact hq) (hb.2.weaken (fun _ q _ hq => wA_sub C.2.2.2.2.2.2.1 hD hS _ hq)) hS1 hl)
theorem r_callJ (C : CX D A own cc n ret tb p s m args meth c) {host : String} {y : MethodName} {cc' : ByteArray} {n' na index : Nat} {rm : Room} {mc ms : Nat} {post : Option Nat → St → Prop} {ex : String → Prop} {As st0 : List Value}  {t : Nat} (hM : KQ D l y (uws y cc' n' none) rm (.ref (S.2.1 t) :: As) S post ex mc ms) (hl2 : (own, index, y, host) ∈ NM) (hi : Cond.instanceMethod y ∈ UW) (hini : Cond.initialized y.cls ∈ UW) (hcd : Cond.code y cc' n' none ∈ UW) (hd : y.cls ≠ "java/lang/invoke/MethodHandle" ∧ y.cls ≠ "java/lang/invoke/VarHandle" ∧ (parseMethodDescriptor y.desc).map (fun d => d.parameters.length) = some na) (hyn : y.name = "<init>") (hst : st0 = As.reverse ++ .ref (S.2.1 t) :: st) (hna : As.length = na) (hcat : (st.map fun v => v.category).sum ≤ 8) (hrm : rm.cells = mc ∧ rm.slots = ms) (hR : rm.frames + 1 ≤ R.frames ∧ 8 + (n' + 11) + rm.locals ≤ R.locals) (hf : cells + mc ≤ R.cells ∧ slots + ms ≤ R.slots) (d : decode cc pc = .ok (.invokespecial index, 3)) (kx : ∀ (E : String) (ce : Cell) (q9 : Addr) (H1 : Heap) (locs1 : List Loc) (ls : Array Slot), ex E → va_P D.1 vwCl (wS S) H1 → va_D A (wS S) → va_S A s.heap H1 locs1 → lL ls n L → H1[q9]? = some ce → ce.vm = .none → s.vm.findClass E = some ce.cls → vx_W p l e R s m args below meth c H1 locs1 (cells + mc) (slots + ms) Q (F0 m pc ls st) q9) (kk : ∀ (r : Option Nat) (S1 : St), post r S1 → V D A n S1 p l e R s m args below meth c (cells + mc) (slots + ms) Q (pc + 3) L (va_rf r :: st)) : V D A n S p l e R s m args below meth c cells slots Q pc L st0 := fun H locs ls hP hD hS hl =>
  vx_callq (vx_runIN C.1 (hM H.size) ⟨va_cnB na C.1.2.2.2.2 (uws_in hcd) rfl hrm.1 hrm.2 (C.2.2.1.2.2.1 _ hl2) (C.1.2.2.2.2 _ hini) hd hR, hyn, C.1.2.2.2.2 _ hi⟩ (pre_of C hP hD hS) rfl hna hl.1.1 hst (lv_room hcat) d hf) hS (fun q _ hq => wA_sub C.2.2.2.2.2.2.1 hD hS q hq) (fun q hq => wA_sub C.2.2.2.2.2.2.1 hD hS q hq) (fun q _ hq => wA_sub C.2.2.2.2.2.2.1 hD hS q hq) (fun E ce q9 u t H1 locs1 ht _ _ hx hz hk hS1 h1 h2 h3 => kx E ce q9 H1 locs1 ls hx.1 (by have hq := hx.2.1; rw [ht] at hq; exact hq) hD hS1 hl h1 h2 h3) (fun r u t H1 locs1 ht _ hp hb hz hk hS1 => kk r u hp H1 locs1 ls (by have hq := hb.1; rw [ht] at hq; exact hq) (hb.2.weaken (fun _ q _ hq => wA_sub C.2.2.2.2.2.2.1 hD hS _ hq)) hS1 hl)
def mxI (x y : Int32) : Int32 := if x < y then y else x
def mnI (x y : Int32) : Int32 := if y < x then y else x
theorem r_mmax (C : CX D A own cc n ret tb p s m args meth c) {index : Nat} {x y : Int32} (hl2 : Cond.methodLink own index Lib.Math.max.name ∈ UW) (hst : Cond.static Lib.Math.max.name ∈ UW) (hini : Cond.initialized "java/lang/Math" ∈ UW) (hcd : Cond.code Lib.Math.max.name Lib.Math.max.code 2 (some .int) ∈ UW) (hR : 1 ≤ R.frames ∧ (st.map fun v => v.category).sum + 13 ≤ R.locals ∧ cells ≤ R.cells ∧ slots ≤ R.slots) (d : decode cc pc = .ok (.invokestatic index, 3)) (kk : V D A n S p l e R s m args below meth c cells slots Q (pc + 3) L (.int (mxI x y) :: st)) : V D A n S p l e R s m args below meth c cells slots Q pc L (.int y :: .int x :: st) := fun H locs ls hP hD hS hl => va_mmax C.1.1 C.1.2.1 (C.1.2.2.1.trans hl.1.1.symm) C.1.2.2.2.1 (C.1.2.2.2.2 _ hl2) (C.1.2.2.2.2 _ hst) (C.1.2.2.2.2 _ hini) (C.1.2.2.2.2 _ hcd) hR.1 hR.2.1 hR.2.2.1 hR.2.2.2 d (kk H locs ls hP hD hS hl)
theorem r_mmin (C : CX D A own cc n ret tb p s m args meth c) {index : Nat} {x y : Int32} (hl2 : Cond.methodLink own index Lib.Math.min.name ∈ UW) (hst : Cond.static Lib.Math.min.name ∈ UW) (hini : Cond.initialized "java/lang/Math" ∈ UW) (hcd : Cond.code Lib.Math.min.name Lib.Math.min.code 2 (some .int) ∈ UW) (hR : 1 ≤ R.frames ∧ (st.map fun v => v.category).sum + 13 ≤ R.locals ∧ cells ≤ R.cells ∧ slots ≤ R.slots) (d : decode cc pc = .ok (.invokestatic index, 3)) (kk : V D A n S p l e R s m args below meth c cells slots Q (pc + 3) L (.int (mnI x y) :: st)) : V D A n S p l e R s m args below meth c cells slots Q pc L (.int y :: .int x :: st) := fun H locs ls hP hD hS hl => va_mmin C.1.1 C.1.2.1 (C.1.2.2.1.trans hl.1.1.symm) C.1.2.2.2.1 (C.1.2.2.2.2 _ hl2) (C.1.2.2.2.2 _ hst) (C.1.2.2.2.2 _ hini) (C.1.2.2.2.2 _ hcd) hR.1 hR.2.1 hR.2.2.1 hR.2.2.2 d (kk H locs ls hP hD hS hl)
theorem xk_ISE : Cond.classLink RX5 78 "java/lang/IllegalStateException" ∈ UW := UW_m (i := 234) (by decide +kernel) (by decide +kernel)
theorem xi_ISE : Cond.initialized "java/lang/IllegalStateException" ∈ UW := UW_m (i := 49) (by decide +kernel) (by decide +kernel)
theorem r_thr_ISE (C : CX D A RX5 cc n ret [] p s m args meth c) (hfl : l.stackTraces = false) {is : Nat} {text : String} (hsw : (is, text) ∈ SW) {Qc : Array Value → State → Outcome → State → Prop} {exc : String → Prop} {mc ms : Nat} {S0 : St} (d0 : decode cc pc = .ok (.new 78, 3)) (d3 : decode cc (pc + 3) = .ok (.dup, 1)) (d4 : decode cc (pc + 4) = .ok (.ldc is, 2)) (d6 : decode cc (pc + 6) = .ok (.invokespecial 82, 3)) (d9 : decode cc (pc + 9) = .ok (.athrow, 1)) (hR : 5 < R.frames ∧ (st.map fun v => v.category).sum + 82 ≤ R.locals ∧ cells + 1 ≤ R.cells ∧ slots + 6 ≤ R.slots ∧ cells + 1 ≤ mc ∧ slots + 6 ≤ ms) (hx : exc "java/lang/IllegalStateException") (hS0 : S = S0) : V D A n S p l e R s m args below meth c cells slots (vx_MQ below Qc (XCs D S0 A exc) args s mc ms A) pc L st := fun H locs ls hP hD hS hl => by
  subst hS0
  obtain ⟨sa, hsa⟩ := C.2.2.1.2.2.2 _ hsw
  refine vx_throwS (names := ["java/lang/RuntimeException", "java/lang/Exception"]) C.1.1 C.1.2.1 hfl C.1.2.2.2.1 (by decide +kernel) (by decide +kernel) (C.1.2.2.2.2 _ xk_ISE) (C.1.2.2.2.2 _ xi_ISE) hsa (fun w hw => ?_) (fun w hw => ?_) C.2.2.2.1.1 C.2.2.2.1.2 hS (hl.1.1.trans C.1.2.2.1.symm) d0 d3 d4 d6 d9 (fun x hx => by rw [C.2.2.2.2.2.2.2] at hx; cases hx) hR.1 hR.2.1 hR.2.2.1 hR.2.2.2.1 C.2.2.2.2.2.1 (fun t _ hz hk => ?_) hS.2.2 hR.2.2.2.2.1 hR.2.2.2.2.2
  · rcases xw_ISE w hw with h | h | h
    · exact C.1.2.2.2.2 w (List.mem_filter.mpr h)
    · obtain ⟨X, hX, rfl⟩ := List.mem_map.mp h
      exact va_Nw.use rfl (C.2.2.1.1.1 _ hX)
    · obtain ⟨X, hX, rfl⟩ := List.mem_map.mp h
      exact va_Nw.use rfl (C.2.2.1.1.2 _ hX)
  · rcases List.mem_cons.mp hw with rfl | hw
    · rfl
    · rcases List.mem_cons.mp hw with rfl | hw
      · rfl
      · exact xg_ISE w hw
  · exact ⟨(), trivial, ⟨hx, hP.kept (fun k q hq => hk q.1 ((hP k q hq).lt)), hD⟩, Nat.le_trans hS.1 hz, fun q h1 h2 => (hk q (Nat.lt_of_lt_of_le h1 hS.1)).trans (hS.2.1 q h1 h2)⟩
theorem xk_IOB : Cond.classLink RX5 327 "java/lang/IndexOutOfBoundsException" ∈ UW := UW_m (i := 166) (by decide +kernel) (by decide +kernel)
theorem xi_IOB : Cond.initialized "java/lang/IndexOutOfBoundsException" ∈ UW := UW_m (i := 48) (by decide +kernel) (by decide +kernel)
theorem r_thr_IOB (C : CX D A RX5 cc n ret [] p s m args meth c) (hfl : l.stackTraces = false) {is : Nat} {text : String} (hsw : (is, text) ∈ SW) {Qc : Array Value → State → Outcome → State → Prop} {exc : String → Prop} {mc ms : Nat} {S0 : St} (d0 : decode cc pc = .ok (.new 327, 3)) (d3 : decode cc (pc + 3) = .ok (.dup, 1)) (d4 : decode cc (pc + 4) = .ok (.ldc is, 2)) (d6 : decode cc (pc + 6) = .ok (.invokespecial 331, 3)) (d9 : decode cc (pc + 9) = .ok (.athrow, 1)) (hR : 5 < R.frames ∧ (st.map fun v => v.category).sum + 82 ≤ R.locals ∧ cells + 1 ≤ R.cells ∧ slots + 6 ≤ R.slots ∧ cells + 1 ≤ mc ∧ slots + 6 ≤ ms) (hx : exc "java/lang/IndexOutOfBoundsException") (hS0 : S = S0) : V D A n S p l e R s m args below meth c cells slots (vx_MQ below Qc (XCs D S0 A exc) args s mc ms A) pc L st := fun H locs ls hP hD hS hl => by
  subst hS0
  obtain ⟨sa, hsa⟩ := C.2.2.1.2.2.2 _ hsw
  refine vx_throwS (names := ["java/lang/RuntimeException", "java/lang/Exception"]) C.1.1 C.1.2.1 hfl C.1.2.2.2.1 (by decide +kernel) (by decide +kernel) (C.1.2.2.2.2 _ xk_IOB) (C.1.2.2.2.2 _ xi_IOB) hsa (fun w hw => ?_) (fun w hw => ?_) C.2.2.2.1.1 C.2.2.2.1.2 hS (hl.1.1.trans C.1.2.2.1.symm) d0 d3 d4 d6 d9 (fun x hx => by rw [C.2.2.2.2.2.2.2] at hx; cases hx) hR.1 hR.2.1 hR.2.2.1 hR.2.2.2.1 C.2.2.2.2.2.1 (fun t _ hz hk => ?_) hS.2.2 hR.2.2.2.2.1 hR.2.2.2.2.2
  · rcases xw_IOB w hw with h | h | h
    · exact C.1.2.2.2.2 w (List.mem_filter.mpr h)
    · obtain ⟨X, hX, rfl⟩ := List.mem_map.mp h
      exact va_Nw.use rfl (C.2.2.1.1.1 _ hX)
    · obtain ⟨X, hX, rfl⟩ := List.mem_map.mp h
      exact va_Nw.use rfl (C.2.2.1.1.2 _ hX)
  · rcases List.mem_cons.mp hw with rfl | hw
    · rfl
    · rcases List.mem_cons.mp hw with rfl | hw
      · rfl
      · exact xg_IOB w hw
  · exact ⟨(), trivial, ⟨hx, hP.kept (fun k q hq => hk q.1 ((hP k q hq).lt)), hD⟩, Nat.le_trans hS.1 hz, fun q h1 h2 => (hk q (Nat.lt_of_lt_of_le h1 hS.1)).trans (hS.2.1 q h1 h2)⟩
theorem xk_IAE : Cond.classLink RX5 172 "java/lang/IllegalArgumentException" ∈ UW := UW_m (i := 261) (by decide +kernel) (by decide +kernel)
theorem xi_IAE : Cond.initialized "java/lang/IllegalArgumentException" ∈ UW := UW_m (i := 50) (by decide +kernel) (by decide +kernel)
theorem r_thr_IAE (C : CX D A RX5 cc n ret [] p s m args meth c) (hfl : l.stackTraces = false) {is : Nat} {text : String} (hsw : (is, text) ∈ SW) {Qc : Array Value → State → Outcome → State → Prop} {exc : String → Prop} {mc ms : Nat} {S0 : St} (d0 : decode cc pc = .ok (.new 172, 3)) (d3 : decode cc (pc + 3) = .ok (.dup, 1)) (d4 : decode cc (pc + 4) = .ok (.ldc is, 2)) (d6 : decode cc (pc + 6) = .ok (.invokespecial 176, 3)) (d9 : decode cc (pc + 9) = .ok (.athrow, 1)) (hR : 5 < R.frames ∧ (st.map fun v => v.category).sum + 82 ≤ R.locals ∧ cells + 1 ≤ R.cells ∧ slots + 6 ≤ R.slots ∧ cells + 1 ≤ mc ∧ slots + 6 ≤ ms) (hx : exc "java/lang/IllegalArgumentException") (hS0 : S = S0) : V D A n S p l e R s m args below meth c cells slots (vx_MQ below Qc (XCs D S0 A exc) args s mc ms A) pc L st := fun H locs ls hP hD hS hl => by
  subst hS0
  obtain ⟨sa, hsa⟩ := C.2.2.1.2.2.2 _ hsw
  refine vx_throwS (names := ["java/lang/RuntimeException", "java/lang/Exception"]) C.1.1 C.1.2.1 hfl C.1.2.2.2.1 (by decide +kernel) (by decide +kernel) (C.1.2.2.2.2 _ xk_IAE) (C.1.2.2.2.2 _ xi_IAE) hsa (fun w hw => ?_) (fun w hw => ?_) C.2.2.2.1.1 C.2.2.2.1.2 hS (hl.1.1.trans C.1.2.2.1.symm) d0 d3 d4 d6 d9 (fun x hx => by rw [C.2.2.2.2.2.2.2] at hx; cases hx) hR.1 hR.2.1 hR.2.2.1 hR.2.2.2.1 C.2.2.2.2.2.1 (fun t _ hz hk => ?_) hS.2.2 hR.2.2.2.2.1 hR.2.2.2.2.2
  · rcases xw_IAE w hw with h | h | h
    · exact C.1.2.2.2.2 w (List.mem_filter.mpr h)
    · obtain ⟨X, hX, rfl⟩ := List.mem_map.mp h
      exact va_Nw.use rfl (C.2.2.1.1.1 _ hX)
    · obtain ⟨X, hX, rfl⟩ := List.mem_map.mp h
      exact va_Nw.use rfl (C.2.2.1.1.2 _ hX)
  · rcases List.mem_cons.mp hw with rfl | hw
    · rfl
    · rcases List.mem_cons.mp hw with rfl | hw
      · rfl
      · exact xg_IAE w hw
  · exact ⟨(), trivial, ⟨hx, hP.kept (fun k q hq => hk q.1 ((hP k q hq).lt)), hD⟩, Nat.le_trans hS.1 hz, fun q h1 h2 => (hk q (Nat.lt_of_lt_of_le h1 hS.1)).trans (hS.2.1 q h1 h2)⟩
theorem r_thrW_ISE (C : CX D A RX5 cc n ret [] p s m args meth c) (hfl : l.stackTraces = false) {is : Nat} {text : String} (hsw : (is, text) ∈ SW) {Qc : Array Value → State → Outcome → State → Prop} {exc : String → Prop} {mc ms : Nat} {S0 : St} (d0 : decode cc pc = .ok (.new 78, 3)) (d3 : decode cc (pc + 3) = .ok (.dup, 1)) (d4 : decode cc (pc + 4) = .ok (.ldc_w is, 3)) (d6 : decode cc (pc + 7) = .ok (.invokespecial 82, 3)) (d9 : decode cc (pc + 10) = .ok (.athrow, 1)) (hR : 5 < R.frames ∧ (st.map fun v => v.category).sum + 82 ≤ R.locals ∧ cells + 1 ≤ R.cells ∧ slots + 6 ≤ R.slots ∧ cells + 1 ≤ mc ∧ slots + 6 ≤ ms) (hx : exc "java/lang/IllegalStateException") (hS0 : S = S0) : V D A n S p l e R s m args below meth c cells slots (vx_MQ below Qc (XCs D S0 A exc) args s mc ms A) pc L st := fun H locs ls hP hD hS hl => by
  subst hS0
  obtain ⟨sa, hsa⟩ := C.2.2.1.2.2.2 _ hsw
  refine vx_throwSW (names := ["java/lang/RuntimeException", "java/lang/Exception"]) C.1.1 C.1.2.1 hfl C.1.2.2.2.1 (by decide +kernel) (by decide +kernel) (C.1.2.2.2.2 _ xk_ISE) (C.1.2.2.2.2 _ xi_ISE) hsa (fun w hw => ?_) (fun w hw => ?_) C.2.2.2.1.1 C.2.2.2.1.2 hS (hl.1.1.trans C.1.2.2.1.symm) d0 d3 d4 d6 d9 (fun x hx => by rw [C.2.2.2.2.2.2.2] at hx; cases hx) hR.1 hR.2.1 hR.2.2.1 hR.2.2.2.1 C.2.2.2.2.2.1 (fun t _ hz hk => ?_) hS.2.2 hR.2.2.2.2.1 hR.2.2.2.2.2
  · rcases xw_ISE w hw with h | h | h
    · exact C.1.2.2.2.2 w (List.mem_filter.mpr h)
    · obtain ⟨X, hX, rfl⟩ := List.mem_map.mp h
      exact va_Nw.use rfl (C.2.2.1.1.1 _ hX)
    · obtain ⟨X, hX, rfl⟩ := List.mem_map.mp h
      exact va_Nw.use rfl (C.2.2.1.1.2 _ hX)
  · rcases List.mem_cons.mp hw with rfl | hw
    · rfl
    · rcases List.mem_cons.mp hw with rfl | hw
      · rfl
      · exact xg_ISE w hw
  · exact ⟨(), trivial, ⟨hx, hP.kept (fun k q hq => hk q.1 ((hP k q hq).lt)), hD⟩, Nat.le_trans hS.1 hz, fun q h1 h2 => (hk q (Nat.lt_of_lt_of_le h1 hS.1)).trans (hS.2.1 q h1 h2)⟩
theorem r_thrW_IOB (C : CX D A RX5 cc n ret [] p s m args meth c) (hfl : l.stackTraces = false) {is : Nat} {text : String} (hsw : (is, text) ∈ SW) {Qc : Array Value → State → Outcome → State → Prop} {exc : String → Prop} {mc ms : Nat} {S0 : St} (d0 : decode cc pc = .ok (.new 327, 3)) (d3 : decode cc (pc + 3) = .ok (.dup, 1)) (d4 : decode cc (pc + 4) = .ok (.ldc_w is, 3)) (d6 : decode cc (pc + 7) = .ok (.invokespecial 331, 3)) (d9 : decode cc (pc + 10) = .ok (.athrow, 1)) (hR : 5 < R.frames ∧ (st.map fun v => v.category).sum + 82 ≤ R.locals ∧ cells + 1 ≤ R.cells ∧ slots + 6 ≤ R.slots ∧ cells + 1 ≤ mc ∧ slots + 6 ≤ ms) (hx : exc "java/lang/IndexOutOfBoundsException") (hS0 : S = S0) : V D A n S p l e R s m args below meth c cells slots (vx_MQ below Qc (XCs D S0 A exc) args s mc ms A) pc L st := fun H locs ls hP hD hS hl => by
  subst hS0
  obtain ⟨sa, hsa⟩ := C.2.2.1.2.2.2 _ hsw
  refine vx_throwSW (names := ["java/lang/RuntimeException", "java/lang/Exception"]) C.1.1 C.1.2.1 hfl C.1.2.2.2.1 (by decide +kernel) (by decide +kernel) (C.1.2.2.2.2 _ xk_IOB) (C.1.2.2.2.2 _ xi_IOB) hsa (fun w hw => ?_) (fun w hw => ?_) C.2.2.2.1.1 C.2.2.2.1.2 hS (hl.1.1.trans C.1.2.2.1.symm) d0 d3 d4 d6 d9 (fun x hx => by rw [C.2.2.2.2.2.2.2] at hx; cases hx) hR.1 hR.2.1 hR.2.2.1 hR.2.2.2.1 C.2.2.2.2.2.1 (fun t _ hz hk => ?_) hS.2.2 hR.2.2.2.2.1 hR.2.2.2.2.2
  · rcases xw_IOB w hw with h | h | h
    · exact C.1.2.2.2.2 w (List.mem_filter.mpr h)
    · obtain ⟨X, hX, rfl⟩ := List.mem_map.mp h
      exact va_Nw.use rfl (C.2.2.1.1.1 _ hX)
    · obtain ⟨X, hX, rfl⟩ := List.mem_map.mp h
      exact va_Nw.use rfl (C.2.2.1.1.2 _ hX)
  · rcases List.mem_cons.mp hw with rfl | hw
    · rfl
    · rcases List.mem_cons.mp hw with rfl | hw
      · rfl
      · exact xg_IOB w hw
  · exact ⟨(), trivial, ⟨hx, hP.kept (fun k q hq => hk q.1 ((hP k q hq).lt)), hD⟩, Nat.le_trans hS.1 hz, fun q h1 h2 => (hk q (Nat.lt_of_lt_of_le h1 hS.1)).trans (hS.2.1 q h1 h2)⟩
theorem r_thrW_IAE (C : CX D A RX5 cc n ret [] p s m args meth c) (hfl : l.stackTraces = false) {is : Nat} {text : String} (hsw : (is, text) ∈ SW) {Qc : Array Value → State → Outcome → State → Prop} {exc : String → Prop} {mc ms : Nat} {S0 : St} (d0 : decode cc pc = .ok (.new 172, 3)) (d3 : decode cc (pc + 3) = .ok (.dup, 1)) (d4 : decode cc (pc + 4) = .ok (.ldc_w is, 3)) (d6 : decode cc (pc + 7) = .ok (.invokespecial 176, 3)) (d9 : decode cc (pc + 10) = .ok (.athrow, 1)) (hR : 5 < R.frames ∧ (st.map fun v => v.category).sum + 82 ≤ R.locals ∧ cells + 1 ≤ R.cells ∧ slots + 6 ≤ R.slots ∧ cells + 1 ≤ mc ∧ slots + 6 ≤ ms) (hx : exc "java/lang/IllegalArgumentException") (hS0 : S = S0) : V D A n S p l e R s m args below meth c cells slots (vx_MQ below Qc (XCs D S0 A exc) args s mc ms A) pc L st := fun H locs ls hP hD hS hl => by
  subst hS0
  obtain ⟨sa, hsa⟩ := C.2.2.1.2.2.2 _ hsw
  refine vx_throwSW (names := ["java/lang/RuntimeException", "java/lang/Exception"]) C.1.1 C.1.2.1 hfl C.1.2.2.2.1 (by decide +kernel) (by decide +kernel) (C.1.2.2.2.2 _ xk_IAE) (C.1.2.2.2.2 _ xi_IAE) hsa (fun w hw => ?_) (fun w hw => ?_) C.2.2.2.1.1 C.2.2.2.1.2 hS (hl.1.1.trans C.1.2.2.1.symm) d0 d3 d4 d6 d9 (fun x hx => by rw [C.2.2.2.2.2.2.2] at hx; cases hx) hR.1 hR.2.1 hR.2.2.1 hR.2.2.2.1 C.2.2.2.2.2.1 (fun t _ hz hk => ?_) hS.2.2 hR.2.2.2.2.1 hR.2.2.2.2.2
  · rcases xw_IAE w hw with h | h | h
    · exact C.1.2.2.2.2 w (List.mem_filter.mpr h)
    · obtain ⟨X, hX, rfl⟩ := List.mem_map.mp h
      exact va_Nw.use rfl (C.2.2.1.1.1 _ hX)
    · obtain ⟨X, hX, rfl⟩ := List.mem_map.mp h
      exact va_Nw.use rfl (C.2.2.1.1.2 _ hX)
  · rcases List.mem_cons.mp hw with rfl | hw
    · rfl
    · rcases List.mem_cons.mp hw with rfl | hw
      · rfl
      · exact xg_IAE w hw
  · exact ⟨(), trivial, ⟨hx, hP.kept (fun k q hq => hk q.1 ((hP k q hq).lt)), hD⟩, Nat.le_trans hS.1 hz, fun q h1 h2 => (hk q (Nat.lt_of_lt_of_le h1 hS.1)).trans (hS.2.1 q h1 h2)⟩
end LROWS
end
