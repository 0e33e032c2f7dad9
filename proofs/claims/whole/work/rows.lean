section
-- ===== PART A: goes FIRST, ahead of the names: the tables' words, and 'selects' of the private methods out of them =====
/-- a private method of a class that the tables say can be made, by its rows of tables_1 -/
def lw_okq (q : MethodName × Nat) : Prop := (q.1.cls ≠ "java/lang/invoke/MethodHandle" ∧ q.1.cls ≠ "java/lang/invoke/VarHandle") ∧ Cond.instantiable q.1.cls q.2 ∈ tables_1 ∧ Cond.privateMethod q.1 ∈ tables_1 ∧ Cond.instanceMethod q.1 ∈ tables_1
theorem lw_p0 : lw_okq (⟨"OrdersInTurn$Page", "isGood", "(I)Z"⟩, 2) := ⟨⟨by decide +kernel, by decide +kernel⟩, List.mem_of_getElem? (i := 23) (by decide +kernel), List.mem_of_getElem? (i := 314) (by decide +kernel), List.mem_of_getElem? (i := 315) (by decide +kernel)⟩
theorem lw_p1 : lw_okq (⟨"OrdersInTurn", "noDish", "(I)Z"⟩, 9) := ⟨⟨by decide +kernel, by decide +kernel⟩, List.mem_of_getElem? (i := 15) (by decide +kernel), List.mem_of_getElem? (i := 346) (by decide +kernel), List.mem_of_getElem? (i := 347) (by decide +kernel)⟩
theorem lw_p2 : lw_okq (⟨"OrdersInTurn", "noCard", "()Z"⟩, 9) := ⟨⟨by decide +kernel, by decide +kernel⟩, List.mem_of_getElem? (i := 15) (by decide +kernel), List.mem_of_getElem? (i := 354) (by decide +kernel), List.mem_of_getElem? (i := 355) (by decide +kernel)⟩
theorem lw_p3 : lw_okq (⟨"OrdersInTurn", "noGuest", "(I)Z"⟩, 9) := ⟨⟨by decide +kernel, by decide +kernel⟩, List.mem_of_getElem? (i := 15) (by decide +kernel), List.mem_of_getElem? (i := 368) (by decide +kernel), List.mem_of_getElem? (i := 369) (by decide +kernel)⟩
theorem lw_p4 : lw_okq (⟨"OrdersInTurn$Forecast", "setUp", "()V"⟩, 10) := ⟨⟨by decide +kernel, by decide +kernel⟩, List.mem_of_getElem? (i := 192) (by decide +kernel), List.mem_of_getElem? (i := 437) (by decide +kernel), List.mem_of_getElem? (i := 438) (by decide +kernel)⟩
theorem lw_p5 : lw_okq (⟨"OrdersInTurn$Forecast", "goRound", "(I)V"⟩, 10) := ⟨⟨by decide +kernel, by decide +kernel⟩, List.mem_of_getElem? (i := 192) (by decide +kernel), List.mem_of_getElem? (i := 443) (by decide +kernel), List.mem_of_getElem? (i := 444) (by decide +kernel)⟩
theorem lw_p6 : lw_okq (⟨"OrdersInTurn$Forecast", "seatOnwards", "(I)V"⟩, 10) := ⟨⟨by decide +kernel, by decide +kernel⟩, List.mem_of_getElem? (i := 192) (by decide +kernel), List.mem_of_getElem? (i := 480) (by decide +kernel), List.mem_of_getElem? (i := 481) (by decide +kernel)⟩
theorem lw_p7 : lw_okq (⟨"OrdersInTurn$Forecast", "findJoyOfGroups", "(I)V"⟩, 10) := ⟨⟨by decide +kernel, by decide +kernel⟩, List.mem_of_getElem? (i := 192) (by decide +kernel), List.mem_of_getElem? (i := 519) (by decide +kernel), List.mem_of_getElem? (i := 520) (by decide +kernel)⟩
theorem lw_p8 : lw_okq (⟨"OrdersInTurn$Forecast", "pleasesAll", "(I)Z"⟩, 10) := ⟨⟨by decide +kernel, by decide +kernel⟩, List.mem_of_getElem? (i := 192) (by decide +kernel), List.mem_of_getElem? (i := 537) (by decide +kernel), List.mem_of_getElem? (i := 538) (by decide +kernel)⟩
theorem lw_p9 : lw_okq (⟨"OrdersInTurn$Forecast", "wouldFit", "(LOrdersInTurn$Log;I)Z"⟩, 10) := ⟨⟨by decide +kernel, by decide +kernel⟩, List.mem_of_getElem? (i := 192) (by decide +kernel), List.mem_of_getElem? (i := 570) (by decide +kernel), List.mem_of_getElem? (i := 571) (by decide +kernel)⟩
theorem lw_p10 : lw_okq (⟨"OrdersInTurn$Forecast", "draw", "(I)I"⟩, 10) := ⟨⟨by decide +kernel, by decide +kernel⟩, List.mem_of_getElem? (i := 192) (by decide +kernel), List.mem_of_getElem? (i := 592) (by decide +kernel), List.mem_of_getElem? (i := 593) (by decide +kernel)⟩
theorem lw_p11 : lw_okq (⟨"OrdersInTurn", "mixedDishes", "(J)J"⟩, 9) := ⟨⟨by decide +kernel, by decide +kernel⟩, List.mem_of_getElem? (i := 15) (by decide +kernel), List.mem_of_getElem? (i := 642) (by decide +kernel), List.mem_of_getElem? (i := 643) (by decide +kernel)⟩
theorem lw_p12 : lw_okq (⟨"OrdersInTurn", "mixedGuests", "(J)J"⟩, 9) := ⟨⟨by decide +kernel, by decide +kernel⟩, List.mem_of_getElem? (i := 15) (by decide +kernel), List.mem_of_getElem? (i := 651) (by decide +kernel), List.mem_of_getElem? (i := 652) (by decide +kernel)⟩
theorem lw_p13 : lw_okq (⟨"OrdersInTurnModel", "faultOf", "()I"⟩, 37) := ⟨⟨by decide +kernel, by decide +kernel⟩, List.mem_of_getElem? (i := 662) (by decide +kernel), List.mem_of_getElem? (i := 796) (by decide +kernel), List.mem_of_getElem? (i := 797) (by decide +kernel)⟩
theorem lw_p14 : lw_okq (⟨"OrdersInTurnModel", "go", "(I)Z"⟩, 37) := ⟨⟨by decide +kernel, by decide +kernel⟩, List.mem_of_getElem? (i := 662) (by decide +kernel), List.mem_of_getElem? (i := 800) (by decide +kernel), List.mem_of_getElem? (i := 801) (by decide +kernel)⟩
theorem lw_p15 : lw_okq (⟨"OrdersInTurnModel", "isDish", "(I)Z"⟩, 37) := ⟨⟨by decide +kernel, by decide +kernel⟩, List.mem_of_getElem? (i := 662) (by decide +kernel), List.mem_of_getElem? (i := 813) (by decide +kernel), List.mem_of_getElem? (i := 814) (by decide +kernel)⟩
def lw_privs_1 : List (MethodName × Nat) := [(⟨"OrdersInTurn$Page", "isGood", "(I)Z"⟩, 2), (⟨"OrdersInTurn", "noDish", "(I)Z"⟩, 9), (⟨"OrdersInTurn", "noCard", "()Z"⟩, 9), (⟨"OrdersInTurn", "noGuest", "(I)Z"⟩, 9), (⟨"OrdersInTurn$Forecast", "setUp", "()V"⟩, 10), (⟨"OrdersInTurn$Forecast", "goRound", "(I)V"⟩, 10), (⟨"OrdersInTurn$Forecast", "seatOnwards", "(I)V"⟩, 10), (⟨"OrdersInTurn$Forecast", "findJoyOfGroups", "(I)V"⟩, 10), (⟨"OrdersInTurn$Forecast", "pleasesAll", "(I)Z"⟩, 10), (⟨"OrdersInTurn$Forecast", "wouldFit", "(LOrdersInTurn$Log;I)Z"⟩, 10), (⟨"OrdersInTurn$Forecast", "draw", "(I)I"⟩, 10), (⟨"OrdersInTurn", "mixedDishes", "(J)J"⟩, 9), (⟨"OrdersInTurn", "mixedGuests", "(J)J"⟩, 9), (⟨"OrdersInTurnModel", "faultOf", "()I"⟩, 37), (⟨"OrdersInTurnModel", "go", "(I)Z"⟩, 37), (⟨"OrdersInTurnModel", "isDish", "(I)Z"⟩, 37)]
theorem lw_r1 : ∀ q ∈ lw_privs_1, lw_okq q := List.forall_mem_cons.mpr ⟨lw_p0, List.forall_mem_cons.mpr ⟨lw_p1, List.forall_mem_cons.mpr ⟨lw_p2, List.forall_mem_cons.mpr ⟨lw_p3, List.forall_mem_cons.mpr ⟨lw_p4, List.forall_mem_cons.mpr ⟨lw_p5, List.forall_mem_cons.mpr ⟨lw_p6, List.forall_mem_cons.mpr ⟨lw_p7, List.forall_mem_cons.mpr ⟨lw_p8, List.forall_mem_cons.mpr ⟨lw_p9, List.forall_mem_cons.mpr ⟨lw_p10, List.forall_mem_cons.mpr ⟨lw_p11, List.forall_mem_cons.mpr ⟨lw_p12, List.forall_mem_cons.mpr ⟨lw_p13, List.forall_mem_cons.mpr ⟨lw_p14, List.forall_mem_cons.mpr ⟨lw_p15, fun _ h => absurd h List.not_mem_nil⟩⟩⟩⟩⟩⟩⟩⟩⟩⟩⟩⟩⟩⟩⟩⟩
theorem lw_p16 : lw_okq (⟨"OrdersInTurnModel", "tellDish", "(II)I"⟩, 37) := ⟨⟨by decide +kernel, by decide +kernel⟩, List.mem_of_getElem? (i := 662) (by decide +kernel), List.mem_of_getElem? (i := 817) (by decide +kernel), List.mem_of_getElem? (i := 818) (by decide +kernel)⟩
theorem lw_p17 : lw_okq (⟨"OrdersInTurnModel", "haveOf", "([II)I"⟩, 37) := ⟨⟨by decide +kernel, by decide +kernel⟩, List.mem_of_getElem? (i := 662) (by decide +kernel), List.mem_of_getElem? (i := 821) (by decide +kernel), List.mem_of_getElem? (i := 822) (by decide +kernel)⟩
theorem lw_p18 : lw_okq (⟨"OrdersInTurnModel", "lacks", "()Z"⟩, 37) := ⟨⟨by decide +kernel, by decide +kernel⟩, List.mem_of_getElem? (i := 662) (by decide +kernel), List.mem_of_getElem? (i := 830) (by decide +kernel), List.mem_of_getElem? (i := 831) (by decide +kernel)⟩
theorem lw_p19 : lw_okq (⟨"OrdersInTurnModel", "isGuest", "(I)Z"⟩, 37) := ⟨⟨by decide +kernel, by decide +kernel⟩, List.mem_of_getElem? (i := 662) (by decide +kernel), List.mem_of_getElem? (i := 838) (by decide +kernel), List.mem_of_getElem? (i := 839) (by decide +kernel)⟩
theorem lw_p20 : lw_okq (⟨"OrdersInTurnModel", "tell", "(II)I"⟩, 37) := ⟨⟨by decide +kernel, by decide +kernel⟩, List.mem_of_getElem? (i := 662) (by decide +kernel), List.mem_of_getElem? (i := 842) (by decide +kernel), List.mem_of_getElem? (i := 843) (by decide +kernel)⟩
theorem lw_p21 : lw_okq (⟨"OrdersInTurnModel", "swayBy", "(II)I"⟩, 37) := ⟨⟨by decide +kernel, by decide +kernel⟩, List.mem_of_getElem? (i := 662) (by decide +kernel), List.mem_of_getElem? (i := 846) (by decide +kernel), List.mem_of_getElem? (i := 847) (by decide +kernel)⟩
theorem lw_p22 : lw_okq (⟨"OrdersInTurnModel", "joyOf", "([II)I"⟩, 37) := ⟨⟨by decide +kernel, by decide +kernel⟩, List.mem_of_getElem? (i := 662) (by decide +kernel), List.mem_of_getElem? (i := 850) (by decide +kernel), List.mem_of_getElem? (i := 851) (by decide +kernel)⟩
theorem lw_p23 : lw_okq (⟨"OrdersInTurnModel", "asItIs", "()V"⟩, 37) := ⟨⟨by decide +kernel, by decide +kernel⟩, List.mem_of_getElem? (i := 662) (by decide +kernel), List.mem_of_getElem? (i := 875) (by decide +kernel), List.mem_of_getElem? (i := 876) (by decide +kernel)⟩
theorem lw_p24 : lw_okq (⟨"OrdersInTurnModel", "bestFor", "([II)I"⟩, 37) := ⟨⟨by decide +kernel, by decide +kernel⟩, List.mem_of_getElem? (i := 662) (by decide +kernel), List.mem_of_getElem? (i := 879) (by decide +kernel), List.mem_of_getElem? (i := 880) (by decide +kernel)⟩
theorem lw_p25 : lw_okq (⟨"OrdersInTurnModel", "mayHave", "([III)Z"⟩, 37) := ⟨⟨by decide +kernel, by decide +kernel⟩, List.mem_of_getElem? (i := 662) (by decide +kernel), List.mem_of_getElem? (i := 883) (by decide +kernel), List.mem_of_getElem? (i := 884) (by decide +kernel)⟩
theorem lw_p26 : lw_okq (⟨"OrdersInTurnModel", "valueOf", "([III)I"⟩, 37) := ⟨⟨by decide +kernel, by decide +kernel⟩, List.mem_of_getElem? (i := 662) (by decide +kernel), List.mem_of_getElem? (i := 887) (by decide +kernel), List.mem_of_getElem? (i := 888) (by decide +kernel)⟩
theorem lw_p27 : lw_okq (⟨"OrdersInTurnModel", "orderedMany", "()I"⟩, 37) := ⟨⟨by decide +kernel, by decide +kernel⟩, List.mem_of_getElem? (i := 662) (by decide +kernel), List.mem_of_getElem? (i := 899) (by decide +kernel), List.mem_of_getElem? (i := 900) (by decide +kernel)⟩
theorem lw_p28 : lw_okq (⟨"OrdersInTurnModel", "layInTurn", "(I)V"⟩, 37) := ⟨⟨by decide +kernel, by decide +kernel⟩, List.mem_of_getElem? (i := 662) (by decide +kernel), List.mem_of_getElem? (i := 907) (by decide +kernel), List.mem_of_getElem? (i := 908) (by decide +kernel)⟩
theorem lw_p29 : lw_okq (⟨"OrdersInTurnModel", "beginOf", "(II)I"⟩, 37) := ⟨⟨by decide +kernel, by decide +kernel⟩, List.mem_of_getElem? (i := 662) (by decide +kernel), List.mem_of_getElem? (i := 915) (by decide +kernel), List.mem_of_getElem? (i := 916) (by decide +kernel)⟩
theorem lw_p30 : lw_okq (⟨"OrdersInTurnModel", "joyAll", "([I)I"⟩, 37) := ⟨⟨by decide +kernel, by decide +kernel⟩, List.mem_of_getElem? (i := 662) (by decide +kernel), List.mem_of_getElem? (i := 919) (by decide +kernel), List.mem_of_getElem? (i := 920) (by decide +kernel)⟩
theorem lw_p31 : lw_okq (⟨"OrdersInTurnModel", "power", "(I)I"⟩, 37) := ⟨⟨by decide +kernel, by decide +kernel⟩, List.mem_of_getElem? (i := 662) (by decide +kernel), List.mem_of_getElem? (i := 927) (by decide +kernel), List.mem_of_getElem? (i := 928) (by decide +kernel)⟩
def lw_privs_2 : List (MethodName × Nat) := [(⟨"OrdersInTurnModel", "tellDish", "(II)I"⟩, 37), (⟨"OrdersInTurnModel", "haveOf", "([II)I"⟩, 37), (⟨"OrdersInTurnModel", "lacks", "()Z"⟩, 37), (⟨"OrdersInTurnModel", "isGuest", "(I)Z"⟩, 37), (⟨"OrdersInTurnModel", "tell", "(II)I"⟩, 37), (⟨"OrdersInTurnModel", "swayBy", "(II)I"⟩, 37), (⟨"OrdersInTurnModel", "joyOf", "([II)I"⟩, 37), (⟨"OrdersInTurnModel", "asItIs", "()V"⟩, 37), (⟨"OrdersInTurnModel", "bestFor", "([II)I"⟩, 37), (⟨"OrdersInTurnModel", "mayHave", "([III)Z"⟩, 37), (⟨"OrdersInTurnModel", "valueOf", "([III)I"⟩, 37), (⟨"OrdersInTurnModel", "orderedMany", "()I"⟩, 37), (⟨"OrdersInTurnModel", "layInTurn", "(I)V"⟩, 37), (⟨"OrdersInTurnModel", "beginOf", "(II)I"⟩, 37), (⟨"OrdersInTurnModel", "joyAll", "([I)I"⟩, 37), (⟨"OrdersInTurnModel", "power", "(I)I"⟩, 37)]
theorem lw_r2 : ∀ q ∈ lw_privs_2, lw_okq q := List.forall_mem_cons.mpr ⟨lw_p16, List.forall_mem_cons.mpr ⟨lw_p17, List.forall_mem_cons.mpr ⟨lw_p18, List.forall_mem_cons.mpr ⟨lw_p19, List.forall_mem_cons.mpr ⟨lw_p20, List.forall_mem_cons.mpr ⟨lw_p21, List.forall_mem_cons.mpr ⟨lw_p22, List.forall_mem_cons.mpr ⟨lw_p23, List.forall_mem_cons.mpr ⟨lw_p24, List.forall_mem_cons.mpr ⟨lw_p25, List.forall_mem_cons.mpr ⟨lw_p26, List.forall_mem_cons.mpr ⟨lw_p27, List.forall_mem_cons.mpr ⟨lw_p28, List.forall_mem_cons.mpr ⟨lw_p29, List.forall_mem_cons.mpr ⟨lw_p30, List.forall_mem_cons.mpr ⟨lw_p31, fun _ h => absurd h List.not_mem_nil⟩⟩⟩⟩⟩⟩⟩⟩⟩⟩⟩⟩⟩⟩⟩⟩
theorem lw_p32 : lw_okq (⟨"OrdersInTurnModel", "isAtOnce", "()Z"⟩, 37) := ⟨⟨by decide +kernel, by decide +kernel⟩, List.mem_of_getElem? (i := 662) (by decide +kernel), List.mem_of_getElem? (i := 931) (by decide +kernel), List.mem_of_getElem? (i := 932) (by decide +kernel)⟩
theorem lw_p33 : lw_okq (⟨"OrdersInTurnModel", "mindsOf", "(I)I"⟩, 37) := ⟨⟨by decide +kernel, by decide +kernel⟩, List.mem_of_getElem? (i := 662) (by decide +kernel), List.mem_of_getElem? (i := 939) (by decide +kernel), List.mem_of_getElem? (i := 940) (by decide +kernel)⟩
theorem lw_p34 : lw_okq (⟨"OrdersInTurnModel", "hostOf", "()I"⟩, 37) := ⟨⟨by decide +kernel, by decide +kernel⟩, List.mem_of_getElem? (i := 662) (by decide +kernel), List.mem_of_getElem? (i := 947) (by decide +kernel), List.mem_of_getElem? (i := 948) (by decide +kernel)⟩
theorem lw_p35 : lw_okq (⟨"OrdersInTurnModel", "fewestOf", "(I)I"⟩, 37) := ⟨⟨by decide +kernel, by decide +kernel⟩, List.mem_of_getElem? (i := 662) (by decide +kernel), List.mem_of_getElem? (i := 955) (by decide +kernel), List.mem_of_getElem? (i := 956) (by decide +kernel)⟩
theorem lw_p36 : lw_okq (⟨"OrdersInTurnModel", "fitsOf", "()I"⟩, 37) := ⟨⟨by decide +kernel, by decide +kernel⟩, List.mem_of_getElem? (i := 662) (by decide +kernel), List.mem_of_getElem? (i := 979) (by decide +kernel), List.mem_of_getElem? (i := 980) (by decide +kernel)⟩
theorem lw_p37 : lw_okq (⟨"OrdersInTurnModel", "draw", "(I)I"⟩, 37) := ⟨⟨by decide +kernel, by decide +kernel⟩, List.mem_of_getElem? (i := 662) (by decide +kernel), List.mem_of_getElem? (i := 991) (by decide +kernel), List.mem_of_getElem? (i := 992) (by decide +kernel)⟩
theorem lw_p38 : lw_okq (⟨"OrdersInTurnModel", "countOf", "(I)I"⟩, 37) := ⟨⟨by decide +kernel, by decide +kernel⟩, List.mem_of_getElem? (i := 662) (by decide +kernel), List.mem_of_getElem? (i := 1011) (by decide +kernel), List.mem_of_getElem? (i := 1012) (by decide +kernel)⟩
theorem lw_p39 : lw_okq (⟨"OrdersInTurnModel", "say", "(J)V"⟩, 37) := ⟨⟨by decide +kernel, by decide +kernel⟩, List.mem_of_getElem? (i := 662) (by decide +kernel), List.mem_of_getElem? (i := 1020) (by decide +kernel), List.mem_of_getElem? (i := 1021) (by decide +kernel)⟩
theorem lw_p40 : lw_okq (⟨"OrdersInTurnModel", "sayGuest", "(I)V"⟩, 37) := ⟨⟨by decide +kernel, by decide +kernel⟩, List.mem_of_getElem? (i := 662) (by decide +kernel), List.mem_of_getElem? (i := 1025) (by decide +kernel), List.mem_of_getElem? (i := 1026) (by decide +kernel)⟩
def lw_privs_3 : List (MethodName × Nat) := [(⟨"OrdersInTurnModel", "isAtOnce", "()Z"⟩, 37), (⟨"OrdersInTurnModel", "mindsOf", "(I)I"⟩, 37), (⟨"OrdersInTurnModel", "hostOf", "()I"⟩, 37), (⟨"OrdersInTurnModel", "fewestOf", "(I)I"⟩, 37), (⟨"OrdersInTurnModel", "fitsOf", "()I"⟩, 37), (⟨"OrdersInTurnModel", "draw", "(I)I"⟩, 37), (⟨"OrdersInTurnModel", "countOf", "(I)I"⟩, 37), (⟨"OrdersInTurnModel", "say", "(J)V"⟩, 37), (⟨"OrdersInTurnModel", "sayGuest", "(I)V"⟩, 37)]
theorem lw_r3 : ∀ q ∈ lw_privs_3, lw_okq q := List.forall_mem_cons.mpr ⟨lw_p32, List.forall_mem_cons.mpr ⟨lw_p33, List.forall_mem_cons.mpr ⟨lw_p34, List.forall_mem_cons.mpr ⟨lw_p35, List.forall_mem_cons.mpr ⟨lw_p36, List.forall_mem_cons.mpr ⟨lw_p37, List.forall_mem_cons.mpr ⟨lw_p38, List.forall_mem_cons.mpr ⟨lw_p39, List.forall_mem_cons.mpr ⟨lw_p40, fun _ h => absurd h List.not_mem_nil⟩⟩⟩⟩⟩⟩⟩⟩⟩
def lw_privs : List (MethodName × Nat) := lw_privs_1 ++ (lw_privs_2 ++ (lw_privs_3))
def lw_tbl : List Cond := k2_sels lw_privs ++ tables_1
theorem lw_privs_ok : ∀ q ∈ lw_privs, lw_okq q := by
  show ∀ q ∈ lw_privs_1 ++ (lw_privs_2 ++ (lw_privs_3)), lw_okq q
  exact List.forall_mem_append.mpr ⟨lw_r1, List.forall_mem_append.mpr ⟨lw_r2, lw_r3⟩⟩
-- ===== end of PART A; then your names; then what follows =====
end
section
def RX0 : String := "OrdersInTurn$Forecast"
def TX0 : u_T := fun k => match k with
  | 0 => ("OrdersInTurn$Forecast", "menu", "LOrdersInTurn$Menu;", true)
  | 1 => ("OrdersInTurn$Forecast", "party", "LOrdersInTurn$Party;", true)
  | 2 => ("OrdersInTurn$Forecast", "real", "LOrdersInTurn$Table;", true)
  | 3 => ("OrdersInTurn$Forecast", "trial", "LOrdersInTurn$Table;", true)
  | 4 => ("OrdersInTurn$Forecast", "bestOfGroup", "[I", true)
  | 5 => ("OrdersInTurn$Forecast", "joyOfGroup", "[I", true)
  | 6 => ("OrdersInTurn$Forecast", "wantsKept", "[[I", true)
  | 7 => ("OrdersInTurn$Forecast", "ways", "I", false)
  | 8 => ("OrdersInTurn$Forecast", "mostJoy", "I", false)
  | _ => ("OrdersInTurn$Forecast", "seed", "J", false)
def tyX0 : Nat → FieldType := fun k => match k with
  | 0 => .object "OrdersInTurn$Menu"
  | 1 => .object "OrdersInTurn$Party"
  | 2 => .object "OrdersInTurn$Table"
  | 3 => .object "OrdersInTurn$Table"
  | 4 => .array .int
  | 5 => .array .int
  | 6 => .array (.array .int)
  | 7 => .int
  | 8 => .int
  | _ => .long
abbrev wsX00 : List Cond := u_ws RX0 TX0 10
theorem nmX0 : ∀ a, a < 10 → ∀ b, b < 10 → a ≠ b → (TX0 a).2.1 ≠ (TX0 b).2.1 := by decide +kernel
theorem tyX0_ok : ∀ k, k < 10 → parseFieldDescriptor (TX0 k).2.2.1 = some (tyX0 k) := by decide +kernel
abbrev cX0_init : ByteArray := prog_2_method_1_code
def yX0_init : MethodName := ⟨RX0, "<init>", "(LOrdersInTurn$Menu;LOrdersInTurn$Party;LOrdersInTurn$Table;)V"⟩
abbrev cX0_setUp : ByteArray := prog_2_method_2_code
def yX0_setUp : MethodName := ⟨RX0, "setUp", "()V"⟩
abbrev cX0_goRound : ByteArray := prog_2_method_3_code
def yX0_goRound : MethodName := ⟨RX0, "goRound", "(I)V"⟩
abbrev cX0_dishInTurn : ByteArray := prog_2_method_4_code
def yX0_dishInTurn : MethodName := ⟨RX0, "dishInTurn", "(II)I"⟩
abbrev cX0_joyFrom : ByteArray := prog_2_method_5_code
def yX0_joyFrom : MethodName := ⟨RX0, "joyFrom", "(II)I"⟩
abbrev cX0_bestFirst : ByteArray := prog_2_method_6_code
def yX0_bestFirst : MethodName := ⟨RX0, "bestFirst", "(I)I"⟩
abbrev cX0_seekContent : ByteArray := prog_2_method_7_code
def yX0_seekContent : MethodName := ⟨RX0, "seekContent", "()V"⟩
abbrev cX0_seatOnwards : ByteArray := prog_2_method_8_code
def yX0_seatOnwards : MethodName := ⟨RX0, "seatOnwards", "(I)V"⟩
abbrev cX0_roundsTillSettled : ByteArray := prog_2_method_9_code
def yX0_roundsTillSettled : MethodName := ⟨RX0, "roundsTillSettled", "(I)I"⟩
abbrev cX0_mostGiven : ByteArray := prog_2_method_10_code
def yX0_mostGiven : MethodName := ⟨RX0, "mostGiven", "()I"⟩
abbrev cX0_findJoyOfGroups : ByteArray := prog_2_method_11_code
def yX0_findJoyOfGroups : MethodName := ⟨RX0, "findJoyOfGroups", "(I)V"⟩
abbrev cX0_fewestBits : ByteArray := prog_2_method_12_code
def yX0_fewestBits : MethodName := ⟨RX0, "fewestBits", "()I"⟩
abbrev cX0_pleasesAll : ByteArray := prog_2_method_13_code
def yX0_pleasesAll : MethodName := ⟨RX0, "pleasesAll", "(I)Z"⟩
abbrev cX0_leastUrge : ByteArray := prog_2_method_14_code
def yX0_leastUrge : MethodName := ⟨RX0, "leastUrge", "(III)I"⟩
abbrev cX0_fittingLoaths : ByteArray := prog_2_method_15_code
def yX0_fittingLoaths : MethodName := ⟨RX0, "fittingLoaths", "(LOrdersInTurn$Log;)I"⟩
abbrev cX0_wouldFit : ByteArray := prog_2_method_16_code
def yX0_wouldFit : MethodName := ⟨RX0, "wouldFit", "(LOrdersInTurn$Log;I)Z"⟩
abbrev cX0_joyOfEvenings : ByteArray := prog_2_method_17_code
def yX0_joyOfEvenings : MethodName := ⟨RX0, "joyOfEvenings", "(II)I"⟩
abbrev cX0_draw : ByteArray := prog_2_method_18_code
def yX0_draw : MethodName := ⟨RX0, "draw", "(I)I"⟩
def RX1 : String := "OrdersInTurn$Guest"
def TX1 : u_T := fun k => match k with
  | 0 => ("OrdersInTurn$Guest", "wants", "[I", true)
  | 1 => ("OrdersInTurn$Guest", "kind", "I", false)
  | 2 => ("OrdersInTurn$Guest", "purse", "I", false)
  | _ => ("OrdersInTurn$Guest", "swayByLoath", "I", false)
def tyX1 : Nat → FieldType := fun k => match k with
  | 0 => .array .int
  | 1 => .int
  | 2 => .int
  | _ => .int
abbrev wsX10 : List Cond := u_ws RX1 TX1 4
theorem nmX1 : ∀ a, a < 4 → ∀ b, b < 4 → a ≠ b → (TX1 a).2.1 ≠ (TX1 b).2.1 := by decide +kernel
theorem tyX1_ok : ∀ k, k < 4 → parseFieldDescriptor (TX1 k).2.2.1 = some (tyX1 k) := by decide +kernel
abbrev cX1_init : ByteArray := prog_3_method_1_code
def yX1_init : MethodName := ⟨RX1, "<init>", "()V"⟩
abbrev cX1_sitDown : ByteArray := prog_3_method_2_code
def yX1_sitDown : MethodName := ⟨RX1, "sitDown", "(II)V"⟩
abbrev cX1_isOfKind : ByteArray := prog_3_method_3_code
def yX1_isOfKind : MethodName := ⟨RX1, "isOfKind", "(I)Z"⟩
def RX2 : String := "OrdersInTurn$Image"
def TX2 : u_T := fun k => match k with
  | 0 => ("OrdersInTurn$Image", "table", "LOrdersInTurn$Table;", true)
  | 1 => ("OrdersInTurn$Image", "log", "LOrdersInTurn$Log;", true)
  | 2 => ("OrdersInTurn$Image", "wants", "[[I", true)
  | 3 => ("OrdersInTurn$Image", "purses", "[I", true)
  | 4 => ("OrdersInTurn$Image", "guests", "I", false)
  | _ => ("OrdersInTurn$Image", "cardNumber", "I", false)
def tyX2 : Nat → FieldType := fun k => match k with
  | 0 => .object "OrdersInTurn$Table"
  | 1 => .object "OrdersInTurn$Log"
  | 2 => .array (.array .int)
  | 3 => .array .int
  | 4 => .int
  | _ => .int
abbrev wsX20 : List Cond := u_ws RX2 TX2 6
theorem nmX2 : ∀ a, a < 6 → ∀ b, b < 6 → a ≠ b → (TX2 a).2.1 ≠ (TX2 b).2.1 := by decide +kernel
theorem tyX2_ok : ∀ k, k < 6 → parseFieldDescriptor (TX2 k).2.2.1 = some (tyX2 k) := by decide +kernel
abbrev cX2_init : ByteArray := prog_4_method_1_code
def yX2_init : MethodName := ⟨RX2, "<init>", "(LOrdersInTurn$Menu;LOrdersInTurn$Party;)V"⟩
abbrev cX2_take : ByteArray := prog_4_method_2_code
def yX2_take : MethodName := ⟨RX2, "take", "(LOrdersInTurn$Party;LOrdersInTurn$Table;LOrdersInTurn$Log;)V"⟩
abbrev cX2_putBack : ByteArray := prog_4_method_3_code
def yX2_putBack : MethodName := ⟨RX2, "putBack", "(LOrdersInTurn$Party;LOrdersInTurn$Table;LOrdersInTurn$Log;)V"⟩
def RX3 : String := "OrdersInTurn$Log"
def TX3 : u_T := fun k => match k with
  | 0 => ("OrdersInTurn$Log", "first", "[I", true)
  | 1 => ("OrdersInTurn$Log", "guest", "[I", true)
  | 2 => ("OrdersInTurn$Log", "dish", "[I", true)
  | _ => ("OrdersInTurn$Log", "size", "I", false)
def tyX3 : Nat → FieldType := fun k => match k with
  | 0 => .array .int
  | 1 => .array .int
  | 2 => .array .int
  | _ => .int
abbrev wsX30 : List Cond := u_ws RX3 TX3 4
theorem nmX3 : ∀ a, a < 4 → ∀ b, b < 4 → a ≠ b → (TX3 a).2.1 ≠ (TX3 b).2.1 := by decide +kernel
theorem tyX3_ok : ∀ k, k < 4 → parseFieldDescriptor (TX3 k).2.2.1 = some (tyX3 k) := by decide +kernel
abbrev cX3_init : ByteArray := prog_5_method_1_code
def yX3_init : MethodName := ⟨RX3, "<init>", "()V"⟩
abbrev cX3_add : ByteArray := prog_5_method_2_code
def yX3_add : MethodName := ⟨RX3, "add", "(III)V"⟩
abbrev cX3_copyFrom : ByteArray := prog_5_method_3_code
def yX3_copyFrom : MethodName := ⟨RX3, "copyFrom", "(LOrdersInTurn$Log;)V"⟩
def RX4 : String := "OrdersInTurn$Menu"
def TX4 : u_T := fun k => match k with
  | 0 => ("OrdersInTurn$Menu", "stock", "[I", true)
  | 1 => ("OrdersInTurn$Menu", "price", "[I", true)
  | 2 => ("OrdersInTurn$Menu", "dishes", "I", false)
  | _ => ("OrdersInTurn$Menu", "loath", "I", false)
def tyX4 : Nat → FieldType := fun k => match k with
  | 0 => .array .int
  | 1 => .array .int
  | 2 => .int
  | _ => .int
abbrev wsX40 : List Cond := u_ws RX4 TX4 4
theorem nmX4 : ∀ a, a < 4 → ∀ b, b < 4 → a ≠ b → (TX4 a).2.1 ≠ (TX4 b).2.1 := by decide +kernel
theorem tyX4_ok : ∀ k, k < 4 → parseFieldDescriptor (TX4 k).2.2.1 = some (tyX4 k) := by decide +kernel
abbrev cX4_init : ByteArray := prog_6_method_1_code
def yX4_init : MethodName := ⟨RX4, "<init>", "()V"⟩
abbrev cX4_read : ByteArray := prog_6_method_2_code
def yX4_read : MethodName := ⟨RX4, "read", "(LOrdersInTurn$Page;)V"⟩
def RX5 : String := "OrdersInTurn$Page"
def TX5 : u_T := fun k => match k with
  | 0 => ("OrdersInTurn$Page", "letters", "[I", true)
  | _ => ("OrdersInTurn$Page", "size", "I", false)
def tyX5 : Nat → FieldType := fun k => match k with
  | 0 => .array .int
  | _ => .int
abbrev wsX50 : List Cond := u_ws RX5 TX5 2
theorem nmX5 : ∀ a, a < 2 → ∀ b, b < 2 → a ≠ b → (TX5 a).2.1 ≠ (TX5 b).2.1 := by decide +kernel
theorem tyX5_ok : ∀ k, k < 2 → parseFieldDescriptor (TX5 k).2.2.1 = some (tyX5 k) := by decide +kernel
abbrev cX5_init : ByteArray := prog_7_method_1_code
def yX5_init : MethodName := ⟨RX5, "<init>", "()V"⟩
abbrev cX5_firstFault : ByteArray := prog_7_method_2_code
def yX5_firstFault : MethodName := ⟨RX5, "firstFault", "()I"⟩
abbrev cX5_isCard : ByteArray := prog_7_method_3_code
def yX5_isCard : MethodName := ⟨RX5, "isCard", "()Z"⟩
abbrev cX5_isGood : ByteArray := prog_7_method_4_code
def yX5_isGood : MethodName := ⟨RX5, "isGood", "(I)Z"⟩
def RX6 : String := "OrdersInTurn$Party"
def TX6 : u_T := fun k => match k with
  | 0 => ("OrdersInTurn$Party", "seats", "[LOrdersInTurn$Guest;", true)
  | _ => ("OrdersInTurn$Party", "size", "I", false)
def tyX6 : Nat → FieldType := fun k => match k with
  | 0 => .array (.object "OrdersInTurn$Guest")
  | _ => .int
abbrev wsX60 : List Cond := u_ws RX6 TX6 2
theorem nmX6 : ∀ a, a < 2 → ∀ b, b < 2 → a ≠ b → (TX6 a).2.1 ≠ (TX6 b).2.1 := by decide +kernel
theorem tyX6_ok : ∀ k, k < 2 → parseFieldDescriptor (TX6 k).2.2.1 = some (tyX6 k) := by decide +kernel
abbrev cX6_init : ByteArray := prog_8_method_1_code
def yX6_init : MethodName := ⟨RX6, "<init>", "()V"⟩
abbrev cX6_behind : ByteArray := prog_8_method_2_code
def yX6_behind : MethodName := ⟨RX6, "behind", "(II)I"⟩
abbrev cX6_saveWants : ByteArray := prog_8_method_3_code
def yX6_saveWants : MethodName := ⟨RX6, "saveWants", "([[I)V"⟩
abbrev cX6_loadWants : ByteArray := prog_8_method_4_code
def yX6_loadWants : MethodName := ⟨RX6, "loadWants", "([[I)V"⟩
def RX7 : String := "OrdersInTurn$Table"
def TX7 : u_T := fun k => match k with
  | 0 => ("OrdersInTurn$Table", "menu", "LOrdersInTurn$Menu;", true)
  | 1 => ("OrdersInTurn$Table", "party", "LOrdersInTurn$Party;", true)
  | 2 => ("OrdersInTurn$Table", "left", "[I", true)
  | 3 => ("OrdersInTurn$Table", "holders", "[I", true)
  | 4 => ("OrdersInTurn$Table", "has", "[I", true)
  | 5 => ("OrdersInTurn$Table", "ordered", "[I", true)
  | 6 => ("OrdersInTurn$Table", "urged", "I", false)
  | 7 => ("OrdersInTurn$Table", "much", "I", false)
  | _ => ("OrdersInTurn$Table", "loath", "I", false)
def tyX7 : Nat → FieldType := fun k => match k with
  | 0 => .object "OrdersInTurn$Menu"
  | 1 => .object "OrdersInTurn$Party"
  | 2 => .array .int
  | 3 => .array .int
  | 4 => .array .int
  | 5 => .array .int
  | 6 => .int
  | 7 => .int
  | _ => .int
abbrev wsX70 : List Cond := u_ws RX7 TX7 9
theorem nmX7 : ∀ a, a < 9 → ∀ b, b < 9 → a ≠ b → (TX7 a).2.1 ≠ (TX7 b).2.1 := by decide +kernel
theorem tyX7_ok : ∀ k, k < 9 → parseFieldDescriptor (TX7 k).2.2.1 = some (tyX7 k) := by decide +kernel
abbrev cX7_init : ByteArray := prog_9_method_1_code
def yX7_init : MethodName := ⟨RX7, "<init>", "(LOrdersInTurn$Menu;LOrdersInTurn$Party;)V"⟩
abbrev cX7_wipe : ByteArray := prog_9_method_2_code
def yX7_wipe : MethodName := ⟨RX7, "wipe", "()V"⟩
abbrev cX7_press : ByteArray := prog_9_method_3_code
def yX7_press : MethodName := ⟨RX7, "press", "(II)V"⟩
abbrev cX7_canHave : ByteArray := prog_9_method_4_code
def yX7_canHave : MethodName := ⟨RX7, "canHave", "(II)Z"⟩
abbrev cX7_value : ByteArray := prog_9_method_5_code
def yX7_value : MethodName := ⟨RX7, "value", "(II)I"⟩
abbrev cX7_choice : ByteArray := prog_9_method_6_code
def yX7_choice : MethodName := ⟨RX7, "choice", "(I)I"⟩
abbrev cX7_give : ByteArray := prog_9_method_7_code
def yX7_give : MethodName := ⟨RX7, "give", "(II)V"⟩
abbrev cX7_giveBack : ByteArray := prog_9_method_8_code
def yX7_giveBack : MethodName := ⟨RX7, "giveBack", "(I)V"⟩
abbrev cX7_changesMind : ByteArray := prog_9_method_9_code
def yX7_changesMind : MethodName := ⟨RX7, "changesMind", "(I)Z"⟩
abbrev cX7_allContent : ByteArray := prog_9_method_10_code
def yX7_allContent : MethodName := ⟨RX7, "allContent", "()Z"⟩
abbrev cX7_joyOf : ByteArray := prog_9_method_11_code
def yX7_joyOf : MethodName := ⟨RX7, "joyOf", "(I)I"⟩
abbrev cX7_joyOfAll : ByteArray := prog_9_method_12_code
def yX7_joyOfAll : MethodName := ⟨RX7, "joyOfAll", "()I"⟩
abbrev cX7_howManyOrdered : ByteArray := prog_9_method_13_code
def yX7_howManyOrdered : MethodName := ⟨RX7, "howManyOrdered", "()I"⟩
abbrev cX7_copyFrom : ByteArray := prog_9_method_14_code
def yX7_copyFrom : MethodName := ⟨RX7, "copyFrom", "(LOrdersInTurn$Table;)V"⟩
def RX8 : String := "OrdersInTurn"
def TX8 : u_T := fun k => match k with
  | 0 => ("OrdersInTurn", "page", "LOrdersInTurn$Page;", true)
  | 1 => ("OrdersInTurn", "menu", "LOrdersInTurn$Menu;", true)
  | 2 => ("OrdersInTurn", "party", "LOrdersInTurn$Party;", true)
  | 3 => ("OrdersInTurn", "table", "LOrdersInTurn$Table;", true)
  | 4 => ("OrdersInTurn", "log", "LOrdersInTurn$Log;", true)
  | 5 => ("OrdersInTurn", "forecast", "LOrdersInTurn$Forecast;", true)
  | 6 => ("OrdersInTurn", "kept", "LOrdersInTurn$Image;", true)
  | 7 => ("OrdersInTurn", "cardsRead", "I", false)
  | _ => ("OrdersInTurn", "atOnceDone", "I", false)
def tyX8 : Nat → FieldType := fun k => match k with
  | 0 => .object "OrdersInTurn$Page"
  | 1 => .object "OrdersInTurn$Menu"
  | 2 => .object "OrdersInTurn$Party"
  | 3 => .object "OrdersInTurn$Table"
  | 4 => .object "OrdersInTurn$Log"
  | 5 => .object "OrdersInTurn$Forecast"
  | 6 => .object "OrdersInTurn$Image"
  | 7 => .int
  | _ => .int
abbrev wsX80 : List Cond := u_ws RX8 TX8 9
theorem nmX8 : ∀ a, a < 9 → ∀ b, b < 9 → a ≠ b → (TX8 a).2.1 ≠ (TX8 b).2.1 := by decide +kernel
theorem tyX8_ok : ∀ k, k < 9 → parseFieldDescriptor (TX8 k).2.2.1 = some (tyX8 k) := by decide +kernel
abbrev cX8_init : ByteArray := prog_1_method_1_code
def yX8_init : MethodName := ⟨RX8, "<init>", "()V"⟩
abbrev cX8_letter : ByteArray := prog_1_method_2_code
def yX8_letter : MethodName := ⟨RX8, "letter", "(I)I"⟩
abbrev cX8_blank : ByteArray := prog_1_method_3_code
def yX8_blank : MethodName := ⟨RX8, "blank", "()I"⟩
abbrev cX8_fault : ByteArray := prog_1_method_4_code
def yX8_fault : MethodName := ⟨RX8, "fault", "()I"⟩
abbrev cX8_card : ByteArray := prog_1_method_5_code
def yX8_card : MethodName := ⟨RX8, "card", "()I"⟩
abbrev cX8_dish : ByteArray := prog_1_method_6_code
def yX8_dish : MethodName := ⟨RX8, "dish", "(II)I"⟩
abbrev cX8_guest : ByteArray := prog_1_method_7_code
def yX8_guest : MethodName := ⟨RX8, "guest", "(II)I"⟩
abbrev cX8_about : ByteArray := prog_1_method_8_code
def yX8_about : MethodName := ⟨RX8, "about", "(II)I"⟩
abbrev cX8_as : ByteArray := prog_1_method_9_code
def yX8_as : MethodName := ⟨RX8, "as", "(II)I"⟩
abbrev cX8_want : ByteArray := prog_1_method_10_code
def yX8_want : MethodName := ⟨RX8, "want", "(III)I"⟩
abbrev cX8_purse : ByteArray := prog_1_method_11_code
def yX8_purse : MethodName := ⟨RX8, "purse", "(II)I"⟩
abbrev cX8_urge : ByteArray := prog_1_method_12_code
def yX8_urge : MethodName := ⟨RX8, "urge", "(II)I"⟩
abbrev cX8_takes : ByteArray := prog_1_method_13_code
def yX8_takes : MethodName := ⟨RX8, "takes", "(I)I"⟩
abbrev cX8_order : ByteArray := prog_1_method_14_code
def yX8_order : MethodName := ⟨RX8, "order", "(I)I"⟩
abbrev cX8_clear : ByteArray := prog_1_method_15_code
def yX8_clear : MethodName := ⟨RX8, "clear", "()I"⟩
abbrev cX8_inTurn : ByteArray := prog_1_method_16_code
def yX8_inTurn : MethodName := ⟨RX8, "inTurn", "(II)I"⟩
abbrev cX8_begin : ByteArray := prog_1_method_17_code
def yX8_begin : MethodName := ⟨RX8, "begin", "(II)I"⟩
abbrev cX8_atOnce : ByteArray := prog_1_method_18_code
def yX8_atOnce : MethodName := ⟨RX8, "atOnce", "(I)I"⟩
abbrev cX8_minds : ByteArray := prog_1_method_19_code
def yX8_minds : MethodName := ⟨RX8, "minds", "(I)I"⟩
abbrev cX8_host : ByteArray := prog_1_method_20_code
def yX8_host : MethodName := ⟨RX8, "host", "()I"⟩
abbrev cX8_fewest : ByteArray := prog_1_method_21_code
def yX8_fewest : MethodName := ⟨RX8, "fewest", "(I)I"⟩
abbrev cX8_urges : ByteArray := prog_1_method_22_code
def yX8_urges : MethodName := ⟨RX8, "urges", "(III)I"⟩
abbrev cX8_evening : ByteArray := prog_1_method_23_code
def yX8_evening : MethodName := ⟨RX8, "evening", "(III)I"⟩
abbrev cX8_forget : ByteArray := prog_1_method_24_code
def yX8_forget : MethodName := ⟨RX8, "forget", "()I"⟩
abbrev cX8_fits : ByteArray := prog_1_method_25_code
def yX8_fits : MethodName := ⟨RX8, "fits", "(I)I"⟩
abbrev cX8_evenings : ByteArray := prog_1_method_26_code
def yX8_evenings : MethodName := ⟨RX8, "evenings", "(III)I"⟩
abbrev cX8_image : ByteArray := prog_1_method_27_code
def yX8_image : MethodName := ⟨RX8, "image", "()I"⟩
abbrev cX8_restore : ByteArray := prog_1_method_28_code
def yX8_restore : MethodName := ⟨RX8, "restore", "()I"⟩
abbrev cX8_count : ByteArray := prog_1_method_29_code
def yX8_count : MethodName := ⟨RX8, "count", "(I)I"⟩
abbrev cX8_digest : ByteArray := prog_1_method_30_code
def yX8_digest : MethodName := ⟨RX8, "digest", "()J"⟩
abbrev cX8_mixedDishes : ByteArray := prog_1_method_31_code
def yX8_mixedDishes : MethodName := ⟨RX8, "mixedDishes", "(J)J"⟩
abbrev cX8_mixedGuests : ByteArray := prog_1_method_32_code
def yX8_mixedGuests : MethodName := ⟨RX8, "mixedGuests", "(J)J"⟩
abbrev cX8_mixed : ByteArray := prog_1_method_33_code
def yX8_mixed : MethodName := ⟨RX8, "mixed", "(JJ)J"⟩
abbrev cX8_onlyLoath : ByteArray := prog_1_method_34_code
def yX8_onlyLoath : MethodName := ⟨RX8, "onlyLoath", "(I)I"⟩
abbrev cX8_isOutside : ByteArray := prog_1_method_35_code
def yX8_isOutside : MethodName := ⟨RX8, "isOutside", "(III)Z"⟩
abbrev cX8_noCard : ByteArray := prog_1_method_36_code
def yX8_noCard : MethodName := ⟨RX8, "noCard", "()Z"⟩
abbrev cX8_noDish : ByteArray := prog_1_method_37_code
def yX8_noDish : MethodName := ⟨RX8, "noDish", "(I)Z"⟩
abbrev cX8_noGuest : ByteArray := prog_1_method_38_code
def yX8_noGuest : MethodName := ⟨RX8, "noGuest", "(I)Z"⟩
def RX9 : String := "OrdersInTurnModel"
def TX9 : u_T := fun k => match k with
  | 0 => ("OrdersInTurnModel", "page", "[I", true)
  | 1 => ("OrdersInTurnModel", "pageMany", "I", false)
  | 2 => ("OrdersInTurnModel", "readLeft", "[I", true)
  | 3 => ("OrdersInTurnModel", "readPrice", "[I", true)
  | 4 => ("OrdersInTurnModel", "readMany", "I", false)
  | 5 => ("OrdersInTurnModel", "readLoath", "I", false)
  | 6 => ("OrdersInTurnModel", "state", "I", false)
  | 7 => ("OrdersInTurnModel", "dishes", "I", false)
  | 8 => ("OrdersInTurnModel", "loath", "I", false)
  | 9 => ("OrdersInTurnModel", "cardsRead", "I", false)
  | 10 => ("OrdersInTurnModel", "urged", "I", false)
  | 11 => ("OrdersInTurnModel", "urgedBy", "I", false)
  | 12 => ("OrdersInTurnModel", "leftOnCard", "[I", true)
  | 13 => ("OrdersInTurnModel", "prices", "[I", true)
  | 14 => ("OrdersInTurnModel", "guests", "I", false)
  | 15 => ("OrdersInTurnModel", "rows", "[I", true)
  | 16 => ("OrdersInTurnModel", "wants", "[I", true)
  | 17 => ("OrdersInTurnModel", "has", "[I", true)
  | 18 => ("OrdersInTurnModel", "byLoath", "I", false)
  | 19 => ("OrdersInTurnModel", "byUrged", "I", false)
  | 20 => ("OrdersInTurnModel", "byMuch", "I", false)
  | 21 => ("OrdersInTurnModel", "table", "[I", true)
  | 22 => ("OrdersInTurnModel", "atOnceMany", "I", false)
  | 23 => ("OrdersInTurnModel", "eveningMany", "I", false)
  | 24 => ("OrdersInTurnModel", "eveningRows", "[I", true)
  | 25 => ("OrdersInTurnModel", "seedNow", "I", false)
  | 26 => ("OrdersInTurnModel", "savedWants", "[I", true)
  | 27 => ("OrdersInTurnModel", "keptCard", "I", false)
  | 28 => ("OrdersInTurnModel", "keptGuests", "I", false)
  | 29 => ("OrdersInTurnModel", "keptUrged", "I", false)
  | 30 => ("OrdersInTurnModel", "keptMuch", "I", false)
  | 31 => ("OrdersInTurnModel", "keptEveningMany", "I", false)
  | 32 => ("OrdersInTurnModel", "keptWants", "[I", true)
  | 33 => ("OrdersInTurnModel", "keptRows", "[I", true)
  | 34 => ("OrdersInTurnModel", "keptHas", "[I", true)
  | 35 => ("OrdersInTurnModel", "keptEvenings", "[I", true)
  | _ => ("OrdersInTurnModel", "hash", "J", false)
def tyX9 : Nat → FieldType := fun k => match k with
  | 0 => .array .int
  | 1 => .int
  | 2 => .array .int
  | 3 => .array .int
  | 4 => .int
  | 5 => .int
  | 6 => .int
  | 7 => .int
  | 8 => .int
  | 9 => .int
  | 10 => .int
  | 11 => .int
  | 12 => .array .int
  | 13 => .array .int
  | 14 => .int
  | 15 => .array .int
  | 16 => .array .int
  | 17 => .array .int
  | 18 => .int
  | 19 => .int
  | 20 => .int
  | 21 => .array .int
  | 22 => .int
  | 23 => .int
  | 24 => .array .int
  | 25 => .int
  | 26 => .array .int
  | 27 => .int
  | 28 => .int
  | 29 => .int
  | 30 => .int
  | 31 => .int
  | 32 => .array .int
  | 33 => .array .int
  | 34 => .array .int
  | 35 => .array .int
  | _ => .long
abbrev wsX90 : List Cond := u_ws RX9 TX9 37
theorem nmX9 : ∀ a, a < 37 → ∀ b, b < 37 → a ≠ b → (TX9 a).2.1 ≠ (TX9 b).2.1 := by decide +kernel
theorem tyX9_ok : ∀ k, k < 37 → parseFieldDescriptor (TX9 k).2.2.1 = some (tyX9 k) := by decide +kernel
abbrev cX9_init : ByteArray := prog_11_method_1_code
def yX9_init : MethodName := ⟨RX9, "<init>", "()V"⟩
abbrev cX9_in : ByteArray := prog_11_method_2_code
def yX9_in : MethodName := ⟨RX9, "in", "(JJJ)Z"⟩
abbrev cX9_letter : ByteArray := prog_11_method_3_code
def yX9_letter : MethodName := ⟨RX9, "letter", "(I)I"⟩
abbrev cX9_blank : ByteArray := prog_11_method_4_code
def yX9_blank : MethodName := ⟨RX9, "blank", "()I"⟩
abbrev cX9_go : ByteArray := prog_11_method_5_code
def yX9_go : MethodName := ⟨RX9, "go", "(I)Z"⟩
abbrev cX9_faultOf : ByteArray := prog_11_method_6_code
def yX9_faultOf : MethodName := ⟨RX9, "faultOf", "()I"⟩
abbrev cX9_fault : ByteArray := prog_11_method_7_code
def yX9_fault : MethodName := ⟨RX9, "fault", "()I"⟩
abbrev cX9_card : ByteArray := prog_11_method_8_code
def yX9_card : MethodName := ⟨RX9, "card", "()I"⟩
abbrev cX9_lacks : ByteArray := prog_11_method_9_code
def yX9_lacks : MethodName := ⟨RX9, "lacks", "()Z"⟩
abbrev cX9_isDish : ByteArray := prog_11_method_10_code
def yX9_isDish : MethodName := ⟨RX9, "isDish", "(I)Z"⟩
abbrev cX9_isGuest : ByteArray := prog_11_method_11_code
def yX9_isGuest : MethodName := ⟨RX9, "isGuest", "(I)Z"⟩
abbrev cX9_haveOf : ByteArray := prog_11_method_12_code
def yX9_haveOf : MethodName := ⟨RX9, "haveOf", "([II)I"⟩
abbrev cX9_tellDish : ByteArray := prog_11_method_13_code
def yX9_tellDish : MethodName := ⟨RX9, "tellDish", "(II)I"⟩
abbrev cX9_dish : ByteArray := prog_11_method_14_code
def yX9_dish : MethodName := ⟨RX9, "dish", "(II)I"⟩
abbrev cX9_guest : ByteArray := prog_11_method_15_code
def yX9_guest : MethodName := ⟨RX9, "guest", "(II)I"⟩
abbrev cX9_swayBy : ByteArray := prog_11_method_16_code
def yX9_swayBy : MethodName := ⟨RX9, "swayBy", "(II)I"⟩
abbrev cX9_joyOf : ByteArray := prog_11_method_17_code
def yX9_joyOf : MethodName := ⟨RX9, "joyOf", "([II)I"⟩
abbrev cX9_tell : ByteArray := prog_11_method_18_code
def yX9_tell : MethodName := ⟨RX9, "tell", "(II)I"⟩
abbrev cX9_about : ByteArray := prog_11_method_19_code
def yX9_about : MethodName := ⟨RX9, "about", "(II)I"⟩
abbrev cX9_as : ByteArray := prog_11_method_20_code
def yX9_as : MethodName := ⟨RX9, "as", "(II)I"⟩
abbrev cX9_want : ByteArray := prog_11_method_21_code
def yX9_want : MethodName := ⟨RX9, "want", "(III)I"⟩
abbrev cX9_purse : ByteArray := prog_11_method_22_code
def yX9_purse : MethodName := ⟨RX9, "purse", "(II)I"⟩
abbrev cX9_urge : ByteArray := prog_11_method_23_code
def yX9_urge : MethodName := ⟨RX9, "urge", "(II)I"⟩
abbrev cX9_asItIs : ByteArray := prog_11_method_24_code
def yX9_asItIs : MethodName := ⟨RX9, "asItIs", "()V"⟩
abbrev cX9_valueOf : ByteArray := prog_11_method_25_code
def yX9_valueOf : MethodName := ⟨RX9, "valueOf", "([III)I"⟩
abbrev cX9_mayHave : ByteArray := prog_11_method_26_code
def yX9_mayHave : MethodName := ⟨RX9, "mayHave", "([III)Z"⟩
abbrev cX9_bestFor : ByteArray := prog_11_method_27_code
def yX9_bestFor : MethodName := ⟨RX9, "bestFor", "([II)I"⟩
abbrev cX9_takes : ByteArray := prog_11_method_28_code
def yX9_takes : MethodName := ⟨RX9, "takes", "(I)I"⟩
abbrev cX9_order : ByteArray := prog_11_method_29_code
def yX9_order : MethodName := ⟨RX9, "order", "(I)I"⟩
abbrev cX9_orderedMany : ByteArray := prog_11_method_30_code
def yX9_orderedMany : MethodName := ⟨RX9, "orderedMany", "()I"⟩
abbrev cX9_clear : ByteArray := prog_11_method_31_code
def yX9_clear : MethodName := ⟨RX9, "clear", "()I"⟩
abbrev cX9_layInTurn : ByteArray := prog_11_method_32_code
def yX9_layInTurn : MethodName := ⟨RX9, "layInTurn", "(I)V"⟩
abbrev cX9_inTurn : ByteArray := prog_11_method_33_code
def yX9_inTurn : MethodName := ⟨RX9, "inTurn", "(II)I"⟩
abbrev cX9_joyAll : ByteArray := prog_11_method_34_code
def yX9_joyAll : MethodName := ⟨RX9, "joyAll", "([I)I"⟩
abbrev cX9_beginOf : ByteArray := prog_11_method_35_code
def yX9_beginOf : MethodName := ⟨RX9, "beginOf", "(II)I"⟩
abbrev cX9_begin : ByteArray := prog_11_method_36_code
def yX9_begin : MethodName := ⟨RX9, "begin", "(II)I"⟩
abbrev cX9_isAtOnce : ByteArray := prog_11_method_37_code
def yX9_isAtOnce : MethodName := ⟨RX9, "isAtOnce", "()Z"⟩
abbrev cX9_power : ByteArray := prog_11_method_38_code
def yX9_power : MethodName := ⟨RX9, "power", "(I)I"⟩
abbrev cX9_atOnce : ByteArray := prog_11_method_39_code
def yX9_atOnce : MethodName := ⟨RX9, "atOnce", "(I)I"⟩
abbrev cX9_mindsOf : ByteArray := prog_11_method_40_code
def yX9_mindsOf : MethodName := ⟨RX9, "mindsOf", "(I)I"⟩
abbrev cX9_minds : ByteArray := prog_11_method_41_code
def yX9_minds : MethodName := ⟨RX9, "minds", "(I)I"⟩
abbrev cX9_hostOf : ByteArray := prog_11_method_42_code
def yX9_hostOf : MethodName := ⟨RX9, "hostOf", "()I"⟩
abbrev cX9_host : ByteArray := prog_11_method_43_code
def yX9_host : MethodName := ⟨RX9, "host", "()I"⟩
abbrev cX9_ones : ByteArray := prog_11_method_44_code
def yX9_ones : MethodName := ⟨RX9, "ones", "(I)I"⟩
abbrev cX9_fewestOf : ByteArray := prog_11_method_45_code
def yX9_fewestOf : MethodName := ⟨RX9, "fewestOf", "(I)I"⟩
abbrev cX9_fewest : ByteArray := prog_11_method_46_code
def yX9_fewest : MethodName := ⟨RX9, "fewest", "(I)I"⟩
abbrev cX9_urges : ByteArray := prog_11_method_47_code
def yX9_urges : MethodName := ⟨RX9, "urges", "(III)I"⟩
abbrev cX9_evening : ByteArray := prog_11_method_48_code
def yX9_evening : MethodName := ⟨RX9, "evening", "(III)I"⟩
abbrev cX9_forget : ByteArray := prog_11_method_49_code
def yX9_forget : MethodName := ⟨RX9, "forget", "()I"⟩
abbrev cX9_fitsOf : ByteArray := prog_11_method_50_code
def yX9_fitsOf : MethodName := ⟨RX9, "fitsOf", "()I"⟩
abbrev cX9_fits : ByteArray := prog_11_method_51_code
def yX9_fits : MethodName := ⟨RX9, "fits", "(I)I"⟩
abbrev cX9_draw : ByteArray := prog_11_method_52_code
def yX9_draw : MethodName := ⟨RX9, "draw", "(I)I"⟩
abbrev cX9_copy : ByteArray := prog_11_method_53_code
def yX9_copy : MethodName := ⟨RX9, "copy", "([I[I)V"⟩
abbrev cX9_evenings : ByteArray := prog_11_method_54_code
def yX9_evenings : MethodName := ⟨RX9, "evenings", "(III)I"⟩
abbrev cX9_image : ByteArray := prog_11_method_55_code
def yX9_image : MethodName := ⟨RX9, "image", "()I"⟩
abbrev cX9_restore : ByteArray := prog_11_method_56_code
def yX9_restore : MethodName := ⟨RX9, "restore", "()I"⟩
abbrev cX9_countOf : ByteArray := prog_11_method_57_code
def yX9_countOf : MethodName := ⟨RX9, "countOf", "(I)I"⟩
abbrev cX9_count : ByteArray := prog_11_method_58_code
def yX9_count : MethodName := ⟨RX9, "count", "(I)I"⟩
abbrev cX9_say : ByteArray := prog_11_method_59_code
def yX9_say : MethodName := ⟨RX9, "say", "(J)V"⟩
abbrev cX9_sayGuest : ByteArray := prog_11_method_60_code
def yX9_sayGuest : MethodName := ⟨RX9, "sayGuest", "(I)V"⟩
abbrev cX9_digest : ByteArray := prog_11_method_61_code
def yX9_digest : MethodName := ⟨RX9, "digest", "()J"⟩
def RJ6 : String := "java/lang/Integer"
def TJ6 : u_T := fun k => match k with
  | _ => ("", "", "", false)
def tyJ6 : Nat → FieldType := fun k => match k with
  | _ => .int
abbrev wsJ60 : List Cond := u_ws RJ6 TJ6 0
theorem nmJ6 : ∀ a, a < 0 → ∀ b, b < 0 → a ≠ b → (TJ6 a).2.1 ≠ (TJ6 b).2.1 := by decide +kernel
theorem tyJ6_ok : ∀ k, k < 0 → parseFieldDescriptor (TJ6 k).2.2.1 = some (tyJ6 k) := by decide +kernel
abbrev cJ6_bitCount_0f7a4 : ByteArray := prog_12_method_49_code
def yJ6_bitCount_0f7a4 : MethodName := ⟨RJ6, "bitCount", "(I)I"⟩
def RJ9 : String := "java/lang/Math"
def TJ9 : u_T := fun k => match k with
  | _ => ("", "", "", false)
def tyJ9 : Nat → FieldType := fun k => match k with
  | _ => .int
abbrev wsJ90 : List Cond := u_ws RJ9 TJ9 0
theorem nmJ9 : ∀ a, a < 0 → ∀ b, b < 0 → a ≠ b → (TJ9 a).2.1 ≠ (TJ9 b).2.1 := by decide +kernel
theorem tyJ9_ok : ∀ k, k < 0 → parseFieldDescriptor (TJ9 k).2.2.1 = some (tyJ9 k) := by decide +kernel
abbrev cJ9_max_7cf53 : ByteArray := prog_13_method_65_code
def yJ9_max_7cf53 : MethodName := ⟨RJ9, "max", "(II)I"⟩
abbrev cJ9_min_7cf53 : ByteArray := prog_13_method_69_code
def yJ9_min_7cf53 : MethodName := ⟨RJ9, "min", "(II)I"⟩
def RJ10 : String := "java/lang/System"
def TJ10 : u_T := fun k => match k with
  | _ => ("", "", "", false)
def tyJ10 : Nat → FieldType := fun k => match k with
  | _ => .int
abbrev wsJ100 : List Cond := u_ws RJ10 TJ10 0
theorem nmJ10 : ∀ a, a < 0 → ∀ b, b < 0 → a ≠ b → (TJ10 a).2.1 ≠ (TJ10 b).2.1 := by decide +kernel
theorem tyJ10_ok : ∀ k, k < 0 → parseFieldDescriptor (TJ10 k).2.2.1 = some (tyJ10 k) := by decide +kernel
def RL : String := "OrdersInTurnLaw"
abbrev cL_law : ByteArray := code
def yL_law : MethodName := ⟨RL, "law", "([I)Z"⟩
abbrev vwCl : List vw_C := [(RX0, TX0, 10), (RX1, TX1, 4), (RX2, TX2, 6), (RX3, TX3, 4), (RX4, TX4, 4), (RX5, TX5, 2), (RX6, TX6, 2), (RX7, TX7, 9), (RX8, TX8, 9), (RX9, TX9, 37)]
end
section
theorem dX0_init_0 : decode cX0_init 0 = .ok (.aload_n 0, 1) := by decide +kernel
theorem dX0_init_1 : decode cX0_init 1 = .ok (.invokespecial 3, 3) := by decide +kernel
theorem dX0_init_4 : decode cX0_init 4 = .ok (.aload_n 0, 1) := by decide +kernel
theorem dX0_init_5 : decode cX0_init 5 = .ok (.bipush 32, 2) := by decide +kernel
theorem dX0_init_7 : decode cX0_init 7 = .ok (.newarray .int, 2) := by decide +kernel
theorem dX0_init_9 : decode cX0_init 9 = .ok (.putfield 11, 3) := by decide +kernel
theorem dX0_init_12 : decode cX0_init 12 = .ok (.aload_n 0, 1) := by decide +kernel
theorem dX0_init_13 : decode cX0_init 13 = .ok (.bipush 32, 2) := by decide +kernel
theorem dX0_init_15 : decode cX0_init 15 = .ok (.newarray .int, 2) := by decide +kernel
theorem dX0_init_17 : decode cX0_init 17 = .ok (.putfield 15, 3) := by decide +kernel
theorem dX0_init_20 : decode cX0_init 20 = .ok (.aload_n 0, 1) := by decide +kernel
theorem dX0_init_21 : decode cX0_init 21 = .ok (.iconst 5, 1) := by decide +kernel
theorem dX0_init_22 : decode cX0_init 22 = .ok (.bipush 6, 2) := by decide +kernel
theorem dX0_init_24 : decode cX0_init 24 = .ok (.multianewarray 18 2, 4) := by decide +kernel
theorem dX0_init_28 : decode cX0_init 28 = .ok (.putfield 20, 3) := by decide +kernel
theorem dX0_init_31 : decode cX0_init 31 = .ok (.aload_n 0, 1) := by decide +kernel
theorem dX0_init_32 : decode cX0_init 32 = .ok (.aload_n 1, 1) := by decide +kernel
theorem dX0_init_33 : decode cX0_init 33 = .ok (.putfield 23, 3) := by decide +kernel
theorem dX0_init_36 : decode cX0_init 36 = .ok (.aload_n 0, 1) := by decide +kernel
theorem dX0_init_37 : decode cX0_init 37 = .ok (.aload_n 2, 1) := by decide +kernel
theorem dX0_init_38 : decode cX0_init 38 = .ok (.putfield 27, 3) := by decide +kernel
theorem dX0_init_41 : decode cX0_init 41 = .ok (.aload_n 0, 1) := by decide +kernel
theorem dX0_init_42 : decode cX0_init 42 = .ok (.aload_n 3, 1) := by decide +kernel
theorem dX0_init_43 : decode cX0_init 43 = .ok (.putfield 31, 3) := by decide +kernel
theorem dX0_init_46 : decode cX0_init 46 = .ok (.aload_n 0, 1) := by decide +kernel
theorem dX0_init_47 : decode cX0_init 47 = .ok (.new 35, 3) := by decide +kernel
theorem dX0_init_50 : decode cX0_init 50 = .ok (.dup, 1) := by decide +kernel
theorem dX0_init_51 : decode cX0_init 51 = .ok (.aload_n 1, 1) := by decide +kernel
theorem dX0_init_52 : decode cX0_init 52 = .ok (.aload_n 2, 1) := by decide +kernel
theorem dX0_init_53 : decode cX0_init 53 = .ok (.invokespecial 37, 3) := by decide +kernel
theorem dX0_init_56 : decode cX0_init 56 = .ok (.putfield 40, 3) := by decide +kernel
theorem dX0_init_59 : decode cX0_init 59 = .ok (.return_, 1) := by decide +kernel
theorem dX0_setUp_0 : decode cX0_setUp 0 = .ok (.aload_n 0, 1) := by decide +kernel
theorem dX0_setUp_1 : decode cX0_setUp 1 = .ok (.getfield 40, 3) := by decide +kernel
theorem dX0_setUp_4 : decode cX0_setUp 4 = .ok (.invokevirtual 43, 3) := by decide +kernel
theorem dX0_setUp_7 : decode cX0_setUp 7 = .ok (.aload_n 0, 1) := by decide +kernel
theorem dX0_setUp_8 : decode cX0_setUp 8 = .ok (.getfield 40, 3) := by decide +kernel
theorem dX0_setUp_11 : decode cX0_setUp 11 = .ok (.aload_n 0, 1) := by decide +kernel
theorem dX0_setUp_12 : decode cX0_setUp 12 = .ok (.getfield 23, 3) := by decide +kernel
theorem dX0_setUp_15 : decode cX0_setUp 15 = .ok (.getfield 46, 3) := by decide +kernel
theorem dX0_setUp_18 : decode cX0_setUp 18 = .ok (.putfield 52, 3) := by decide +kernel
theorem dX0_setUp_21 : decode cX0_setUp 21 = .ok (.aload_n 0, 1) := by decide +kernel
theorem dX0_setUp_22 : decode cX0_setUp 22 = .ok (.getfield 40, 3) := by decide +kernel
theorem dX0_setUp_25 : decode cX0_setUp 25 = .ok (.aload_n 0, 1) := by decide +kernel
theorem dX0_setUp_26 : decode cX0_setUp 26 = .ok (.getfield 31, 3) := by decide +kernel
theorem dX0_setUp_29 : decode cX0_setUp 29 = .ok (.getfield 53, 3) := by decide +kernel
theorem dX0_setUp_32 : decode cX0_setUp 32 = .ok (.aload_n 0, 1) := by decide +kernel
theorem dX0_setUp_33 : decode cX0_setUp 33 = .ok (.getfield 31, 3) := by decide +kernel
theorem dX0_setUp_36 : decode cX0_setUp 36 = .ok (.getfield 56, 3) := by decide +kernel
theorem dX0_setUp_39 : decode cX0_setUp 39 = .ok (.invokevirtual 59, 3) := by decide +kernel
theorem dX0_setUp_42 : decode cX0_setUp 42 = .ok (.return_, 1) := by decide +kernel
theorem dX0_goRound_0 : decode cX0_goRound 0 = .ok (.iconst 0, 1) := by decide +kernel
theorem dX0_goRound_1 : decode cX0_goRound 1 = .ok (.istore_n 2, 1) := by decide +kernel
theorem dX0_goRound_2 : decode cX0_goRound 2 = .ok (.iload_n 2, 1) := by decide +kernel
theorem dX0_goRound_3 : decode cX0_goRound 3 = .ok (.aload_n 0, 1) := by decide +kernel
theorem dX0_goRound_4 : decode cX0_goRound 4 = .ok (.getfield 27, 3) := by decide +kernel
theorem dX0_goRound_7 : decode cX0_goRound 7 = .ok (.getfield 63, 3) := by decide +kernel
theorem dX0_goRound_10 : decode cX0_goRound 10 = .ok (.if_icmp .ge 35, 3) := by decide +kernel
theorem dX0_goRound_13 : decode cX0_goRound 13 = .ok (.aload_n 0, 1) := by decide +kernel
theorem dX0_goRound_14 : decode cX0_goRound 14 = .ok (.getfield 27, 3) := by decide +kernel
theorem dX0_goRound_17 : decode cX0_goRound 17 = .ok (.iload_n 1, 1) := by decide +kernel
theorem dX0_goRound_18 : decode cX0_goRound 18 = .ok (.iload_n 2, 1) := by decide +kernel
theorem dX0_goRound_19 : decode cX0_goRound 19 = .ok (.invokevirtual 68, 3) := by decide +kernel
theorem dX0_goRound_22 : decode cX0_goRound 22 = .ok (.istore_n 3, 1) := by decide +kernel
theorem dX0_goRound_23 : decode cX0_goRound 23 = .ok (.aload_n 0, 1) := by decide +kernel
theorem dX0_goRound_24 : decode cX0_goRound 24 = .ok (.getfield 40, 3) := by decide +kernel
theorem dX0_goRound_27 : decode cX0_goRound 27 = .ok (.iload_n 3, 1) := by decide +kernel
theorem dX0_goRound_28 : decode cX0_goRound 28 = .ok (.aload_n 0, 1) := by decide +kernel
theorem dX0_goRound_29 : decode cX0_goRound 29 = .ok (.getfield 40, 3) := by decide +kernel
theorem dX0_goRound_32 : decode cX0_goRound 32 = .ok (.iload_n 3, 1) := by decide +kernel
theorem dX0_goRound_33 : decode cX0_goRound 33 = .ok (.invokevirtual 72, 3) := by decide +kernel
theorem dX0_goRound_36 : decode cX0_goRound 36 = .ok (.invokevirtual 76, 3) := by decide +kernel
theorem dX0_goRound_39 : decode cX0_goRound 39 = .ok (.iinc 2 1, 3) := by decide +kernel
theorem dX0_goRound_42 : decode cX0_goRound 42 = .ok (.goto (-40), 3) := by decide +kernel
theorem dX0_goRound_45 : decode cX0_goRound 45 = .ok (.return_, 1) := by decide +kernel
theorem dX0_dishInTurn_0 : decode cX0_dishInTurn 0 = .ok (.aload_n 0, 1) := by decide +kernel
theorem dX0_dishInTurn_1 : decode cX0_dishInTurn 1 = .ok (.invokevirtual 79, 3) := by decide +kernel
theorem dX0_dishInTurn_4 : decode cX0_dishInTurn 4 = .ok (.aload_n 0, 1) := by decide +kernel
theorem dX0_dishInTurn_5 : decode cX0_dishInTurn 5 = .ok (.iload_n 1, 1) := by decide +kernel
theorem dX0_dishInTurn_6 : decode cX0_dishInTurn 6 = .ok (.invokevirtual 82, 3) := by decide +kernel
theorem dX0_dishInTurn_9 : decode cX0_dishInTurn 9 = .ok (.aload_n 0, 1) := by decide +kernel
theorem dX0_dishInTurn_10 : decode cX0_dishInTurn 10 = .ok (.getfield 40, 3) := by decide +kernel
theorem dX0_dishInTurn_13 : decode cX0_dishInTurn 13 = .ok (.getfield 86, 3) := by decide +kernel
theorem dX0_dishInTurn_16 : decode cX0_dishInTurn 16 = .ok (.iload_n 2, 1) := by decide +kernel
theorem dX0_dishInTurn_17 : decode cX0_dishInTurn 17 = .ok (.iaload, 1) := by decide +kernel
theorem dX0_dishInTurn_18 : decode cX0_dishInTurn 18 = .ok (.ireturn, 1) := by decide +kernel
theorem dX0_joyFrom_0 : decode cX0_joyFrom 0 = .ok (.aload_n 0, 1) := by decide +kernel
theorem dX0_joyFrom_1 : decode cX0_joyFrom 1 = .ok (.invokevirtual 79, 3) := by decide +kernel
theorem dX0_joyFrom_4 : decode cX0_joyFrom 4 = .ok (.aload_n 0, 1) := by decide +kernel
theorem dX0_joyFrom_5 : decode cX0_joyFrom 5 = .ok (.iload_n 1, 1) := by decide +kernel
theorem dX0_joyFrom_6 : decode cX0_joyFrom 6 = .ok (.invokevirtual 82, 3) := by decide +kernel
theorem dX0_joyFrom_9 : decode cX0_joyFrom 9 = .ok (.iload_n 2, 1) := by decide +kernel
theorem dX0_joyFrom_10 : decode cX0_joyFrom 10 = .ok (.iconst (-1), 1) := by decide +kernel
theorem dX0_joyFrom_11 : decode cX0_joyFrom 11 = .ok (.if_icmp .ne 13, 3) := by decide +kernel
theorem dX0_joyFrom_14 : decode cX0_joyFrom 14 = .ok (.aload_n 0, 1) := by decide +kernel
theorem dX0_joyFrom_15 : decode cX0_joyFrom 15 = .ok (.getfield 40, 3) := by decide +kernel
theorem dX0_joyFrom_18 : decode cX0_joyFrom 18 = .ok (.invokevirtual 89, 3) := by decide +kernel
theorem dX0_joyFrom_21 : decode cX0_joyFrom 21 = .ok (.goto 11, 3) := by decide +kernel
theorem dX0_joyFrom_24 : decode cX0_joyFrom 24 = .ok (.aload_n 0, 1) := by decide +kernel
theorem dX0_joyFrom_25 : decode cX0_joyFrom 25 = .ok (.getfield 40, 3) := by decide +kernel
theorem dX0_joyFrom_28 : decode cX0_joyFrom 28 = .ok (.iload_n 2, 1) := by decide +kernel
theorem dX0_joyFrom_29 : decode cX0_joyFrom 29 = .ok (.invokevirtual 93, 3) := by decide +kernel
theorem dX0_joyFrom_32 : decode cX0_joyFrom 32 = .ok (.ireturn, 1) := by decide +kernel
theorem dX0_bestFirst_0 : decode cX0_bestFirst 0 = .ok (.iconst 0, 1) := by decide +kernel
theorem dX0_bestFirst_1 : decode cX0_bestFirst 1 = .ok (.istore_n 2, 1) := by decide +kernel
theorem dX0_bestFirst_2 : decode cX0_bestFirst 2 = .ok (.iconst (-1), 1) := by decide +kernel
theorem dX0_bestFirst_3 : decode cX0_bestFirst 3 = .ok (.istore_n 3, 1) := by decide +kernel
theorem dX0_bestFirst_4 : decode cX0_bestFirst 4 = .ok (.iconst 0, 1) := by decide +kernel
theorem dX0_bestFirst_5 : decode cX0_bestFirst 5 = .ok (.istore 4, 2) := by decide +kernel
theorem dX0_bestFirst_7 : decode cX0_bestFirst 7 = .ok (.iload 4, 2) := by decide +kernel
theorem dX0_bestFirst_9 : decode cX0_bestFirst 9 = .ok (.aload_n 0, 1) := by decide +kernel
theorem dX0_bestFirst_10 : decode cX0_bestFirst 10 = .ok (.getfield 27, 3) := by decide +kernel
theorem dX0_bestFirst_13 : decode cX0_bestFirst 13 = .ok (.getfield 63, 3) := by decide +kernel
theorem dX0_bestFirst_16 : decode cX0_bestFirst 16 = .ok (.if_icmp .ge 30, 3) := by decide +kernel
theorem dX0_bestFirst_19 : decode cX0_bestFirst 19 = .ok (.aload_n 0, 1) := by decide +kernel
theorem dX0_bestFirst_20 : decode cX0_bestFirst 20 = .ok (.iload 4, 2) := by decide +kernel
theorem dX0_bestFirst_22 : decode cX0_bestFirst 22 = .ok (.iload_n 1, 1) := by decide +kernel
theorem dX0_bestFirst_23 : decode cX0_bestFirst 23 = .ok (.invokevirtual 96, 3) := by decide +kernel
theorem dX0_bestFirst_26 : decode cX0_bestFirst 26 = .ok (.istore 5, 2) := by decide +kernel
theorem dX0_bestFirst_28 : decode cX0_bestFirst 28 = .ok (.iload 5, 2) := by decide +kernel
theorem dX0_bestFirst_30 : decode cX0_bestFirst 30 = .ok (.iload_n 3, 1) := by decide +kernel
theorem dX0_bestFirst_31 : decode cX0_bestFirst 31 = .ok (.if_icmp .le 9, 3) := by decide +kernel
theorem dX0_bestFirst_34 : decode cX0_bestFirst 34 = .ok (.iload 4, 2) := by decide +kernel
theorem dX0_bestFirst_36 : decode cX0_bestFirst 36 = .ok (.istore_n 2, 1) := by decide +kernel
theorem dX0_bestFirst_37 : decode cX0_bestFirst 37 = .ok (.iload 5, 2) := by decide +kernel
theorem dX0_bestFirst_39 : decode cX0_bestFirst 39 = .ok (.istore_n 3, 1) := by decide +kernel
theorem dX0_bestFirst_40 : decode cX0_bestFirst 40 = .ok (.iinc 4 1, 3) := by decide +kernel
theorem dX0_bestFirst_43 : decode cX0_bestFirst 43 = .ok (.goto (-36), 3) := by decide +kernel
theorem dX0_bestFirst_46 : decode cX0_bestFirst 46 = .ok (.iload_n 2, 1) := by decide +kernel
theorem dX0_bestFirst_47 : decode cX0_bestFirst 47 = .ok (.ireturn, 1) := by decide +kernel
theorem dX0_seekContent_0 : decode cX0_seekContent 0 = .ok (.aload_n 0, 1) := by decide +kernel
theorem dX0_seekContent_1 : decode cX0_seekContent 1 = .ok (.iconst 0, 1) := by decide +kernel
theorem dX0_seekContent_2 : decode cX0_seekContent 2 = .ok (.putfield 99, 3) := by decide +kernel
theorem dX0_seekContent_5 : decode cX0_seekContent 5 = .ok (.aload_n 0, 1) := by decide +kernel
theorem dX0_seekContent_6 : decode cX0_seekContent 6 = .ok (.iconst (-1), 1) := by decide +kernel
theorem dX0_seekContent_7 : decode cX0_seekContent 7 = .ok (.putfield 102, 3) := by decide +kernel
theorem dX0_seekContent_10 : decode cX0_seekContent 10 = .ok (.aload_n 0, 1) := by decide +kernel
theorem dX0_seekContent_11 : decode cX0_seekContent 11 = .ok (.invokevirtual 79, 3) := by decide +kernel
theorem dX0_seekContent_14 : decode cX0_seekContent 14 = .ok (.aload_n 0, 1) := by decide +kernel
theorem dX0_seekContent_15 : decode cX0_seekContent 15 = .ok (.iconst 0, 1) := by decide +kernel
theorem dX0_seekContent_16 : decode cX0_seekContent 16 = .ok (.invokevirtual 105, 3) := by decide +kernel
theorem dX0_seekContent_19 : decode cX0_seekContent 19 = .ok (.return_, 1) := by decide +kernel
theorem dX0_seatOnwards_0 : decode cX0_seatOnwards 0 = .ok (.iload_n 1, 1) := by decide +kernel
theorem dX0_seatOnwards_1 : decode cX0_seatOnwards 1 = .ok (.aload_n 0, 1) := by decide +kernel
theorem dX0_seatOnwards_2 : decode cX0_seatOnwards 2 = .ok (.getfield 27, 3) := by decide +kernel
theorem dX0_seatOnwards_5 : decode cX0_seatOnwards 5 = .ok (.getfield 63, 3) := by decide +kernel
theorem dX0_seatOnwards_8 : decode cX0_seatOnwards 8 = .ok (.if_icmp .lt 42, 3) := by decide +kernel
theorem dX0_seatOnwards_11 : decode cX0_seatOnwards 11 = .ok (.aload_n 0, 1) := by decide +kernel
theorem dX0_seatOnwards_12 : decode cX0_seatOnwards 12 = .ok (.getfield 40, 3) := by decide +kernel
theorem dX0_seatOnwards_15 : decode cX0_seatOnwards 15 = .ok (.invokevirtual 108, 3) := by decide +kernel
theorem dX0_seatOnwards_18 : decode cX0_seatOnwards 18 = .ok (.ifCond .eq 31, 3) := by decide +kernel
theorem dX0_seatOnwards_21 : decode cX0_seatOnwards 21 = .ok (.aload_n 0, 1) := by decide +kernel
theorem dX0_seatOnwards_22 : decode cX0_seatOnwards 22 = .ok (.dup, 1) := by decide +kernel
theorem dX0_seatOnwards_23 : decode cX0_seatOnwards 23 = .ok (.getfield 99, 3) := by decide +kernel
theorem dX0_seatOnwards_26 : decode cX0_seatOnwards 26 = .ok (.iconst 1, 1) := by decide +kernel
theorem dX0_seatOnwards_27 : decode cX0_seatOnwards 27 = .ok (.iadd, 1) := by decide +kernel
theorem dX0_seatOnwards_28 : decode cX0_seatOnwards 28 = .ok (.putfield 99, 3) := by decide +kernel
theorem dX0_seatOnwards_31 : decode cX0_seatOnwards 31 = .ok (.aload_n 0, 1) := by decide +kernel
theorem dX0_seatOnwards_32 : decode cX0_seatOnwards 32 = .ok (.aload_n 0, 1) := by decide +kernel
theorem dX0_seatOnwards_33 : decode cX0_seatOnwards 33 = .ok (.getfield 102, 3) := by decide +kernel
theorem dX0_seatOnwards_36 : decode cX0_seatOnwards 36 = .ok (.aload_n 0, 1) := by decide +kernel
theorem dX0_seatOnwards_37 : decode cX0_seatOnwards 37 = .ok (.getfield 40, 3) := by decide +kernel
theorem dX0_seatOnwards_40 : decode cX0_seatOnwards 40 = .ok (.invokevirtual 89, 3) := by decide +kernel
theorem dX0_seatOnwards_43 : decode cX0_seatOnwards 43 = .ok (.invokestatic 112, 3) := by decide +kernel
theorem dX0_seatOnwards_46 : decode cX0_seatOnwards 46 = .ok (.putfield 102, 3) := by decide +kernel
theorem dX0_seatOnwards_49 : decode cX0_seatOnwards 49 = .ok (.return_, 1) := by decide +kernel
theorem dX0_seatOnwards_50 : decode cX0_seatOnwards 50 = .ok (.iconst 0, 1) := by decide +kernel
theorem dX0_seatOnwards_51 : decode cX0_seatOnwards 51 = .ok (.istore_n 2, 1) := by decide +kernel
theorem dX0_seatOnwards_52 : decode cX0_seatOnwards 52 = .ok (.iload_n 2, 1) := by decide +kernel
theorem dX0_seatOnwards_53 : decode cX0_seatOnwards 53 = .ok (.aload_n 0, 1) := by decide +kernel
theorem dX0_seatOnwards_54 : decode cX0_seatOnwards 54 = .ok (.getfield 23, 3) := by decide +kernel
theorem dX0_seatOnwards_57 : decode cX0_seatOnwards 57 = .ok (.getfield 117, 3) := by decide +kernel
theorem dX0_seatOnwards_60 : decode cX0_seatOnwards 60 = .ok (.if_icmp .ge 45, 3) := by decide +kernel
theorem dX0_seatOnwards_63 : decode cX0_seatOnwards 63 = .ok (.aload_n 0, 1) := by decide +kernel
theorem dX0_seatOnwards_64 : decode cX0_seatOnwards 64 = .ok (.getfield 40, 3) := by decide +kernel
theorem dX0_seatOnwards_67 : decode cX0_seatOnwards 67 = .ok (.iload_n 1, 1) := by decide +kernel
theorem dX0_seatOnwards_68 : decode cX0_seatOnwards 68 = .ok (.iload_n 2, 1) := by decide +kernel
theorem dX0_seatOnwards_69 : decode cX0_seatOnwards 69 = .ok (.invokevirtual 120, 3) := by decide +kernel
theorem dX0_seatOnwards_72 : decode cX0_seatOnwards 72 = .ok (.ifCond .eq 27, 3) := by decide +kernel
theorem dX0_seatOnwards_75 : decode cX0_seatOnwards 75 = .ok (.aload_n 0, 1) := by decide +kernel
theorem dX0_seatOnwards_76 : decode cX0_seatOnwards 76 = .ok (.getfield 40, 3) := by decide +kernel
theorem dX0_seatOnwards_79 : decode cX0_seatOnwards 79 = .ok (.iload_n 1, 1) := by decide +kernel
theorem dX0_seatOnwards_80 : decode cX0_seatOnwards 80 = .ok (.iload_n 2, 1) := by decide +kernel
theorem dX0_seatOnwards_81 : decode cX0_seatOnwards 81 = .ok (.invokevirtual 76, 3) := by decide +kernel
theorem dX0_seatOnwards_84 : decode cX0_seatOnwards 84 = .ok (.aload_n 0, 1) := by decide +kernel
theorem dX0_seatOnwards_85 : decode cX0_seatOnwards 85 = .ok (.iload_n 1, 1) := by decide +kernel
theorem dX0_seatOnwards_86 : decode cX0_seatOnwards 86 = .ok (.iconst 1, 1) := by decide +kernel
theorem dX0_seatOnwards_87 : decode cX0_seatOnwards 87 = .ok (.iadd, 1) := by decide +kernel
theorem dX0_seatOnwards_88 : decode cX0_seatOnwards 88 = .ok (.invokevirtual 105, 3) := by decide +kernel
theorem dX0_seatOnwards_91 : decode cX0_seatOnwards 91 = .ok (.aload_n 0, 1) := by decide +kernel
theorem dX0_seatOnwards_92 : decode cX0_seatOnwards 92 = .ok (.getfield 40, 3) := by decide +kernel
theorem dX0_seatOnwards_95 : decode cX0_seatOnwards 95 = .ok (.iload_n 1, 1) := by decide +kernel
theorem dX0_seatOnwards_96 : decode cX0_seatOnwards 96 = .ok (.invokevirtual 124, 3) := by decide +kernel
theorem dX0_seatOnwards_99 : decode cX0_seatOnwards 99 = .ok (.iinc 2 1, 3) := by decide +kernel
theorem dX0_seatOnwards_102 : decode cX0_seatOnwards 102 = .ok (.goto (-50), 3) := by decide +kernel
theorem dX0_seatOnwards_105 : decode cX0_seatOnwards 105 = .ok (.return_, 1) := by decide +kernel
theorem dX0_roundsTillSettled_0 : decode cX0_roundsTillSettled 0 = .ok (.aload_n 0, 1) := by decide +kernel
theorem dX0_roundsTillSettled_1 : decode cX0_roundsTillSettled 1 = .ok (.invokevirtual 79, 3) := by decide +kernel
theorem dX0_roundsTillSettled_4 : decode cX0_roundsTillSettled 4 = .ok (.aload_n 0, 1) := by decide +kernel
theorem dX0_roundsTillSettled_5 : decode cX0_roundsTillSettled 5 = .ok (.iload_n 1, 1) := by decide +kernel
theorem dX0_roundsTillSettled_6 : decode cX0_roundsTillSettled 6 = .ok (.invokevirtual 82, 3) := by decide +kernel
theorem dX0_roundsTillSettled_9 : decode cX0_roundsTillSettled 9 = .ok (.iconst 1, 1) := by decide +kernel
theorem dX0_roundsTillSettled_10 : decode cX0_roundsTillSettled 10 = .ok (.istore_n 2, 1) := by decide +kernel
theorem dX0_roundsTillSettled_11 : decode cX0_roundsTillSettled 11 = .ok (.iload_n 2, 1) := by decide +kernel
theorem dX0_roundsTillSettled_12 : decode cX0_roundsTillSettled 12 = .ok (.bipush 20, 2) := by decide +kernel
theorem dX0_roundsTillSettled_14 : decode cX0_roundsTillSettled 14 = .ok (.if_icmp .gt 60, 3) := by decide +kernel
theorem dX0_roundsTillSettled_17 : decode cX0_roundsTillSettled 17 = .ok (.iconst 0, 1) := by decide +kernel
theorem dX0_roundsTillSettled_18 : decode cX0_roundsTillSettled 18 = .ok (.istore_n 3, 1) := by decide +kernel
theorem dX0_roundsTillSettled_19 : decode cX0_roundsTillSettled 19 = .ok (.iconst 0, 1) := by decide +kernel
theorem dX0_roundsTillSettled_20 : decode cX0_roundsTillSettled 20 = .ok (.istore 4, 2) := by decide +kernel
theorem dX0_roundsTillSettled_22 : decode cX0_roundsTillSettled 22 = .ok (.iload 4, 2) := by decide +kernel
theorem dX0_roundsTillSettled_24 : decode cX0_roundsTillSettled 24 = .ok (.aload_n 0, 1) := by decide +kernel
theorem dX0_roundsTillSettled_25 : decode cX0_roundsTillSettled 25 = .ok (.getfield 27, 3) := by decide +kernel
theorem dX0_roundsTillSettled_28 : decode cX0_roundsTillSettled 28 = .ok (.getfield 63, 3) := by decide +kernel
theorem dX0_roundsTillSettled_31 : decode cX0_roundsTillSettled 31 = .ok (.if_icmp .ge 31, 3) := by decide +kernel
theorem dX0_roundsTillSettled_34 : decode cX0_roundsTillSettled 34 = .ok (.aload_n 0, 1) := by decide +kernel
theorem dX0_roundsTillSettled_35 : decode cX0_roundsTillSettled 35 = .ok (.getfield 40, 3) := by decide +kernel
theorem dX0_roundsTillSettled_38 : decode cX0_roundsTillSettled 38 = .ok (.aload_n 0, 1) := by decide +kernel
theorem dX0_roundsTillSettled_39 : decode cX0_roundsTillSettled 39 = .ok (.getfield 27, 3) := by decide +kernel
theorem dX0_roundsTillSettled_42 : decode cX0_roundsTillSettled 42 = .ok (.iload_n 1, 1) := by decide +kernel
theorem dX0_roundsTillSettled_43 : decode cX0_roundsTillSettled 43 = .ok (.iload 4, 2) := by decide +kernel
theorem dX0_roundsTillSettled_45 : decode cX0_roundsTillSettled 45 = .ok (.invokevirtual 68, 3) := by decide +kernel
theorem dX0_roundsTillSettled_48 : decode cX0_roundsTillSettled 48 = .ok (.invokevirtual 127, 3) := by decide +kernel
theorem dX0_roundsTillSettled_51 : decode cX0_roundsTillSettled 51 = .ok (.ifCond .eq 5, 3) := by decide +kernel
theorem dX0_roundsTillSettled_54 : decode cX0_roundsTillSettled 54 = .ok (.iconst 1, 1) := by decide +kernel
theorem dX0_roundsTillSettled_55 : decode cX0_roundsTillSettled 55 = .ok (.istore_n 3, 1) := by decide +kernel
theorem dX0_roundsTillSettled_56 : decode cX0_roundsTillSettled 56 = .ok (.iinc 4 1, 3) := by decide +kernel
theorem dX0_roundsTillSettled_59 : decode cX0_roundsTillSettled 59 = .ok (.goto (-37), 3) := by decide +kernel
theorem dX0_roundsTillSettled_62 : decode cX0_roundsTillSettled 62 = .ok (.iload_n 3, 1) := by decide +kernel
theorem dX0_roundsTillSettled_63 : decode cX0_roundsTillSettled 63 = .ok (.ifCond .ne 5, 3) := by decide +kernel
theorem dX0_roundsTillSettled_66 : decode cX0_roundsTillSettled 66 = .ok (.iload_n 2, 1) := by decide +kernel
theorem dX0_roundsTillSettled_67 : decode cX0_roundsTillSettled 67 = .ok (.ireturn, 1) := by decide +kernel
theorem dX0_roundsTillSettled_68 : decode cX0_roundsTillSettled 68 = .ok (.iinc 2 1, 3) := by decide +kernel
theorem dX0_roundsTillSettled_71 : decode cX0_roundsTillSettled 71 = .ok (.goto (-60), 3) := by decide +kernel
theorem dX0_roundsTillSettled_74 : decode cX0_roundsTillSettled 74 = .ok (.iconst (-1), 1) := by decide +kernel
theorem dX0_roundsTillSettled_75 : decode cX0_roundsTillSettled 75 = .ok (.ireturn, 1) := by decide +kernel
theorem dX0_mostGiven_0 : decode cX0_mostGiven 0 = .ok (.iconst 1, 1) := by decide +kernel
theorem dX0_mostGiven_1 : decode cX0_mostGiven 1 = .ok (.aload_n 0, 1) := by decide +kernel
theorem dX0_mostGiven_2 : decode cX0_mostGiven 2 = .ok (.getfield 27, 3) := by decide +kernel
theorem dX0_mostGiven_5 : decode cX0_mostGiven 5 = .ok (.getfield 63, 3) := by decide +kernel
theorem dX0_mostGiven_8 : decode cX0_mostGiven 8 = .ok (.ishl, 1) := by decide +kernel
theorem dX0_mostGiven_9 : decode cX0_mostGiven 9 = .ok (.istore_n 1, 1) := by decide +kernel
theorem dX0_mostGiven_10 : decode cX0_mostGiven 10 = .ok (.iconst 0, 1) := by decide +kernel
theorem dX0_mostGiven_11 : decode cX0_mostGiven 11 = .ok (.istore_n 2, 1) := by decide +kernel
theorem dX0_mostGiven_12 : decode cX0_mostGiven 12 = .ok (.iload_n 2, 1) := by decide +kernel
theorem dX0_mostGiven_13 : decode cX0_mostGiven 13 = .ok (.iload_n 1, 1) := by decide +kernel
theorem dX0_mostGiven_14 : decode cX0_mostGiven 14 = .ok (.if_icmp .ge 16, 3) := by decide +kernel
theorem dX0_mostGiven_17 : decode cX0_mostGiven 17 = .ok (.aload_n 0, 1) := by decide +kernel
theorem dX0_mostGiven_18 : decode cX0_mostGiven 18 = .ok (.getfield 11, 3) := by decide +kernel
theorem dX0_mostGiven_21 : decode cX0_mostGiven 21 = .ok (.iload_n 2, 1) := by decide +kernel
theorem dX0_mostGiven_22 : decode cX0_mostGiven 22 = .ok (.iconst 0, 1) := by decide +kernel
theorem dX0_mostGiven_23 : decode cX0_mostGiven 23 = .ok (.iastore, 1) := by decide +kernel
theorem dX0_mostGiven_24 : decode cX0_mostGiven 24 = .ok (.iinc 2 1, 3) := by decide +kernel
theorem dX0_mostGiven_27 : decode cX0_mostGiven 27 = .ok (.goto (-15), 3) := by decide +kernel
theorem dX0_mostGiven_30 : decode cX0_mostGiven 30 = .ok (.iconst 0, 1) := by decide +kernel
theorem dX0_mostGiven_31 : decode cX0_mostGiven 31 = .ok (.istore_n 2, 1) := by decide +kernel
theorem dX0_mostGiven_32 : decode cX0_mostGiven 32 = .ok (.iload_n 2, 1) := by decide +kernel
theorem dX0_mostGiven_33 : decode cX0_mostGiven 33 = .ok (.aload_n 0, 1) := by decide +kernel
theorem dX0_mostGiven_34 : decode cX0_mostGiven 34 = .ok (.getfield 23, 3) := by decide +kernel
theorem dX0_mostGiven_37 : decode cX0_mostGiven 37 = .ok (.getfield 117, 3) := by decide +kernel
theorem dX0_mostGiven_40 : decode cX0_mostGiven 40 = .ok (.if_icmp .ge 99, 3) := by decide +kernel
theorem dX0_mostGiven_43 : decode cX0_mostGiven 43 = .ok (.aload_n 0, 1) := by decide +kernel
theorem dX0_mostGiven_44 : decode cX0_mostGiven 44 = .ok (.iload_n 2, 1) := by decide +kernel
theorem dX0_mostGiven_45 : decode cX0_mostGiven 45 = .ok (.invokevirtual 131, 3) := by decide +kernel
theorem dX0_mostGiven_48 : decode cX0_mostGiven 48 = .ok (.iload_n 1, 1) := by decide +kernel
theorem dX0_mostGiven_49 : decode cX0_mostGiven 49 = .ok (.iconst 1, 1) := by decide +kernel
theorem dX0_mostGiven_50 : decode cX0_mostGiven 50 = .ok (.isub, 1) := by decide +kernel
theorem dX0_mostGiven_51 : decode cX0_mostGiven 51 = .ok (.istore_n 3, 1) := by decide +kernel
theorem dX0_mostGiven_52 : decode cX0_mostGiven 52 = .ok (.iload_n 3, 1) := by decide +kernel
theorem dX0_mostGiven_53 : decode cX0_mostGiven 53 = .ok (.ifCond .le 80, 3) := by decide +kernel
theorem dX0_mostGiven_56 : decode cX0_mostGiven 56 = .ok (.iconst 1, 1) := by decide +kernel
theorem dX0_mostGiven_57 : decode cX0_mostGiven 57 = .ok (.istore 4, 2) := by decide +kernel
theorem dX0_mostGiven_59 : decode cX0_mostGiven 59 = .ok (.iload 4, 2) := by decide +kernel
theorem dX0_mostGiven_61 : decode cX0_mostGiven 61 = .ok (.iload_n 3, 1) := by decide +kernel
theorem dX0_mostGiven_62 : decode cX0_mostGiven 62 = .ok (.if_icmp .gt 65, 3) := by decide +kernel
theorem dX0_mostGiven_65 : decode cX0_mostGiven 65 = .ok (.iload 4, 2) := by decide +kernel
theorem dX0_mostGiven_67 : decode cX0_mostGiven 67 = .ok (.iload_n 3, 1) := by decide +kernel
theorem dX0_mostGiven_68 : decode cX0_mostGiven 68 = .ok (.iand, 1) := by decide +kernel
theorem dX0_mostGiven_69 : decode cX0_mostGiven 69 = .ok (.iload 4, 2) := by decide +kernel
theorem dX0_mostGiven_71 : decode cX0_mostGiven 71 = .ok (.if_icmp .ne 50, 3) := by decide +kernel
theorem dX0_mostGiven_74 : decode cX0_mostGiven 74 = .ok (.aload_n 0, 1) := by decide +kernel
theorem dX0_mostGiven_75 : decode cX0_mostGiven 75 = .ok (.getfield 15, 3) := by decide +kernel
theorem dX0_mostGiven_78 : decode cX0_mostGiven 78 = .ok (.iload 4, 2) := by decide +kernel
theorem dX0_mostGiven_80 : decode cX0_mostGiven 80 = .ok (.iaload, 1) := by decide +kernel
theorem dX0_mostGiven_81 : decode cX0_mostGiven 81 = .ok (.iconst (-1), 1) := by decide +kernel
theorem dX0_mostGiven_82 : decode cX0_mostGiven 82 = .ok (.if_icmp .eq 39, 3) := by decide +kernel
theorem dX0_mostGiven_85 : decode cX0_mostGiven 85 = .ok (.aload_n 0, 1) := by decide +kernel
theorem dX0_mostGiven_86 : decode cX0_mostGiven 86 = .ok (.getfield 11, 3) := by decide +kernel
theorem dX0_mostGiven_89 : decode cX0_mostGiven 89 = .ok (.iload_n 3, 1) := by decide +kernel
theorem dX0_mostGiven_90 : decode cX0_mostGiven 90 = .ok (.iload 4, 2) := by decide +kernel
theorem dX0_mostGiven_92 : decode cX0_mostGiven 92 = .ok (.ixor, 1) := by decide +kernel
theorem dX0_mostGiven_93 : decode cX0_mostGiven 93 = .ok (.iaload, 1) := by decide +kernel
theorem dX0_mostGiven_94 : decode cX0_mostGiven 94 = .ok (.aload_n 0, 1) := by decide +kernel
theorem dX0_mostGiven_95 : decode cX0_mostGiven 95 = .ok (.getfield 15, 3) := by decide +kernel
theorem dX0_mostGiven_98 : decode cX0_mostGiven 98 = .ok (.iload 4, 2) := by decide +kernel
theorem dX0_mostGiven_100 : decode cX0_mostGiven 100 = .ok (.iaload, 1) := by decide +kernel
theorem dX0_mostGiven_101 : decode cX0_mostGiven 101 = .ok (.iadd, 1) := by decide +kernel
theorem dX0_mostGiven_102 : decode cX0_mostGiven 102 = .ok (.istore 5, 2) := by decide +kernel
theorem dX0_mostGiven_104 : decode cX0_mostGiven 104 = .ok (.aload_n 0, 1) := by decide +kernel
theorem dX0_mostGiven_105 : decode cX0_mostGiven 105 = .ok (.getfield 11, 3) := by decide +kernel
theorem dX0_mostGiven_108 : decode cX0_mostGiven 108 = .ok (.iload_n 3, 1) := by decide +kernel
theorem dX0_mostGiven_109 : decode cX0_mostGiven 109 = .ok (.aload_n 0, 1) := by decide +kernel
theorem dX0_mostGiven_110 : decode cX0_mostGiven 110 = .ok (.getfield 11, 3) := by decide +kernel
theorem dX0_mostGiven_113 : decode cX0_mostGiven 113 = .ok (.iload_n 3, 1) := by decide +kernel
theorem dX0_mostGiven_114 : decode cX0_mostGiven 114 = .ok (.iaload, 1) := by decide +kernel
theorem dX0_mostGiven_115 : decode cX0_mostGiven 115 = .ok (.iload 5, 2) := by decide +kernel
theorem dX0_mostGiven_117 : decode cX0_mostGiven 117 = .ok (.invokestatic 112, 3) := by decide +kernel
theorem dX0_mostGiven_120 : decode cX0_mostGiven 120 = .ok (.iastore, 1) := by decide +kernel
theorem dX0_mostGiven_121 : decode cX0_mostGiven 121 = .ok (.iinc 4 1, 3) := by decide +kernel
theorem dX0_mostGiven_124 : decode cX0_mostGiven 124 = .ok (.goto (-65), 3) := by decide +kernel
theorem dX0_mostGiven_127 : decode cX0_mostGiven 127 = .ok (.iinc 3 (-1), 3) := by decide +kernel
theorem dX0_mostGiven_130 : decode cX0_mostGiven 130 = .ok (.goto (-78), 3) := by decide +kernel
theorem dX0_mostGiven_133 : decode cX0_mostGiven 133 = .ok (.iinc 2 1, 3) := by decide +kernel
theorem dX0_mostGiven_136 : decode cX0_mostGiven 136 = .ok (.goto (-104), 3) := by decide +kernel
theorem dX0_mostGiven_139 : decode cX0_mostGiven 139 = .ok (.aload_n 0, 1) := by decide +kernel
theorem dX0_mostGiven_140 : decode cX0_mostGiven 140 = .ok (.getfield 11, 3) := by decide +kernel
theorem dX0_mostGiven_143 : decode cX0_mostGiven 143 = .ok (.iload_n 1, 1) := by decide +kernel
theorem dX0_mostGiven_144 : decode cX0_mostGiven 144 = .ok (.iconst 1, 1) := by decide +kernel
theorem dX0_mostGiven_145 : decode cX0_mostGiven 145 = .ok (.isub, 1) := by decide +kernel
theorem dX0_mostGiven_146 : decode cX0_mostGiven 146 = .ok (.iaload, 1) := by decide +kernel
theorem dX0_mostGiven_147 : decode cX0_mostGiven 147 = .ok (.ireturn, 1) := by decide +kernel
theorem dX0_findJoyOfGroups_0 : decode cX0_findJoyOfGroups 0 = .ok (.aload_n 0, 1) := by decide +kernel
theorem dX0_findJoyOfGroups_1 : decode cX0_findJoyOfGroups 1 = .ok (.getfield 15, 3) := by decide +kernel
theorem dX0_findJoyOfGroups_4 : decode cX0_findJoyOfGroups 4 = .ok (.iconst 0, 1) := by decide +kernel
theorem dX0_findJoyOfGroups_5 : decode cX0_findJoyOfGroups 5 = .ok (.iconst 0, 1) := by decide +kernel
theorem dX0_findJoyOfGroups_6 : decode cX0_findJoyOfGroups 6 = .ok (.iastore, 1) := by decide +kernel
theorem dX0_findJoyOfGroups_7 : decode cX0_findJoyOfGroups 7 = .ok (.iconst 0, 1) := by decide +kernel
theorem dX0_findJoyOfGroups_8 : decode cX0_findJoyOfGroups 8 = .ok (.istore_n 2, 1) := by decide +kernel
theorem dX0_findJoyOfGroups_9 : decode cX0_findJoyOfGroups 9 = .ok (.iload_n 2, 1) := by decide +kernel
theorem dX0_findJoyOfGroups_10 : decode cX0_findJoyOfGroups 10 = .ok (.aload_n 0, 1) := by decide +kernel
theorem dX0_findJoyOfGroups_11 : decode cX0_findJoyOfGroups 11 = .ok (.getfield 27, 3) := by decide +kernel
theorem dX0_findJoyOfGroups_14 : decode cX0_findJoyOfGroups 14 = .ok (.getfield 63, 3) := by decide +kernel
theorem dX0_findJoyOfGroups_17 : decode cX0_findJoyOfGroups 17 = .ok (.if_icmp .ge 133, 3) := by decide +kernel
theorem dX0_findJoyOfGroups_20 : decode cX0_findJoyOfGroups 20 = .ok (.aload_n 0, 1) := by decide +kernel
theorem dX0_findJoyOfGroups_21 : decode cX0_findJoyOfGroups 21 = .ok (.getfield 27, 3) := by decide +kernel
theorem dX0_findJoyOfGroups_24 : decode cX0_findJoyOfGroups 24 = .ok (.getfield 134, 3) := by decide +kernel
theorem dX0_findJoyOfGroups_27 : decode cX0_findJoyOfGroups 27 = .ok (.iload_n 2, 1) := by decide +kernel
theorem dX0_findJoyOfGroups_28 : decode cX0_findJoyOfGroups 28 = .ok (.aaload, 1) := by decide +kernel
theorem dX0_findJoyOfGroups_29 : decode cX0_findJoyOfGroups 29 = .ok (.astore_n 3, 1) := by decide +kernel
theorem dX0_findJoyOfGroups_30 : decode cX0_findJoyOfGroups 30 = .ok (.aload_n 0, 1) := by decide +kernel
theorem dX0_findJoyOfGroups_31 : decode cX0_findJoyOfGroups 31 = .ok (.getfield 23, 3) := by decide +kernel
theorem dX0_findJoyOfGroups_34 : decode cX0_findJoyOfGroups 34 = .ok (.getfield 138, 3) := by decide +kernel
theorem dX0_findJoyOfGroups_37 : decode cX0_findJoyOfGroups 37 = .ok (.iload_n 1, 1) := by decide +kernel
theorem dX0_findJoyOfGroups_38 : decode cX0_findJoyOfGroups 38 = .ok (.iaload, 1) := by decide +kernel
theorem dX0_findJoyOfGroups_39 : decode cX0_findJoyOfGroups 39 = .ok (.aload_n 3, 1) := by decide +kernel
theorem dX0_findJoyOfGroups_40 : decode cX0_findJoyOfGroups 40 = .ok (.getfield 141, 3) := by decide +kernel
theorem dX0_findJoyOfGroups_43 : decode cX0_findJoyOfGroups 43 = .ok (.if_icmp .gt 7, 3) := by decide +kernel
theorem dX0_findJoyOfGroups_46 : decode cX0_findJoyOfGroups 46 = .ok (.iconst 1, 1) := by decide +kernel
theorem dX0_findJoyOfGroups_47 : decode cX0_findJoyOfGroups 47 = .ok (.goto 4, 3) := by decide +kernel
theorem dX0_findJoyOfGroups_50 : decode cX0_findJoyOfGroups 50 = .ok (.iconst 0, 1) := by decide +kernel
theorem dX0_findJoyOfGroups_51 : decode cX0_findJoyOfGroups 51 = .ok (.istore 4, 2) := by decide +kernel
theorem dX0_findJoyOfGroups_53 : decode cX0_findJoyOfGroups 53 = .ok (.iconst 0, 1) := by decide +kernel
theorem dX0_findJoyOfGroups_54 : decode cX0_findJoyOfGroups 54 = .ok (.istore 5, 2) := by decide +kernel
theorem dX0_findJoyOfGroups_56 : decode cX0_findJoyOfGroups 56 = .ok (.iload 5, 2) := by decide +kernel
theorem dX0_findJoyOfGroups_58 : decode cX0_findJoyOfGroups 58 = .ok (.iconst 1, 1) := by decide +kernel
theorem dX0_findJoyOfGroups_59 : decode cX0_findJoyOfGroups 59 = .ok (.iload_n 2, 1) := by decide +kernel
theorem dX0_findJoyOfGroups_60 : decode cX0_findJoyOfGroups 60 = .ok (.ishl, 1) := by decide +kernel
theorem dX0_findJoyOfGroups_61 : decode cX0_findJoyOfGroups 61 = .ok (.if_icmp .ge 83, 3) := by decide +kernel
theorem dX0_findJoyOfGroups_64 : decode cX0_findJoyOfGroups 64 = .ok (.iload 4, 2) := by decide +kernel
theorem dX0_findJoyOfGroups_66 : decode cX0_findJoyOfGroups 66 = .ok (.ifCond .eq 35, 3) := by decide +kernel
theorem dX0_findJoyOfGroups_69 : decode cX0_findJoyOfGroups 69 = .ok (.aload_n 0, 1) := by decide +kernel
theorem dX0_findJoyOfGroups_70 : decode cX0_findJoyOfGroups 70 = .ok (.getfield 15, 3) := by decide +kernel
theorem dX0_findJoyOfGroups_73 : decode cX0_findJoyOfGroups 73 = .ok (.iload 5, 2) := by decide +kernel
theorem dX0_findJoyOfGroups_75 : decode cX0_findJoyOfGroups 75 = .ok (.iaload, 1) := by decide +kernel
theorem dX0_findJoyOfGroups_76 : decode cX0_findJoyOfGroups 76 = .ok (.iconst (-1), 1) := by decide +kernel
theorem dX0_findJoyOfGroups_77 : decode cX0_findJoyOfGroups 77 = .ok (.if_icmp .eq 24, 3) := by decide +kernel
theorem dX0_findJoyOfGroups_80 : decode cX0_findJoyOfGroups 80 = .ok (.iload 5, 2) := by decide +kernel
theorem dX0_findJoyOfGroups_82 : decode cX0_findJoyOfGroups 82 = .ok (.invokestatic 146, 3) := by decide +kernel
theorem dX0_findJoyOfGroups_85 : decode cX0_findJoyOfGroups 85 = .ok (.aload_n 0, 1) := by decide +kernel
theorem dX0_findJoyOfGroups_86 : decode cX0_findJoyOfGroups 86 = .ok (.getfield 23, 3) := by decide +kernel
theorem dX0_findJoyOfGroups_89 : decode cX0_findJoyOfGroups 89 = .ok (.getfield 151, 3) := by decide +kernel
theorem dX0_findJoyOfGroups_92 : decode cX0_findJoyOfGroups 92 = .ok (.iload_n 1, 1) := by decide +kernel
theorem dX0_findJoyOfGroups_93 : decode cX0_findJoyOfGroups 93 = .ok (.iaload, 1) := by decide +kernel
theorem dX0_findJoyOfGroups_94 : decode cX0_findJoyOfGroups 94 = .ok (.if_icmp .ge 7, 3) := by decide +kernel
theorem dX0_findJoyOfGroups_97 : decode cX0_findJoyOfGroups 97 = .ok (.iconst 1, 1) := by decide +kernel
theorem dX0_findJoyOfGroups_98 : decode cX0_findJoyOfGroups 98 = .ok (.goto 4, 3) := by decide +kernel
theorem dX0_findJoyOfGroups_101 : decode cX0_findJoyOfGroups 101 = .ok (.iconst 0, 1) := by decide +kernel
theorem dX0_findJoyOfGroups_102 : decode cX0_findJoyOfGroups 102 = .ok (.istore 6, 2) := by decide +kernel
theorem dX0_findJoyOfGroups_104 : decode cX0_findJoyOfGroups 104 = .ok (.aload_n 0, 1) := by decide +kernel
theorem dX0_findJoyOfGroups_105 : decode cX0_findJoyOfGroups 105 = .ok (.getfield 15, 3) := by decide +kernel
theorem dX0_findJoyOfGroups_108 : decode cX0_findJoyOfGroups 108 = .ok (.iload 5, 2) := by decide +kernel
theorem dX0_findJoyOfGroups_110 : decode cX0_findJoyOfGroups 110 = .ok (.iconst 1, 1) := by decide +kernel
theorem dX0_findJoyOfGroups_111 : decode cX0_findJoyOfGroups 111 = .ok (.iload_n 2, 1) := by decide +kernel
theorem dX0_findJoyOfGroups_112 : decode cX0_findJoyOfGroups 112 = .ok (.ishl, 1) := by decide +kernel
theorem dX0_findJoyOfGroups_113 : decode cX0_findJoyOfGroups 113 = .ok (.ior, 1) := by decide +kernel
theorem dX0_findJoyOfGroups_114 : decode cX0_findJoyOfGroups 114 = .ok (.iload 6, 2) := by decide +kernel
theorem dX0_findJoyOfGroups_116 : decode cX0_findJoyOfGroups 116 = .ok (.ifCond .eq 20, 3) := by decide +kernel
theorem dX0_findJoyOfGroups_119 : decode cX0_findJoyOfGroups 119 = .ok (.aload_n 0, 1) := by decide +kernel
theorem dX0_findJoyOfGroups_120 : decode cX0_findJoyOfGroups 120 = .ok (.getfield 15, 3) := by decide +kernel
theorem dX0_findJoyOfGroups_123 : decode cX0_findJoyOfGroups 123 = .ok (.iload 5, 2) := by decide +kernel
theorem dX0_findJoyOfGroups_125 : decode cX0_findJoyOfGroups 125 = .ok (.iaload, 1) := by decide +kernel
theorem dX0_findJoyOfGroups_126 : decode cX0_findJoyOfGroups 126 = .ok (.aload_n 3, 1) := by decide +kernel
theorem dX0_findJoyOfGroups_127 : decode cX0_findJoyOfGroups 127 = .ok (.getfield 154, 3) := by decide +kernel
theorem dX0_findJoyOfGroups_130 : decode cX0_findJoyOfGroups 130 = .ok (.iload_n 1, 1) := by decide +kernel
theorem dX0_findJoyOfGroups_131 : decode cX0_findJoyOfGroups 131 = .ok (.iaload, 1) := by decide +kernel
theorem dX0_findJoyOfGroups_132 : decode cX0_findJoyOfGroups 132 = .ok (.iadd, 1) := by decide +kernel
theorem dX0_findJoyOfGroups_133 : decode cX0_findJoyOfGroups 133 = .ok (.goto 4, 3) := by decide +kernel
theorem dX0_findJoyOfGroups_136 : decode cX0_findJoyOfGroups 136 = .ok (.iconst (-1), 1) := by decide +kernel
theorem dX0_findJoyOfGroups_137 : decode cX0_findJoyOfGroups 137 = .ok (.iastore, 1) := by decide +kernel
theorem dX0_findJoyOfGroups_138 : decode cX0_findJoyOfGroups 138 = .ok (.iinc 5 1, 3) := by decide +kernel
theorem dX0_findJoyOfGroups_141 : decode cX0_findJoyOfGroups 141 = .ok (.goto (-85), 3) := by decide +kernel
theorem dX0_findJoyOfGroups_144 : decode cX0_findJoyOfGroups 144 = .ok (.iinc 2 1, 3) := by decide +kernel
theorem dX0_findJoyOfGroups_147 : decode cX0_findJoyOfGroups 147 = .ok (.goto (-138), 3) := by decide +kernel
theorem dX0_findJoyOfGroups_150 : decode cX0_findJoyOfGroups 150 = .ok (.return_, 1) := by decide +kernel
theorem dX0_fewestBits_0 : decode cX0_fewestBits 0 = .ok (.iconst (-1), 1) := by decide +kernel
theorem dX0_fewestBits_1 : decode cX0_fewestBits 1 = .ok (.istore_n 1, 1) := by decide +kernel
theorem dX0_fewestBits_2 : decode cX0_fewestBits 2 = .ok (.iconst 0, 1) := by decide +kernel
theorem dX0_fewestBits_3 : decode cX0_fewestBits 3 = .ok (.istore_n 2, 1) := by decide +kernel
theorem dX0_fewestBits_4 : decode cX0_fewestBits 4 = .ok (.iload_n 2, 1) := by decide +kernel
theorem dX0_fewestBits_5 : decode cX0_fewestBits 5 = .ok (.iconst 1, 1) := by decide +kernel
theorem dX0_fewestBits_6 : decode cX0_fewestBits 6 = .ok (.aload_n 0, 1) := by decide +kernel
theorem dX0_fewestBits_7 : decode cX0_fewestBits 7 = .ok (.getfield 23, 3) := by decide +kernel
theorem dX0_fewestBits_10 : decode cX0_fewestBits 10 = .ok (.getfield 117, 3) := by decide +kernel
theorem dX0_fewestBits_13 : decode cX0_fewestBits 13 = .ok (.ishl, 1) := by decide +kernel
theorem dX0_fewestBits_14 : decode cX0_fewestBits 14 = .ok (.if_icmp .ge 45, 3) := by decide +kernel
theorem dX0_fewestBits_17 : decode cX0_fewestBits 17 = .ok (.iload_n 1, 1) := by decide +kernel
theorem dX0_fewestBits_18 : decode cX0_fewestBits 18 = .ok (.iconst (-1), 1) := by decide +kernel
theorem dX0_fewestBits_19 : decode cX0_fewestBits 19 = .ok (.if_icmp .eq 14, 3) := by decide +kernel
theorem dX0_fewestBits_22 : decode cX0_fewestBits 22 = .ok (.iload_n 2, 1) := by decide +kernel
theorem dX0_fewestBits_23 : decode cX0_fewestBits 23 = .ok (.invokestatic 146, 3) := by decide +kernel
theorem dX0_fewestBits_26 : decode cX0_fewestBits 26 = .ok (.iload_n 1, 1) := by decide +kernel
theorem dX0_fewestBits_27 : decode cX0_fewestBits 27 = .ok (.invokestatic 146, 3) := by decide +kernel
theorem dX0_fewestBits_30 : decode cX0_fewestBits 30 = .ok (.if_icmp .ge 7, 3) := by decide +kernel
theorem dX0_fewestBits_33 : decode cX0_fewestBits 33 = .ok (.iconst 1, 1) := by decide +kernel
theorem dX0_fewestBits_34 : decode cX0_fewestBits 34 = .ok (.goto 4, 3) := by decide +kernel
theorem dX0_fewestBits_37 : decode cX0_fewestBits 37 = .ok (.iconst 0, 1) := by decide +kernel
theorem dX0_fewestBits_38 : decode cX0_fewestBits 38 = .ok (.istore_n 3, 1) := by decide +kernel
theorem dX0_fewestBits_39 : decode cX0_fewestBits 39 = .ok (.iload_n 3, 1) := by decide +kernel
theorem dX0_fewestBits_40 : decode cX0_fewestBits 40 = .ok (.ifCond .eq 13, 3) := by decide +kernel
theorem dX0_fewestBits_43 : decode cX0_fewestBits 43 = .ok (.aload_n 0, 1) := by decide +kernel
theorem dX0_fewestBits_44 : decode cX0_fewestBits 44 = .ok (.iload_n 2, 1) := by decide +kernel
theorem dX0_fewestBits_45 : decode cX0_fewestBits 45 = .ok (.invokevirtual 157, 3) := by decide +kernel
theorem dX0_fewestBits_48 : decode cX0_fewestBits 48 = .ok (.ifCond .eq 5, 3) := by decide +kernel
theorem dX0_fewestBits_51 : decode cX0_fewestBits 51 = .ok (.iload_n 2, 1) := by decide +kernel
theorem dX0_fewestBits_52 : decode cX0_fewestBits 52 = .ok (.istore_n 1, 1) := by decide +kernel
theorem dX0_fewestBits_53 : decode cX0_fewestBits 53 = .ok (.iinc 2 1, 3) := by decide +kernel
theorem dX0_fewestBits_56 : decode cX0_fewestBits 56 = .ok (.goto (-52), 3) := by decide +kernel
theorem dX0_fewestBits_59 : decode cX0_fewestBits 59 = .ok (.iload_n 1, 1) := by decide +kernel
theorem dX0_fewestBits_60 : decode cX0_fewestBits 60 = .ok (.ireturn, 1) := by decide +kernel
theorem dX0_pleasesAll_0 : decode cX0_pleasesAll 0 = .ok (.iconst 0, 1) := by decide +kernel
theorem dX0_pleasesAll_1 : decode cX0_pleasesAll 1 = .ok (.istore_n 2, 1) := by decide +kernel
theorem dX0_pleasesAll_2 : decode cX0_pleasesAll 2 = .ok (.iload_n 2, 1) := by decide +kernel
theorem dX0_pleasesAll_3 : decode cX0_pleasesAll 3 = .ok (.aload_n 0, 1) := by decide +kernel
theorem dX0_pleasesAll_4 : decode cX0_pleasesAll 4 = .ok (.getfield 27, 3) := by decide +kernel
theorem dX0_pleasesAll_7 : decode cX0_pleasesAll 7 = .ok (.getfield 63, 3) := by decide +kernel
theorem dX0_pleasesAll_10 : decode cX0_pleasesAll 10 = .ok (.if_icmp .ge 69, 3) := by decide +kernel
theorem dX0_pleasesAll_13 : decode cX0_pleasesAll 13 = .ok (.iconst 0, 1) := by decide +kernel
theorem dX0_pleasesAll_14 : decode cX0_pleasesAll 14 = .ok (.istore_n 3, 1) := by decide +kernel
theorem dX0_pleasesAll_15 : decode cX0_pleasesAll 15 = .ok (.iconst 0, 1) := by decide +kernel
theorem dX0_pleasesAll_16 : decode cX0_pleasesAll 16 = .ok (.istore 4, 2) := by decide +kernel
theorem dX0_pleasesAll_18 : decode cX0_pleasesAll 18 = .ok (.iload 4, 2) := by decide +kernel
theorem dX0_pleasesAll_20 : decode cX0_pleasesAll 20 = .ok (.aload_n 0, 1) := by decide +kernel
theorem dX0_pleasesAll_21 : decode cX0_pleasesAll 21 = .ok (.getfield 23, 3) := by decide +kernel
theorem dX0_pleasesAll_24 : decode cX0_pleasesAll 24 = .ok (.getfield 117, 3) := by decide +kernel
theorem dX0_pleasesAll_27 : decode cX0_pleasesAll 27 = .ok (.if_icmp .ge 40, 3) := by decide +kernel
theorem dX0_pleasesAll_30 : decode cX0_pleasesAll 30 = .ok (.iload_n 1, 1) := by decide +kernel
theorem dX0_pleasesAll_31 : decode cX0_pleasesAll 31 = .ok (.iload 4, 2) := by decide +kernel
theorem dX0_pleasesAll_33 : decode cX0_pleasesAll 33 = .ok (.ishr, 1) := by decide +kernel
theorem dX0_pleasesAll_34 : decode cX0_pleasesAll 34 = .ok (.iconst 1, 1) := by decide +kernel
theorem dX0_pleasesAll_35 : decode cX0_pleasesAll 35 = .ok (.iand, 1) := by decide +kernel
theorem dX0_pleasesAll_36 : decode cX0_pleasesAll 36 = .ok (.iconst 1, 1) := by decide +kernel
theorem dX0_pleasesAll_37 : decode cX0_pleasesAll 37 = .ok (.if_icmp .ne 24, 3) := by decide +kernel
theorem dX0_pleasesAll_40 : decode cX0_pleasesAll 40 = .ok (.aload_n 0, 1) := by decide +kernel
theorem dX0_pleasesAll_41 : decode cX0_pleasesAll 41 = .ok (.getfield 27, 3) := by decide +kernel
theorem dX0_pleasesAll_44 : decode cX0_pleasesAll 44 = .ok (.getfield 134, 3) := by decide +kernel
theorem dX0_pleasesAll_47 : decode cX0_pleasesAll 47 = .ok (.iload_n 2, 1) := by decide +kernel
theorem dX0_pleasesAll_48 : decode cX0_pleasesAll 48 = .ok (.aaload, 1) := by decide +kernel
theorem dX0_pleasesAll_49 : decode cX0_pleasesAll 49 = .ok (.getfield 154, 3) := by decide +kernel
theorem dX0_pleasesAll_52 : decode cX0_pleasesAll 52 = .ok (.iload 4, 2) := by decide +kernel
theorem dX0_pleasesAll_54 : decode cX0_pleasesAll 54 = .ok (.iaload, 1) := by decide +kernel
theorem dX0_pleasesAll_55 : decode cX0_pleasesAll 55 = .ok (.iconst 5, 1) := by decide +kernel
theorem dX0_pleasesAll_56 : decode cX0_pleasesAll 56 = .ok (.if_icmp .lt 5, 3) := by decide +kernel
theorem dX0_pleasesAll_59 : decode cX0_pleasesAll 59 = .ok (.iconst 1, 1) := by decide +kernel
theorem dX0_pleasesAll_60 : decode cX0_pleasesAll 60 = .ok (.istore_n 3, 1) := by decide +kernel
theorem dX0_pleasesAll_61 : decode cX0_pleasesAll 61 = .ok (.iinc 4 1, 3) := by decide +kernel
theorem dX0_pleasesAll_64 : decode cX0_pleasesAll 64 = .ok (.goto (-46), 3) := by decide +kernel
theorem dX0_pleasesAll_67 : decode cX0_pleasesAll 67 = .ok (.iload_n 3, 1) := by decide +kernel
theorem dX0_pleasesAll_68 : decode cX0_pleasesAll 68 = .ok (.ifCond .ne 5, 3) := by decide +kernel
theorem dX0_pleasesAll_71 : decode cX0_pleasesAll 71 = .ok (.iconst 0, 1) := by decide +kernel
theorem dX0_pleasesAll_72 : decode cX0_pleasesAll 72 = .ok (.ireturn, 1) := by decide +kernel
theorem dX0_pleasesAll_73 : decode cX0_pleasesAll 73 = .ok (.iinc 2 1, 3) := by decide +kernel
theorem dX0_pleasesAll_76 : decode cX0_pleasesAll 76 = .ok (.goto (-74), 3) := by decide +kernel
theorem dX0_pleasesAll_79 : decode cX0_pleasesAll 79 = .ok (.iconst 1, 1) := by decide +kernel
theorem dX0_pleasesAll_80 : decode cX0_pleasesAll 80 = .ok (.ireturn, 1) := by decide +kernel
theorem dX0_leastUrge_0 : decode cX0_leastUrge 0 = .ok (.iconst 0, 1) := by decide +kernel
theorem dX0_leastUrge_1 : decode cX0_leastUrge 1 = .ok (.istore 4, 2) := by decide +kernel
theorem dX0_leastUrge_3 : decode cX0_leastUrge 3 = .ok (.iload 4, 2) := by decide +kernel
theorem dX0_leastUrge_5 : decode cX0_leastUrge 5 = .ok (.bipush 20, 2) := by decide +kernel
theorem dX0_leastUrge_7 : decode cX0_leastUrge 7 = .ok (.if_icmp .gt 44, 3) := by decide +kernel
theorem dX0_leastUrge_10 : decode cX0_leastUrge 10 = .ok (.aload_n 0, 1) := by decide +kernel
theorem dX0_leastUrge_11 : decode cX0_leastUrge 11 = .ok (.invokevirtual 79, 3) := by decide +kernel
theorem dX0_leastUrge_14 : decode cX0_leastUrge 14 = .ok (.aload_n 0, 1) := by decide +kernel
theorem dX0_leastUrge_15 : decode cX0_leastUrge 15 = .ok (.getfield 40, 3) := by decide +kernel
theorem dX0_leastUrge_18 : decode cX0_leastUrge 18 = .ok (.iload_n 1, 1) := by decide +kernel
theorem dX0_leastUrge_19 : decode cX0_leastUrge 19 = .ok (.iload 4, 2) := by decide +kernel
theorem dX0_leastUrge_21 : decode cX0_leastUrge 21 = .ok (.invokevirtual 59, 3) := by decide +kernel
theorem dX0_leastUrge_24 : decode cX0_leastUrge 24 = .ok (.aload_n 0, 1) := by decide +kernel
theorem dX0_leastUrge_25 : decode cX0_leastUrge 25 = .ok (.iload_n 2, 1) := by decide +kernel
theorem dX0_leastUrge_26 : decode cX0_leastUrge 26 = .ok (.invokevirtual 82, 3) := by decide +kernel
theorem dX0_leastUrge_29 : decode cX0_leastUrge 29 = .ok (.aload_n 0, 1) := by decide +kernel
theorem dX0_leastUrge_30 : decode cX0_leastUrge 30 = .ok (.getfield 40, 3) := by decide +kernel
theorem dX0_leastUrge_33 : decode cX0_leastUrge 33 = .ok (.getfield 160, 3) := by decide +kernel
theorem dX0_leastUrge_36 : decode cX0_leastUrge 36 = .ok (.iload_n 1, 1) := by decide +kernel
theorem dX0_leastUrge_37 : decode cX0_leastUrge 37 = .ok (.iaload, 1) := by decide +kernel
theorem dX0_leastUrge_38 : decode cX0_leastUrge 38 = .ok (.iload_n 3, 1) := by decide +kernel
theorem dX0_leastUrge_39 : decode cX0_leastUrge 39 = .ok (.if_icmp .lt 6, 3) := by decide +kernel
theorem dX0_leastUrge_42 : decode cX0_leastUrge 42 = .ok (.iload 4, 2) := by decide +kernel
theorem dX0_leastUrge_44 : decode cX0_leastUrge 44 = .ok (.ireturn, 1) := by decide +kernel
theorem dX0_leastUrge_45 : decode cX0_leastUrge 45 = .ok (.iinc 4 1, 3) := by decide +kernel
theorem dX0_leastUrge_48 : decode cX0_leastUrge 48 = .ok (.goto (-45), 3) := by decide +kernel
theorem dX0_leastUrge_51 : decode cX0_leastUrge 51 = .ok (.iconst (-1), 1) := by decide +kernel
theorem dX0_leastUrge_52 : decode cX0_leastUrge 52 = .ok (.ireturn, 1) := by decide +kernel
theorem dX0_fittingLoaths_0 : decode cX0_fittingLoaths 0 = .ok (.iconst 0, 1) := by decide +kernel
theorem dX0_fittingLoaths_1 : decode cX0_fittingLoaths 1 = .ok (.istore_n 2, 1) := by decide +kernel
theorem dX0_fittingLoaths_2 : decode cX0_fittingLoaths 2 = .ok (.iconst 0, 1) := by decide +kernel
theorem dX0_fittingLoaths_3 : decode cX0_fittingLoaths 3 = .ok (.istore_n 3, 1) := by decide +kernel
theorem dX0_fittingLoaths_4 : decode cX0_fittingLoaths 4 = .ok (.iload_n 3, 1) := by decide +kernel
theorem dX0_fittingLoaths_5 : decode cX0_fittingLoaths 5 = .ok (.bipush 10, 2) := by decide +kernel
theorem dX0_fittingLoaths_7 : decode cX0_fittingLoaths 7 = .ok (.if_icmp .ge 24, 3) := by decide +kernel
theorem dX0_fittingLoaths_10 : decode cX0_fittingLoaths 10 = .ok (.aload_n 0, 1) := by decide +kernel
theorem dX0_fittingLoaths_11 : decode cX0_fittingLoaths 11 = .ok (.aload_n 1, 1) := by decide +kernel
theorem dX0_fittingLoaths_12 : decode cX0_fittingLoaths 12 = .ok (.iload_n 3, 1) := by decide +kernel
theorem dX0_fittingLoaths_13 : decode cX0_fittingLoaths 13 = .ok (.invokevirtual 163, 3) := by decide +kernel
theorem dX0_fittingLoaths_16 : decode cX0_fittingLoaths 16 = .ok (.ifCond .eq 9, 3) := by decide +kernel
theorem dX0_fittingLoaths_19 : decode cX0_fittingLoaths 19 = .ok (.iload_n 2, 1) := by decide +kernel
theorem dX0_fittingLoaths_20 : decode cX0_fittingLoaths 20 = .ok (.iconst 1, 1) := by decide +kernel
theorem dX0_fittingLoaths_21 : decode cX0_fittingLoaths 21 = .ok (.iload_n 3, 1) := by decide +kernel
theorem dX0_fittingLoaths_22 : decode cX0_fittingLoaths 22 = .ok (.ishl, 1) := by decide +kernel
theorem dX0_fittingLoaths_23 : decode cX0_fittingLoaths 23 = .ok (.ior, 1) := by decide +kernel
theorem dX0_fittingLoaths_24 : decode cX0_fittingLoaths 24 = .ok (.istore_n 2, 1) := by decide +kernel
theorem dX0_fittingLoaths_25 : decode cX0_fittingLoaths 25 = .ok (.iinc 3 1, 3) := by decide +kernel
theorem dX0_fittingLoaths_28 : decode cX0_fittingLoaths 28 = .ok (.goto (-24), 3) := by decide +kernel
theorem dX0_fittingLoaths_31 : decode cX0_fittingLoaths 31 = .ok (.iload_n 2, 1) := by decide +kernel
theorem dX0_fittingLoaths_32 : decode cX0_fittingLoaths 32 = .ok (.ireturn, 1) := by decide +kernel
theorem dX0_wouldFit_0 : decode cX0_wouldFit 0 = .ok (.iconst 0, 1) := by decide +kernel
theorem dX0_wouldFit_1 : decode cX0_wouldFit 1 = .ok (.istore_n 3, 1) := by decide +kernel
theorem dX0_wouldFit_2 : decode cX0_wouldFit 2 = .ok (.iload_n 3, 1) := by decide +kernel
theorem dX0_wouldFit_3 : decode cX0_wouldFit 3 = .ok (.aload_n 1, 1) := by decide +kernel
theorem dX0_wouldFit_4 : decode cX0_wouldFit 4 = .ok (.getfield 167, 3) := by decide +kernel
theorem dX0_wouldFit_7 : decode cX0_wouldFit 7 = .ok (.if_icmp .ge 56, 3) := by decide +kernel
theorem dX0_wouldFit_10 : decode cX0_wouldFit 10 = .ok (.aload_n 0, 1) := by decide +kernel
theorem dX0_wouldFit_11 : decode cX0_wouldFit 11 = .ok (.invokevirtual 79, 3) := by decide +kernel
theorem dX0_wouldFit_14 : decode cX0_wouldFit 14 = .ok (.aload_n 0, 1) := by decide +kernel
theorem dX0_wouldFit_15 : decode cX0_wouldFit 15 = .ok (.getfield 40, 3) := by decide +kernel
theorem dX0_wouldFit_18 : decode cX0_wouldFit 18 = .ok (.iload_n 2, 1) := by decide +kernel
theorem dX0_wouldFit_19 : decode cX0_wouldFit 19 = .ok (.putfield 52, 3) := by decide +kernel
theorem dX0_wouldFit_22 : decode cX0_wouldFit 22 = .ok (.aload_n 0, 1) := by decide +kernel
theorem dX0_wouldFit_23 : decode cX0_wouldFit 23 = .ok (.aload_n 1, 1) := by decide +kernel
theorem dX0_wouldFit_24 : decode cX0_wouldFit 24 = .ok (.getfield 170, 3) := by decide +kernel
theorem dX0_wouldFit_27 : decode cX0_wouldFit 27 = .ok (.iload_n 3, 1) := by decide +kernel
theorem dX0_wouldFit_28 : decode cX0_wouldFit 28 = .ok (.iaload, 1) := by decide +kernel
theorem dX0_wouldFit_29 : decode cX0_wouldFit 29 = .ok (.invokevirtual 82, 3) := by decide +kernel
theorem dX0_wouldFit_32 : decode cX0_wouldFit 32 = .ok (.aload_n 0, 1) := by decide +kernel
theorem dX0_wouldFit_33 : decode cX0_wouldFit 33 = .ok (.getfield 40, 3) := by decide +kernel
theorem dX0_wouldFit_36 : decode cX0_wouldFit 36 = .ok (.getfield 86, 3) := by decide +kernel
theorem dX0_wouldFit_39 : decode cX0_wouldFit 39 = .ok (.aload_n 1, 1) := by decide +kernel
theorem dX0_wouldFit_40 : decode cX0_wouldFit 40 = .ok (.getfield 173, 3) := by decide +kernel
theorem dX0_wouldFit_43 : decode cX0_wouldFit 43 = .ok (.iload_n 3, 1) := by decide +kernel
theorem dX0_wouldFit_44 : decode cX0_wouldFit 44 = .ok (.iaload, 1) := by decide +kernel
theorem dX0_wouldFit_45 : decode cX0_wouldFit 45 = .ok (.iaload, 1) := by decide +kernel
theorem dX0_wouldFit_46 : decode cX0_wouldFit 46 = .ok (.aload_n 1, 1) := by decide +kernel
theorem dX0_wouldFit_47 : decode cX0_wouldFit 47 = .ok (.getfield 176, 3) := by decide +kernel
theorem dX0_wouldFit_50 : decode cX0_wouldFit 50 = .ok (.iload_n 3, 1) := by decide +kernel
theorem dX0_wouldFit_51 : decode cX0_wouldFit 51 = .ok (.iaload, 1) := by decide +kernel
theorem dX0_wouldFit_52 : decode cX0_wouldFit 52 = .ok (.if_icmp .eq 5, 3) := by decide +kernel
theorem dX0_wouldFit_55 : decode cX0_wouldFit 55 = .ok (.iconst 0, 1) := by decide +kernel
theorem dX0_wouldFit_56 : decode cX0_wouldFit 56 = .ok (.ireturn, 1) := by decide +kernel
theorem dX0_wouldFit_57 : decode cX0_wouldFit 57 = .ok (.iinc 3 1, 3) := by decide +kernel
theorem dX0_wouldFit_60 : decode cX0_wouldFit 60 = .ok (.goto (-58), 3) := by decide +kernel
theorem dX0_wouldFit_63 : decode cX0_wouldFit 63 = .ok (.iconst 1, 1) := by decide +kernel
theorem dX0_wouldFit_64 : decode cX0_wouldFit 64 = .ok (.ireturn, 1) := by decide +kernel
theorem dX0_joyOfEvenings_0 : decode cX0_joyOfEvenings 0 = .ok (.aload_n 0, 1) := by decide +kernel
theorem dX0_joyOfEvenings_1 : decode cX0_joyOfEvenings 1 = .ok (.iload_n 2, 1) := by decide +kernel
theorem dX0_joyOfEvenings_2 : decode cX0_joyOfEvenings 2 = .ok (.i2l, 1) := by decide +kernel
theorem dX0_joyOfEvenings_3 : decode cX0_joyOfEvenings 3 = .ok (.putfield 179, 3) := by decide +kernel
theorem dX0_joyOfEvenings_6 : decode cX0_joyOfEvenings 6 = .ok (.aload_n 0, 1) := by decide +kernel
theorem dX0_joyOfEvenings_7 : decode cX0_joyOfEvenings 7 = .ok (.getfield 27, 3) := by decide +kernel
theorem dX0_joyOfEvenings_10 : decode cX0_joyOfEvenings 10 = .ok (.aload_n 0, 1) := by decide +kernel
theorem dX0_joyOfEvenings_11 : decode cX0_joyOfEvenings 11 = .ok (.getfield 20, 3) := by decide +kernel
theorem dX0_joyOfEvenings_14 : decode cX0_joyOfEvenings 14 = .ok (.invokevirtual 183, 3) := by decide +kernel
theorem dX0_joyOfEvenings_17 : decode cX0_joyOfEvenings 17 = .ok (.iconst 0, 1) := by decide +kernel
theorem dX0_joyOfEvenings_18 : decode cX0_joyOfEvenings 18 = .ok (.istore_n 3, 1) := by decide +kernel
theorem dX0_joyOfEvenings_19 : decode cX0_joyOfEvenings 19 = .ok (.iconst 0, 1) := by decide +kernel
theorem dX0_joyOfEvenings_20 : decode cX0_joyOfEvenings 20 = .ok (.istore 4, 2) := by decide +kernel
theorem dX0_joyOfEvenings_22 : decode cX0_joyOfEvenings 22 = .ok (.iload 4, 2) := by decide +kernel
theorem dX0_joyOfEvenings_24 : decode cX0_joyOfEvenings 24 = .ok (.iload_n 1, 1) := by decide +kernel
theorem dX0_joyOfEvenings_25 : decode cX0_joyOfEvenings 25 = .ok (.if_icmp .ge 80, 3) := by decide +kernel
theorem dX0_joyOfEvenings_28 : decode cX0_joyOfEvenings 28 = .ok (.aload_n 0, 1) := by decide +kernel
theorem dX0_joyOfEvenings_29 : decode cX0_joyOfEvenings 29 = .ok (.aload_n 0, 1) := by decide +kernel
theorem dX0_joyOfEvenings_30 : decode cX0_joyOfEvenings 30 = .ok (.getfield 27, 3) := by decide +kernel
theorem dX0_joyOfEvenings_33 : decode cX0_joyOfEvenings 33 = .ok (.getfield 63, 3) := by decide +kernel
theorem dX0_joyOfEvenings_36 : decode cX0_joyOfEvenings 36 = .ok (.invokevirtual 187, 3) := by decide +kernel
theorem dX0_joyOfEvenings_39 : decode cX0_joyOfEvenings 39 = .ok (.istore 5, 2) := by decide +kernel
theorem dX0_joyOfEvenings_41 : decode cX0_joyOfEvenings 41 = .ok (.aload_n 0, 1) := by decide +kernel
theorem dX0_joyOfEvenings_42 : decode cX0_joyOfEvenings 42 = .ok (.aload_n 0, 1) := by decide +kernel
theorem dX0_joyOfEvenings_43 : decode cX0_joyOfEvenings 43 = .ok (.getfield 23, 3) := by decide +kernel
theorem dX0_joyOfEvenings_46 : decode cX0_joyOfEvenings 46 = .ok (.getfield 117, 3) := by decide +kernel
theorem dX0_joyOfEvenings_49 : decode cX0_joyOfEvenings 49 = .ok (.invokevirtual 187, 3) := by decide +kernel
theorem dX0_joyOfEvenings_52 : decode cX0_joyOfEvenings 52 = .ok (.istore 6, 2) := by decide +kernel
theorem dX0_joyOfEvenings_54 : decode cX0_joyOfEvenings 54 = .ok (.aload_n 0, 1) := by decide +kernel
theorem dX0_joyOfEvenings_55 : decode cX0_joyOfEvenings 55 = .ok (.aload_n 0, 1) := by decide +kernel
theorem dX0_joyOfEvenings_56 : decode cX0_joyOfEvenings 56 = .ok (.getfield 27, 3) := by decide +kernel
theorem dX0_joyOfEvenings_59 : decode cX0_joyOfEvenings 59 = .ok (.getfield 63, 3) := by decide +kernel
theorem dX0_joyOfEvenings_62 : decode cX0_joyOfEvenings 62 = .ok (.invokevirtual 187, 3) := by decide +kernel
theorem dX0_joyOfEvenings_65 : decode cX0_joyOfEvenings 65 = .ok (.istore 7, 2) := by decide +kernel
theorem dX0_joyOfEvenings_67 : decode cX0_joyOfEvenings 67 = .ok (.aload_n 0, 1) := by decide +kernel
theorem dX0_joyOfEvenings_68 : decode cX0_joyOfEvenings 68 = .ok (.getfield 27, 3) := by decide +kernel
theorem dX0_joyOfEvenings_71 : decode cX0_joyOfEvenings 71 = .ok (.getfield 134, 3) := by decide +kernel
theorem dX0_joyOfEvenings_74 : decode cX0_joyOfEvenings 74 = .ok (.iload 7, 2) := by decide +kernel
theorem dX0_joyOfEvenings_76 : decode cX0_joyOfEvenings 76 = .ok (.aaload, 1) := by decide +kernel
theorem dX0_joyOfEvenings_77 : decode cX0_joyOfEvenings 77 = .ok (.getfield 154, 3) := by decide +kernel
theorem dX0_joyOfEvenings_80 : decode cX0_joyOfEvenings 80 = .ok (.iload 6, 2) := by decide +kernel
theorem dX0_joyOfEvenings_82 : decode cX0_joyOfEvenings 82 = .ok (.aload_n 0, 1) := by decide +kernel
theorem dX0_joyOfEvenings_83 : decode cX0_joyOfEvenings 83 = .ok (.bipush 10, 2) := by decide +kernel
theorem dX0_joyOfEvenings_85 : decode cX0_joyOfEvenings 85 = .ok (.invokevirtual 187, 3) := by decide +kernel
theorem dX0_joyOfEvenings_88 : decode cX0_joyOfEvenings 88 = .ok (.iastore, 1) := by decide +kernel
theorem dX0_joyOfEvenings_89 : decode cX0_joyOfEvenings 89 = .ok (.iload_n 3, 1) := by decide +kernel
theorem dX0_joyOfEvenings_90 : decode cX0_joyOfEvenings 90 = .ok (.aload_n 0, 1) := by decide +kernel
theorem dX0_joyOfEvenings_91 : decode cX0_joyOfEvenings 91 = .ok (.iload 5, 2) := by decide +kernel
theorem dX0_joyOfEvenings_93 : decode cX0_joyOfEvenings 93 = .ok (.iconst (-1), 1) := by decide +kernel
theorem dX0_joyOfEvenings_94 : decode cX0_joyOfEvenings 94 = .ok (.invokevirtual 96, 3) := by decide +kernel
theorem dX0_joyOfEvenings_97 : decode cX0_joyOfEvenings 97 = .ok (.iadd, 1) := by decide +kernel
theorem dX0_joyOfEvenings_98 : decode cX0_joyOfEvenings 98 = .ok (.istore_n 3, 1) := by decide +kernel
theorem dX0_joyOfEvenings_99 : decode cX0_joyOfEvenings 99 = .ok (.iinc 4 1, 3) := by decide +kernel
theorem dX0_joyOfEvenings_102 : decode cX0_joyOfEvenings 102 = .ok (.goto (-80), 3) := by decide +kernel
theorem dX0_joyOfEvenings_105 : decode cX0_joyOfEvenings 105 = .ok (.aload_n 0, 1) := by decide +kernel
theorem dX0_joyOfEvenings_106 : decode cX0_joyOfEvenings 106 = .ok (.getfield 27, 3) := by decide +kernel
theorem dX0_joyOfEvenings_109 : decode cX0_joyOfEvenings 109 = .ok (.aload_n 0, 1) := by decide +kernel
theorem dX0_joyOfEvenings_110 : decode cX0_joyOfEvenings 110 = .ok (.getfield 20, 3) := by decide +kernel
theorem dX0_joyOfEvenings_113 : decode cX0_joyOfEvenings 113 = .ok (.invokevirtual 190, 3) := by decide +kernel
theorem dX0_joyOfEvenings_116 : decode cX0_joyOfEvenings 116 = .ok (.iload_n 3, 1) := by decide +kernel
theorem dX0_joyOfEvenings_117 : decode cX0_joyOfEvenings 117 = .ok (.ireturn, 1) := by decide +kernel
theorem dX0_draw_0 : decode cX0_draw 0 = .ok (.aload_n 0, 1) := by decide +kernel
theorem dX0_draw_1 : decode cX0_draw 1 = .ok (.ldc2_w 193, 3) := by decide +kernel
theorem dX0_draw_4 : decode cX0_draw 4 = .ok (.aload_n 0, 1) := by decide +kernel
theorem dX0_draw_5 : decode cX0_draw 5 = .ok (.getfield 179, 3) := by decide +kernel
theorem dX0_draw_8 : decode cX0_draw 8 = .ok (.lmul, 1) := by decide +kernel
theorem dX0_draw_9 : decode cX0_draw 9 = .ok (.ldc2_w 195, 3) := by decide +kernel
theorem dX0_draw_12 : decode cX0_draw 12 = .ok (.ladd, 1) := by decide +kernel
theorem dX0_draw_13 : decode cX0_draw 13 = .ok (.ldc2_w 197, 3) := by decide +kernel
theorem dX0_draw_16 : decode cX0_draw 16 = .ok (.lrem, 1) := by decide +kernel
theorem dX0_draw_17 : decode cX0_draw 17 = .ok (.putfield 179, 3) := by decide +kernel
theorem dX0_draw_20 : decode cX0_draw 20 = .ok (.iload_n 1, 1) := by decide +kernel
theorem dX0_draw_21 : decode cX0_draw 21 = .ok (.iconst 1, 1) := by decide +kernel
theorem dX0_draw_22 : decode cX0_draw 22 = .ok (.if_icmp .ge 7, 3) := by decide +kernel
theorem dX0_draw_25 : decode cX0_draw 25 = .ok (.iconst 0, 1) := by decide +kernel
theorem dX0_draw_26 : decode cX0_draw 26 = .ok (.goto 15, 3) := by decide +kernel
theorem dX0_draw_29 : decode cX0_draw 29 = .ok (.aload_n 0, 1) := by decide +kernel
theorem dX0_draw_30 : decode cX0_draw 30 = .ok (.getfield 179, 3) := by decide +kernel
theorem dX0_draw_33 : decode cX0_draw 33 = .ok (.ldc2_w 199, 3) := by decide +kernel
theorem dX0_draw_36 : decode cX0_draw 36 = .ok (.ldiv, 1) := by decide +kernel
theorem dX0_draw_37 : decode cX0_draw 37 = .ok (.iload_n 1, 1) := by decide +kernel
theorem dX0_draw_38 : decode cX0_draw 38 = .ok (.i2l, 1) := by decide +kernel
theorem dX0_draw_39 : decode cX0_draw 39 = .ok (.lrem, 1) := by decide +kernel
theorem dX0_draw_40 : decode cX0_draw 40 = .ok (.l2i, 1) := by decide +kernel
theorem dX0_draw_41 : decode cX0_draw 41 = .ok (.ireturn, 1) := by decide +kernel
theorem dX1_init_0 : decode cX1_init 0 = .ok (.aload_n 0, 1) := by decide +kernel
theorem dX1_init_1 : decode cX1_init 1 = .ok (.invokespecial 3, 3) := by decide +kernel
theorem dX1_init_4 : decode cX1_init 4 = .ok (.aload_n 0, 1) := by decide +kernel
theorem dX1_init_5 : decode cX1_init 5 = .ok (.bipush 6, 2) := by decide +kernel
theorem dX1_init_7 : decode cX1_init 7 = .ok (.newarray .int, 2) := by decide +kernel
theorem dX1_init_9 : decode cX1_init 9 = .ok (.putfield 9, 3) := by decide +kernel
theorem dX1_init_12 : decode cX1_init 12 = .ok (.return_, 1) := by decide +kernel
theorem dX1_sitDown_0 : decode cX1_sitDown 0 = .ok (.aload_n 0, 1) := by decide +kernel
theorem dX1_sitDown_1 : decode cX1_sitDown 1 = .ok (.iload_n 1, 1) := by decide +kernel
theorem dX1_sitDown_2 : decode cX1_sitDown 2 = .ok (.putfield 15, 3) := by decide +kernel
theorem dX1_sitDown_5 : decode cX1_sitDown 5 = .ok (.aload_n 0, 1) := by decide +kernel
theorem dX1_sitDown_6 : decode cX1_sitDown 6 = .ok (.iload_n 2, 1) := by decide +kernel
theorem dX1_sitDown_7 : decode cX1_sitDown 7 = .ok (.putfield 19, 3) := by decide +kernel
theorem dX1_sitDown_10 : decode cX1_sitDown 10 = .ok (.aload_n 0, 1) := by decide +kernel
theorem dX1_sitDown_11 : decode cX1_sitDown 11 = .ok (.getstatic 22, 3) := by decide +kernel
theorem dX1_sitDown_14 : decode cX1_sitDown 14 = .ok (.iload_n 1, 1) := by decide +kernel
theorem dX1_sitDown_15 : decode cX1_sitDown 15 = .ok (.iaload, 1) := by decide +kernel
theorem dX1_sitDown_16 : decode cX1_sitDown 16 = .ok (.putfield 25, 3) := by decide +kernel
theorem dX1_sitDown_19 : decode cX1_sitDown 19 = .ok (.iconst 0, 1) := by decide +kernel
theorem dX1_sitDown_20 : decode cX1_sitDown 20 = .ok (.istore_n 3, 1) := by decide +kernel
theorem dX1_sitDown_21 : decode cX1_sitDown 21 = .ok (.iload_n 3, 1) := by decide +kernel
theorem dX1_sitDown_22 : decode cX1_sitDown 22 = .ok (.bipush 6, 2) := by decide +kernel
theorem dX1_sitDown_24 : decode cX1_sitDown 24 = .ok (.if_icmp .ge 16, 3) := by decide +kernel
theorem dX1_sitDown_27 : decode cX1_sitDown 27 = .ok (.aload_n 0, 1) := by decide +kernel
theorem dX1_sitDown_28 : decode cX1_sitDown 28 = .ok (.getfield 9, 3) := by decide +kernel
theorem dX1_sitDown_31 : decode cX1_sitDown 31 = .ok (.iload_n 3, 1) := by decide +kernel
theorem dX1_sitDown_32 : decode cX1_sitDown 32 = .ok (.iconst 0, 1) := by decide +kernel
theorem dX1_sitDown_33 : decode cX1_sitDown 33 = .ok (.iastore, 1) := by decide +kernel
theorem dX1_sitDown_34 : decode cX1_sitDown 34 = .ok (.iinc 3 1, 3) := by decide +kernel
theorem dX1_sitDown_37 : decode cX1_sitDown 37 = .ok (.goto (-16), 3) := by decide +kernel
theorem dX1_sitDown_40 : decode cX1_sitDown 40 = .ok (.return_, 1) := by decide +kernel
theorem dX1_isOfKind_0 : decode cX1_isOfKind 0 = .ok (.iload_n 1, 1) := by decide +kernel
theorem dX1_isOfKind_1 : decode cX1_isOfKind 1 = .ok (.ifCond .eq 24, 3) := by decide +kernel
theorem dX1_isOfKind_4 : decode cX1_isOfKind 4 = .ok (.iload_n 1, 1) := by decide +kernel
theorem dX1_isOfKind_5 : decode cX1_isOfKind 5 = .ok (.aload_n 0, 1) := by decide +kernel
theorem dX1_isOfKind_6 : decode cX1_isOfKind 6 = .ok (.getfield 15, 3) := by decide +kernel
theorem dX1_isOfKind_9 : decode cX1_isOfKind 9 = .ok (.if_icmp .eq 16, 3) := by decide +kernel
theorem dX1_isOfKind_12 : decode cX1_isOfKind 12 = .ok (.iload_n 1, 1) := by decide +kernel
theorem dX1_isOfKind_13 : decode cX1_isOfKind 13 = .ok (.iconst 3, 1) := by decide +kernel
theorem dX1_isOfKind_14 : decode cX1_isOfKind 14 = .ok (.if_icmp .ne 15, 3) := by decide +kernel
theorem dX1_isOfKind_17 : decode cX1_isOfKind 17 = .ok (.aload_n 0, 1) := by decide +kernel
theorem dX1_isOfKind_18 : decode cX1_isOfKind 18 = .ok (.getfield 15, 3) := by decide +kernel
theorem dX1_isOfKind_21 : decode cX1_isOfKind 21 = .ok (.iconst 4, 1) := by decide +kernel
theorem dX1_isOfKind_22 : decode cX1_isOfKind 22 = .ok (.if_icmp .ne 7, 3) := by decide +kernel
theorem dX1_isOfKind_25 : decode cX1_isOfKind 25 = .ok (.iconst 1, 1) := by decide +kernel
theorem dX1_isOfKind_26 : decode cX1_isOfKind 26 = .ok (.goto 4, 3) := by decide +kernel
theorem dX1_isOfKind_29 : decode cX1_isOfKind 29 = .ok (.iconst 0, 1) := by decide +kernel
theorem dX1_isOfKind_30 : decode cX1_isOfKind 30 = .ok (.ireturn, 1) := by decide +kernel
theorem dX2_init_0 : decode cX2_init 0 = .ok (.aload_n 0, 1) := by decide +kernel
theorem dX2_init_1 : decode cX2_init 1 = .ok (.invokespecial 3, 3) := by decide +kernel
theorem dX2_init_4 : decode cX2_init 4 = .ok (.aload_n 0, 1) := by decide +kernel
theorem dX2_init_5 : decode cX2_init 5 = .ok (.iconst 5, 1) := by decide +kernel
theorem dX2_init_6 : decode cX2_init 6 = .ok (.bipush 6, 2) := by decide +kernel
theorem dX2_init_8 : decode cX2_init 8 = .ok (.multianewarray 9 2, 4) := by decide +kernel
theorem dX2_init_12 : decode cX2_init 12 = .ok (.putfield 11, 3) := by decide +kernel
theorem dX2_init_15 : decode cX2_init 15 = .ok (.aload_n 0, 1) := by decide +kernel
theorem dX2_init_16 : decode cX2_init 16 = .ok (.iconst 5, 1) := by decide +kernel
theorem dX2_init_17 : decode cX2_init 17 = .ok (.newarray .int, 2) := by decide +kernel
theorem dX2_init_19 : decode cX2_init 19 = .ok (.putfield 16, 3) := by decide +kernel
theorem dX2_init_22 : decode cX2_init 22 = .ok (.aload_n 0, 1) := by decide +kernel
theorem dX2_init_23 : decode cX2_init 23 = .ok (.new 20, 3) := by decide +kernel
theorem dX2_init_26 : decode cX2_init 26 = .ok (.dup, 1) := by decide +kernel
theorem dX2_init_27 : decode cX2_init 27 = .ok (.aload_n 1, 1) := by decide +kernel
theorem dX2_init_28 : decode cX2_init 28 = .ok (.aload_n 2, 1) := by decide +kernel
theorem dX2_init_29 : decode cX2_init 29 = .ok (.invokespecial 22, 3) := by decide +kernel
theorem dX2_init_32 : decode cX2_init 32 = .ok (.putfield 25, 3) := by decide +kernel
theorem dX2_init_35 : decode cX2_init 35 = .ok (.aload_n 0, 1) := by decide +kernel
theorem dX2_init_36 : decode cX2_init 36 = .ok (.new 29, 3) := by decide +kernel
theorem dX2_init_39 : decode cX2_init 39 = .ok (.dup, 1) := by decide +kernel
theorem dX2_init_40 : decode cX2_init 40 = .ok (.invokespecial 31, 3) := by decide +kernel
theorem dX2_init_43 : decode cX2_init 43 = .ok (.putfield 32, 3) := by decide +kernel
theorem dX2_init_46 : decode cX2_init 46 = .ok (.return_, 1) := by decide +kernel
theorem dX2_take_0 : decode cX2_take 0 = .ok (.aload_n 0, 1) := by decide +kernel
theorem dX2_take_1 : decode cX2_take 1 = .ok (.getfield 25, 3) := by decide +kernel
theorem dX2_take_4 : decode cX2_take 4 = .ok (.aload_n 2, 1) := by decide +kernel
theorem dX2_take_5 : decode cX2_take 5 = .ok (.invokevirtual 36, 3) := by decide +kernel
theorem dX2_take_8 : decode cX2_take 8 = .ok (.aload_n 0, 1) := by decide +kernel
theorem dX2_take_9 : decode cX2_take 9 = .ok (.getfield 32, 3) := by decide +kernel
theorem dX2_take_12 : decode cX2_take 12 = .ok (.aload_n 3, 1) := by decide +kernel
theorem dX2_take_13 : decode cX2_take 13 = .ok (.invokevirtual 40, 3) := by decide +kernel
theorem dX2_take_16 : decode cX2_take 16 = .ok (.aload_n 0, 1) := by decide +kernel
theorem dX2_take_17 : decode cX2_take 17 = .ok (.aload_n 1, 1) := by decide +kernel
theorem dX2_take_18 : decode cX2_take 18 = .ok (.getfield 43, 3) := by decide +kernel
theorem dX2_take_21 : decode cX2_take 21 = .ok (.putfield 49, 3) := by decide +kernel
theorem dX2_take_24 : decode cX2_take 24 = .ok (.aload_n 1, 1) := by decide +kernel
theorem dX2_take_25 : decode cX2_take 25 = .ok (.aload_n 0, 1) := by decide +kernel
theorem dX2_take_26 : decode cX2_take 26 = .ok (.getfield 11, 3) := by decide +kernel
theorem dX2_take_29 : decode cX2_take 29 = .ok (.invokevirtual 52, 3) := by decide +kernel
theorem dX2_take_32 : decode cX2_take 32 = .ok (.iconst 0, 1) := by decide +kernel
theorem dX2_take_33 : decode cX2_take 33 = .ok (.istore 4, 2) := by decide +kernel
theorem dX2_take_35 : decode cX2_take 35 = .ok (.iload 4, 2) := by decide +kernel
theorem dX2_take_37 : decode cX2_take 37 = .ok (.iconst 5, 1) := by decide +kernel
theorem dX2_take_38 : decode cX2_take 38 = .ok (.if_icmp .ge 26, 3) := by decide +kernel
theorem dX2_take_41 : decode cX2_take 41 = .ok (.aload_n 0, 1) := by decide +kernel
theorem dX2_take_42 : decode cX2_take 42 = .ok (.getfield 16, 3) := by decide +kernel
theorem dX2_take_45 : decode cX2_take 45 = .ok (.iload 4, 2) := by decide +kernel
theorem dX2_take_47 : decode cX2_take 47 = .ok (.aload_n 1, 1) := by decide +kernel
theorem dX2_take_48 : decode cX2_take 48 = .ok (.getfield 56, 3) := by decide +kernel
theorem dX2_take_51 : decode cX2_take 51 = .ok (.iload 4, 2) := by decide +kernel
theorem dX2_take_53 : decode cX2_take 53 = .ok (.aaload, 1) := by decide +kernel
theorem dX2_take_54 : decode cX2_take 54 = .ok (.getfield 60, 3) := by decide +kernel
theorem dX2_take_57 : decode cX2_take 57 = .ok (.iastore, 1) := by decide +kernel
theorem dX2_take_58 : decode cX2_take 58 = .ok (.iinc 4 1, 3) := by decide +kernel
theorem dX2_take_61 : decode cX2_take 61 = .ok (.goto (-26), 3) := by decide +kernel
theorem dX2_take_64 : decode cX2_take 64 = .ok (.return_, 1) := by decide +kernel
theorem dX2_putBack_0 : decode cX2_putBack 0 = .ok (.aload_n 2, 1) := by decide +kernel
theorem dX2_putBack_1 : decode cX2_putBack 1 = .ok (.aload_n 0, 1) := by decide +kernel
theorem dX2_putBack_2 : decode cX2_putBack 2 = .ok (.getfield 25, 3) := by decide +kernel
theorem dX2_putBack_5 : decode cX2_putBack 5 = .ok (.invokevirtual 36, 3) := by decide +kernel
theorem dX2_putBack_8 : decode cX2_putBack 8 = .ok (.aload_n 3, 1) := by decide +kernel
theorem dX2_putBack_9 : decode cX2_putBack 9 = .ok (.aload_n 0, 1) := by decide +kernel
theorem dX2_putBack_10 : decode cX2_putBack 10 = .ok (.getfield 32, 3) := by decide +kernel
theorem dX2_putBack_13 : decode cX2_putBack 13 = .ok (.invokevirtual 40, 3) := by decide +kernel
theorem dX2_putBack_16 : decode cX2_putBack 16 = .ok (.aload_n 1, 1) := by decide +kernel
theorem dX2_putBack_17 : decode cX2_putBack 17 = .ok (.aload_n 0, 1) := by decide +kernel
theorem dX2_putBack_18 : decode cX2_putBack 18 = .ok (.getfield 11, 3) := by decide +kernel
theorem dX2_putBack_21 : decode cX2_putBack 21 = .ok (.invokevirtual 65, 3) := by decide +kernel
theorem dX2_putBack_24 : decode cX2_putBack 24 = .ok (.iconst 0, 1) := by decide +kernel
theorem dX2_putBack_25 : decode cX2_putBack 25 = .ok (.istore 4, 2) := by decide +kernel
theorem dX2_putBack_27 : decode cX2_putBack 27 = .ok (.iload 4, 2) := by decide +kernel
theorem dX2_putBack_29 : decode cX2_putBack 29 = .ok (.iconst 5, 1) := by decide +kernel
theorem dX2_putBack_30 : decode cX2_putBack 30 = .ok (.if_icmp .ge 26, 3) := by decide +kernel
theorem dX2_putBack_33 : decode cX2_putBack 33 = .ok (.aload_n 1, 1) := by decide +kernel
theorem dX2_putBack_34 : decode cX2_putBack 34 = .ok (.getfield 56, 3) := by decide +kernel
theorem dX2_putBack_37 : decode cX2_putBack 37 = .ok (.iload 4, 2) := by decide +kernel
theorem dX2_putBack_39 : decode cX2_putBack 39 = .ok (.aaload, 1) := by decide +kernel
theorem dX2_putBack_40 : decode cX2_putBack 40 = .ok (.aload_n 0, 1) := by decide +kernel
theorem dX2_putBack_41 : decode cX2_putBack 41 = .ok (.getfield 16, 3) := by decide +kernel
theorem dX2_putBack_44 : decode cX2_putBack 44 = .ok (.iload 4, 2) := by decide +kernel
theorem dX2_putBack_46 : decode cX2_putBack 46 = .ok (.iaload, 1) := by decide +kernel
theorem dX2_putBack_47 : decode cX2_putBack 47 = .ok (.putfield 60, 3) := by decide +kernel
theorem dX2_putBack_50 : decode cX2_putBack 50 = .ok (.iinc 4 1, 3) := by decide +kernel
theorem dX2_putBack_53 : decode cX2_putBack 53 = .ok (.goto (-26), 3) := by decide +kernel
theorem dX2_putBack_56 : decode cX2_putBack 56 = .ok (.return_, 1) := by decide +kernel
theorem dX3_init_0 : decode cX3_init 0 = .ok (.aload_n 0, 1) := by decide +kernel
theorem dX3_init_1 : decode cX3_init 1 = .ok (.invokespecial 3, 3) := by decide +kernel
theorem dX3_init_4 : decode cX3_init 4 = .ok (.aload_n 0, 1) := by decide +kernel
theorem dX3_init_5 : decode cX3_init 5 = .ok (.iconst 4, 1) := by decide +kernel
theorem dX3_init_6 : decode cX3_init 6 = .ok (.newarray .int, 2) := by decide +kernel
theorem dX3_init_8 : decode cX3_init 8 = .ok (.putfield 9, 3) := by decide +kernel
theorem dX3_init_11 : decode cX3_init 11 = .ok (.aload_n 0, 1) := by decide +kernel
theorem dX3_init_12 : decode cX3_init 12 = .ok (.iconst 4, 1) := by decide +kernel
theorem dX3_init_13 : decode cX3_init 13 = .ok (.newarray .int, 2) := by decide +kernel
theorem dX3_init_15 : decode cX3_init 15 = .ok (.putfield 15, 3) := by decide +kernel
theorem dX3_init_18 : decode cX3_init 18 = .ok (.aload_n 0, 1) := by decide +kernel
theorem dX3_init_19 : decode cX3_init 19 = .ok (.iconst 4, 1) := by decide +kernel
theorem dX3_init_20 : decode cX3_init 20 = .ok (.newarray .int, 2) := by decide +kernel
theorem dX3_init_22 : decode cX3_init 22 = .ok (.putfield 18, 3) := by decide +kernel
theorem dX3_init_25 : decode cX3_init 25 = .ok (.return_, 1) := by decide +kernel
theorem dX3_add_0 : decode cX3_add 0 = .ok (.aload_n 0, 1) := by decide +kernel
theorem dX3_add_1 : decode cX3_add 1 = .ok (.getfield 9, 3) := by decide +kernel
theorem dX3_add_4 : decode cX3_add 4 = .ok (.aload_n 0, 1) := by decide +kernel
theorem dX3_add_5 : decode cX3_add 5 = .ok (.getfield 21, 3) := by decide +kernel
theorem dX3_add_8 : decode cX3_add 8 = .ok (.iload_n 1, 1) := by decide +kernel
theorem dX3_add_9 : decode cX3_add 9 = .ok (.iastore, 1) := by decide +kernel
theorem dX3_add_10 : decode cX3_add 10 = .ok (.aload_n 0, 1) := by decide +kernel
theorem dX3_add_11 : decode cX3_add 11 = .ok (.getfield 15, 3) := by decide +kernel
theorem dX3_add_14 : decode cX3_add 14 = .ok (.aload_n 0, 1) := by decide +kernel
theorem dX3_add_15 : decode cX3_add 15 = .ok (.getfield 21, 3) := by decide +kernel
theorem dX3_add_18 : decode cX3_add 18 = .ok (.iload_n 2, 1) := by decide +kernel
theorem dX3_add_19 : decode cX3_add 19 = .ok (.iastore, 1) := by decide +kernel
theorem dX3_add_20 : decode cX3_add 20 = .ok (.aload_n 0, 1) := by decide +kernel
theorem dX3_add_21 : decode cX3_add 21 = .ok (.getfield 18, 3) := by decide +kernel
theorem dX3_add_24 : decode cX3_add 24 = .ok (.aload_n 0, 1) := by decide +kernel
theorem dX3_add_25 : decode cX3_add 25 = .ok (.getfield 21, 3) := by decide +kernel
theorem dX3_add_28 : decode cX3_add 28 = .ok (.iload_n 3, 1) := by decide +kernel
theorem dX3_add_29 : decode cX3_add 29 = .ok (.iastore, 1) := by decide +kernel
theorem dX3_add_30 : decode cX3_add 30 = .ok (.aload_n 0, 1) := by decide +kernel
theorem dX3_add_31 : decode cX3_add 31 = .ok (.dup, 1) := by decide +kernel
theorem dX3_add_32 : decode cX3_add 32 = .ok (.getfield 21, 3) := by decide +kernel
theorem dX3_add_35 : decode cX3_add 35 = .ok (.iconst 1, 1) := by decide +kernel
theorem dX3_add_36 : decode cX3_add 36 = .ok (.iadd, 1) := by decide +kernel
theorem dX3_add_37 : decode cX3_add 37 = .ok (.putfield 21, 3) := by decide +kernel
theorem dX3_add_40 : decode cX3_add 40 = .ok (.return_, 1) := by decide +kernel
theorem dX3_copyFrom_0 : decode cX3_copyFrom 0 = .ok (.aload_n 1, 1) := by decide +kernel
theorem dX3_copyFrom_1 : decode cX3_copyFrom 1 = .ok (.getfield 9, 3) := by decide +kernel
theorem dX3_copyFrom_4 : decode cX3_copyFrom 4 = .ok (.iconst 0, 1) := by decide +kernel
theorem dX3_copyFrom_5 : decode cX3_copyFrom 5 = .ok (.aload_n 0, 1) := by decide +kernel
theorem dX3_copyFrom_6 : decode cX3_copyFrom 6 = .ok (.getfield 9, 3) := by decide +kernel
theorem dX3_copyFrom_9 : decode cX3_copyFrom 9 = .ok (.iconst 0, 1) := by decide +kernel
theorem dX3_copyFrom_10 : decode cX3_copyFrom 10 = .ok (.iconst 4, 1) := by decide +kernel
theorem dX3_copyFrom_11 : decode cX3_copyFrom 11 = .ok (.invokestatic 25, 3) := by decide +kernel
theorem dX3_copyFrom_14 : decode cX3_copyFrom 14 = .ok (.aload_n 1, 1) := by decide +kernel
theorem dX3_copyFrom_15 : decode cX3_copyFrom 15 = .ok (.getfield 15, 3) := by decide +kernel
theorem dX3_copyFrom_18 : decode cX3_copyFrom 18 = .ok (.iconst 0, 1) := by decide +kernel
theorem dX3_copyFrom_19 : decode cX3_copyFrom 19 = .ok (.aload_n 0, 1) := by decide +kernel
theorem dX3_copyFrom_20 : decode cX3_copyFrom 20 = .ok (.getfield 15, 3) := by decide +kernel
theorem dX3_copyFrom_23 : decode cX3_copyFrom 23 = .ok (.iconst 0, 1) := by decide +kernel
theorem dX3_copyFrom_24 : decode cX3_copyFrom 24 = .ok (.iconst 4, 1) := by decide +kernel
theorem dX3_copyFrom_25 : decode cX3_copyFrom 25 = .ok (.invokestatic 25, 3) := by decide +kernel
theorem dX3_copyFrom_28 : decode cX3_copyFrom 28 = .ok (.aload_n 1, 1) := by decide +kernel
theorem dX3_copyFrom_29 : decode cX3_copyFrom 29 = .ok (.getfield 18, 3) := by decide +kernel
theorem dX3_copyFrom_32 : decode cX3_copyFrom 32 = .ok (.iconst 0, 1) := by decide +kernel
theorem dX3_copyFrom_33 : decode cX3_copyFrom 33 = .ok (.aload_n 0, 1) := by decide +kernel
theorem dX3_copyFrom_34 : decode cX3_copyFrom 34 = .ok (.getfield 18, 3) := by decide +kernel
theorem dX3_copyFrom_37 : decode cX3_copyFrom 37 = .ok (.iconst 0, 1) := by decide +kernel
theorem dX3_copyFrom_38 : decode cX3_copyFrom 38 = .ok (.iconst 4, 1) := by decide +kernel
theorem dX3_copyFrom_39 : decode cX3_copyFrom 39 = .ok (.invokestatic 25, 3) := by decide +kernel
theorem dX3_copyFrom_42 : decode cX3_copyFrom 42 = .ok (.aload_n 0, 1) := by decide +kernel
theorem dX3_copyFrom_43 : decode cX3_copyFrom 43 = .ok (.aload_n 1, 1) := by decide +kernel
theorem dX3_copyFrom_44 : decode cX3_copyFrom 44 = .ok (.getfield 21, 3) := by decide +kernel
theorem dX3_copyFrom_47 : decode cX3_copyFrom 47 = .ok (.putfield 21, 3) := by decide +kernel
theorem dX3_copyFrom_50 : decode cX3_copyFrom 50 = .ok (.return_, 1) := by decide +kernel
theorem dX4_init_0 : decode cX4_init 0 = .ok (.aload_n 0, 1) := by decide +kernel
theorem dX4_init_1 : decode cX4_init 1 = .ok (.invokespecial 3, 3) := by decide +kernel
theorem dX4_init_4 : decode cX4_init 4 = .ok (.aload_n 0, 1) := by decide +kernel
theorem dX4_init_5 : decode cX4_init 5 = .ok (.bipush 6, 2) := by decide +kernel
theorem dX4_init_7 : decode cX4_init 7 = .ok (.newarray .int, 2) := by decide +kernel
theorem dX4_init_9 : decode cX4_init 9 = .ok (.putfield 9, 3) := by decide +kernel
theorem dX4_init_12 : decode cX4_init 12 = .ok (.aload_n 0, 1) := by decide +kernel
theorem dX4_init_13 : decode cX4_init 13 = .ok (.bipush 6, 2) := by decide +kernel
theorem dX4_init_15 : decode cX4_init 15 = .ok (.newarray .int, 2) := by decide +kernel
theorem dX4_init_17 : decode cX4_init 17 = .ok (.putfield 15, 3) := by decide +kernel
theorem dX4_init_20 : decode cX4_init 20 = .ok (.return_, 1) := by decide +kernel
theorem dX4_read_0 : decode cX4_read 0 = .ok (.aload_n 0, 1) := by decide +kernel
theorem dX4_read_1 : decode cX4_read 1 = .ok (.aload_n 1, 1) := by decide +kernel
theorem dX4_read_2 : decode cX4_read 2 = .ok (.getfield 18, 3) := by decide +kernel
theorem dX4_read_5 : decode cX4_read 5 = .ok (.iconst 3, 1) := by decide +kernel
theorem dX4_read_6 : decode cX4_read 6 = .ok (.idiv, 1) := by decide +kernel
theorem dX4_read_7 : decode cX4_read 7 = .ok (.bipush 6, 2) := by decide +kernel
theorem dX4_read_9 : decode cX4_read 9 = .ok (.invokestatic 24, 3) := by decide +kernel
theorem dX4_read_12 : decode cX4_read 12 = .ok (.putfield 30, 3) := by decide +kernel
theorem dX4_read_15 : decode cX4_read 15 = .ok (.iconst 0, 1) := by decide +kernel
theorem dX4_read_16 : decode cX4_read 16 = .ok (.istore_n 2, 1) := by decide +kernel
theorem dX4_read_17 : decode cX4_read 17 = .ok (.iload_n 2, 1) := by decide +kernel
theorem dX4_read_18 : decode cX4_read 18 = .ok (.aload_n 0, 1) := by decide +kernel
theorem dX4_read_19 : decode cX4_read 19 = .ok (.getfield 30, 3) := by decide +kernel
theorem dX4_read_22 : decode cX4_read 22 = .ok (.if_icmp .ge 45, 3) := by decide +kernel
theorem dX4_read_25 : decode cX4_read 25 = .ok (.aload_n 0, 1) := by decide +kernel
theorem dX4_read_26 : decode cX4_read 26 = .ok (.getfield 9, 3) := by decide +kernel
theorem dX4_read_29 : decode cX4_read 29 = .ok (.iload_n 2, 1) := by decide +kernel
theorem dX4_read_30 : decode cX4_read 30 = .ok (.aload_n 1, 1) := by decide +kernel
theorem dX4_read_31 : decode cX4_read 31 = .ok (.getfield 33, 3) := by decide +kernel
theorem dX4_read_34 : decode cX4_read 34 = .ok (.iconst 3, 1) := by decide +kernel
theorem dX4_read_35 : decode cX4_read 35 = .ok (.iload_n 2, 1) := by decide +kernel
theorem dX4_read_36 : decode cX4_read 36 = .ok (.imul, 1) := by decide +kernel
theorem dX4_read_37 : decode cX4_read 37 = .ok (.iaload, 1) := by decide +kernel
theorem dX4_read_38 : decode cX4_read 38 = .ok (.bipush 48, 2) := by decide +kernel
theorem dX4_read_40 : decode cX4_read 40 = .ok (.isub, 1) := by decide +kernel
theorem dX4_read_41 : decode cX4_read 41 = .ok (.iastore, 1) := by decide +kernel
theorem dX4_read_42 : decode cX4_read 42 = .ok (.aload_n 0, 1) := by decide +kernel
theorem dX4_read_43 : decode cX4_read 43 = .ok (.getfield 15, 3) := by decide +kernel
theorem dX4_read_46 : decode cX4_read 46 = .ok (.iload_n 2, 1) := by decide +kernel
theorem dX4_read_47 : decode cX4_read 47 = .ok (.aload_n 1, 1) := by decide +kernel
theorem dX4_read_48 : decode cX4_read 48 = .ok (.getfield 33, 3) := by decide +kernel
theorem dX4_read_51 : decode cX4_read 51 = .ok (.iconst 3, 1) := by decide +kernel
theorem dX4_read_52 : decode cX4_read 52 = .ok (.iload_n 2, 1) := by decide +kernel
theorem dX4_read_53 : decode cX4_read 53 = .ok (.imul, 1) := by decide +kernel
theorem dX4_read_54 : decode cX4_read 54 = .ok (.iconst 1, 1) := by decide +kernel
theorem dX4_read_55 : decode cX4_read 55 = .ok (.iadd, 1) := by decide +kernel
theorem dX4_read_56 : decode cX4_read 56 = .ok (.iaload, 1) := by decide +kernel
theorem dX4_read_57 : decode cX4_read 57 = .ok (.bipush 48, 2) := by decide +kernel
theorem dX4_read_59 : decode cX4_read 59 = .ok (.isub, 1) := by decide +kernel
theorem dX4_read_60 : decode cX4_read 60 = .ok (.iastore, 1) := by decide +kernel
theorem dX4_read_61 : decode cX4_read 61 = .ok (.iinc 2 1, 3) := by decide +kernel
theorem dX4_read_64 : decode cX4_read 64 = .ok (.goto (-47), 3) := by decide +kernel
theorem dX4_read_67 : decode cX4_read 67 = .ok (.aload_n 0, 1) := by decide +kernel
theorem dX4_read_68 : decode cX4_read 68 = .ok (.aload_n 1, 1) := by decide +kernel
theorem dX4_read_69 : decode cX4_read 69 = .ok (.getfield 33, 3) := by decide +kernel
theorem dX4_read_72 : decode cX4_read 72 = .ok (.iconst 3, 1) := by decide +kernel
theorem dX4_read_73 : decode cX4_read 73 = .ok (.aload_n 0, 1) := by decide +kernel
theorem dX4_read_74 : decode cX4_read 74 = .ok (.getfield 30, 3) := by decide +kernel
theorem dX4_read_77 : decode cX4_read 77 = .ok (.imul, 1) := by decide +kernel
theorem dX4_read_78 : decode cX4_read 78 = .ok (.iaload, 1) := by decide +kernel
theorem dX4_read_79 : decode cX4_read 79 = .ok (.bipush 48, 2) := by decide +kernel
theorem dX4_read_81 : decode cX4_read 81 = .ok (.isub, 1) := by decide +kernel
theorem dX4_read_82 : decode cX4_read 82 = .ok (.putfield 36, 3) := by decide +kernel
theorem dX4_read_85 : decode cX4_read 85 = .ok (.return_, 1) := by decide +kernel
theorem dX5_init_0 : decode cX5_init 0 = .ok (.aload_n 0, 1) := by decide +kernel
theorem dX5_init_1 : decode cX5_init 1 = .ok (.invokespecial 3, 3) := by decide +kernel
theorem dX5_init_4 : decode cX5_init 4 = .ok (.aload_n 0, 1) := by decide +kernel
theorem dX5_init_5 : decode cX5_init 5 = .ok (.bipush 22, 2) := by decide +kernel
theorem dX5_init_7 : decode cX5_init 7 = .ok (.newarray .int, 2) := by decide +kernel
theorem dX5_init_9 : decode cX5_init 9 = .ok (.putfield 9, 3) := by decide +kernel
theorem dX5_init_12 : decode cX5_init 12 = .ok (.return_, 1) := by decide +kernel
theorem dX5_firstFault_0 : decode cX5_firstFault 0 = .ok (.iconst 0, 1) := by decide +kernel
theorem dX5_firstFault_1 : decode cX5_firstFault 1 = .ok (.istore_n 1, 1) := by decide +kernel
theorem dX5_firstFault_2 : decode cX5_firstFault 2 = .ok (.iload_n 1, 1) := by decide +kernel
theorem dX5_firstFault_3 : decode cX5_firstFault 3 = .ok (.aload_n 0, 1) := by decide +kernel
theorem dX5_firstFault_4 : decode cX5_firstFault 4 = .ok (.getfield 15, 3) := by decide +kernel
theorem dX5_firstFault_7 : decode cX5_firstFault 7 = .ok (.if_icmp .ge 19, 3) := by decide +kernel
theorem dX5_firstFault_10 : decode cX5_firstFault 10 = .ok (.aload_n 0, 1) := by decide +kernel
theorem dX5_firstFault_11 : decode cX5_firstFault 11 = .ok (.iload_n 1, 1) := by decide +kernel
theorem dX5_firstFault_12 : decode cX5_firstFault 12 = .ok (.invokevirtual 19, 3) := by decide +kernel
theorem dX5_firstFault_15 : decode cX5_firstFault 15 = .ok (.ifCond .ne 5, 3) := by decide +kernel
theorem dX5_firstFault_18 : decode cX5_firstFault 18 = .ok (.iload_n 1, 1) := by decide +kernel
theorem dX5_firstFault_19 : decode cX5_firstFault 19 = .ok (.ireturn, 1) := by decide +kernel
theorem dX5_firstFault_20 : decode cX5_firstFault 20 = .ok (.iinc 1 1, 3) := by decide +kernel
theorem dX5_firstFault_23 : decode cX5_firstFault 23 = .ok (.goto (-21), 3) := by decide +kernel
theorem dX5_firstFault_26 : decode cX5_firstFault 26 = .ok (.aload_n 0, 1) := by decide +kernel
theorem dX5_firstFault_27 : decode cX5_firstFault 27 = .ok (.getfield 15, 3) := by decide +kernel
theorem dX5_firstFault_30 : decode cX5_firstFault 30 = .ok (.ireturn, 1) := by decide +kernel
theorem dX5_isCard_0 : decode cX5_isCard 0 = .ok (.aload_n 0, 1) := by decide +kernel
theorem dX5_isCard_1 : decode cX5_isCard 1 = .ok (.getfield 15, 3) := by decide +kernel
theorem dX5_isCard_4 : decode cX5_isCard 4 = .ok (.iconst 2, 1) := by decide +kernel
theorem dX5_isCard_5 : decode cX5_isCard 5 = .ok (.if_icmp .lt 34, 3) := by decide +kernel
theorem dX5_isCard_8 : decode cX5_isCard 8 = .ok (.aload_n 0, 1) := by decide +kernel
theorem dX5_isCard_9 : decode cX5_isCard 9 = .ok (.getfield 9, 3) := by decide +kernel
theorem dX5_isCard_12 : decode cX5_isCard 12 = .ok (.aload_n 0, 1) := by decide +kernel
theorem dX5_isCard_13 : decode cX5_isCard 13 = .ok (.getfield 15, 3) := by decide +kernel
theorem dX5_isCard_16 : decode cX5_isCard 16 = .ok (.iconst 2, 1) := by decide +kernel
theorem dX5_isCard_17 : decode cX5_isCard 17 = .ok (.isub, 1) := by decide +kernel
theorem dX5_isCard_18 : decode cX5_isCard 18 = .ok (.iaload, 1) := by decide +kernel
theorem dX5_isCard_19 : decode cX5_isCard 19 = .ok (.bipush 59, 2) := by decide +kernel
theorem dX5_isCard_21 : decode cX5_isCard 21 = .ok (.if_icmp .ne 18, 3) := by decide +kernel
theorem dX5_isCard_24 : decode cX5_isCard 24 = .ok (.aload_n 0, 1) := by decide +kernel
theorem dX5_isCard_25 : decode cX5_isCard 25 = .ok (.invokevirtual 23, 3) := by decide +kernel
theorem dX5_isCard_28 : decode cX5_isCard 28 = .ok (.aload_n 0, 1) := by decide +kernel
theorem dX5_isCard_29 : decode cX5_isCard 29 = .ok (.getfield 15, 3) := by decide +kernel
theorem dX5_isCard_32 : decode cX5_isCard 32 = .ok (.if_icmp .ne 7, 3) := by decide +kernel
theorem dX5_isCard_35 : decode cX5_isCard 35 = .ok (.iconst 1, 1) := by decide +kernel
theorem dX5_isCard_36 : decode cX5_isCard 36 = .ok (.goto 4, 3) := by decide +kernel
theorem dX5_isCard_39 : decode cX5_isCard 39 = .ok (.iconst 0, 1) := by decide +kernel
theorem dX5_isCard_40 : decode cX5_isCard 40 = .ok (.ireturn, 1) := by decide +kernel
theorem dX5_isGood_0 : decode cX5_isGood 0 = .ok (.aload_n 0, 1) := by decide +kernel
theorem dX5_isGood_1 : decode cX5_isGood 1 = .ok (.getfield 9, 3) := by decide +kernel
theorem dX5_isGood_4 : decode cX5_isGood 4 = .ok (.iload_n 1, 1) := by decide +kernel
theorem dX5_isGood_5 : decode cX5_isGood 5 = .ok (.iaload, 1) := by decide +kernel
theorem dX5_isGood_6 : decode cX5_isGood 6 = .ok (.istore_n 2, 1) := by decide +kernel
theorem dX5_isGood_7 : decode cX5_isGood 7 = .ok (.iload_n 1, 1) := by decide +kernel
theorem dX5_isGood_8 : decode cX5_isGood 8 = .ok (.ifCond .le 34, 3) := by decide +kernel
theorem dX5_isGood_11 : decode cX5_isGood 11 = .ok (.aload_n 0, 1) := by decide +kernel
theorem dX5_isGood_12 : decode cX5_isGood 12 = .ok (.getfield 9, 3) := by decide +kernel
theorem dX5_isGood_15 : decode cX5_isGood 15 = .ok (.iload_n 1, 1) := by decide +kernel
theorem dX5_isGood_16 : decode cX5_isGood 16 = .ok (.iconst 1, 1) := by decide +kernel
theorem dX5_isGood_17 : decode cX5_isGood 17 = .ok (.isub, 1) := by decide +kernel
theorem dX5_isGood_18 : decode cX5_isGood 18 = .ok (.iaload, 1) := by decide +kernel
theorem dX5_isGood_19 : decode cX5_isGood 19 = .ok (.bipush 59, 2) := by decide +kernel
theorem dX5_isGood_21 : decode cX5_isGood 21 = .ok (.if_icmp .ne 21, 3) := by decide +kernel
theorem dX5_isGood_24 : decode cX5_isGood 24 = .ok (.iload_n 2, 1) := by decide +kernel
theorem dX5_isGood_25 : decode cX5_isGood 25 = .ok (.bipush 48, 2) := by decide +kernel
theorem dX5_isGood_27 : decode cX5_isGood 27 = .ok (.if_icmp .lt 13, 3) := by decide +kernel
theorem dX5_isGood_30 : decode cX5_isGood 30 = .ok (.iload_n 2, 1) := by decide +kernel
theorem dX5_isGood_31 : decode cX5_isGood 31 = .ok (.bipush 57, 2) := by decide +kernel
theorem dX5_isGood_33 : decode cX5_isGood 33 = .ok (.if_icmp .gt 7, 3) := by decide +kernel
theorem dX5_isGood_36 : decode cX5_isGood 36 = .ok (.iconst 1, 1) := by decide +kernel
theorem dX5_isGood_37 : decode cX5_isGood 37 = .ok (.goto 4, 3) := by decide +kernel
theorem dX5_isGood_40 : decode cX5_isGood 40 = .ok (.iconst 0, 1) := by decide +kernel
theorem dX5_isGood_41 : decode cX5_isGood 41 = .ok (.ireturn, 1) := by decide +kernel
theorem dX5_isGood_42 : decode cX5_isGood 42 = .ok (.iload_n 1, 1) := by decide +kernel
theorem dX5_isGood_43 : decode cX5_isGood 43 = .ok (.iconst 1, 1) := by decide +kernel
theorem dX5_isGood_44 : decode cX5_isGood 44 = .ok (.if_icmp .le 18, 3) := by decide +kernel
theorem dX5_isGood_47 : decode cX5_isGood 47 = .ok (.aload_n 0, 1) := by decide +kernel
theorem dX5_isGood_48 : decode cX5_isGood 48 = .ok (.getfield 9, 3) := by decide +kernel
theorem dX5_isGood_51 : decode cX5_isGood 51 = .ok (.iload_n 1, 1) := by decide +kernel
theorem dX5_isGood_52 : decode cX5_isGood 52 = .ok (.iconst 2, 1) := by decide +kernel
theorem dX5_isGood_53 : decode cX5_isGood 53 = .ok (.isub, 1) := by decide +kernel
theorem dX5_isGood_54 : decode cX5_isGood 54 = .ok (.iaload, 1) := by decide +kernel
theorem dX5_isGood_55 : decode cX5_isGood 55 = .ok (.bipush 59, 2) := by decide +kernel
theorem dX5_isGood_57 : decode cX5_isGood 57 = .ok (.if_icmp .ne 5, 3) := by decide +kernel
theorem dX5_isGood_60 : decode cX5_isGood 60 = .ok (.iconst 0, 1) := by decide +kernel
theorem dX5_isGood_61 : decode cX5_isGood 61 = .ok (.ireturn, 1) := by decide +kernel
theorem dX5_isGood_62 : decode cX5_isGood 62 = .ok (.iload_n 1, 1) := by decide +kernel
theorem dX5_isGood_63 : decode cX5_isGood 63 = .ok (.iconst 3, 1) := by decide +kernel
theorem dX5_isGood_64 : decode cX5_isGood 64 = .ok (.irem, 1) := by decide +kernel
theorem dX5_isGood_65 : decode cX5_isGood 65 = .ok (.iconst 2, 1) := by decide +kernel
theorem dX5_isGood_66 : decode cX5_isGood 66 = .ok (.if_icmp .ge 21, 3) := by decide +kernel
theorem dX5_isGood_69 : decode cX5_isGood 69 = .ok (.iload_n 2, 1) := by decide +kernel
theorem dX5_isGood_70 : decode cX5_isGood 70 = .ok (.bipush 49, 2) := by decide +kernel
theorem dX5_isGood_72 : decode cX5_isGood 72 = .ok (.if_icmp .lt 13, 3) := by decide +kernel
theorem dX5_isGood_75 : decode cX5_isGood 75 = .ok (.iload_n 2, 1) := by decide +kernel
theorem dX5_isGood_76 : decode cX5_isGood 76 = .ok (.bipush 57, 2) := by decide +kernel
theorem dX5_isGood_78 : decode cX5_isGood 78 = .ok (.if_icmp .gt 7, 3) := by decide +kernel
theorem dX5_isGood_81 : decode cX5_isGood 81 = .ok (.iconst 1, 1) := by decide +kernel
theorem dX5_isGood_82 : decode cX5_isGood 82 = .ok (.goto 4, 3) := by decide +kernel
theorem dX5_isGood_85 : decode cX5_isGood 85 = .ok (.iconst 0, 1) := by decide +kernel
theorem dX5_isGood_86 : decode cX5_isGood 86 = .ok (.ireturn, 1) := by decide +kernel
theorem dX5_isGood_87 : decode cX5_isGood 87 = .ok (.iload_n 1, 1) := by decide +kernel
theorem dX5_isGood_88 : decode cX5_isGood 88 = .ok (.iconst 3, 1) := by decide +kernel
theorem dX5_isGood_89 : decode cX5_isGood 89 = .ok (.idiv, 1) := by decide +kernel
theorem dX5_isGood_90 : decode cX5_isGood 90 = .ok (.iconst 1, 1) := by decide +kernel
theorem dX5_isGood_91 : decode cX5_isGood 91 = .ok (.iadd, 1) := by decide +kernel
theorem dX5_isGood_92 : decode cX5_isGood 92 = .ok (.istore_n 3, 1) := by decide +kernel
theorem dX5_isGood_93 : decode cX5_isGood 93 = .ok (.iload_n 2, 1) := by decide +kernel
theorem dX5_isGood_94 : decode cX5_isGood 94 = .ok (.bipush 44, 2) := by decide +kernel
theorem dX5_isGood_96 : decode cX5_isGood 96 = .ok (.if_icmp .ne 17, 3) := by decide +kernel
theorem dX5_isGood_99 : decode cX5_isGood 99 = .ok (.iload_n 3, 1) := by decide +kernel
theorem dX5_isGood_100 : decode cX5_isGood 100 = .ok (.bipush 6, 2) := by decide +kernel
theorem dX5_isGood_102 : decode cX5_isGood 102 = .ok (.if_icmp .ge 7, 3) := by decide +kernel
theorem dX5_isGood_105 : decode cX5_isGood 105 = .ok (.iconst 1, 1) := by decide +kernel
theorem dX5_isGood_106 : decode cX5_isGood 106 = .ok (.goto 23, 3) := by decide +kernel
theorem dX5_isGood_109 : decode cX5_isGood 109 = .ok (.iconst 0, 1) := by decide +kernel
theorem dX5_isGood_110 : decode cX5_isGood 110 = .ok (.goto 19, 3) := by decide +kernel
theorem dX5_isGood_113 : decode cX5_isGood 113 = .ok (.iload_n 2, 1) := by decide +kernel
theorem dX5_isGood_114 : decode cX5_isGood 114 = .ok (.bipush 59, 2) := by decide +kernel
theorem dX5_isGood_116 : decode cX5_isGood 116 = .ok (.if_icmp .ne 12, 3) := by decide +kernel
theorem dX5_isGood_119 : decode cX5_isGood 119 = .ok (.iload_n 3, 1) := by decide +kernel
theorem dX5_isGood_120 : decode cX5_isGood 120 = .ok (.iconst 2, 1) := by decide +kernel
theorem dX5_isGood_121 : decode cX5_isGood 121 = .ok (.if_icmp .lt 7, 3) := by decide +kernel
theorem dX5_isGood_124 : decode cX5_isGood 124 = .ok (.iconst 1, 1) := by decide +kernel
theorem dX5_isGood_125 : decode cX5_isGood 125 = .ok (.goto 4, 3) := by decide +kernel
theorem dX5_isGood_128 : decode cX5_isGood 128 = .ok (.iconst 0, 1) := by decide +kernel
theorem dX5_isGood_129 : decode cX5_isGood 129 = .ok (.ireturn, 1) := by decide +kernel
theorem dX6_init_0 : decode cX6_init 0 = .ok (.aload_n 0, 1) := by decide +kernel
theorem dX6_init_1 : decode cX6_init 1 = .ok (.invokespecial 3, 3) := by decide +kernel
theorem dX6_init_4 : decode cX6_init 4 = .ok (.aload_n 0, 1) := by decide +kernel
theorem dX6_init_5 : decode cX6_init 5 = .ok (.iconst 5, 1) := by decide +kernel
theorem dX6_init_6 : decode cX6_init 6 = .ok (.anewarray 9, 3) := by decide +kernel
theorem dX6_init_9 : decode cX6_init 9 = .ok (.putfield 11, 3) := by decide +kernel
theorem dX6_init_12 : decode cX6_init 12 = .ok (.iconst 0, 1) := by decide +kernel
theorem dX6_init_13 : decode cX6_init 13 = .ok (.istore_n 1, 1) := by decide +kernel
theorem dX6_init_14 : decode cX6_init 14 = .ok (.iload_n 1, 1) := by decide +kernel
theorem dX6_init_15 : decode cX6_init 15 = .ok (.iconst 5, 1) := by decide +kernel
theorem dX6_init_16 : decode cX6_init 16 = .ok (.if_icmp .ge 22, 3) := by decide +kernel
theorem dX6_init_19 : decode cX6_init 19 = .ok (.aload_n 0, 1) := by decide +kernel
theorem dX6_init_20 : decode cX6_init 20 = .ok (.getfield 11, 3) := by decide +kernel
theorem dX6_init_23 : decode cX6_init 23 = .ok (.iload_n 1, 1) := by decide +kernel
theorem dX6_init_24 : decode cX6_init 24 = .ok (.new 9, 3) := by decide +kernel
theorem dX6_init_27 : decode cX6_init 27 = .ok (.dup, 1) := by decide +kernel
theorem dX6_init_28 : decode cX6_init 28 = .ok (.invokespecial 17, 3) := by decide +kernel
theorem dX6_init_31 : decode cX6_init 31 = .ok (.aastore, 1) := by decide +kernel
theorem dX6_init_32 : decode cX6_init 32 = .ok (.iinc 1 1, 3) := by decide +kernel
theorem dX6_init_35 : decode cX6_init 35 = .ok (.goto (-21), 3) := by decide +kernel
theorem dX6_init_38 : decode cX6_init 38 = .ok (.return_, 1) := by decide +kernel
theorem dX6_behind_0 : decode cX6_behind 0 = .ok (.iload_n 1, 1) := by decide +kernel
theorem dX6_behind_1 : decode cX6_behind 1 = .ok (.iload_n 2, 1) := by decide +kernel
theorem dX6_behind_2 : decode cX6_behind 2 = .ok (.iadd, 1) := by decide +kernel
theorem dX6_behind_3 : decode cX6_behind 3 = .ok (.istore_n 3, 1) := by decide +kernel
theorem dX6_behind_4 : decode cX6_behind 4 = .ok (.iload_n 3, 1) := by decide +kernel
theorem dX6_behind_5 : decode cX6_behind 5 = .ok (.aload_n 0, 1) := by decide +kernel
theorem dX6_behind_6 : decode cX6_behind 6 = .ok (.getfield 18, 3) := by decide +kernel
theorem dX6_behind_9 : decode cX6_behind 9 = .ok (.if_icmp .ge 7, 3) := by decide +kernel
theorem dX6_behind_12 : decode cX6_behind 12 = .ok (.iload_n 3, 1) := by decide +kernel
theorem dX6_behind_13 : decode cX6_behind 13 = .ok (.goto 9, 3) := by decide +kernel
theorem dX6_behind_16 : decode cX6_behind 16 = .ok (.iload_n 3, 1) := by decide +kernel
theorem dX6_behind_17 : decode cX6_behind 17 = .ok (.aload_n 0, 1) := by decide +kernel
theorem dX6_behind_18 : decode cX6_behind 18 = .ok (.getfield 18, 3) := by decide +kernel
theorem dX6_behind_21 : decode cX6_behind 21 = .ok (.isub, 1) := by decide +kernel
theorem dX6_behind_22 : decode cX6_behind 22 = .ok (.ireturn, 1) := by decide +kernel
theorem dX6_saveWants_0 : decode cX6_saveWants 0 = .ok (.iconst 0, 1) := by decide +kernel
theorem dX6_saveWants_1 : decode cX6_saveWants 1 = .ok (.istore_n 2, 1) := by decide +kernel
theorem dX6_saveWants_2 : decode cX6_saveWants 2 = .ok (.iload_n 2, 1) := by decide +kernel
theorem dX6_saveWants_3 : decode cX6_saveWants 3 = .ok (.iconst 5, 1) := by decide +kernel
theorem dX6_saveWants_4 : decode cX6_saveWants 4 = .ok (.if_icmp .ge 28, 3) := by decide +kernel
theorem dX6_saveWants_7 : decode cX6_saveWants 7 = .ok (.aload_n 0, 1) := by decide +kernel
theorem dX6_saveWants_8 : decode cX6_saveWants 8 = .ok (.getfield 11, 3) := by decide +kernel
theorem dX6_saveWants_11 : decode cX6_saveWants 11 = .ok (.iload_n 2, 1) := by decide +kernel
theorem dX6_saveWants_12 : decode cX6_saveWants 12 = .ok (.aaload, 1) := by decide +kernel
theorem dX6_saveWants_13 : decode cX6_saveWants 13 = .ok (.getfield 22, 3) := by decide +kernel
theorem dX6_saveWants_16 : decode cX6_saveWants 16 = .ok (.iconst 0, 1) := by decide +kernel
theorem dX6_saveWants_17 : decode cX6_saveWants 17 = .ok (.aload_n 1, 1) := by decide +kernel
theorem dX6_saveWants_18 : decode cX6_saveWants 18 = .ok (.iload_n 2, 1) := by decide +kernel
theorem dX6_saveWants_19 : decode cX6_saveWants 19 = .ok (.aaload, 1) := by decide +kernel
theorem dX6_saveWants_20 : decode cX6_saveWants 20 = .ok (.iconst 0, 1) := by decide +kernel
theorem dX6_saveWants_21 : decode cX6_saveWants 21 = .ok (.bipush 6, 2) := by decide +kernel
theorem dX6_saveWants_23 : decode cX6_saveWants 23 = .ok (.invokestatic 26, 3) := by decide +kernel
theorem dX6_saveWants_26 : decode cX6_saveWants 26 = .ok (.iinc 2 1, 3) := by decide +kernel
theorem dX6_saveWants_29 : decode cX6_saveWants 29 = .ok (.goto (-27), 3) := by decide +kernel
theorem dX6_saveWants_32 : decode cX6_saveWants 32 = .ok (.return_, 1) := by decide +kernel
theorem dX6_loadWants_0 : decode cX6_loadWants 0 = .ok (.iconst 0, 1) := by decide +kernel
theorem dX6_loadWants_1 : decode cX6_loadWants 1 = .ok (.istore_n 2, 1) := by decide +kernel
theorem dX6_loadWants_2 : decode cX6_loadWants 2 = .ok (.iload_n 2, 1) := by decide +kernel
theorem dX6_loadWants_3 : decode cX6_loadWants 3 = .ok (.iconst 5, 1) := by decide +kernel
theorem dX6_loadWants_4 : decode cX6_loadWants 4 = .ok (.if_icmp .ge 28, 3) := by decide +kernel
theorem dX6_loadWants_7 : decode cX6_loadWants 7 = .ok (.aload_n 1, 1) := by decide +kernel
theorem dX6_loadWants_8 : decode cX6_loadWants 8 = .ok (.iload_n 2, 1) := by decide +kernel
theorem dX6_loadWants_9 : decode cX6_loadWants 9 = .ok (.aaload, 1) := by decide +kernel
theorem dX6_loadWants_10 : decode cX6_loadWants 10 = .ok (.iconst 0, 1) := by decide +kernel
theorem dX6_loadWants_11 : decode cX6_loadWants 11 = .ok (.aload_n 0, 1) := by decide +kernel
theorem dX6_loadWants_12 : decode cX6_loadWants 12 = .ok (.getfield 11, 3) := by decide +kernel
theorem dX6_loadWants_15 : decode cX6_loadWants 15 = .ok (.iload_n 2, 1) := by decide +kernel
theorem dX6_loadWants_16 : decode cX6_loadWants 16 = .ok (.aaload, 1) := by decide +kernel
theorem dX6_loadWants_17 : decode cX6_loadWants 17 = .ok (.getfield 22, 3) := by decide +kernel
theorem dX6_loadWants_20 : decode cX6_loadWants 20 = .ok (.iconst 0, 1) := by decide +kernel
theorem dX6_loadWants_21 : decode cX6_loadWants 21 = .ok (.bipush 6, 2) := by decide +kernel
theorem dX6_loadWants_23 : decode cX6_loadWants 23 = .ok (.invokestatic 26, 3) := by decide +kernel
theorem dX6_loadWants_26 : decode cX6_loadWants 26 = .ok (.iinc 2 1, 3) := by decide +kernel
theorem dX6_loadWants_29 : decode cX6_loadWants 29 = .ok (.goto (-27), 3) := by decide +kernel
theorem dX6_loadWants_32 : decode cX6_loadWants 32 = .ok (.return_, 1) := by decide +kernel
theorem dX7_init_0 : decode cX7_init 0 = .ok (.aload_n 0, 1) := by decide +kernel
theorem dX7_init_1 : decode cX7_init 1 = .ok (.invokespecial 3, 3) := by decide +kernel
theorem dX7_init_4 : decode cX7_init 4 = .ok (.aload_n 0, 1) := by decide +kernel
theorem dX7_init_5 : decode cX7_init 5 = .ok (.bipush 6, 2) := by decide +kernel
theorem dX7_init_7 : decode cX7_init 7 = .ok (.newarray .int, 2) := by decide +kernel
theorem dX7_init_9 : decode cX7_init 9 = .ok (.putfield 9, 3) := by decide +kernel
theorem dX7_init_12 : decode cX7_init 12 = .ok (.aload_n 0, 1) := by decide +kernel
theorem dX7_init_13 : decode cX7_init 13 = .ok (.bipush 6, 2) := by decide +kernel
theorem dX7_init_15 : decode cX7_init 15 = .ok (.newarray .int, 2) := by decide +kernel
theorem dX7_init_17 : decode cX7_init 17 = .ok (.putfield 15, 3) := by decide +kernel
theorem dX7_init_20 : decode cX7_init 20 = .ok (.aload_n 0, 1) := by decide +kernel
theorem dX7_init_21 : decode cX7_init 21 = .ok (.iconst 5, 1) := by decide +kernel
theorem dX7_init_22 : decode cX7_init 22 = .ok (.newarray .int, 2) := by decide +kernel
theorem dX7_init_24 : decode cX7_init 24 = .ok (.putfield 18, 3) := by decide +kernel
theorem dX7_init_27 : decode cX7_init 27 = .ok (.aload_n 0, 1) := by decide +kernel
theorem dX7_init_28 : decode cX7_init 28 = .ok (.iconst 5, 1) := by decide +kernel
theorem dX7_init_29 : decode cX7_init 29 = .ok (.newarray .int, 2) := by decide +kernel
theorem dX7_init_31 : decode cX7_init 31 = .ok (.putfield 21, 3) := by decide +kernel
theorem dX7_init_34 : decode cX7_init 34 = .ok (.aload_n 0, 1) := by decide +kernel
theorem dX7_init_35 : decode cX7_init 35 = .ok (.iconst (-1), 1) := by decide +kernel
theorem dX7_init_36 : decode cX7_init 36 = .ok (.putfield 24, 3) := by decide +kernel
theorem dX7_init_39 : decode cX7_init 39 = .ok (.aload_n 0, 1) := by decide +kernel
theorem dX7_init_40 : decode cX7_init 40 = .ok (.aload_n 1, 1) := by decide +kernel
theorem dX7_init_41 : decode cX7_init 41 = .ok (.putfield 28, 3) := by decide +kernel
theorem dX7_init_44 : decode cX7_init 44 = .ok (.aload_n 0, 1) := by decide +kernel
theorem dX7_init_45 : decode cX7_init 45 = .ok (.aload_n 2, 1) := by decide +kernel
theorem dX7_init_46 : decode cX7_init 46 = .ok (.putfield 32, 3) := by decide +kernel
theorem dX7_init_49 : decode cX7_init 49 = .ok (.return_, 1) := by decide +kernel
theorem dX7_wipe_0 : decode cX7_wipe 0 = .ok (.iconst 0, 1) := by decide +kernel
theorem dX7_wipe_1 : decode cX7_wipe 1 = .ok (.istore_n 1, 1) := by decide +kernel
theorem dX7_wipe_2 : decode cX7_wipe 2 = .ok (.iload_n 1, 1) := by decide +kernel
theorem dX7_wipe_3 : decode cX7_wipe 3 = .ok (.bipush 6, 2) := by decide +kernel
theorem dX7_wipe_5 : decode cX7_wipe 5 = .ok (.if_icmp .ge 31, 3) := by decide +kernel
theorem dX7_wipe_8 : decode cX7_wipe 8 = .ok (.aload_n 0, 1) := by decide +kernel
theorem dX7_wipe_9 : decode cX7_wipe 9 = .ok (.getfield 9, 3) := by decide +kernel
theorem dX7_wipe_12 : decode cX7_wipe 12 = .ok (.iload_n 1, 1) := by decide +kernel
theorem dX7_wipe_13 : decode cX7_wipe 13 = .ok (.aload_n 0, 1) := by decide +kernel
theorem dX7_wipe_14 : decode cX7_wipe 14 = .ok (.getfield 28, 3) := by decide +kernel
theorem dX7_wipe_17 : decode cX7_wipe 17 = .ok (.getfield 36, 3) := by decide +kernel
theorem dX7_wipe_20 : decode cX7_wipe 20 = .ok (.iload_n 1, 1) := by decide +kernel
theorem dX7_wipe_21 : decode cX7_wipe 21 = .ok (.iaload, 1) := by decide +kernel
theorem dX7_wipe_22 : decode cX7_wipe 22 = .ok (.iastore, 1) := by decide +kernel
theorem dX7_wipe_23 : decode cX7_wipe 23 = .ok (.aload_n 0, 1) := by decide +kernel
theorem dX7_wipe_24 : decode cX7_wipe 24 = .ok (.getfield 15, 3) := by decide +kernel
theorem dX7_wipe_27 : decode cX7_wipe 27 = .ok (.iload_n 1, 1) := by decide +kernel
theorem dX7_wipe_28 : decode cX7_wipe 28 = .ok (.iconst 0, 1) := by decide +kernel
theorem dX7_wipe_29 : decode cX7_wipe 29 = .ok (.iastore, 1) := by decide +kernel
theorem dX7_wipe_30 : decode cX7_wipe 30 = .ok (.iinc 1 1, 3) := by decide +kernel
theorem dX7_wipe_33 : decode cX7_wipe 33 = .ok (.goto (-31), 3) := by decide +kernel
theorem dX7_wipe_36 : decode cX7_wipe 36 = .ok (.iconst 0, 1) := by decide +kernel
theorem dX7_wipe_37 : decode cX7_wipe 37 = .ok (.istore_n 1, 1) := by decide +kernel
theorem dX7_wipe_38 : decode cX7_wipe 38 = .ok (.iload_n 1, 1) := by decide +kernel
theorem dX7_wipe_39 : decode cX7_wipe 39 = .ok (.iconst 5, 1) := by decide +kernel
theorem dX7_wipe_40 : decode cX7_wipe 40 = .ok (.if_icmp .ge 23, 3) := by decide +kernel
theorem dX7_wipe_43 : decode cX7_wipe 43 = .ok (.aload_n 0, 1) := by decide +kernel
theorem dX7_wipe_44 : decode cX7_wipe 44 = .ok (.getfield 18, 3) := by decide +kernel
theorem dX7_wipe_47 : decode cX7_wipe 47 = .ok (.iload_n 1, 1) := by decide +kernel
theorem dX7_wipe_48 : decode cX7_wipe 48 = .ok (.iconst (-1), 1) := by decide +kernel
theorem dX7_wipe_49 : decode cX7_wipe 49 = .ok (.iastore, 1) := by decide +kernel
theorem dX7_wipe_50 : decode cX7_wipe 50 = .ok (.aload_n 0, 1) := by decide +kernel
theorem dX7_wipe_51 : decode cX7_wipe 51 = .ok (.getfield 21, 3) := by decide +kernel
theorem dX7_wipe_54 : decode cX7_wipe 54 = .ok (.iload_n 1, 1) := by decide +kernel
theorem dX7_wipe_55 : decode cX7_wipe 55 = .ok (.iconst 0, 1) := by decide +kernel
theorem dX7_wipe_56 : decode cX7_wipe 56 = .ok (.iastore, 1) := by decide +kernel
theorem dX7_wipe_57 : decode cX7_wipe 57 = .ok (.iinc 1 1, 3) := by decide +kernel
theorem dX7_wipe_60 : decode cX7_wipe 60 = .ok (.goto (-22), 3) := by decide +kernel
theorem dX7_wipe_63 : decode cX7_wipe 63 = .ok (.return_, 1) := by decide +kernel
theorem dX7_press_0 : decode cX7_press 0 = .ok (.aload_n 0, 1) := by decide +kernel
theorem dX7_press_1 : decode cX7_press 1 = .ok (.iload_n 2, 1) := by decide +kernel
theorem dX7_press_2 : decode cX7_press 2 = .ok (.ifCond .ne 7, 3) := by decide +kernel
theorem dX7_press_5 : decode cX7_press 5 = .ok (.iconst (-1), 1) := by decide +kernel
theorem dX7_press_6 : decode cX7_press 6 = .ok (.goto 4, 3) := by decide +kernel
theorem dX7_press_9 : decode cX7_press 9 = .ok (.iload_n 1, 1) := by decide +kernel
theorem dX7_press_10 : decode cX7_press 10 = .ok (.putfield 24, 3) := by decide +kernel
theorem dX7_press_13 : decode cX7_press 13 = .ok (.aload_n 0, 1) := by decide +kernel
theorem dX7_press_14 : decode cX7_press 14 = .ok (.iload_n 2, 1) := by decide +kernel
theorem dX7_press_15 : decode cX7_press 15 = .ok (.putfield 41, 3) := by decide +kernel
theorem dX7_press_18 : decode cX7_press 18 = .ok (.return_, 1) := by decide +kernel
theorem dX7_canHave_0 : decode cX7_canHave 0 = .ok (.aload_n 0, 1) := by decide +kernel
theorem dX7_canHave_1 : decode cX7_canHave 1 = .ok (.getfield 9, 3) := by decide +kernel
theorem dX7_canHave_4 : decode cX7_canHave 4 = .ok (.iload_n 2, 1) := by decide +kernel
theorem dX7_canHave_5 : decode cX7_canHave 5 = .ok (.iaload, 1) := by decide +kernel
theorem dX7_canHave_6 : decode cX7_canHave 6 = .ok (.ifCond .le 31, 3) := by decide +kernel
theorem dX7_canHave_9 : decode cX7_canHave 9 = .ok (.aload_n 0, 1) := by decide +kernel
theorem dX7_canHave_10 : decode cX7_canHave 10 = .ok (.getfield 28, 3) := by decide +kernel
theorem dX7_canHave_13 : decode cX7_canHave 13 = .ok (.getfield 44, 3) := by decide +kernel
theorem dX7_canHave_16 : decode cX7_canHave 16 = .ok (.iload_n 2, 1) := by decide +kernel
theorem dX7_canHave_17 : decode cX7_canHave 17 = .ok (.iaload, 1) := by decide +kernel
theorem dX7_canHave_18 : decode cX7_canHave 18 = .ok (.aload_n 0, 1) := by decide +kernel
theorem dX7_canHave_19 : decode cX7_canHave 19 = .ok (.getfield 32, 3) := by decide +kernel
theorem dX7_canHave_22 : decode cX7_canHave 22 = .ok (.getfield 47, 3) := by decide +kernel
theorem dX7_canHave_25 : decode cX7_canHave 25 = .ok (.iload_n 1, 1) := by decide +kernel
theorem dX7_canHave_26 : decode cX7_canHave 26 = .ok (.aaload, 1) := by decide +kernel
theorem dX7_canHave_27 : decode cX7_canHave 27 = .ok (.getfield 53, 3) := by decide +kernel
theorem dX7_canHave_30 : decode cX7_canHave 30 = .ok (.if_icmp .gt 7, 3) := by decide +kernel
theorem dX7_canHave_33 : decode cX7_canHave 33 = .ok (.iconst 1, 1) := by decide +kernel
theorem dX7_canHave_34 : decode cX7_canHave 34 = .ok (.goto 4, 3) := by decide +kernel
theorem dX7_canHave_37 : decode cX7_canHave 37 = .ok (.iconst 0, 1) := by decide +kernel
theorem dX7_canHave_38 : decode cX7_canHave 38 = .ok (.ireturn, 1) := by decide +kernel
theorem dX7_value_0 : decode cX7_value 0 = .ok (.aload_n 0, 1) := by decide +kernel
theorem dX7_value_1 : decode cX7_value 1 = .ok (.getfield 32, 3) := by decide +kernel
theorem dX7_value_4 : decode cX7_value 4 = .ok (.getfield 47, 3) := by decide +kernel
theorem dX7_value_7 : decode cX7_value 7 = .ok (.iload_n 1, 1) := by decide +kernel
theorem dX7_value_8 : decode cX7_value 8 = .ok (.aaload, 1) := by decide +kernel
theorem dX7_value_9 : decode cX7_value 9 = .ok (.astore_n 3, 1) := by decide +kernel
theorem dX7_value_10 : decode cX7_value 10 = .ok (.aload_n 0, 1) := by decide +kernel
theorem dX7_value_11 : decode cX7_value 11 = .ok (.getfield 18, 3) := by decide +kernel
theorem dX7_value_14 : decode cX7_value 14 = .ok (.iload_n 1, 1) := by decide +kernel
theorem dX7_value_15 : decode cX7_value 15 = .ok (.iaload, 1) := by decide +kernel
theorem dX7_value_16 : decode cX7_value 16 = .ok (.iload_n 2, 1) := by decide +kernel
theorem dX7_value_17 : decode cX7_value 17 = .ok (.if_icmp .ne 14, 3) := by decide +kernel
theorem dX7_value_20 : decode cX7_value 20 = .ok (.aload_n 0, 1) := by decide +kernel
theorem dX7_value_21 : decode cX7_value 21 = .ok (.getfield 15, 3) := by decide +kernel
theorem dX7_value_24 : decode cX7_value 24 = .ok (.iload_n 2, 1) := by decide +kernel
theorem dX7_value_25 : decode cX7_value 25 = .ok (.iaload, 1) := by decide +kernel
theorem dX7_value_26 : decode cX7_value 26 = .ok (.iconst 1, 1) := by decide +kernel
theorem dX7_value_27 : decode cX7_value 27 = .ok (.isub, 1) := by decide +kernel
theorem dX7_value_28 : decode cX7_value 28 = .ok (.goto 9, 3) := by decide +kernel
theorem dX7_value_31 : decode cX7_value 31 = .ok (.aload_n 0, 1) := by decide +kernel
theorem dX7_value_32 : decode cX7_value 32 = .ok (.getfield 15, 3) := by decide +kernel
theorem dX7_value_35 : decode cX7_value 35 = .ok (.iload_n 2, 1) := by decide +kernel
theorem dX7_value_36 : decode cX7_value 36 = .ok (.iaload, 1) := by decide +kernel
theorem dX7_value_37 : decode cX7_value 37 = .ok (.istore 4, 2) := by decide +kernel
theorem dX7_value_39 : decode cX7_value 39 = .ok (.iload_n 2, 1) := by decide +kernel
theorem dX7_value_40 : decode cX7_value 40 = .ok (.aload_n 0, 1) := by decide +kernel
theorem dX7_value_41 : decode cX7_value 41 = .ok (.getfield 24, 3) := by decide +kernel
theorem dX7_value_44 : decode cX7_value 44 = .ok (.if_icmp .ne 10, 3) := by decide +kernel
theorem dX7_value_47 : decode cX7_value 47 = .ok (.aload_n 0, 1) := by decide +kernel
theorem dX7_value_48 : decode cX7_value 48 = .ok (.getfield 41, 3) := by decide +kernel
theorem dX7_value_51 : decode cX7_value 51 = .ok (.goto 4, 3) := by decide +kernel
theorem dX7_value_54 : decode cX7_value 54 = .ok (.iconst 0, 1) := by decide +kernel
theorem dX7_value_55 : decode cX7_value 55 = .ok (.istore 5, 2) := by decide +kernel
theorem dX7_value_57 : decode cX7_value 57 = .ok (.aload_n 3, 1) := by decide +kernel
theorem dX7_value_58 : decode cX7_value 58 = .ok (.getfield 58, 3) := by decide +kernel
theorem dX7_value_61 : decode cX7_value 61 = .ok (.iload_n 2, 1) := by decide +kernel
theorem dX7_value_62 : decode cX7_value 62 = .ok (.iaload, 1) := by decide +kernel
theorem dX7_value_63 : decode cX7_value 63 = .ok (.aload_n 3, 1) := by decide +kernel
theorem dX7_value_64 : decode cX7_value 64 = .ok (.getfield 61, 3) := by decide +kernel
theorem dX7_value_67 : decode cX7_value 67 = .ok (.aload_n 0, 1) := by decide +kernel
theorem dX7_value_68 : decode cX7_value 68 = .ok (.getfield 64, 3) := by decide +kernel
theorem dX7_value_71 : decode cX7_value 71 = .ok (.imul, 1) := by decide +kernel
theorem dX7_value_72 : decode cX7_value 72 = .ok (.iload 4, 2) := by decide +kernel
theorem dX7_value_74 : decode cX7_value 74 = .ok (.imul, 1) := by decide +kernel
theorem dX7_value_75 : decode cX7_value 75 = .ok (.iadd, 1) := by decide +kernel
theorem dX7_value_76 : decode cX7_value 76 = .ok (.iload 5, 2) := by decide +kernel
theorem dX7_value_78 : decode cX7_value 78 = .ok (.iadd, 1) := by decide +kernel
theorem dX7_value_79 : decode cX7_value 79 = .ok (.ireturn, 1) := by decide +kernel
theorem dX7_choice_0 : decode cX7_choice 0 = .ok (.iconst (-1), 1) := by decide +kernel
theorem dX7_choice_1 : decode cX7_choice 1 = .ok (.istore_n 2, 1) := by decide +kernel
theorem dX7_choice_2 : decode cX7_choice 2 = .ok (.iconst 0, 1) := by decide +kernel
theorem dX7_choice_3 : decode cX7_choice 3 = .ok (.istore_n 3, 1) := by decide +kernel
theorem dX7_choice_4 : decode cX7_choice 4 = .ok (.iconst 0, 1) := by decide +kernel
theorem dX7_choice_5 : decode cX7_choice 5 = .ok (.istore 4, 2) := by decide +kernel
theorem dX7_choice_7 : decode cX7_choice 7 = .ok (.iload 4, 2) := by decide +kernel
theorem dX7_choice_9 : decode cX7_choice 9 = .ok (.aload_n 0, 1) := by decide +kernel
theorem dX7_choice_10 : decode cX7_choice 10 = .ok (.getfield 28, 3) := by decide +kernel
theorem dX7_choice_13 : decode cX7_choice 13 = .ok (.getfield 67, 3) := by decide +kernel
theorem dX7_choice_16 : decode cX7_choice 16 = .ok (.if_icmp .ge 45, 3) := by decide +kernel
theorem dX7_choice_19 : decode cX7_choice 19 = .ok (.aload_n 0, 1) := by decide +kernel
theorem dX7_choice_20 : decode cX7_choice 20 = .ok (.iload_n 1, 1) := by decide +kernel
theorem dX7_choice_21 : decode cX7_choice 21 = .ok (.iload 4, 2) := by decide +kernel
theorem dX7_choice_23 : decode cX7_choice 23 = .ok (.invokevirtual 70, 3) := by decide +kernel
theorem dX7_choice_26 : decode cX7_choice 26 = .ok (.ifCond .eq 29, 3) := by decide +kernel
theorem dX7_choice_29 : decode cX7_choice 29 = .ok (.aload_n 0, 1) := by decide +kernel
theorem dX7_choice_30 : decode cX7_choice 30 = .ok (.iload_n 1, 1) := by decide +kernel
theorem dX7_choice_31 : decode cX7_choice 31 = .ok (.iload 4, 2) := by decide +kernel
theorem dX7_choice_33 : decode cX7_choice 33 = .ok (.invokevirtual 74, 3) := by decide +kernel
theorem dX7_choice_36 : decode cX7_choice 36 = .ok (.istore 5, 2) := by decide +kernel
theorem dX7_choice_38 : decode cX7_choice 38 = .ok (.iload_n 2, 1) := by decide +kernel
theorem dX7_choice_39 : decode cX7_choice 39 = .ok (.iconst (-1), 1) := by decide +kernel
theorem dX7_choice_40 : decode cX7_choice 40 = .ok (.if_icmp .eq 9, 3) := by decide +kernel
theorem dX7_choice_43 : decode cX7_choice 43 = .ok (.iload 5, 2) := by decide +kernel
theorem dX7_choice_45 : decode cX7_choice 45 = .ok (.iload_n 3, 1) := by decide +kernel
theorem dX7_choice_46 : decode cX7_choice 46 = .ok (.if_icmp .le 9, 3) := by decide +kernel
theorem dX7_choice_49 : decode cX7_choice 49 = .ok (.iload 4, 2) := by decide +kernel
theorem dX7_choice_51 : decode cX7_choice 51 = .ok (.istore_n 2, 1) := by decide +kernel
theorem dX7_choice_52 : decode cX7_choice 52 = .ok (.iload 5, 2) := by decide +kernel
theorem dX7_choice_54 : decode cX7_choice 54 = .ok (.istore_n 3, 1) := by decide +kernel
theorem dX7_choice_55 : decode cX7_choice 55 = .ok (.iinc 4 1, 3) := by decide +kernel
theorem dX7_choice_58 : decode cX7_choice 58 = .ok (.goto (-51), 3) := by decide +kernel
theorem dX7_choice_61 : decode cX7_choice 61 = .ok (.iload_n 2, 1) := by decide +kernel
theorem dX7_choice_62 : decode cX7_choice 62 = .ok (.ireturn, 1) := by decide +kernel
theorem dX7_give_0 : decode cX7_give 0 = .ok (.aload_n 0, 1) := by decide +kernel
theorem dX7_give_1 : decode cX7_give 1 = .ok (.getfield 18, 3) := by decide +kernel
theorem dX7_give_4 : decode cX7_give 4 = .ok (.iload_n 1, 1) := by decide +kernel
theorem dX7_give_5 : decode cX7_give 5 = .ok (.iload_n 2, 1) := by decide +kernel
theorem dX7_give_6 : decode cX7_give 6 = .ok (.iastore, 1) := by decide +kernel
theorem dX7_give_7 : decode cX7_give 7 = .ok (.aload_n 0, 1) := by decide +kernel
theorem dX7_give_8 : decode cX7_give 8 = .ok (.getfield 21, 3) := by decide +kernel
theorem dX7_give_11 : decode cX7_give 11 = .ok (.iload_n 1, 1) := by decide +kernel
theorem dX7_give_12 : decode cX7_give 12 = .ok (.iconst 1, 1) := by decide +kernel
theorem dX7_give_13 : decode cX7_give 13 = .ok (.iastore, 1) := by decide +kernel
theorem dX7_give_14 : decode cX7_give 14 = .ok (.iload_n 2, 1) := by decide +kernel
theorem dX7_give_15 : decode cX7_give 15 = .ok (.iconst (-1), 1) := by decide +kernel
theorem dX7_give_16 : decode cX7_give 16 = .ok (.if_icmp .eq 23, 3) := by decide +kernel
theorem dX7_give_19 : decode cX7_give 19 = .ok (.aload_n 0, 1) := by decide +kernel
theorem dX7_give_20 : decode cX7_give 20 = .ok (.getfield 9, 3) := by decide +kernel
theorem dX7_give_23 : decode cX7_give 23 = .ok (.iload_n 2, 1) := by decide +kernel
theorem dX7_give_24 : decode cX7_give 24 = .ok (.dup2, 1) := by decide +kernel
theorem dX7_give_25 : decode cX7_give 25 = .ok (.iaload, 1) := by decide +kernel
theorem dX7_give_26 : decode cX7_give 26 = .ok (.iconst 1, 1) := by decide +kernel
theorem dX7_give_27 : decode cX7_give 27 = .ok (.isub, 1) := by decide +kernel
theorem dX7_give_28 : decode cX7_give 28 = .ok (.iastore, 1) := by decide +kernel
theorem dX7_give_29 : decode cX7_give 29 = .ok (.aload_n 0, 1) := by decide +kernel
theorem dX7_give_30 : decode cX7_give 30 = .ok (.getfield 15, 3) := by decide +kernel
theorem dX7_give_33 : decode cX7_give 33 = .ok (.iload_n 2, 1) := by decide +kernel
theorem dX7_give_34 : decode cX7_give 34 = .ok (.dup2, 1) := by decide +kernel
theorem dX7_give_35 : decode cX7_give 35 = .ok (.iaload, 1) := by decide +kernel
theorem dX7_give_36 : decode cX7_give 36 = .ok (.iconst 1, 1) := by decide +kernel
theorem dX7_give_37 : decode cX7_give 37 = .ok (.iadd, 1) := by decide +kernel
theorem dX7_give_38 : decode cX7_give 38 = .ok (.iastore, 1) := by decide +kernel
theorem dX7_give_39 : decode cX7_give 39 = .ok (.return_, 1) := by decide +kernel
theorem dX7_giveBack_0 : decode cX7_giveBack 0 = .ok (.aload_n 0, 1) := by decide +kernel
theorem dX7_giveBack_1 : decode cX7_giveBack 1 = .ok (.getfield 18, 3) := by decide +kernel
theorem dX7_giveBack_4 : decode cX7_giveBack 4 = .ok (.iload_n 1, 1) := by decide +kernel
theorem dX7_giveBack_5 : decode cX7_giveBack 5 = .ok (.iaload, 1) := by decide +kernel
theorem dX7_giveBack_6 : decode cX7_giveBack 6 = .ok (.istore_n 2, 1) := by decide +kernel
theorem dX7_giveBack_7 : decode cX7_giveBack 7 = .ok (.aload_n 0, 1) := by decide +kernel
theorem dX7_giveBack_8 : decode cX7_giveBack 8 = .ok (.getfield 18, 3) := by decide +kernel
theorem dX7_giveBack_11 : decode cX7_giveBack 11 = .ok (.iload_n 1, 1) := by decide +kernel
theorem dX7_giveBack_12 : decode cX7_giveBack 12 = .ok (.iconst (-1), 1) := by decide +kernel
theorem dX7_giveBack_13 : decode cX7_giveBack 13 = .ok (.iastore, 1) := by decide +kernel
theorem dX7_giveBack_14 : decode cX7_giveBack 14 = .ok (.aload_n 0, 1) := by decide +kernel
theorem dX7_giveBack_15 : decode cX7_giveBack 15 = .ok (.getfield 21, 3) := by decide +kernel
theorem dX7_giveBack_18 : decode cX7_giveBack 18 = .ok (.iload_n 1, 1) := by decide +kernel
theorem dX7_giveBack_19 : decode cX7_giveBack 19 = .ok (.iconst 0, 1) := by decide +kernel
theorem dX7_giveBack_20 : decode cX7_giveBack 20 = .ok (.iastore, 1) := by decide +kernel
theorem dX7_giveBack_21 : decode cX7_giveBack 21 = .ok (.iload_n 2, 1) := by decide +kernel
theorem dX7_giveBack_22 : decode cX7_giveBack 22 = .ok (.iconst (-1), 1) := by decide +kernel
theorem dX7_giveBack_23 : decode cX7_giveBack 23 = .ok (.if_icmp .eq 23, 3) := by decide +kernel
theorem dX7_giveBack_26 : decode cX7_giveBack 26 = .ok (.aload_n 0, 1) := by decide +kernel
theorem dX7_giveBack_27 : decode cX7_giveBack 27 = .ok (.getfield 9, 3) := by decide +kernel
theorem dX7_giveBack_30 : decode cX7_giveBack 30 = .ok (.iload_n 2, 1) := by decide +kernel
theorem dX7_giveBack_31 : decode cX7_giveBack 31 = .ok (.dup2, 1) := by decide +kernel
theorem dX7_giveBack_32 : decode cX7_giveBack 32 = .ok (.iaload, 1) := by decide +kernel
theorem dX7_giveBack_33 : decode cX7_giveBack 33 = .ok (.iconst 1, 1) := by decide +kernel
theorem dX7_giveBack_34 : decode cX7_giveBack 34 = .ok (.iadd, 1) := by decide +kernel
theorem dX7_giveBack_35 : decode cX7_giveBack 35 = .ok (.iastore, 1) := by decide +kernel
theorem dX7_giveBack_36 : decode cX7_giveBack 36 = .ok (.aload_n 0, 1) := by decide +kernel
theorem dX7_giveBack_37 : decode cX7_giveBack 37 = .ok (.getfield 15, 3) := by decide +kernel
theorem dX7_giveBack_40 : decode cX7_giveBack 40 = .ok (.iload_n 2, 1) := by decide +kernel
theorem dX7_giveBack_41 : decode cX7_giveBack 41 = .ok (.dup2, 1) := by decide +kernel
theorem dX7_giveBack_42 : decode cX7_giveBack 42 = .ok (.iaload, 1) := by decide +kernel
theorem dX7_giveBack_43 : decode cX7_giveBack 43 = .ok (.iconst 1, 1) := by decide +kernel
theorem dX7_giveBack_44 : decode cX7_giveBack 44 = .ok (.isub, 1) := by decide +kernel
theorem dX7_giveBack_45 : decode cX7_giveBack 45 = .ok (.iastore, 1) := by decide +kernel
theorem dX7_giveBack_46 : decode cX7_giveBack 46 = .ok (.return_, 1) := by decide +kernel
theorem dX7_changesMind_0 : decode cX7_changesMind 0 = .ok (.aload_n 0, 1) := by decide +kernel
theorem dX7_changesMind_1 : decode cX7_changesMind 1 = .ok (.getfield 18, 3) := by decide +kernel
theorem dX7_changesMind_4 : decode cX7_changesMind 4 = .ok (.iload_n 1, 1) := by decide +kernel
theorem dX7_changesMind_5 : decode cX7_changesMind 5 = .ok (.iaload, 1) := by decide +kernel
theorem dX7_changesMind_6 : decode cX7_changesMind 6 = .ok (.istore_n 2, 1) := by decide +kernel
theorem dX7_changesMind_7 : decode cX7_changesMind 7 = .ok (.aload_n 0, 1) := by decide +kernel
theorem dX7_changesMind_8 : decode cX7_changesMind 8 = .ok (.iload_n 1, 1) := by decide +kernel
theorem dX7_changesMind_9 : decode cX7_changesMind 9 = .ok (.invokevirtual 78, 3) := by decide +kernel
theorem dX7_changesMind_12 : decode cX7_changesMind 12 = .ok (.aload_n 0, 1) := by decide +kernel
theorem dX7_changesMind_13 : decode cX7_changesMind 13 = .ok (.iload_n 1, 1) := by decide +kernel
theorem dX7_changesMind_14 : decode cX7_changesMind 14 = .ok (.invokevirtual 82, 3) := by decide +kernel
theorem dX7_changesMind_17 : decode cX7_changesMind 17 = .ok (.istore_n 3, 1) := by decide +kernel
theorem dX7_changesMind_18 : decode cX7_changesMind 18 = .ok (.iload_n 2, 1) := by decide +kernel
theorem dX7_changesMind_19 : decode cX7_changesMind 19 = .ok (.iconst (-1), 1) := by decide +kernel
theorem dX7_changesMind_20 : decode cX7_changesMind 20 = .ok (.if_icmp .eq 25, 3) := by decide +kernel
theorem dX7_changesMind_23 : decode cX7_changesMind 23 = .ok (.iload_n 3, 1) := by decide +kernel
theorem dX7_changesMind_24 : decode cX7_changesMind 24 = .ok (.iconst (-1), 1) := by decide +kernel
theorem dX7_changesMind_25 : decode cX7_changesMind 25 = .ok (.if_icmp .eq 20, 3) := by decide +kernel
theorem dX7_changesMind_28 : decode cX7_changesMind 28 = .ok (.aload_n 0, 1) := by decide +kernel
theorem dX7_changesMind_29 : decode cX7_changesMind 29 = .ok (.iload_n 1, 1) := by decide +kernel
theorem dX7_changesMind_30 : decode cX7_changesMind 30 = .ok (.iload_n 2, 1) := by decide +kernel
theorem dX7_changesMind_31 : decode cX7_changesMind 31 = .ok (.invokevirtual 74, 3) := by decide +kernel
theorem dX7_changesMind_34 : decode cX7_changesMind 34 = .ok (.aload_n 0, 1) := by decide +kernel
theorem dX7_changesMind_35 : decode cX7_changesMind 35 = .ok (.iload_n 1, 1) := by decide +kernel
theorem dX7_changesMind_36 : decode cX7_changesMind 36 = .ok (.iload_n 3, 1) := by decide +kernel
theorem dX7_changesMind_37 : decode cX7_changesMind 37 = .ok (.invokevirtual 74, 3) := by decide +kernel
theorem dX7_changesMind_40 : decode cX7_changesMind 40 = .ok (.if_icmp .lt 5, 3) := by decide +kernel
theorem dX7_changesMind_43 : decode cX7_changesMind 43 = .ok (.iload_n 2, 1) := by decide +kernel
theorem dX7_changesMind_44 : decode cX7_changesMind 44 = .ok (.istore_n 3, 1) := by decide +kernel
theorem dX7_changesMind_45 : decode cX7_changesMind 45 = .ok (.aload_n 0, 1) := by decide +kernel
theorem dX7_changesMind_46 : decode cX7_changesMind 46 = .ok (.iload_n 1, 1) := by decide +kernel
theorem dX7_changesMind_47 : decode cX7_changesMind 47 = .ok (.iload_n 3, 1) := by decide +kernel
theorem dX7_changesMind_48 : decode cX7_changesMind 48 = .ok (.invokevirtual 86, 3) := by decide +kernel
theorem dX7_changesMind_51 : decode cX7_changesMind 51 = .ok (.iload_n 3, 1) := by decide +kernel
theorem dX7_changesMind_52 : decode cX7_changesMind 52 = .ok (.iload_n 2, 1) := by decide +kernel
theorem dX7_changesMind_53 : decode cX7_changesMind 53 = .ok (.if_icmp .eq 7, 3) := by decide +kernel
theorem dX7_changesMind_56 : decode cX7_changesMind 56 = .ok (.iconst 1, 1) := by decide +kernel
theorem dX7_changesMind_57 : decode cX7_changesMind 57 = .ok (.goto 4, 3) := by decide +kernel
theorem dX7_changesMind_60 : decode cX7_changesMind 60 = .ok (.iconst 0, 1) := by decide +kernel
theorem dX7_changesMind_61 : decode cX7_changesMind 61 = .ok (.ireturn, 1) := by decide +kernel
theorem dX7_allContent_0 : decode cX7_allContent 0 = .ok (.iconst 0, 1) := by decide +kernel
theorem dX7_allContent_1 : decode cX7_allContent 1 = .ok (.istore_n 1, 1) := by decide +kernel
theorem dX7_allContent_2 : decode cX7_allContent 2 = .ok (.iload_n 1, 1) := by decide +kernel
theorem dX7_allContent_3 : decode cX7_allContent 3 = .ok (.aload_n 0, 1) := by decide +kernel
theorem dX7_allContent_4 : decode cX7_allContent 4 = .ok (.getfield 32, 3) := by decide +kernel
theorem dX7_allContent_7 : decode cX7_allContent 7 = .ok (.getfield 90, 3) := by decide +kernel
theorem dX7_allContent_10 : decode cX7_allContent 10 = .ok (.if_icmp .ge 71, 3) := by decide +kernel
theorem dX7_allContent_13 : decode cX7_allContent 13 = .ok (.aload_n 0, 1) := by decide +kernel
theorem dX7_allContent_14 : decode cX7_allContent 14 = .ok (.iload_n 1, 1) := by decide +kernel
theorem dX7_allContent_15 : decode cX7_allContent 15 = .ok (.aload_n 0, 1) := by decide +kernel
theorem dX7_allContent_16 : decode cX7_allContent 16 = .ok (.getfield 18, 3) := by decide +kernel
theorem dX7_allContent_19 : decode cX7_allContent 19 = .ok (.iload_n 1, 1) := by decide +kernel
theorem dX7_allContent_20 : decode cX7_allContent 20 = .ok (.iaload, 1) := by decide +kernel
theorem dX7_allContent_21 : decode cX7_allContent 21 = .ok (.invokevirtual 74, 3) := by decide +kernel
theorem dX7_allContent_24 : decode cX7_allContent 24 = .ok (.istore_n 2, 1) := by decide +kernel
theorem dX7_allContent_25 : decode cX7_allContent 25 = .ok (.iconst 0, 1) := by decide +kernel
theorem dX7_allContent_26 : decode cX7_allContent 26 = .ok (.istore_n 3, 1) := by decide +kernel
theorem dX7_allContent_27 : decode cX7_allContent 27 = .ok (.iload_n 3, 1) := by decide +kernel
theorem dX7_allContent_28 : decode cX7_allContent 28 = .ok (.aload_n 0, 1) := by decide +kernel
theorem dX7_allContent_29 : decode cX7_allContent 29 = .ok (.getfield 28, 3) := by decide +kernel
theorem dX7_allContent_32 : decode cX7_allContent 32 = .ok (.getfield 67, 3) := by decide +kernel
theorem dX7_allContent_35 : decode cX7_allContent 35 = .ok (.if_icmp .ge 40, 3) := by decide +kernel
theorem dX7_allContent_38 : decode cX7_allContent 38 = .ok (.iload_n 3, 1) := by decide +kernel
theorem dX7_allContent_39 : decode cX7_allContent 39 = .ok (.aload_n 0, 1) := by decide +kernel
theorem dX7_allContent_40 : decode cX7_allContent 40 = .ok (.getfield 18, 3) := by decide +kernel
theorem dX7_allContent_43 : decode cX7_allContent 43 = .ok (.iload_n 1, 1) := by decide +kernel
theorem dX7_allContent_44 : decode cX7_allContent 44 = .ok (.iaload, 1) := by decide +kernel
theorem dX7_allContent_45 : decode cX7_allContent 45 = .ok (.if_icmp .eq 24, 3) := by decide +kernel
theorem dX7_allContent_48 : decode cX7_allContent 48 = .ok (.aload_n 0, 1) := by decide +kernel
theorem dX7_allContent_49 : decode cX7_allContent 49 = .ok (.iload_n 1, 1) := by decide +kernel
theorem dX7_allContent_50 : decode cX7_allContent 50 = .ok (.iload_n 3, 1) := by decide +kernel
theorem dX7_allContent_51 : decode cX7_allContent 51 = .ok (.invokevirtual 70, 3) := by decide +kernel
theorem dX7_allContent_54 : decode cX7_allContent 54 = .ok (.ifCond .eq 15, 3) := by decide +kernel
theorem dX7_allContent_57 : decode cX7_allContent 57 = .ok (.aload_n 0, 1) := by decide +kernel
theorem dX7_allContent_58 : decode cX7_allContent 58 = .ok (.iload_n 1, 1) := by decide +kernel
theorem dX7_allContent_59 : decode cX7_allContent 59 = .ok (.iload_n 3, 1) := by decide +kernel
theorem dX7_allContent_60 : decode cX7_allContent 60 = .ok (.invokevirtual 74, 3) := by decide +kernel
theorem dX7_allContent_63 : decode cX7_allContent 63 = .ok (.iload_n 2, 1) := by decide +kernel
theorem dX7_allContent_64 : decode cX7_allContent 64 = .ok (.if_icmp .le 5, 3) := by decide +kernel
theorem dX7_allContent_67 : decode cX7_allContent 67 = .ok (.iconst 0, 1) := by decide +kernel
theorem dX7_allContent_68 : decode cX7_allContent 68 = .ok (.ireturn, 1) := by decide +kernel
theorem dX7_allContent_69 : decode cX7_allContent 69 = .ok (.iinc 3 1, 3) := by decide +kernel
theorem dX7_allContent_72 : decode cX7_allContent 72 = .ok (.goto (-45), 3) := by decide +kernel
theorem dX7_allContent_75 : decode cX7_allContent 75 = .ok (.iinc 1 1, 3) := by decide +kernel
theorem dX7_allContent_78 : decode cX7_allContent 78 = .ok (.goto (-76), 3) := by decide +kernel
theorem dX7_allContent_81 : decode cX7_allContent 81 = .ok (.iconst 1, 1) := by decide +kernel
theorem dX7_allContent_82 : decode cX7_allContent 82 = .ok (.ireturn, 1) := by decide +kernel
theorem dX7_joyOf_0 : decode cX7_joyOf 0 = .ok (.aload_n 0, 1) := by decide +kernel
theorem dX7_joyOf_1 : decode cX7_joyOf 1 = .ok (.getfield 18, 3) := by decide +kernel
theorem dX7_joyOf_4 : decode cX7_joyOf 4 = .ok (.iload_n 1, 1) := by decide +kernel
theorem dX7_joyOf_5 : decode cX7_joyOf 5 = .ok (.iaload, 1) := by decide +kernel
theorem dX7_joyOf_6 : decode cX7_joyOf 6 = .ok (.iconst (-1), 1) := by decide +kernel
theorem dX7_joyOf_7 : decode cX7_joyOf 7 = .ok (.if_icmp .ne 7, 3) := by decide +kernel
theorem dX7_joyOf_10 : decode cX7_joyOf 10 = .ok (.iconst 0, 1) := by decide +kernel
theorem dX7_joyOf_11 : decode cX7_joyOf 11 = .ok (.goto 22, 3) := by decide +kernel
theorem dX7_joyOf_14 : decode cX7_joyOf 14 = .ok (.aload_n 0, 1) := by decide +kernel
theorem dX7_joyOf_15 : decode cX7_joyOf 15 = .ok (.getfield 32, 3) := by decide +kernel
theorem dX7_joyOf_18 : decode cX7_joyOf 18 = .ok (.getfield 47, 3) := by decide +kernel
theorem dX7_joyOf_21 : decode cX7_joyOf 21 = .ok (.iload_n 1, 1) := by decide +kernel
theorem dX7_joyOf_22 : decode cX7_joyOf 22 = .ok (.aaload, 1) := by decide +kernel
theorem dX7_joyOf_23 : decode cX7_joyOf 23 = .ok (.getfield 58, 3) := by decide +kernel
theorem dX7_joyOf_26 : decode cX7_joyOf 26 = .ok (.aload_n 0, 1) := by decide +kernel
theorem dX7_joyOf_27 : decode cX7_joyOf 27 = .ok (.getfield 18, 3) := by decide +kernel
theorem dX7_joyOf_30 : decode cX7_joyOf 30 = .ok (.iload_n 1, 1) := by decide +kernel
theorem dX7_joyOf_31 : decode cX7_joyOf 31 = .ok (.iaload, 1) := by decide +kernel
theorem dX7_joyOf_32 : decode cX7_joyOf 32 = .ok (.iaload, 1) := by decide +kernel
theorem dX7_joyOf_33 : decode cX7_joyOf 33 = .ok (.ireturn, 1) := by decide +kernel
theorem dX7_joyOfAll_0 : decode cX7_joyOfAll 0 = .ok (.iconst 0, 1) := by decide +kernel
theorem dX7_joyOfAll_1 : decode cX7_joyOfAll 1 = .ok (.istore_n 1, 1) := by decide +kernel
theorem dX7_joyOfAll_2 : decode cX7_joyOfAll 2 = .ok (.iconst 0, 1) := by decide +kernel
theorem dX7_joyOfAll_3 : decode cX7_joyOfAll 3 = .ok (.istore_n 2, 1) := by decide +kernel
theorem dX7_joyOfAll_4 : decode cX7_joyOfAll 4 = .ok (.iload_n 2, 1) := by decide +kernel
theorem dX7_joyOfAll_5 : decode cX7_joyOfAll 5 = .ok (.aload_n 0, 1) := by decide +kernel
theorem dX7_joyOfAll_6 : decode cX7_joyOfAll 6 = .ok (.getfield 32, 3) := by decide +kernel
theorem dX7_joyOfAll_9 : decode cX7_joyOfAll 9 = .ok (.getfield 90, 3) := by decide +kernel
theorem dX7_joyOfAll_12 : decode cX7_joyOfAll 12 = .ok (.if_icmp .ge 17, 3) := by decide +kernel
theorem dX7_joyOfAll_15 : decode cX7_joyOfAll 15 = .ok (.iload_n 1, 1) := by decide +kernel
theorem dX7_joyOfAll_16 : decode cX7_joyOfAll 16 = .ok (.aload_n 0, 1) := by decide +kernel
theorem dX7_joyOfAll_17 : decode cX7_joyOfAll 17 = .ok (.iload_n 2, 1) := by decide +kernel
theorem dX7_joyOfAll_18 : decode cX7_joyOfAll 18 = .ok (.invokevirtual 93, 3) := by decide +kernel
theorem dX7_joyOfAll_21 : decode cX7_joyOfAll 21 = .ok (.iadd, 1) := by decide +kernel
theorem dX7_joyOfAll_22 : decode cX7_joyOfAll 22 = .ok (.istore_n 1, 1) := by decide +kernel
theorem dX7_joyOfAll_23 : decode cX7_joyOfAll 23 = .ok (.iinc 2 1, 3) := by decide +kernel
theorem dX7_joyOfAll_26 : decode cX7_joyOfAll 26 = .ok (.goto (-22), 3) := by decide +kernel
theorem dX7_joyOfAll_29 : decode cX7_joyOfAll 29 = .ok (.iload_n 1, 1) := by decide +kernel
theorem dX7_joyOfAll_30 : decode cX7_joyOfAll 30 = .ok (.ireturn, 1) := by decide +kernel
theorem dX7_howManyOrdered_0 : decode cX7_howManyOrdered 0 = .ok (.iconst 0, 1) := by decide +kernel
theorem dX7_howManyOrdered_1 : decode cX7_howManyOrdered 1 = .ok (.istore_n 1, 1) := by decide +kernel
theorem dX7_howManyOrdered_2 : decode cX7_howManyOrdered 2 = .ok (.iconst 0, 1) := by decide +kernel
theorem dX7_howManyOrdered_3 : decode cX7_howManyOrdered 3 = .ok (.istore_n 2, 1) := by decide +kernel
theorem dX7_howManyOrdered_4 : decode cX7_howManyOrdered 4 = .ok (.iload_n 2, 1) := by decide +kernel
theorem dX7_howManyOrdered_5 : decode cX7_howManyOrdered 5 = .ok (.aload_n 0, 1) := by decide +kernel
theorem dX7_howManyOrdered_6 : decode cX7_howManyOrdered 6 = .ok (.getfield 32, 3) := by decide +kernel
theorem dX7_howManyOrdered_9 : decode cX7_howManyOrdered 9 = .ok (.getfield 90, 3) := by decide +kernel
theorem dX7_howManyOrdered_12 : decode cX7_howManyOrdered 12 = .ok (.if_icmp .ge 18, 3) := by decide +kernel
theorem dX7_howManyOrdered_15 : decode cX7_howManyOrdered 15 = .ok (.iload_n 1, 1) := by decide +kernel
theorem dX7_howManyOrdered_16 : decode cX7_howManyOrdered 16 = .ok (.aload_n 0, 1) := by decide +kernel
theorem dX7_howManyOrdered_17 : decode cX7_howManyOrdered 17 = .ok (.getfield 21, 3) := by decide +kernel
theorem dX7_howManyOrdered_20 : decode cX7_howManyOrdered 20 = .ok (.iload_n 2, 1) := by decide +kernel
theorem dX7_howManyOrdered_21 : decode cX7_howManyOrdered 21 = .ok (.iaload, 1) := by decide +kernel
theorem dX7_howManyOrdered_22 : decode cX7_howManyOrdered 22 = .ok (.iadd, 1) := by decide +kernel
theorem dX7_howManyOrdered_23 : decode cX7_howManyOrdered 23 = .ok (.istore_n 1, 1) := by decide +kernel
theorem dX7_howManyOrdered_24 : decode cX7_howManyOrdered 24 = .ok (.iinc 2 1, 3) := by decide +kernel
theorem dX7_howManyOrdered_27 : decode cX7_howManyOrdered 27 = .ok (.goto (-23), 3) := by decide +kernel
theorem dX7_howManyOrdered_30 : decode cX7_howManyOrdered 30 = .ok (.iload_n 1, 1) := by decide +kernel
theorem dX7_howManyOrdered_31 : decode cX7_howManyOrdered 31 = .ok (.ireturn, 1) := by decide +kernel
theorem dX7_copyFrom_0 : decode cX7_copyFrom 0 = .ok (.aload_n 1, 1) := by decide +kernel
theorem dX7_copyFrom_1 : decode cX7_copyFrom 1 = .ok (.getfield 9, 3) := by decide +kernel
theorem dX7_copyFrom_4 : decode cX7_copyFrom 4 = .ok (.iconst 0, 1) := by decide +kernel
theorem dX7_copyFrom_5 : decode cX7_copyFrom 5 = .ok (.aload_n 0, 1) := by decide +kernel
theorem dX7_copyFrom_6 : decode cX7_copyFrom 6 = .ok (.getfield 9, 3) := by decide +kernel
theorem dX7_copyFrom_9 : decode cX7_copyFrom 9 = .ok (.iconst 0, 1) := by decide +kernel
theorem dX7_copyFrom_10 : decode cX7_copyFrom 10 = .ok (.bipush 6, 2) := by decide +kernel
theorem dX7_copyFrom_12 : decode cX7_copyFrom 12 = .ok (.invokestatic 96, 3) := by decide +kernel
theorem dX7_copyFrom_15 : decode cX7_copyFrom 15 = .ok (.aload_n 1, 1) := by decide +kernel
theorem dX7_copyFrom_16 : decode cX7_copyFrom 16 = .ok (.getfield 15, 3) := by decide +kernel
theorem dX7_copyFrom_19 : decode cX7_copyFrom 19 = .ok (.iconst 0, 1) := by decide +kernel
theorem dX7_copyFrom_20 : decode cX7_copyFrom 20 = .ok (.aload_n 0, 1) := by decide +kernel
theorem dX7_copyFrom_21 : decode cX7_copyFrom 21 = .ok (.getfield 15, 3) := by decide +kernel
theorem dX7_copyFrom_24 : decode cX7_copyFrom 24 = .ok (.iconst 0, 1) := by decide +kernel
theorem dX7_copyFrom_25 : decode cX7_copyFrom 25 = .ok (.bipush 6, 2) := by decide +kernel
theorem dX7_copyFrom_27 : decode cX7_copyFrom 27 = .ok (.invokestatic 96, 3) := by decide +kernel
theorem dX7_copyFrom_30 : decode cX7_copyFrom 30 = .ok (.aload_n 1, 1) := by decide +kernel
theorem dX7_copyFrom_31 : decode cX7_copyFrom 31 = .ok (.getfield 18, 3) := by decide +kernel
theorem dX7_copyFrom_34 : decode cX7_copyFrom 34 = .ok (.iconst 0, 1) := by decide +kernel
theorem dX7_copyFrom_35 : decode cX7_copyFrom 35 = .ok (.aload_n 0, 1) := by decide +kernel
theorem dX7_copyFrom_36 : decode cX7_copyFrom 36 = .ok (.getfield 18, 3) := by decide +kernel
theorem dX7_copyFrom_39 : decode cX7_copyFrom 39 = .ok (.iconst 0, 1) := by decide +kernel
theorem dX7_copyFrom_40 : decode cX7_copyFrom 40 = .ok (.iconst 5, 1) := by decide +kernel
theorem dX7_copyFrom_41 : decode cX7_copyFrom 41 = .ok (.invokestatic 96, 3) := by decide +kernel
theorem dX7_copyFrom_44 : decode cX7_copyFrom 44 = .ok (.aload_n 1, 1) := by decide +kernel
theorem dX7_copyFrom_45 : decode cX7_copyFrom 45 = .ok (.getfield 21, 3) := by decide +kernel
theorem dX7_copyFrom_48 : decode cX7_copyFrom 48 = .ok (.iconst 0, 1) := by decide +kernel
theorem dX7_copyFrom_49 : decode cX7_copyFrom 49 = .ok (.aload_n 0, 1) := by decide +kernel
theorem dX7_copyFrom_50 : decode cX7_copyFrom 50 = .ok (.getfield 21, 3) := by decide +kernel
theorem dX7_copyFrom_53 : decode cX7_copyFrom 53 = .ok (.iconst 0, 1) := by decide +kernel
theorem dX7_copyFrom_54 : decode cX7_copyFrom 54 = .ok (.iconst 5, 1) := by decide +kernel
theorem dX7_copyFrom_55 : decode cX7_copyFrom 55 = .ok (.invokestatic 96, 3) := by decide +kernel
theorem dX7_copyFrom_58 : decode cX7_copyFrom 58 = .ok (.aload_n 0, 1) := by decide +kernel
theorem dX7_copyFrom_59 : decode cX7_copyFrom 59 = .ok (.aload_n 1, 1) := by decide +kernel
theorem dX7_copyFrom_60 : decode cX7_copyFrom 60 = .ok (.getfield 24, 3) := by decide +kernel
theorem dX7_copyFrom_63 : decode cX7_copyFrom 63 = .ok (.putfield 24, 3) := by decide +kernel
theorem dX7_copyFrom_66 : decode cX7_copyFrom 66 = .ok (.aload_n 0, 1) := by decide +kernel
theorem dX7_copyFrom_67 : decode cX7_copyFrom 67 = .ok (.aload_n 1, 1) := by decide +kernel
theorem dX7_copyFrom_68 : decode cX7_copyFrom 68 = .ok (.getfield 41, 3) := by decide +kernel
theorem dX7_copyFrom_71 : decode cX7_copyFrom 71 = .ok (.putfield 41, 3) := by decide +kernel
theorem dX7_copyFrom_74 : decode cX7_copyFrom 74 = .ok (.aload_n 0, 1) := by decide +kernel
theorem dX7_copyFrom_75 : decode cX7_copyFrom 75 = .ok (.aload_n 1, 1) := by decide +kernel
theorem dX7_copyFrom_76 : decode cX7_copyFrom 76 = .ok (.getfield 64, 3) := by decide +kernel
theorem dX7_copyFrom_79 : decode cX7_copyFrom 79 = .ok (.putfield 64, 3) := by decide +kernel
theorem dX7_copyFrom_82 : decode cX7_copyFrom 82 = .ok (.return_, 1) := by decide +kernel
end
section
theorem dX8_init_0 : decode cX8_init 0 = .ok (.aload_n 0, 1) := by decide +kernel
theorem dX8_init_1 : decode cX8_init 1 = .ok (.invokespecial 1, 3) := by decide +kernel
theorem dX8_init_4 : decode cX8_init 4 = .ok (.aload_n 0, 1) := by decide +kernel
theorem dX8_init_5 : decode cX8_init 5 = .ok (.new 7, 3) := by decide +kernel
theorem dX8_init_8 : decode cX8_init 8 = .ok (.dup, 1) := by decide +kernel
theorem dX8_init_9 : decode cX8_init 9 = .ok (.invokespecial 9, 3) := by decide +kernel
theorem dX8_init_12 : decode cX8_init 12 = .ok (.putfield 10, 3) := by decide +kernel
theorem dX8_init_15 : decode cX8_init 15 = .ok (.aload_n 0, 1) := by decide +kernel
theorem dX8_init_16 : decode cX8_init 16 = .ok (.new 16, 3) := by decide +kernel
theorem dX8_init_19 : decode cX8_init 19 = .ok (.dup, 1) := by decide +kernel
theorem dX8_init_20 : decode cX8_init 20 = .ok (.invokespecial 18, 3) := by decide +kernel
theorem dX8_init_23 : decode cX8_init 23 = .ok (.putfield 19, 3) := by decide +kernel
theorem dX8_init_26 : decode cX8_init 26 = .ok (.aload_n 0, 1) := by decide +kernel
theorem dX8_init_27 : decode cX8_init 27 = .ok (.new 23, 3) := by decide +kernel
theorem dX8_init_30 : decode cX8_init 30 = .ok (.dup, 1) := by decide +kernel
theorem dX8_init_31 : decode cX8_init 31 = .ok (.invokespecial 25, 3) := by decide +kernel
theorem dX8_init_34 : decode cX8_init 34 = .ok (.putfield 26, 3) := by decide +kernel
theorem dX8_init_37 : decode cX8_init 37 = .ok (.aload_n 0, 1) := by decide +kernel
theorem dX8_init_38 : decode cX8_init 38 = .ok (.new 30, 3) := by decide +kernel
theorem dX8_init_41 : decode cX8_init 41 = .ok (.dup, 1) := by decide +kernel
theorem dX8_init_42 : decode cX8_init 42 = .ok (.aload_n 0, 1) := by decide +kernel
theorem dX8_init_43 : decode cX8_init 43 = .ok (.getfield 19, 3) := by decide +kernel
theorem dX8_init_46 : decode cX8_init 46 = .ok (.aload_n 0, 1) := by decide +kernel
theorem dX8_init_47 : decode cX8_init 47 = .ok (.getfield 26, 3) := by decide +kernel
theorem dX8_init_50 : decode cX8_init 50 = .ok (.invokespecial 32, 3) := by decide +kernel
theorem dX8_init_53 : decode cX8_init 53 = .ok (.putfield 35, 3) := by decide +kernel
theorem dX8_init_56 : decode cX8_init 56 = .ok (.aload_n 0, 1) := by decide +kernel
theorem dX8_init_57 : decode cX8_init 57 = .ok (.new 39, 3) := by decide +kernel
theorem dX8_init_60 : decode cX8_init 60 = .ok (.dup, 1) := by decide +kernel
theorem dX8_init_61 : decode cX8_init 61 = .ok (.invokespecial 41, 3) := by decide +kernel
theorem dX8_init_64 : decode cX8_init 64 = .ok (.putfield 42, 3) := by decide +kernel
theorem dX8_init_67 : decode cX8_init 67 = .ok (.aload_n 0, 1) := by decide +kernel
theorem dX8_init_68 : decode cX8_init 68 = .ok (.new 46, 3) := by decide +kernel
theorem dX8_init_71 : decode cX8_init 71 = .ok (.dup, 1) := by decide +kernel
theorem dX8_init_72 : decode cX8_init 72 = .ok (.aload_n 0, 1) := by decide +kernel
theorem dX8_init_73 : decode cX8_init 73 = .ok (.getfield 19, 3) := by decide +kernel
theorem dX8_init_76 : decode cX8_init 76 = .ok (.aload_n 0, 1) := by decide +kernel
theorem dX8_init_77 : decode cX8_init 77 = .ok (.getfield 26, 3) := by decide +kernel
theorem dX8_init_80 : decode cX8_init 80 = .ok (.aload_n 0, 1) := by decide +kernel
theorem dX8_init_81 : decode cX8_init 81 = .ok (.getfield 35, 3) := by decide +kernel
theorem dX8_init_84 : decode cX8_init 84 = .ok (.invokespecial 48, 3) := by decide +kernel
theorem dX8_init_87 : decode cX8_init 87 = .ok (.putfield 51, 3) := by decide +kernel
theorem dX8_init_90 : decode cX8_init 90 = .ok (.aload_n 0, 1) := by decide +kernel
theorem dX8_init_91 : decode cX8_init 91 = .ok (.new 55, 3) := by decide +kernel
theorem dX8_init_94 : decode cX8_init 94 = .ok (.dup, 1) := by decide +kernel
theorem dX8_init_95 : decode cX8_init 95 = .ok (.aload_n 0, 1) := by decide +kernel
theorem dX8_init_96 : decode cX8_init 96 = .ok (.getfield 19, 3) := by decide +kernel
theorem dX8_init_99 : decode cX8_init 99 = .ok (.aload_n 0, 1) := by decide +kernel
theorem dX8_init_100 : decode cX8_init 100 = .ok (.getfield 26, 3) := by decide +kernel
theorem dX8_init_103 : decode cX8_init 103 = .ok (.invokespecial 57, 3) := by decide +kernel
theorem dX8_init_106 : decode cX8_init 106 = .ok (.putfield 58, 3) := by decide +kernel
theorem dX8_init_109 : decode cX8_init 109 = .ok (.return_, 1) := by decide +kernel
theorem dX8_letter_0 : decode cX8_letter 0 = .ok (.iload_n 1, 1) := by decide +kernel
theorem dX8_letter_1 : decode cX8_letter 1 = .ok (.iconst 1, 1) := by decide +kernel
theorem dX8_letter_2 : decode cX8_letter 2 = .ok (.bipush 126, 2) := by decide +kernel
theorem dX8_letter_4 : decode cX8_letter 4 = .ok (.invokestatic 62, 3) := by decide +kernel
theorem dX8_letter_7 : decode cX8_letter 7 = .ok (.ifCond .eq 6, 3) := by decide +kernel
theorem dX8_letter_10 : decode cX8_letter 10 = .ok (.bipush (-102), 2) := by decide +kernel
theorem dX8_letter_12 : decode cX8_letter 12 = .ok (.ireturn, 1) := by decide +kernel
theorem dX8_letter_13 : decode cX8_letter 13 = .ok (.aload_n 0, 1) := by decide +kernel
theorem dX8_letter_14 : decode cX8_letter 14 = .ok (.getfield 10, 3) := by decide +kernel
theorem dX8_letter_17 : decode cX8_letter 17 = .ok (.getfield 66, 3) := by decide +kernel
theorem dX8_letter_20 : decode cX8_letter 20 = .ok (.bipush 22, 2) := by decide +kernel
theorem dX8_letter_22 : decode cX8_letter 22 = .ok (.if_icmp .lt 6, 3) := by decide +kernel
theorem dX8_letter_25 : decode cX8_letter 25 = .ok (.bipush (-104), 2) := by decide +kernel
theorem dX8_letter_27 : decode cX8_letter 27 = .ok (.ireturn, 1) := by decide +kernel
theorem dX8_letter_28 : decode cX8_letter 28 = .ok (.aload_n 0, 1) := by decide +kernel
theorem dX8_letter_29 : decode cX8_letter 29 = .ok (.getfield 10, 3) := by decide +kernel
theorem dX8_letter_32 : decode cX8_letter 32 = .ok (.getfield 70, 3) := by decide +kernel
theorem dX8_letter_35 : decode cX8_letter 35 = .ok (.aload_n 0, 1) := by decide +kernel
theorem dX8_letter_36 : decode cX8_letter 36 = .ok (.getfield 10, 3) := by decide +kernel
theorem dX8_letter_39 : decode cX8_letter 39 = .ok (.getfield 66, 3) := by decide +kernel
theorem dX8_letter_42 : decode cX8_letter 42 = .ok (.iload_n 1, 1) := by decide +kernel
theorem dX8_letter_43 : decode cX8_letter 43 = .ok (.iastore, 1) := by decide +kernel
theorem dX8_letter_44 : decode cX8_letter 44 = .ok (.aload_n 0, 1) := by decide +kernel
theorem dX8_letter_45 : decode cX8_letter 45 = .ok (.getfield 10, 3) := by decide +kernel
theorem dX8_letter_48 : decode cX8_letter 48 = .ok (.dup, 1) := by decide +kernel
theorem dX8_letter_49 : decode cX8_letter 49 = .ok (.getfield 66, 3) := by decide +kernel
theorem dX8_letter_52 : decode cX8_letter 52 = .ok (.iconst 1, 1) := by decide +kernel
theorem dX8_letter_53 : decode cX8_letter 53 = .ok (.iadd, 1) := by decide +kernel
theorem dX8_letter_54 : decode cX8_letter 54 = .ok (.putfield 66, 3) := by decide +kernel
theorem dX8_letter_57 : decode cX8_letter 57 = .ok (.aload_n 0, 1) := by decide +kernel
theorem dX8_letter_58 : decode cX8_letter 58 = .ok (.getfield 10, 3) := by decide +kernel
theorem dX8_letter_61 : decode cX8_letter 61 = .ok (.getfield 66, 3) := by decide +kernel
theorem dX8_letter_64 : decode cX8_letter 64 = .ok (.ireturn, 1) := by decide +kernel
theorem dX8_blank_0 : decode cX8_blank 0 = .ok (.aload_n 0, 1) := by decide +kernel
theorem dX8_blank_1 : decode cX8_blank 1 = .ok (.getfield 10, 3) := by decide +kernel
theorem dX8_blank_4 : decode cX8_blank 4 = .ok (.getfield 66, 3) := by decide +kernel
theorem dX8_blank_7 : decode cX8_blank 7 = .ok (.istore_n 1, 1) := by decide +kernel
theorem dX8_blank_8 : decode cX8_blank 8 = .ok (.aload_n 0, 1) := by decide +kernel
theorem dX8_blank_9 : decode cX8_blank 9 = .ok (.getfield 10, 3) := by decide +kernel
theorem dX8_blank_12 : decode cX8_blank 12 = .ok (.iconst 0, 1) := by decide +kernel
theorem dX8_blank_13 : decode cX8_blank 13 = .ok (.putfield 66, 3) := by decide +kernel
theorem dX8_blank_16 : decode cX8_blank 16 = .ok (.iload_n 1, 1) := by decide +kernel
theorem dX8_blank_17 : decode cX8_blank 17 = .ok (.ireturn, 1) := by decide +kernel
theorem dX8_fault_0 : decode cX8_fault 0 = .ok (.aload_n 0, 1) := by decide +kernel
theorem dX8_fault_1 : decode cX8_fault 1 = .ok (.getfield 10, 3) := by decide +kernel
theorem dX8_fault_4 : decode cX8_fault 4 = .ok (.invokevirtual 74, 3) := by decide +kernel
theorem dX8_fault_7 : decode cX8_fault 7 = .ok (.ireturn, 1) := by decide +kernel
theorem dX8_card_0 : decode cX8_card 0 = .ok (.aload_n 0, 1) := by decide +kernel
theorem dX8_card_1 : decode cX8_card 1 = .ok (.getfield 10, 3) := by decide +kernel
theorem dX8_card_4 : decode cX8_card 4 = .ok (.invokevirtual 78, 3) := by decide +kernel
theorem dX8_card_7 : decode cX8_card 7 = .ok (.ifCond .ne 6, 3) := by decide +kernel
theorem dX8_card_10 : decode cX8_card 10 = .ok (.bipush (-103), 2) := by decide +kernel
theorem dX8_card_12 : decode cX8_card 12 = .ok (.ireturn, 1) := by decide +kernel
theorem dX8_card_13 : decode cX8_card 13 = .ok (.aload_n 0, 1) := by decide +kernel
theorem dX8_card_14 : decode cX8_card 14 = .ok (.getfield 19, 3) := by decide +kernel
theorem dX8_card_17 : decode cX8_card 17 = .ok (.aload_n 0, 1) := by decide +kernel
theorem dX8_card_18 : decode cX8_card 18 = .ok (.getfield 10, 3) := by decide +kernel
theorem dX8_card_21 : decode cX8_card 21 = .ok (.invokevirtual 82, 3) := by decide +kernel
theorem dX8_card_24 : decode cX8_card 24 = .ok (.aload_n 0, 1) := by decide +kernel
theorem dX8_card_25 : decode cX8_card 25 = .ok (.getfield 10, 3) := by decide +kernel
theorem dX8_card_28 : decode cX8_card 28 = .ok (.iconst 0, 1) := by decide +kernel
theorem dX8_card_29 : decode cX8_card 29 = .ok (.putfield 66, 3) := by decide +kernel
theorem dX8_card_32 : decode cX8_card 32 = .ok (.aload_n 0, 1) := by decide +kernel
theorem dX8_card_33 : decode cX8_card 33 = .ok (.getfield 26, 3) := by decide +kernel
theorem dX8_card_36 : decode cX8_card 36 = .ok (.iconst 0, 1) := by decide +kernel
theorem dX8_card_37 : decode cX8_card 37 = .ok (.putfield 86, 3) := by decide +kernel
theorem dX8_card_40 : decode cX8_card 40 = .ok (.aload_n 0, 1) := by decide +kernel
theorem dX8_card_41 : decode cX8_card 41 = .ok (.getfield 42, 3) := by decide +kernel
theorem dX8_card_44 : decode cX8_card 44 = .ok (.iconst 0, 1) := by decide +kernel
theorem dX8_card_45 : decode cX8_card 45 = .ok (.putfield 87, 3) := by decide +kernel
theorem dX8_card_48 : decode cX8_card 48 = .ok (.aload_n 0, 1) := by decide +kernel
theorem dX8_card_49 : decode cX8_card 49 = .ok (.getfield 35, 3) := by decide +kernel
theorem dX8_card_52 : decode cX8_card 52 = .ok (.aload_n 0, 1) := by decide +kernel
theorem dX8_card_53 : decode cX8_card 53 = .ok (.getfield 19, 3) := by decide +kernel
theorem dX8_card_56 : decode cX8_card 56 = .ok (.getfield 88, 3) := by decide +kernel
theorem dX8_card_59 : decode cX8_card 59 = .ok (.putfield 91, 3) := by decide +kernel
theorem dX8_card_62 : decode cX8_card 62 = .ok (.aload_n 0, 1) := by decide +kernel
theorem dX8_card_63 : decode cX8_card 63 = .ok (.getfield 35, 3) := by decide +kernel
theorem dX8_card_66 : decode cX8_card 66 = .ok (.iconst (-1), 1) := by decide +kernel
theorem dX8_card_67 : decode cX8_card 67 = .ok (.iconst 0, 1) := by decide +kernel
theorem dX8_card_68 : decode cX8_card 68 = .ok (.invokevirtual 92, 3) := by decide +kernel
theorem dX8_card_71 : decode cX8_card 71 = .ok (.aload_n 0, 1) := by decide +kernel
theorem dX8_card_72 : decode cX8_card 72 = .ok (.getfield 35, 3) := by decide +kernel
theorem dX8_card_75 : decode cX8_card 75 = .ok (.invokevirtual 96, 3) := by decide +kernel
theorem dX8_card_78 : decode cX8_card 78 = .ok (.aload_n 0, 1) := by decide +kernel
theorem dX8_card_79 : decode cX8_card 79 = .ok (.dup, 1) := by decide +kernel
theorem dX8_card_80 : decode cX8_card 80 = .ok (.getfield 99, 3) := by decide +kernel
theorem dX8_card_83 : decode cX8_card 83 = .ok (.iconst 1, 1) := by decide +kernel
theorem dX8_card_84 : decode cX8_card 84 = .ok (.iadd, 1) := by decide +kernel
theorem dX8_card_85 : decode cX8_card 85 = .ok (.putfield 99, 3) := by decide +kernel
theorem dX8_card_88 : decode cX8_card 88 = .ok (.aload_n 0, 1) := by decide +kernel
theorem dX8_card_89 : decode cX8_card 89 = .ok (.getfield 19, 3) := by decide +kernel
theorem dX8_card_92 : decode cX8_card 92 = .ok (.getfield 102, 3) := by decide +kernel
theorem dX8_card_95 : decode cX8_card 95 = .ok (.ireturn, 1) := by decide +kernel
theorem dX8_dish_0 : decode cX8_dish 0 = .ok (.aload_n 0, 1) := by decide +kernel
theorem dX8_dish_1 : decode cX8_dish 1 = .ok (.iload_n 1, 1) := by decide +kernel
theorem dX8_dish_2 : decode cX8_dish 2 = .ok (.invokevirtual 105, 3) := by decide +kernel
theorem dX8_dish_5 : decode cX8_dish 5 = .ok (.ifCond .eq 6, 3) := by decide +kernel
theorem dX8_dish_8 : decode cX8_dish 8 = .ok (.bipush (-101), 2) := by decide +kernel
theorem dX8_dish_10 : decode cX8_dish 10 = .ok (.ireturn, 1) := by decide +kernel
theorem dX8_dish_11 : decode cX8_dish 11 = .ok (.iload_n 2, 1) := by decide +kernel
theorem dX8_dish_12 : decode cX8_dish 12 = .ok (.tableswitch 85 0 3 #[32, 42, 52, 62], 32) := by decide +kernel
theorem dX8_dish_44 : decode cX8_dish 44 = .ok (.aload_n 0, 1) := by decide +kernel
theorem dX8_dish_45 : decode cX8_dish 45 = .ok (.getfield 35, 3) := by decide +kernel
theorem dX8_dish_48 : decode cX8_dish 48 = .ok (.getfield 109, 3) := by decide +kernel
theorem dX8_dish_51 : decode cX8_dish 51 = .ok (.iload_n 1, 1) := by decide +kernel
theorem dX8_dish_52 : decode cX8_dish 52 = .ok (.iaload, 1) := by decide +kernel
theorem dX8_dish_53 : decode cX8_dish 53 = .ok (.ireturn, 1) := by decide +kernel
theorem dX8_dish_54 : decode cX8_dish 54 = .ok (.aload_n 0, 1) := by decide +kernel
theorem dX8_dish_55 : decode cX8_dish 55 = .ok (.getfield 19, 3) := by decide +kernel
theorem dX8_dish_58 : decode cX8_dish 58 = .ok (.getfield 112, 3) := by decide +kernel
theorem dX8_dish_61 : decode cX8_dish 61 = .ok (.iload_n 1, 1) := by decide +kernel
theorem dX8_dish_62 : decode cX8_dish 62 = .ok (.iaload, 1) := by decide +kernel
theorem dX8_dish_63 : decode cX8_dish 63 = .ok (.ireturn, 1) := by decide +kernel
theorem dX8_dish_64 : decode cX8_dish 64 = .ok (.aload_n 0, 1) := by decide +kernel
theorem dX8_dish_65 : decode cX8_dish 65 = .ok (.getfield 35, 3) := by decide +kernel
theorem dX8_dish_68 : decode cX8_dish 68 = .ok (.getfield 115, 3) := by decide +kernel
theorem dX8_dish_71 : decode cX8_dish 71 = .ok (.iload_n 1, 1) := by decide +kernel
theorem dX8_dish_72 : decode cX8_dish 72 = .ok (.iaload, 1) := by decide +kernel
theorem dX8_dish_73 : decode cX8_dish 73 = .ok (.ireturn, 1) := by decide +kernel
theorem dX8_dish_74 : decode cX8_dish 74 = .ok (.iload_n 1, 1) := by decide +kernel
theorem dX8_dish_75 : decode cX8_dish 75 = .ok (.aload_n 0, 1) := by decide +kernel
theorem dX8_dish_76 : decode cX8_dish 76 = .ok (.getfield 35, 3) := by decide +kernel
theorem dX8_dish_79 : decode cX8_dish 79 = .ok (.getfield 118, 3) := by decide +kernel
theorem dX8_dish_82 : decode cX8_dish 82 = .ok (.if_icmp .ne 13, 3) := by decide +kernel
theorem dX8_dish_85 : decode cX8_dish 85 = .ok (.aload_n 0, 1) := by decide +kernel
theorem dX8_dish_86 : decode cX8_dish 86 = .ok (.getfield 35, 3) := by decide +kernel
theorem dX8_dish_89 : decode cX8_dish 89 = .ok (.getfield 121, 3) := by decide +kernel
theorem dX8_dish_92 : decode cX8_dish 92 = .ok (.goto 4, 3) := by decide +kernel
theorem dX8_dish_95 : decode cX8_dish 95 = .ok (.iconst 0, 1) := by decide +kernel
theorem dX8_dish_96 : decode cX8_dish 96 = .ok (.ireturn, 1) := by decide +kernel
theorem dX8_dish_97 : decode cX8_dish 97 = .ok (.bipush (-102), 2) := by decide +kernel
theorem dX8_dish_99 : decode cX8_dish 99 = .ok (.ireturn, 1) := by decide +kernel
theorem dX8_guest_0 : decode cX8_guest 0 = .ok (.iload_n 1, 1) := by decide +kernel
theorem dX8_guest_1 : decode cX8_guest 1 = .ok (.iconst 0, 1) := by decide +kernel
theorem dX8_guest_2 : decode cX8_guest 2 = .ok (.iconst 4, 1) := by decide +kernel
theorem dX8_guest_3 : decode cX8_guest 3 = .ok (.invokestatic 62, 3) := by decide +kernel
theorem dX8_guest_6 : decode cX8_guest 6 = .ok (.ifCond .ne 13, 3) := by decide +kernel
theorem dX8_guest_9 : decode cX8_guest 9 = .ok (.iload_n 2, 1) := by decide +kernel
theorem dX8_guest_10 : decode cX8_guest 10 = .ok (.iconst 1, 1) := by decide +kernel
theorem dX8_guest_11 : decode cX8_guest 11 = .ok (.bipush 9, 2) := by decide +kernel
theorem dX8_guest_13 : decode cX8_guest 13 = .ok (.invokestatic 62, 3) := by decide +kernel
theorem dX8_guest_16 : decode cX8_guest 16 = .ok (.ifCond .eq 6, 3) := by decide +kernel
theorem dX8_guest_19 : decode cX8_guest 19 = .ok (.bipush (-102), 2) := by decide +kernel
theorem dX8_guest_21 : decode cX8_guest 21 = .ok (.ireturn, 1) := by decide +kernel
theorem dX8_guest_22 : decode cX8_guest 22 = .ok (.aload_n 0, 1) := by decide +kernel
theorem dX8_guest_23 : decode cX8_guest 23 = .ok (.invokevirtual 124, 3) := by decide +kernel
theorem dX8_guest_26 : decode cX8_guest 26 = .ok (.ifCond .eq 6, 3) := by decide +kernel
theorem dX8_guest_29 : decode cX8_guest 29 = .ok (.bipush (-103), 2) := by decide +kernel
theorem dX8_guest_31 : decode cX8_guest 31 = .ok (.ireturn, 1) := by decide +kernel
theorem dX8_guest_32 : decode cX8_guest 32 = .ok (.aload_n 0, 1) := by decide +kernel
theorem dX8_guest_33 : decode cX8_guest 33 = .ok (.getfield 26, 3) := by decide +kernel
theorem dX8_guest_36 : decode cX8_guest 36 = .ok (.getfield 86, 3) := by decide +kernel
theorem dX8_guest_39 : decode cX8_guest 39 = .ok (.iconst 5, 1) := by decide +kernel
theorem dX8_guest_40 : decode cX8_guest 40 = .ok (.if_icmp .lt 6, 3) := by decide +kernel
theorem dX8_guest_43 : decode cX8_guest 43 = .ok (.bipush (-104), 2) := by decide +kernel
theorem dX8_guest_45 : decode cX8_guest 45 = .ok (.ireturn, 1) := by decide +kernel
theorem dX8_guest_46 : decode cX8_guest 46 = .ok (.aload_n 0, 1) := by decide +kernel
theorem dX8_guest_47 : decode cX8_guest 47 = .ok (.getfield 26, 3) := by decide +kernel
theorem dX8_guest_50 : decode cX8_guest 50 = .ok (.getfield 127, 3) := by decide +kernel
theorem dX8_guest_53 : decode cX8_guest 53 = .ok (.aload_n 0, 1) := by decide +kernel
theorem dX8_guest_54 : decode cX8_guest 54 = .ok (.getfield 26, 3) := by decide +kernel
theorem dX8_guest_57 : decode cX8_guest 57 = .ok (.getfield 86, 3) := by decide +kernel
theorem dX8_guest_60 : decode cX8_guest 60 = .ok (.aaload, 1) := by decide +kernel
theorem dX8_guest_61 : decode cX8_guest 61 = .ok (.iload_n 1, 1) := by decide +kernel
theorem dX8_guest_62 : decode cX8_guest 62 = .ok (.iload_n 2, 1) := by decide +kernel
theorem dX8_guest_63 : decode cX8_guest 63 = .ok (.invokevirtual 131, 3) := by decide +kernel
theorem dX8_guest_66 : decode cX8_guest 66 = .ok (.aload_n 0, 1) := by decide +kernel
theorem dX8_guest_67 : decode cX8_guest 67 = .ok (.getfield 26, 3) := by decide +kernel
theorem dX8_guest_70 : decode cX8_guest 70 = .ok (.dup, 1) := by decide +kernel
theorem dX8_guest_71 : decode cX8_guest 71 = .ok (.getfield 86, 3) := by decide +kernel
theorem dX8_guest_74 : decode cX8_guest 74 = .ok (.iconst 1, 1) := by decide +kernel
theorem dX8_guest_75 : decode cX8_guest 75 = .ok (.iadd, 1) := by decide +kernel
theorem dX8_guest_76 : decode cX8_guest 76 = .ok (.putfield 86, 3) := by decide +kernel
theorem dX8_guest_79 : decode cX8_guest 79 = .ok (.aload_n 0, 1) := by decide +kernel
theorem dX8_guest_80 : decode cX8_guest 80 = .ok (.getfield 26, 3) := by decide +kernel
theorem dX8_guest_83 : decode cX8_guest 83 = .ok (.getfield 86, 3) := by decide +kernel
theorem dX8_guest_86 : decode cX8_guest 86 = .ok (.iconst 1, 1) := by decide +kernel
theorem dX8_guest_87 : decode cX8_guest 87 = .ok (.isub, 1) := by decide +kernel
theorem dX8_guest_88 : decode cX8_guest 88 = .ok (.ireturn, 1) := by decide +kernel
theorem dX8_about_0 : decode cX8_about 0 = .ok (.aload_n 0, 1) := by decide +kernel
theorem dX8_about_1 : decode cX8_about 1 = .ok (.iload_n 1, 1) := by decide +kernel
theorem dX8_about_2 : decode cX8_about 2 = .ok (.invokevirtual 136, 3) := by decide +kernel
theorem dX8_about_5 : decode cX8_about 5 = .ok (.ifCond .eq 6, 3) := by decide +kernel
theorem dX8_about_8 : decode cX8_about 8 = .ok (.bipush (-101), 2) := by decide +kernel
theorem dX8_about_10 : decode cX8_about 10 = .ok (.ireturn, 1) := by decide +kernel
theorem dX8_about_11 : decode cX8_about 11 = .ok (.iload_n 2, 1) := by decide +kernel
theorem dX8_about_12 : decode cX8_about 12 = .ok (.tableswitch 116 0 5 #[40, 53, 66, 76, 86, 107], 40) := by decide +kernel
theorem dX8_about_52 : decode cX8_about 52 = .ok (.aload_n 0, 1) := by decide +kernel
theorem dX8_about_53 : decode cX8_about 53 = .ok (.getfield 26, 3) := by decide +kernel
theorem dX8_about_56 : decode cX8_about 56 = .ok (.getfield 127, 3) := by decide +kernel
theorem dX8_about_59 : decode cX8_about 59 = .ok (.iload_n 1, 1) := by decide +kernel
theorem dX8_about_60 : decode cX8_about 60 = .ok (.aaload, 1) := by decide +kernel
theorem dX8_about_61 : decode cX8_about 61 = .ok (.getfield 139, 3) := by decide +kernel
theorem dX8_about_64 : decode cX8_about 64 = .ok (.ireturn, 1) := by decide +kernel
theorem dX8_about_65 : decode cX8_about 65 = .ok (.aload_n 0, 1) := by decide +kernel
theorem dX8_about_66 : decode cX8_about 66 = .ok (.getfield 26, 3) := by decide +kernel
theorem dX8_about_69 : decode cX8_about 69 = .ok (.getfield 127, 3) := by decide +kernel
theorem dX8_about_72 : decode cX8_about 72 = .ok (.iload_n 1, 1) := by decide +kernel
theorem dX8_about_73 : decode cX8_about 73 = .ok (.aaload, 1) := by decide +kernel
theorem dX8_about_74 : decode cX8_about 74 = .ok (.getfield 142, 3) := by decide +kernel
theorem dX8_about_77 : decode cX8_about 77 = .ok (.ireturn, 1) := by decide +kernel
theorem dX8_about_78 : decode cX8_about 78 = .ok (.aload_n 0, 1) := by decide +kernel
theorem dX8_about_79 : decode cX8_about 79 = .ok (.getfield 35, 3) := by decide +kernel
theorem dX8_about_82 : decode cX8_about 82 = .ok (.getfield 145, 3) := by decide +kernel
theorem dX8_about_85 : decode cX8_about 85 = .ok (.iload_n 1, 1) := by decide +kernel
theorem dX8_about_86 : decode cX8_about 86 = .ok (.iaload, 1) := by decide +kernel
theorem dX8_about_87 : decode cX8_about 87 = .ok (.ireturn, 1) := by decide +kernel
theorem dX8_about_88 : decode cX8_about 88 = .ok (.aload_n 0, 1) := by decide +kernel
theorem dX8_about_89 : decode cX8_about 89 = .ok (.getfield 35, 3) := by decide +kernel
theorem dX8_about_92 : decode cX8_about 92 = .ok (.getfield 148, 3) := by decide +kernel
theorem dX8_about_95 : decode cX8_about 95 = .ok (.iload_n 1, 1) := by decide +kernel
theorem dX8_about_96 : decode cX8_about 96 = .ok (.iaload, 1) := by decide +kernel
theorem dX8_about_97 : decode cX8_about 97 = .ok (.ireturn, 1) := by decide +kernel
theorem dX8_about_98 : decode cX8_about 98 = .ok (.aload_n 0, 1) := by decide +kernel
theorem dX8_about_99 : decode cX8_about 99 = .ok (.getfield 26, 3) := by decide +kernel
theorem dX8_about_102 : decode cX8_about 102 = .ok (.getfield 127, 3) := by decide +kernel
theorem dX8_about_105 : decode cX8_about 105 = .ok (.iload_n 1, 1) := by decide +kernel
theorem dX8_about_106 : decode cX8_about 106 = .ok (.aaload, 1) := by decide +kernel
theorem dX8_about_107 : decode cX8_about 107 = .ok (.getfield 151, 3) := by decide +kernel
theorem dX8_about_110 : decode cX8_about 110 = .ok (.aload_n 0, 1) := by decide +kernel
theorem dX8_about_111 : decode cX8_about 111 = .ok (.getfield 19, 3) := by decide +kernel
theorem dX8_about_114 : decode cX8_about 114 = .ok (.getfield 88, 3) := by decide +kernel
theorem dX8_about_117 : decode cX8_about 117 = .ok (.imul, 1) := by decide +kernel
theorem dX8_about_118 : decode cX8_about 118 = .ok (.ireturn, 1) := by decide +kernel
theorem dX8_about_119 : decode cX8_about 119 = .ok (.aload_n 0, 1) := by decide +kernel
theorem dX8_about_120 : decode cX8_about 120 = .ok (.getfield 35, 3) := by decide +kernel
theorem dX8_about_123 : decode cX8_about 123 = .ok (.iload_n 1, 1) := by decide +kernel
theorem dX8_about_124 : decode cX8_about 124 = .ok (.invokevirtual 154, 3) := by decide +kernel
theorem dX8_about_127 : decode cX8_about 127 = .ok (.ireturn, 1) := by decide +kernel
theorem dX8_about_128 : decode cX8_about 128 = .ok (.bipush (-102), 2) := by decide +kernel
theorem dX8_about_130 : decode cX8_about 130 = .ok (.ireturn, 1) := by decide +kernel
theorem dX8_as_0 : decode cX8_as 0 = .ok (.aload_n 0, 1) := by decide +kernel
theorem dX8_as_1 : decode cX8_as 1 = .ok (.iload_n 1, 1) := by decide +kernel
theorem dX8_as_2 : decode cX8_as 2 = .ok (.invokevirtual 136, 3) := by decide +kernel
theorem dX8_as_5 : decode cX8_as 5 = .ok (.ifCond .eq 6, 3) := by decide +kernel
theorem dX8_as_8 : decode cX8_as 8 = .ok (.bipush (-101), 2) := by decide +kernel
theorem dX8_as_10 : decode cX8_as 10 = .ok (.ireturn, 1) := by decide +kernel
theorem dX8_as_11 : decode cX8_as 11 = .ok (.iload_n 2, 1) := by decide +kernel
theorem dX8_as_12 : decode cX8_as 12 = .ok (.iconst 0, 1) := by decide +kernel
theorem dX8_as_13 : decode cX8_as 13 = .ok (.iconst 4, 1) := by decide +kernel
theorem dX8_as_14 : decode cX8_as 14 = .ok (.invokestatic 62, 3) := by decide +kernel
theorem dX8_as_17 : decode cX8_as 17 = .ok (.ifCond .eq 6, 3) := by decide +kernel
theorem dX8_as_20 : decode cX8_as 20 = .ok (.bipush (-102), 2) := by decide +kernel
theorem dX8_as_22 : decode cX8_as 22 = .ok (.ireturn, 1) := by decide +kernel
theorem dX8_as_23 : decode cX8_as 23 = .ok (.aload_n 0, 1) := by decide +kernel
theorem dX8_as_24 : decode cX8_as 24 = .ok (.getfield 26, 3) := by decide +kernel
theorem dX8_as_27 : decode cX8_as 27 = .ok (.getfield 127, 3) := by decide +kernel
theorem dX8_as_30 : decode cX8_as 30 = .ok (.iload_n 1, 1) := by decide +kernel
theorem dX8_as_31 : decode cX8_as 31 = .ok (.aaload, 1) := by decide +kernel
theorem dX8_as_32 : decode cX8_as 32 = .ok (.iload_n 2, 1) := by decide +kernel
theorem dX8_as_33 : decode cX8_as 33 = .ok (.invokevirtual 158, 3) := by decide +kernel
theorem dX8_as_36 : decode cX8_as 36 = .ok (.ifCond .eq 7, 3) := by decide +kernel
theorem dX8_as_39 : decode cX8_as 39 = .ok (.iload_n 1, 1) := by decide +kernel
theorem dX8_as_40 : decode cX8_as 40 = .ok (.goto 4, 3) := by decide +kernel
theorem dX8_as_43 : decode cX8_as 43 = .ok (.iconst (-1), 1) := by decide +kernel
theorem dX8_as_44 : decode cX8_as 44 = .ok (.ireturn, 1) := by decide +kernel
theorem dX8_want_0 : decode cX8_want 0 = .ok (.aload_n 0, 1) := by decide +kernel
theorem dX8_want_1 : decode cX8_want 1 = .ok (.iload_n 1, 1) := by decide +kernel
theorem dX8_want_2 : decode cX8_want 2 = .ok (.invokevirtual 136, 3) := by decide +kernel
theorem dX8_want_5 : decode cX8_want 5 = .ok (.ifCond .ne 11, 3) := by decide +kernel
theorem dX8_want_8 : decode cX8_want 8 = .ok (.aload_n 0, 1) := by decide +kernel
theorem dX8_want_9 : decode cX8_want 9 = .ok (.iload_n 2, 1) := by decide +kernel
theorem dX8_want_10 : decode cX8_want 10 = .ok (.invokevirtual 105, 3) := by decide +kernel
theorem dX8_want_13 : decode cX8_want 13 = .ok (.ifCond .eq 6, 3) := by decide +kernel
theorem dX8_want_16 : decode cX8_want 16 = .ok (.bipush (-101), 2) := by decide +kernel
theorem dX8_want_18 : decode cX8_want 18 = .ok (.ireturn, 1) := by decide +kernel
theorem dX8_want_19 : decode cX8_want 19 = .ok (.iload_n 3, 1) := by decide +kernel
theorem dX8_want_20 : decode cX8_want 20 = .ok (.iconst 0, 1) := by decide +kernel
theorem dX8_want_21 : decode cX8_want 21 = .ok (.bipush 9, 2) := by decide +kernel
theorem dX8_want_23 : decode cX8_want 23 = .ok (.invokestatic 62, 3) := by decide +kernel
theorem dX8_want_26 : decode cX8_want 26 = .ok (.ifCond .eq 6, 3) := by decide +kernel
theorem dX8_want_29 : decode cX8_want 29 = .ok (.bipush (-102), 2) := by decide +kernel
theorem dX8_want_31 : decode cX8_want 31 = .ok (.ireturn, 1) := by decide +kernel
theorem dX8_want_32 : decode cX8_want 32 = .ok (.aload_n 0, 1) := by decide +kernel
theorem dX8_want_33 : decode cX8_want 33 = .ok (.getfield 26, 3) := by decide +kernel
theorem dX8_want_36 : decode cX8_want 36 = .ok (.getfield 127, 3) := by decide +kernel
theorem dX8_want_39 : decode cX8_want 39 = .ok (.iload_n 1, 1) := by decide +kernel
theorem dX8_want_40 : decode cX8_want 40 = .ok (.aaload, 1) := by decide +kernel
theorem dX8_want_41 : decode cX8_want 41 = .ok (.getfield 161, 3) := by decide +kernel
theorem dX8_want_44 : decode cX8_want 44 = .ok (.iload_n 2, 1) := by decide +kernel
theorem dX8_want_45 : decode cX8_want 45 = .ok (.iaload, 1) := by decide +kernel
theorem dX8_want_46 : decode cX8_want 46 = .ok (.istore 4, 2) := by decide +kernel
theorem dX8_want_48 : decode cX8_want 48 = .ok (.aload_n 0, 1) := by decide +kernel
theorem dX8_want_49 : decode cX8_want 49 = .ok (.getfield 26, 3) := by decide +kernel
theorem dX8_want_52 : decode cX8_want 52 = .ok (.getfield 127, 3) := by decide +kernel
theorem dX8_want_55 : decode cX8_want 55 = .ok (.iload_n 1, 1) := by decide +kernel
theorem dX8_want_56 : decode cX8_want 56 = .ok (.aaload, 1) := by decide +kernel
theorem dX8_want_57 : decode cX8_want 57 = .ok (.getfield 161, 3) := by decide +kernel
theorem dX8_want_60 : decode cX8_want 60 = .ok (.iload_n 2, 1) := by decide +kernel
theorem dX8_want_61 : decode cX8_want 61 = .ok (.iload_n 3, 1) := by decide +kernel
theorem dX8_want_62 : decode cX8_want 62 = .ok (.iastore, 1) := by decide +kernel
theorem dX8_want_63 : decode cX8_want 63 = .ok (.iload 4, 2) := by decide +kernel
theorem dX8_want_65 : decode cX8_want 65 = .ok (.ireturn, 1) := by decide +kernel
theorem dX8_purse_0 : decode cX8_purse 0 = .ok (.aload_n 0, 1) := by decide +kernel
theorem dX8_purse_1 : decode cX8_purse 1 = .ok (.iload_n 1, 1) := by decide +kernel
theorem dX8_purse_2 : decode cX8_purse 2 = .ok (.invokevirtual 136, 3) := by decide +kernel
theorem dX8_purse_5 : decode cX8_purse 5 = .ok (.ifCond .eq 6, 3) := by decide +kernel
theorem dX8_purse_8 : decode cX8_purse 8 = .ok (.bipush (-101), 2) := by decide +kernel
theorem dX8_purse_10 : decode cX8_purse 10 = .ok (.ireturn, 1) := by decide +kernel
theorem dX8_purse_11 : decode cX8_purse 11 = .ok (.iload_n 2, 1) := by decide +kernel
theorem dX8_purse_12 : decode cX8_purse 12 = .ok (.iconst 1, 1) := by decide +kernel
theorem dX8_purse_13 : decode cX8_purse 13 = .ok (.bipush 9, 2) := by decide +kernel
theorem dX8_purse_15 : decode cX8_purse 15 = .ok (.invokestatic 62, 3) := by decide +kernel
theorem dX8_purse_18 : decode cX8_purse 18 = .ok (.ifCond .eq 6, 3) := by decide +kernel
theorem dX8_purse_21 : decode cX8_purse 21 = .ok (.bipush (-102), 2) := by decide +kernel
theorem dX8_purse_23 : decode cX8_purse 23 = .ok (.ireturn, 1) := by decide +kernel
theorem dX8_purse_24 : decode cX8_purse 24 = .ok (.aload_n 0, 1) := by decide +kernel
theorem dX8_purse_25 : decode cX8_purse 25 = .ok (.getfield 26, 3) := by decide +kernel
theorem dX8_purse_28 : decode cX8_purse 28 = .ok (.getfield 127, 3) := by decide +kernel
theorem dX8_purse_31 : decode cX8_purse 31 = .ok (.iload_n 1, 1) := by decide +kernel
theorem dX8_purse_32 : decode cX8_purse 32 = .ok (.aaload, 1) := by decide +kernel
theorem dX8_purse_33 : decode cX8_purse 33 = .ok (.getfield 142, 3) := by decide +kernel
theorem dX8_purse_36 : decode cX8_purse 36 = .ok (.istore_n 3, 1) := by decide +kernel
theorem dX8_purse_37 : decode cX8_purse 37 = .ok (.aload_n 0, 1) := by decide +kernel
theorem dX8_purse_38 : decode cX8_purse 38 = .ok (.getfield 26, 3) := by decide +kernel
theorem dX8_purse_41 : decode cX8_purse 41 = .ok (.getfield 127, 3) := by decide +kernel
theorem dX8_purse_44 : decode cX8_purse 44 = .ok (.iload_n 1, 1) := by decide +kernel
theorem dX8_purse_45 : decode cX8_purse 45 = .ok (.aaload, 1) := by decide +kernel
theorem dX8_purse_46 : decode cX8_purse 46 = .ok (.iload_n 2, 1) := by decide +kernel
theorem dX8_purse_47 : decode cX8_purse 47 = .ok (.putfield 142, 3) := by decide +kernel
theorem dX8_purse_50 : decode cX8_purse 50 = .ok (.iload_n 3, 1) := by decide +kernel
theorem dX8_purse_51 : decode cX8_purse 51 = .ok (.ireturn, 1) := by decide +kernel
theorem dX8_urge_0 : decode cX8_urge 0 = .ok (.aload_n 0, 1) := by decide +kernel
theorem dX8_urge_1 : decode cX8_urge 1 = .ok (.iload_n 1, 1) := by decide +kernel
theorem dX8_urge_2 : decode cX8_urge 2 = .ok (.invokevirtual 105, 3) := by decide +kernel
theorem dX8_urge_5 : decode cX8_urge 5 = .ok (.ifCond .eq 6, 3) := by decide +kernel
theorem dX8_urge_8 : decode cX8_urge 8 = .ok (.bipush (-101), 2) := by decide +kernel
theorem dX8_urge_10 : decode cX8_urge 10 = .ok (.ireturn, 1) := by decide +kernel
theorem dX8_urge_11 : decode cX8_urge 11 = .ok (.iload_n 2, 1) := by decide +kernel
theorem dX8_urge_12 : decode cX8_urge 12 = .ok (.iconst 0, 1) := by decide +kernel
theorem dX8_urge_13 : decode cX8_urge 13 = .ok (.bipush 20, 2) := by decide +kernel
theorem dX8_urge_15 : decode cX8_urge 15 = .ok (.invokestatic 62, 3) := by decide +kernel
theorem dX8_urge_18 : decode cX8_urge 18 = .ok (.ifCond .eq 6, 3) := by decide +kernel
theorem dX8_urge_21 : decode cX8_urge 21 = .ok (.bipush (-102), 2) := by decide +kernel
theorem dX8_urge_23 : decode cX8_urge 23 = .ok (.ireturn, 1) := by decide +kernel
theorem dX8_urge_24 : decode cX8_urge 24 = .ok (.aload_n 0, 1) := by decide +kernel
theorem dX8_urge_25 : decode cX8_urge 25 = .ok (.getfield 35, 3) := by decide +kernel
theorem dX8_urge_28 : decode cX8_urge 28 = .ok (.getfield 118, 3) := by decide +kernel
theorem dX8_urge_31 : decode cX8_urge 31 = .ok (.istore_n 3, 1) := by decide +kernel
theorem dX8_urge_32 : decode cX8_urge 32 = .ok (.aload_n 0, 1) := by decide +kernel
theorem dX8_urge_33 : decode cX8_urge 33 = .ok (.getfield 35, 3) := by decide +kernel
theorem dX8_urge_36 : decode cX8_urge 36 = .ok (.iload_n 1, 1) := by decide +kernel
theorem dX8_urge_37 : decode cX8_urge 37 = .ok (.iload_n 2, 1) := by decide +kernel
theorem dX8_urge_38 : decode cX8_urge 38 = .ok (.invokevirtual 92, 3) := by decide +kernel
theorem dX8_urge_41 : decode cX8_urge 41 = .ok (.iload_n 3, 1) := by decide +kernel
theorem dX8_urge_42 : decode cX8_urge 42 = .ok (.ireturn, 1) := by decide +kernel
theorem dX8_takes_0 : decode cX8_takes 0 = .ok (.aload_n 0, 1) := by decide +kernel
theorem dX8_takes_1 : decode cX8_takes 1 = .ok (.iload_n 1, 1) := by decide +kernel
theorem dX8_takes_2 : decode cX8_takes 2 = .ok (.invokevirtual 136, 3) := by decide +kernel
theorem dX8_takes_5 : decode cX8_takes 5 = .ok (.ifCond .eq 6, 3) := by decide +kernel
theorem dX8_takes_8 : decode cX8_takes 8 = .ok (.bipush (-101), 2) := by decide +kernel
theorem dX8_takes_10 : decode cX8_takes 10 = .ok (.ireturn, 1) := by decide +kernel
theorem dX8_takes_11 : decode cX8_takes 11 = .ok (.aload_n 0, 1) := by decide +kernel
theorem dX8_takes_12 : decode cX8_takes 12 = .ok (.getfield 35, 3) := by decide +kernel
theorem dX8_takes_15 : decode cX8_takes 15 = .ok (.getfield 148, 3) := by decide +kernel
theorem dX8_takes_18 : decode cX8_takes 18 = .ok (.iload_n 1, 1) := by decide +kernel
theorem dX8_takes_19 : decode cX8_takes 19 = .ok (.iaload, 1) := by decide +kernel
theorem dX8_takes_20 : decode cX8_takes 20 = .ok (.iconst 1, 1) := by decide +kernel
theorem dX8_takes_21 : decode cX8_takes 21 = .ok (.if_icmp .ne 6, 3) := by decide +kernel
theorem dX8_takes_24 : decode cX8_takes 24 = .ok (.bipush (-103), 2) := by decide +kernel
theorem dX8_takes_26 : decode cX8_takes 26 = .ok (.ireturn, 1) := by decide +kernel
theorem dX8_takes_27 : decode cX8_takes 27 = .ok (.aload_n 0, 1) := by decide +kernel
theorem dX8_takes_28 : decode cX8_takes 28 = .ok (.getfield 35, 3) := by decide +kernel
theorem dX8_takes_31 : decode cX8_takes 31 = .ok (.iload_n 1, 1) := by decide +kernel
theorem dX8_takes_32 : decode cX8_takes 32 = .ok (.invokevirtual 164, 3) := by decide +kernel
theorem dX8_takes_35 : decode cX8_takes 35 = .ok (.ireturn, 1) := by decide +kernel
theorem dX8_order_0 : decode cX8_order 0 = .ok (.aload_n 0, 1) := by decide +kernel
theorem dX8_order_1 : decode cX8_order 1 = .ok (.iload_n 1, 1) := by decide +kernel
theorem dX8_order_2 : decode cX8_order 2 = .ok (.invokevirtual 167, 3) := by decide +kernel
theorem dX8_order_5 : decode cX8_order 5 = .ok (.istore_n 2, 1) := by decide +kernel
theorem dX8_order_6 : decode cX8_order 6 = .ok (.iload_n 2, 1) := by decide +kernel
theorem dX8_order_7 : decode cX8_order 7 = .ok (.iconst (-1), 1) := by decide +kernel
theorem dX8_order_8 : decode cX8_order 8 = .ok (.if_icmp .lt 12, 3) := by decide +kernel
theorem dX8_order_11 : decode cX8_order 11 = .ok (.aload_n 0, 1) := by decide +kernel
theorem dX8_order_12 : decode cX8_order 12 = .ok (.getfield 35, 3) := by decide +kernel
theorem dX8_order_15 : decode cX8_order 15 = .ok (.iload_n 1, 1) := by decide +kernel
theorem dX8_order_16 : decode cX8_order 16 = .ok (.iload_n 2, 1) := by decide +kernel
theorem dX8_order_17 : decode cX8_order 17 = .ok (.invokevirtual 170, 3) := by decide +kernel
theorem dX8_order_20 : decode cX8_order 20 = .ok (.iload_n 2, 1) := by decide +kernel
theorem dX8_order_21 : decode cX8_order 21 = .ok (.ireturn, 1) := by decide +kernel
theorem dX8_clear_0 : decode cX8_clear 0 = .ok (.aload_n 0, 1) := by decide +kernel
theorem dX8_clear_1 : decode cX8_clear 1 = .ok (.getfield 35, 3) := by decide +kernel
theorem dX8_clear_4 : decode cX8_clear 4 = .ok (.invokevirtual 173, 3) := by decide +kernel
theorem dX8_clear_7 : decode cX8_clear 7 = .ok (.istore_n 1, 1) := by decide +kernel
theorem dX8_clear_8 : decode cX8_clear 8 = .ok (.aload_n 0, 1) := by decide +kernel
theorem dX8_clear_9 : decode cX8_clear 9 = .ok (.getfield 35, 3) := by decide +kernel
theorem dX8_clear_12 : decode cX8_clear 12 = .ok (.invokevirtual 96, 3) := by decide +kernel
theorem dX8_clear_15 : decode cX8_clear 15 = .ok (.iload_n 1, 1) := by decide +kernel
theorem dX8_clear_16 : decode cX8_clear 16 = .ok (.ireturn, 1) := by decide +kernel
theorem dX8_inTurn_0 : decode cX8_inTurn 0 = .ok (.aload_n 0, 1) := by decide +kernel
theorem dX8_inTurn_1 : decode cX8_inTurn 1 = .ok (.iload_n 1, 1) := by decide +kernel
theorem dX8_inTurn_2 : decode cX8_inTurn 2 = .ok (.invokevirtual 136, 3) := by decide +kernel
theorem dX8_inTurn_5 : decode cX8_inTurn 5 = .ok (.ifCond .ne 11, 3) := by decide +kernel
theorem dX8_inTurn_8 : decode cX8_inTurn 8 = .ok (.aload_n 0, 1) := by decide +kernel
theorem dX8_inTurn_9 : decode cX8_inTurn 9 = .ok (.iload_n 2, 1) := by decide +kernel
theorem dX8_inTurn_10 : decode cX8_inTurn 10 = .ok (.invokevirtual 136, 3) := by decide +kernel
theorem dX8_inTurn_13 : decode cX8_inTurn 13 = .ok (.ifCond .eq 6, 3) := by decide +kernel
theorem dX8_inTurn_16 : decode cX8_inTurn 16 = .ok (.bipush (-101), 2) := by decide +kernel
theorem dX8_inTurn_18 : decode cX8_inTurn 18 = .ok (.ireturn, 1) := by decide +kernel
theorem dX8_inTurn_19 : decode cX8_inTurn 19 = .ok (.aload_n 0, 1) := by decide +kernel
theorem dX8_inTurn_20 : decode cX8_inTurn 20 = .ok (.getfield 51, 3) := by decide +kernel
theorem dX8_inTurn_23 : decode cX8_inTurn 23 = .ok (.iload_n 1, 1) := by decide +kernel
theorem dX8_inTurn_24 : decode cX8_inTurn 24 = .ok (.iload_n 2, 1) := by decide +kernel
theorem dX8_inTurn_25 : decode cX8_inTurn 25 = .ok (.invokevirtual 176, 3) := by decide +kernel
theorem dX8_inTurn_28 : decode cX8_inTurn 28 = .ok (.ireturn, 1) := by decide +kernel
theorem dX8_begin_0 : decode cX8_begin 0 = .ok (.iload_n 1, 1) := by decide +kernel
theorem dX8_begin_1 : decode cX8_begin 1 = .ok (.iconst (-1), 1) := by decide +kernel
theorem dX8_begin_2 : decode cX8_begin 2 = .ok (.if_icmp .eq 14, 3) := by decide +kernel
theorem dX8_begin_5 : decode cX8_begin 5 = .ok (.aload_n 0, 1) := by decide +kernel
theorem dX8_begin_6 : decode cX8_begin 6 = .ok (.iload_n 1, 1) := by decide +kernel
theorem dX8_begin_7 : decode cX8_begin 7 = .ok (.invokevirtual 136, 3) := by decide +kernel
theorem dX8_begin_10 : decode cX8_begin 10 = .ok (.ifCond .eq 6, 3) := by decide +kernel
theorem dX8_begin_13 : decode cX8_begin 13 = .ok (.bipush (-101), 2) := by decide +kernel
theorem dX8_begin_15 : decode cX8_begin 15 = .ok (.ireturn, 1) := by decide +kernel
theorem dX8_begin_16 : decode cX8_begin 16 = .ok (.iload_n 2, 1) := by decide +kernel
theorem dX8_begin_17 : decode cX8_begin 17 = .ok (.iconst 0, 1) := by decide +kernel
theorem dX8_begin_18 : decode cX8_begin 18 = .ok (.iconst 1, 1) := by decide +kernel
theorem dX8_begin_19 : decode cX8_begin 19 = .ok (.invokestatic 62, 3) := by decide +kernel
theorem dX8_begin_22 : decode cX8_begin 22 = .ok (.ifCond .eq 6, 3) := by decide +kernel
theorem dX8_begin_25 : decode cX8_begin 25 = .ok (.bipush (-102), 2) := by decide +kernel
theorem dX8_begin_27 : decode cX8_begin 27 = .ok (.ireturn, 1) := by decide +kernel
theorem dX8_begin_28 : decode cX8_begin 28 = .ok (.aload_n 0, 1) := by decide +kernel
theorem dX8_begin_29 : decode cX8_begin 29 = .ok (.getfield 26, 3) := by decide +kernel
theorem dX8_begin_32 : decode cX8_begin 32 = .ok (.getfield 86, 3) := by decide +kernel
theorem dX8_begin_35 : decode cX8_begin 35 = .ok (.ifCond .ne 6, 3) := by decide +kernel
theorem dX8_begin_38 : decode cX8_begin 38 = .ok (.bipush (-103), 2) := by decide +kernel
theorem dX8_begin_40 : decode cX8_begin 40 = .ok (.ireturn, 1) := by decide +kernel
theorem dX8_begin_41 : decode cX8_begin 41 = .ok (.aload_n 0, 1) := by decide +kernel
theorem dX8_begin_42 : decode cX8_begin 42 = .ok (.getfield 51, 3) := by decide +kernel
theorem dX8_begin_45 : decode cX8_begin 45 = .ok (.iload_n 1, 1) := by decide +kernel
theorem dX8_begin_46 : decode cX8_begin 46 = .ok (.invokevirtual 180, 3) := by decide +kernel
theorem dX8_begin_49 : decode cX8_begin 49 = .ok (.istore_n 3, 1) := by decide +kernel
theorem dX8_begin_50 : decode cX8_begin 50 = .ok (.iload_n 2, 1) := by decide +kernel
theorem dX8_begin_51 : decode cX8_begin 51 = .ok (.ifCond .ne 7, 3) := by decide +kernel
theorem dX8_begin_54 : decode cX8_begin 54 = .ok (.iload_n 3, 1) := by decide +kernel
theorem dX8_begin_55 : decode cX8_begin 55 = .ok (.goto 12, 3) := by decide +kernel
theorem dX8_begin_58 : decode cX8_begin 58 = .ok (.aload_n 0, 1) := by decide +kernel
theorem dX8_begin_59 : decode cX8_begin 59 = .ok (.getfield 51, 3) := by decide +kernel
theorem dX8_begin_62 : decode cX8_begin 62 = .ok (.iload_n 3, 1) := by decide +kernel
theorem dX8_begin_63 : decode cX8_begin 63 = .ok (.iload_n 1, 1) := by decide +kernel
theorem dX8_begin_64 : decode cX8_begin 64 = .ok (.invokevirtual 183, 3) := by decide +kernel
theorem dX8_begin_67 : decode cX8_begin 67 = .ok (.ireturn, 1) := by decide +kernel
theorem dX8_atOnce_0 : decode cX8_atOnce 0 = .ok (.iload_n 1, 1) := by decide +kernel
theorem dX8_atOnce_1 : decode cX8_atOnce 1 = .ok (.iconst 0, 1) := by decide +kernel
theorem dX8_atOnce_2 : decode cX8_atOnce 2 = .ok (.iconst 1, 1) := by decide +kernel
theorem dX8_atOnce_3 : decode cX8_atOnce 3 = .ok (.invokestatic 62, 3) := by decide +kernel
theorem dX8_atOnce_6 : decode cX8_atOnce 6 = .ok (.ifCond .eq 6, 3) := by decide +kernel
theorem dX8_atOnce_9 : decode cX8_atOnce 9 = .ok (.bipush (-102), 2) := by decide +kernel
theorem dX8_atOnce_11 : decode cX8_atOnce 11 = .ok (.ireturn, 1) := by decide +kernel
theorem dX8_atOnce_12 : decode cX8_atOnce 12 = .ok (.aload_n 0, 1) := by decide +kernel
theorem dX8_atOnce_13 : decode cX8_atOnce 13 = .ok (.invokevirtual 124, 3) := by decide +kernel
theorem dX8_atOnce_16 : decode cX8_atOnce 16 = .ok (.ifCond .ne 12, 3) := by decide +kernel
theorem dX8_atOnce_19 : decode cX8_atOnce 19 = .ok (.aload_n 0, 1) := by decide +kernel
theorem dX8_atOnce_20 : decode cX8_atOnce 20 = .ok (.getfield 186, 3) := by decide +kernel
theorem dX8_atOnce_23 : decode cX8_atOnce 23 = .ok (.bipush 20, 2) := by decide +kernel
theorem dX8_atOnce_25 : decode cX8_atOnce 25 = .ok (.if_icmp .lt 6, 3) := by decide +kernel
theorem dX8_atOnce_28 : decode cX8_atOnce 28 = .ok (.bipush (-103), 2) := by decide +kernel
theorem dX8_atOnce_30 : decode cX8_atOnce 30 = .ok (.ireturn, 1) := by decide +kernel
theorem dX8_atOnce_31 : decode cX8_atOnce 31 = .ok (.aload_n 0, 1) := by decide +kernel
theorem dX8_atOnce_32 : decode cX8_atOnce 32 = .ok (.dup, 1) := by decide +kernel
theorem dX8_atOnce_33 : decode cX8_atOnce 33 = .ok (.getfield 186, 3) := by decide +kernel
theorem dX8_atOnce_36 : decode cX8_atOnce 36 = .ok (.iconst 1, 1) := by decide +kernel
theorem dX8_atOnce_37 : decode cX8_atOnce 37 = .ok (.iadd, 1) := by decide +kernel
theorem dX8_atOnce_38 : decode cX8_atOnce 38 = .ok (.putfield 186, 3) := by decide +kernel
theorem dX8_atOnce_41 : decode cX8_atOnce 41 = .ok (.aload_n 0, 1) := by decide +kernel
theorem dX8_atOnce_42 : decode cX8_atOnce 42 = .ok (.getfield 51, 3) := by decide +kernel
theorem dX8_atOnce_45 : decode cX8_atOnce 45 = .ok (.invokevirtual 189, 3) := by decide +kernel
theorem dX8_atOnce_48 : decode cX8_atOnce 48 = .ok (.iload_n 1, 1) := by decide +kernel
theorem dX8_atOnce_49 : decode cX8_atOnce 49 = .ok (.ifCond .ne 13, 3) := by decide +kernel
theorem dX8_atOnce_52 : decode cX8_atOnce 52 = .ok (.aload_n 0, 1) := by decide +kernel
theorem dX8_atOnce_53 : decode cX8_atOnce 53 = .ok (.getfield 51, 3) := by decide +kernel
theorem dX8_atOnce_56 : decode cX8_atOnce 56 = .ok (.getfield 192, 3) := by decide +kernel
theorem dX8_atOnce_59 : decode cX8_atOnce 59 = .ok (.goto 10, 3) := by decide +kernel
theorem dX8_atOnce_62 : decode cX8_atOnce 62 = .ok (.aload_n 0, 1) := by decide +kernel
theorem dX8_atOnce_63 : decode cX8_atOnce 63 = .ok (.getfield 51, 3) := by decide +kernel
theorem dX8_atOnce_66 : decode cX8_atOnce 66 = .ok (.getfield 195, 3) := by decide +kernel
theorem dX8_atOnce_69 : decode cX8_atOnce 69 = .ok (.ireturn, 1) := by decide +kernel
theorem dX8_minds_0 : decode cX8_minds 0 = .ok (.aload_n 0, 1) := by decide +kernel
theorem dX8_minds_1 : decode cX8_minds 1 = .ok (.iload_n 1, 1) := by decide +kernel
theorem dX8_minds_2 : decode cX8_minds 2 = .ok (.invokevirtual 136, 3) := by decide +kernel
theorem dX8_minds_5 : decode cX8_minds 5 = .ok (.ifCond .eq 6, 3) := by decide +kernel
theorem dX8_minds_8 : decode cX8_minds 8 = .ok (.bipush (-101), 2) := by decide +kernel
theorem dX8_minds_10 : decode cX8_minds 10 = .ok (.ireturn, 1) := by decide +kernel
theorem dX8_minds_11 : decode cX8_minds 11 = .ok (.aload_n 0, 1) := by decide +kernel
theorem dX8_minds_12 : decode cX8_minds 12 = .ok (.getfield 51, 3) := by decide +kernel
theorem dX8_minds_15 : decode cX8_minds 15 = .ok (.iload_n 1, 1) := by decide +kernel
theorem dX8_minds_16 : decode cX8_minds 16 = .ok (.invokevirtual 198, 3) := by decide +kernel
theorem dX8_minds_19 : decode cX8_minds 19 = .ok (.ireturn, 1) := by decide +kernel
theorem dX8_host_0 : decode cX8_host 0 = .ok (.aload_n 0, 1) := by decide +kernel
theorem dX8_host_1 : decode cX8_host 1 = .ok (.invokevirtual 124, 3) := by decide +kernel
theorem dX8_host_4 : decode cX8_host 4 = .ok (.ifCond .eq 6, 3) := by decide +kernel
theorem dX8_host_7 : decode cX8_host 7 = .ok (.bipush (-103), 2) := by decide +kernel
theorem dX8_host_9 : decode cX8_host 9 = .ok (.ireturn, 1) := by decide +kernel
theorem dX8_host_10 : decode cX8_host 10 = .ok (.aload_n 0, 1) := by decide +kernel
theorem dX8_host_11 : decode cX8_host 11 = .ok (.getfield 51, 3) := by decide +kernel
theorem dX8_host_14 : decode cX8_host 14 = .ok (.invokevirtual 201, 3) := by decide +kernel
theorem dX8_host_17 : decode cX8_host 17 = .ok (.ireturn, 1) := by decide +kernel
theorem dX8_fewest_0 : decode cX8_fewest 0 = .ok (.iload_n 1, 1) := by decide +kernel
theorem dX8_fewest_1 : decode cX8_fewest 1 = .ok (.iconst 0, 1) := by decide +kernel
theorem dX8_fewest_2 : decode cX8_fewest 2 = .ok (.iconst 1, 1) := by decide +kernel
theorem dX8_fewest_3 : decode cX8_fewest 3 = .ok (.invokestatic 62, 3) := by decide +kernel
theorem dX8_fewest_6 : decode cX8_fewest 6 = .ok (.ifCond .eq 6, 3) := by decide +kernel
theorem dX8_fewest_9 : decode cX8_fewest 9 = .ok (.bipush (-102), 2) := by decide +kernel
theorem dX8_fewest_11 : decode cX8_fewest 11 = .ok (.ireturn, 1) := by decide +kernel
theorem dX8_fewest_12 : decode cX8_fewest 12 = .ok (.aload_n 0, 1) := by decide +kernel
theorem dX8_fewest_13 : decode cX8_fewest 13 = .ok (.invokevirtual 124, 3) := by decide +kernel
theorem dX8_fewest_16 : decode cX8_fewest 16 = .ok (.ifCond .eq 6, 3) := by decide +kernel
theorem dX8_fewest_19 : decode cX8_fewest 19 = .ok (.bipush (-103), 2) := by decide +kernel
theorem dX8_fewest_21 : decode cX8_fewest 21 = .ok (.ireturn, 1) := by decide +kernel
theorem dX8_fewest_22 : decode cX8_fewest 22 = .ok (.aload_n 0, 1) := by decide +kernel
theorem dX8_fewest_23 : decode cX8_fewest 23 = .ok (.getfield 51, 3) := by decide +kernel
theorem dX8_fewest_26 : decode cX8_fewest 26 = .ok (.invokevirtual 204, 3) := by decide +kernel
theorem dX8_fewest_29 : decode cX8_fewest 29 = .ok (.istore_n 2, 1) := by decide +kernel
theorem dX8_fewest_30 : decode cX8_fewest 30 = .ok (.iload_n 1, 1) := by decide +kernel
theorem dX8_fewest_31 : decode cX8_fewest 31 = .ok (.iconst 1, 1) := by decide +kernel
theorem dX8_fewest_32 : decode cX8_fewest 32 = .ok (.if_icmp .eq 8, 3) := by decide +kernel
theorem dX8_fewest_35 : decode cX8_fewest 35 = .ok (.iload_n 2, 1) := by decide +kernel
theorem dX8_fewest_36 : decode cX8_fewest 36 = .ok (.iconst (-1), 1) := by decide +kernel
theorem dX8_fewest_37 : decode cX8_fewest 37 = .ok (.if_icmp .ne 7, 3) := by decide +kernel
theorem dX8_fewest_40 : decode cX8_fewest 40 = .ok (.iload_n 2, 1) := by decide +kernel
theorem dX8_fewest_41 : decode cX8_fewest 41 = .ok (.goto 7, 3) := by decide +kernel
theorem dX8_fewest_44 : decode cX8_fewest 44 = .ok (.iload_n 2, 1) := by decide +kernel
theorem dX8_fewest_45 : decode cX8_fewest 45 = .ok (.invokestatic 207, 3) := by decide +kernel
theorem dX8_fewest_48 : decode cX8_fewest 48 = .ok (.ireturn, 1) := by decide +kernel
theorem dX8_urges_0 : decode cX8_urges 0 = .ok (.aload_n 0, 1) := by decide +kernel
theorem dX8_urges_1 : decode cX8_urges 1 = .ok (.iload_n 1, 1) := by decide +kernel
theorem dX8_urges_2 : decode cX8_urges 2 = .ok (.invokevirtual 105, 3) := by decide +kernel
theorem dX8_urges_5 : decode cX8_urges 5 = .ok (.ifCond .ne 11, 3) := by decide +kernel
theorem dX8_urges_8 : decode cX8_urges 8 = .ok (.aload_n 0, 1) := by decide +kernel
theorem dX8_urges_9 : decode cX8_urges 9 = .ok (.iload_n 2, 1) := by decide +kernel
theorem dX8_urges_10 : decode cX8_urges 10 = .ok (.invokevirtual 136, 3) := by decide +kernel
theorem dX8_urges_13 : decode cX8_urges 13 = .ok (.ifCond .eq 6, 3) := by decide +kernel
theorem dX8_urges_16 : decode cX8_urges 16 = .ok (.bipush (-101), 2) := by decide +kernel
theorem dX8_urges_18 : decode cX8_urges 18 = .ok (.ireturn, 1) := by decide +kernel
theorem dX8_urges_19 : decode cX8_urges 19 = .ok (.iload_n 3, 1) := by decide +kernel
theorem dX8_urges_20 : decode cX8_urges 20 = .ok (.iconst 1, 1) := by decide +kernel
theorem dX8_urges_21 : decode cX8_urges 21 = .ok (.iconst 5, 1) := by decide +kernel
theorem dX8_urges_22 : decode cX8_urges 22 = .ok (.invokestatic 62, 3) := by decide +kernel
theorem dX8_urges_25 : decode cX8_urges 25 = .ok (.ifCond .eq 6, 3) := by decide +kernel
theorem dX8_urges_28 : decode cX8_urges 28 = .ok (.bipush (-102), 2) := by decide +kernel
theorem dX8_urges_30 : decode cX8_urges 30 = .ok (.ireturn, 1) := by decide +kernel
theorem dX8_urges_31 : decode cX8_urges 31 = .ok (.aload_n 0, 1) := by decide +kernel
theorem dX8_urges_32 : decode cX8_urges 32 = .ok (.getfield 51, 3) := by decide +kernel
theorem dX8_urges_35 : decode cX8_urges 35 = .ok (.iload_n 1, 1) := by decide +kernel
theorem dX8_urges_36 : decode cX8_urges 36 = .ok (.iload_n 2, 1) := by decide +kernel
theorem dX8_urges_37 : decode cX8_urges 37 = .ok (.iload_n 3, 1) := by decide +kernel
theorem dX8_urges_38 : decode cX8_urges 38 = .ok (.invokevirtual 212, 3) := by decide +kernel
theorem dX8_urges_41 : decode cX8_urges 41 = .ok (.ireturn, 1) := by decide +kernel
theorem dX8_evening_0 : decode cX8_evening 0 = .ok (.aload_n 0, 1) := by decide +kernel
theorem dX8_evening_1 : decode cX8_evening 1 = .ok (.iload_n 1, 1) := by decide +kernel
theorem dX8_evening_2 : decode cX8_evening 2 = .ok (.invokevirtual 136, 3) := by decide +kernel
theorem dX8_evening_5 : decode cX8_evening 5 = .ok (.ifCond .ne 24, 3) := by decide +kernel
theorem dX8_evening_8 : decode cX8_evening 8 = .ok (.aload_n 0, 1) := by decide +kernel
theorem dX8_evening_9 : decode cX8_evening 9 = .ok (.iload_n 2, 1) := by decide +kernel
theorem dX8_evening_10 : decode cX8_evening 10 = .ok (.invokevirtual 136, 3) := by decide +kernel
theorem dX8_evening_13 : decode cX8_evening 13 = .ok (.ifCond .ne 16, 3) := by decide +kernel
theorem dX8_evening_16 : decode cX8_evening 16 = .ok (.iload_n 3, 1) := by decide +kernel
theorem dX8_evening_17 : decode cX8_evening 17 = .ok (.iconst (-1), 1) := by decide +kernel
theorem dX8_evening_18 : decode cX8_evening 18 = .ok (.if_icmp .eq 14, 3) := by decide +kernel
theorem dX8_evening_21 : decode cX8_evening 21 = .ok (.aload_n 0, 1) := by decide +kernel
theorem dX8_evening_22 : decode cX8_evening 22 = .ok (.iload_n 3, 1) := by decide +kernel
theorem dX8_evening_23 : decode cX8_evening 23 = .ok (.invokevirtual 105, 3) := by decide +kernel
theorem dX8_evening_26 : decode cX8_evening 26 = .ok (.ifCond .eq 6, 3) := by decide +kernel
theorem dX8_evening_29 : decode cX8_evening 29 = .ok (.bipush (-101), 2) := by decide +kernel
theorem dX8_evening_31 : decode cX8_evening 31 = .ok (.ireturn, 1) := by decide +kernel
theorem dX8_evening_32 : decode cX8_evening 32 = .ok (.aload_n 0, 1) := by decide +kernel
theorem dX8_evening_33 : decode cX8_evening 33 = .ok (.getfield 42, 3) := by decide +kernel
theorem dX8_evening_36 : decode cX8_evening 36 = .ok (.getfield 87, 3) := by decide +kernel
theorem dX8_evening_39 : decode cX8_evening 39 = .ok (.iconst 4, 1) := by decide +kernel
theorem dX8_evening_40 : decode cX8_evening 40 = .ok (.if_icmp .lt 6, 3) := by decide +kernel
theorem dX8_evening_43 : decode cX8_evening 43 = .ok (.bipush (-104), 2) := by decide +kernel
theorem dX8_evening_45 : decode cX8_evening 45 = .ok (.ireturn, 1) := by decide +kernel
theorem dX8_evening_46 : decode cX8_evening 46 = .ok (.aload_n 0, 1) := by decide +kernel
theorem dX8_evening_47 : decode cX8_evening 47 = .ok (.getfield 42, 3) := by decide +kernel
theorem dX8_evening_50 : decode cX8_evening 50 = .ok (.iload_n 1, 1) := by decide +kernel
theorem dX8_evening_51 : decode cX8_evening 51 = .ok (.iload_n 2, 1) := by decide +kernel
theorem dX8_evening_52 : decode cX8_evening 52 = .ok (.iload_n 3, 1) := by decide +kernel
theorem dX8_evening_53 : decode cX8_evening 53 = .ok (.invokevirtual 216, 3) := by decide +kernel
theorem dX8_evening_56 : decode cX8_evening 56 = .ok (.aload_n 0, 1) := by decide +kernel
theorem dX8_evening_57 : decode cX8_evening 57 = .ok (.getfield 42, 3) := by decide +kernel
theorem dX8_evening_60 : decode cX8_evening 60 = .ok (.getfield 87, 3) := by decide +kernel
theorem dX8_evening_63 : decode cX8_evening 63 = .ok (.ireturn, 1) := by decide +kernel
theorem dX8_forget_0 : decode cX8_forget 0 = .ok (.aload_n 0, 1) := by decide +kernel
theorem dX8_forget_1 : decode cX8_forget 1 = .ok (.getfield 42, 3) := by decide +kernel
theorem dX8_forget_4 : decode cX8_forget 4 = .ok (.getfield 87, 3) := by decide +kernel
theorem dX8_forget_7 : decode cX8_forget 7 = .ok (.istore_n 1, 1) := by decide +kernel
theorem dX8_forget_8 : decode cX8_forget 8 = .ok (.aload_n 0, 1) := by decide +kernel
theorem dX8_forget_9 : decode cX8_forget 9 = .ok (.getfield 42, 3) := by decide +kernel
theorem dX8_forget_12 : decode cX8_forget 12 = .ok (.iconst 0, 1) := by decide +kernel
theorem dX8_forget_13 : decode cX8_forget 13 = .ok (.putfield 87, 3) := by decide +kernel
theorem dX8_forget_16 : decode cX8_forget 16 = .ok (.iload_n 1, 1) := by decide +kernel
theorem dX8_forget_17 : decode cX8_forget 17 = .ok (.ireturn, 1) := by decide +kernel
theorem dX8_fits_0 : decode cX8_fits 0 = .ok (.iload_n 1, 1) := by decide +kernel
theorem dX8_fits_1 : decode cX8_fits 1 = .ok (.iconst 0, 1) := by decide +kernel
theorem dX8_fits_2 : decode cX8_fits 2 = .ok (.iconst 1, 1) := by decide +kernel
theorem dX8_fits_3 : decode cX8_fits 3 = .ok (.invokestatic 62, 3) := by decide +kernel
theorem dX8_fits_6 : decode cX8_fits 6 = .ok (.ifCond .eq 6, 3) := by decide +kernel
theorem dX8_fits_9 : decode cX8_fits 9 = .ok (.bipush (-102), 2) := by decide +kernel
theorem dX8_fits_11 : decode cX8_fits 11 = .ok (.ireturn, 1) := by decide +kernel
theorem dX8_fits_12 : decode cX8_fits 12 = .ok (.aload_n 0, 1) := by decide +kernel
theorem dX8_fits_13 : decode cX8_fits 13 = .ok (.invokevirtual 124, 3) := by decide +kernel
theorem dX8_fits_16 : decode cX8_fits 16 = .ok (.ifCond .eq 6, 3) := by decide +kernel
theorem dX8_fits_19 : decode cX8_fits 19 = .ok (.bipush (-103), 2) := by decide +kernel
theorem dX8_fits_21 : decode cX8_fits 21 = .ok (.ireturn, 1) := by decide +kernel
theorem dX8_fits_22 : decode cX8_fits 22 = .ok (.aload_n 0, 1) := by decide +kernel
theorem dX8_fits_23 : decode cX8_fits 23 = .ok (.getfield 51, 3) := by decide +kernel
theorem dX8_fits_26 : decode cX8_fits 26 = .ok (.aload_n 0, 1) := by decide +kernel
theorem dX8_fits_27 : decode cX8_fits 27 = .ok (.getfield 42, 3) := by decide +kernel
theorem dX8_fits_30 : decode cX8_fits 30 = .ok (.invokevirtual 220, 3) := by decide +kernel
theorem dX8_fits_33 : decode cX8_fits 33 = .ok (.istore_n 2, 1) := by decide +kernel
theorem dX8_fits_34 : decode cX8_fits 34 = .ok (.iload_n 1, 1) := by decide +kernel
theorem dX8_fits_35 : decode cX8_fits 35 = .ok (.ifCond .ne 7, 3) := by decide +kernel
theorem dX8_fits_38 : decode cX8_fits 38 = .ok (.iload_n 2, 1) := by decide +kernel
theorem dX8_fits_39 : decode cX8_fits 39 = .ok (.goto 7, 3) := by decide +kernel
theorem dX8_fits_42 : decode cX8_fits 42 = .ok (.iload_n 2, 1) := by decide +kernel
theorem dX8_fits_43 : decode cX8_fits 43 = .ok (.invokestatic 224, 3) := by decide +kernel
theorem dX8_fits_46 : decode cX8_fits 46 = .ok (.ireturn, 1) := by decide +kernel
theorem dX8_evenings_0 : decode cX8_evenings 0 = .ok (.iload_n 1, 1) := by decide +kernel
theorem dX8_evenings_1 : decode cX8_evenings 1 = .ok (.iconst 1, 1) := by decide +kernel
theorem dX8_evenings_2 : decode cX8_evenings 2 = .ok (.bipush 60, 2) := by decide +kernel
theorem dX8_evenings_4 : decode cX8_evenings 4 = .ok (.invokestatic 62, 3) := by decide +kernel
theorem dX8_evenings_7 : decode cX8_evenings 7 = .ok (.ifCond .ne 16, 3) := by decide +kernel
theorem dX8_evenings_10 : decode cX8_evenings 10 = .ok (.iload_n 2, 1) := by decide +kernel
theorem dX8_evenings_11 : decode cX8_evenings 11 = .ok (.ifCond .lt 12, 3) := by decide +kernel
theorem dX8_evenings_14 : decode cX8_evenings 14 = .ok (.iload_n 3, 1) := by decide +kernel
theorem dX8_evenings_15 : decode cX8_evenings 15 = .ok (.iconst 0, 1) := by decide +kernel
theorem dX8_evenings_16 : decode cX8_evenings 16 = .ok (.iconst 1, 1) := by decide +kernel
theorem dX8_evenings_17 : decode cX8_evenings 17 = .ok (.invokestatic 62, 3) := by decide +kernel
theorem dX8_evenings_20 : decode cX8_evenings 20 = .ok (.ifCond .eq 6, 3) := by decide +kernel
theorem dX8_evenings_23 : decode cX8_evenings 23 = .ok (.bipush (-102), 2) := by decide +kernel
theorem dX8_evenings_25 : decode cX8_evenings 25 = .ok (.ireturn, 1) := by decide +kernel
theorem dX8_evenings_26 : decode cX8_evenings 26 = .ok (.aload_n 0, 1) := by decide +kernel
theorem dX8_evenings_27 : decode cX8_evenings 27 = .ok (.getfield 26, 3) := by decide +kernel
theorem dX8_evenings_30 : decode cX8_evenings 30 = .ok (.getfield 86, 3) := by decide +kernel
theorem dX8_evenings_33 : decode cX8_evenings 33 = .ok (.ifCond .ne 6, 3) := by decide +kernel
theorem dX8_evenings_36 : decode cX8_evenings 36 = .ok (.bipush (-103), 2) := by decide +kernel
theorem dX8_evenings_38 : decode cX8_evenings 38 = .ok (.ireturn, 1) := by decide +kernel
theorem dX8_evenings_39 : decode cX8_evenings 39 = .ok (.aload_n 0, 1) := by decide +kernel
theorem dX8_evenings_40 : decode cX8_evenings 40 = .ok (.getfield 51, 3) := by decide +kernel
theorem dX8_evenings_43 : decode cX8_evenings 43 = .ok (.iload_n 1, 1) := by decide +kernel
theorem dX8_evenings_44 : decode cX8_evenings 44 = .ok (.iload_n 2, 1) := by decide +kernel
theorem dX8_evenings_45 : decode cX8_evenings 45 = .ok (.invokevirtual 227, 3) := by decide +kernel
theorem dX8_evenings_48 : decode cX8_evenings 48 = .ok (.istore 4, 2) := by decide +kernel
theorem dX8_evenings_50 : decode cX8_evenings 50 = .ok (.iload_n 3, 1) := by decide +kernel
theorem dX8_evenings_51 : decode cX8_evenings 51 = .ok (.ifCond .ne 8, 3) := by decide +kernel
theorem dX8_evenings_54 : decode cX8_evenings 54 = .ok (.iload 4, 2) := by decide +kernel
theorem dX8_evenings_56 : decode cX8_evenings 56 = .ok (.goto 11, 3) := by decide +kernel
theorem dX8_evenings_59 : decode cX8_evenings 59 = .ok (.aload_n 0, 1) := by decide +kernel
theorem dX8_evenings_60 : decode cX8_evenings 60 = .ok (.getfield 51, 3) := by decide +kernel
theorem dX8_evenings_63 : decode cX8_evenings 63 = .ok (.getfield 230, 3) := by decide +kernel
theorem dX8_evenings_66 : decode cX8_evenings 66 = .ok (.l2i, 1) := by decide +kernel
theorem dX8_evenings_67 : decode cX8_evenings 67 = .ok (.ireturn, 1) := by decide +kernel
theorem dX8_image_0 : decode cX8_image 0 = .ok (.aload_n 0, 1) := by decide +kernel
theorem dX8_image_1 : decode cX8_image 1 = .ok (.invokevirtual 124, 3) := by decide +kernel
theorem dX8_image_4 : decode cX8_image 4 = .ok (.ifCond .eq 6, 3) := by decide +kernel
theorem dX8_image_7 : decode cX8_image 7 = .ok (.bipush (-103), 2) := by decide +kernel
theorem dX8_image_9 : decode cX8_image 9 = .ok (.ireturn, 1) := by decide +kernel
theorem dX8_image_10 : decode cX8_image 10 = .ok (.aload_n 0, 1) := by decide +kernel
theorem dX8_image_11 : decode cX8_image 11 = .ok (.getfield 58, 3) := by decide +kernel
theorem dX8_image_14 : decode cX8_image 14 = .ok (.aload_n 0, 1) := by decide +kernel
theorem dX8_image_15 : decode cX8_image 15 = .ok (.getfield 26, 3) := by decide +kernel
theorem dX8_image_18 : decode cX8_image 18 = .ok (.aload_n 0, 1) := by decide +kernel
theorem dX8_image_19 : decode cX8_image 19 = .ok (.getfield 35, 3) := by decide +kernel
theorem dX8_image_22 : decode cX8_image 22 = .ok (.aload_n 0, 1) := by decide +kernel
theorem dX8_image_23 : decode cX8_image 23 = .ok (.getfield 42, 3) := by decide +kernel
theorem dX8_image_26 : decode cX8_image 26 = .ok (.invokevirtual 234, 3) := by decide +kernel
theorem dX8_image_29 : decode cX8_image 29 = .ok (.aload_n 0, 1) := by decide +kernel
theorem dX8_image_30 : decode cX8_image 30 = .ok (.getfield 58, 3) := by decide +kernel
theorem dX8_image_33 : decode cX8_image 33 = .ok (.aload_n 0, 1) := by decide +kernel
theorem dX8_image_34 : decode cX8_image 34 = .ok (.getfield 99, 3) := by decide +kernel
theorem dX8_image_37 : decode cX8_image 37 = .ok (.putfield 238, 3) := by decide +kernel
theorem dX8_image_40 : decode cX8_image 40 = .ok (.aload_n 0, 1) := by decide +kernel
theorem dX8_image_41 : decode cX8_image 41 = .ok (.getfield 35, 3) := by decide +kernel
theorem dX8_image_44 : decode cX8_image 44 = .ok (.invokevirtual 173, 3) := by decide +kernel
theorem dX8_image_47 : decode cX8_image 47 = .ok (.ireturn, 1) := by decide +kernel
theorem dX8_restore_0 : decode cX8_restore 0 = .ok (.aload_n 0, 1) := by decide +kernel
theorem dX8_restore_1 : decode cX8_restore 1 = .ok (.invokevirtual 124, 3) := by decide +kernel
theorem dX8_restore_4 : decode cX8_restore 4 = .ok (.ifCond .ne 34, 3) := by decide +kernel
theorem dX8_restore_7 : decode cX8_restore 7 = .ok (.aload_n 0, 1) := by decide +kernel
theorem dX8_restore_8 : decode cX8_restore 8 = .ok (.getfield 58, 3) := by decide +kernel
theorem dX8_restore_11 : decode cX8_restore 11 = .ok (.getfield 238, 3) := by decide +kernel
theorem dX8_restore_14 : decode cX8_restore 14 = .ok (.aload_n 0, 1) := by decide +kernel
theorem dX8_restore_15 : decode cX8_restore 15 = .ok (.getfield 99, 3) := by decide +kernel
theorem dX8_restore_18 : decode cX8_restore 18 = .ok (.if_icmp .ne 20, 3) := by decide +kernel
theorem dX8_restore_21 : decode cX8_restore 21 = .ok (.aload_n 0, 1) := by decide +kernel
theorem dX8_restore_22 : decode cX8_restore 22 = .ok (.getfield 58, 3) := by decide +kernel
theorem dX8_restore_25 : decode cX8_restore 25 = .ok (.getfield 241, 3) := by decide +kernel
theorem dX8_restore_28 : decode cX8_restore 28 = .ok (.aload_n 0, 1) := by decide +kernel
theorem dX8_restore_29 : decode cX8_restore 29 = .ok (.getfield 26, 3) := by decide +kernel
theorem dX8_restore_32 : decode cX8_restore 32 = .ok (.getfield 86, 3) := by decide +kernel
theorem dX8_restore_35 : decode cX8_restore 35 = .ok (.if_icmp .eq 6, 3) := by decide +kernel
theorem dX8_restore_38 : decode cX8_restore 38 = .ok (.bipush (-103), 2) := by decide +kernel
theorem dX8_restore_40 : decode cX8_restore 40 = .ok (.ireturn, 1) := by decide +kernel
theorem dX8_restore_41 : decode cX8_restore 41 = .ok (.aload_n 0, 1) := by decide +kernel
theorem dX8_restore_42 : decode cX8_restore 42 = .ok (.getfield 58, 3) := by decide +kernel
theorem dX8_restore_45 : decode cX8_restore 45 = .ok (.aload_n 0, 1) := by decide +kernel
theorem dX8_restore_46 : decode cX8_restore 46 = .ok (.getfield 26, 3) := by decide +kernel
theorem dX8_restore_49 : decode cX8_restore 49 = .ok (.aload_n 0, 1) := by decide +kernel
theorem dX8_restore_50 : decode cX8_restore 50 = .ok (.getfield 35, 3) := by decide +kernel
theorem dX8_restore_53 : decode cX8_restore 53 = .ok (.aload_n 0, 1) := by decide +kernel
theorem dX8_restore_54 : decode cX8_restore 54 = .ok (.getfield 42, 3) := by decide +kernel
theorem dX8_restore_57 : decode cX8_restore 57 = .ok (.invokevirtual 244, 3) := by decide +kernel
theorem dX8_restore_60 : decode cX8_restore 60 = .ok (.aload_n 0, 1) := by decide +kernel
theorem dX8_restore_61 : decode cX8_restore 61 = .ok (.getfield 35, 3) := by decide +kernel
theorem dX8_restore_64 : decode cX8_restore 64 = .ok (.invokevirtual 173, 3) := by decide +kernel
theorem dX8_restore_67 : decode cX8_restore 67 = .ok (.ireturn, 1) := by decide +kernel
theorem dX8_count_0 : decode cX8_count 0 = .ok (.iload_n 1, 1) := by decide +kernel
theorem dX8_count_1 : decode cX8_count 1 = .ok (.tableswitch 117 0 8 #[51, 59, 67, 75, 83, 91, 99, 107, 112], 51) := by decide +kernel
theorem dX8_count_52 : decode cX8_count 52 = .ok (.aload_n 0, 1) := by decide +kernel
theorem dX8_count_53 : decode cX8_count 53 = .ok (.getfield 19, 3) := by decide +kernel
theorem dX8_count_56 : decode cX8_count 56 = .ok (.getfield 102, 3) := by decide +kernel
theorem dX8_count_59 : decode cX8_count 59 = .ok (.ireturn, 1) := by decide +kernel
theorem dX8_count_60 : decode cX8_count 60 = .ok (.aload_n 0, 1) := by decide +kernel
theorem dX8_count_61 : decode cX8_count 61 = .ok (.getfield 19, 3) := by decide +kernel
theorem dX8_count_64 : decode cX8_count 64 = .ok (.getfield 88, 3) := by decide +kernel
theorem dX8_count_67 : decode cX8_count 67 = .ok (.ireturn, 1) := by decide +kernel
theorem dX8_count_68 : decode cX8_count 68 = .ok (.aload_n 0, 1) := by decide +kernel
theorem dX8_count_69 : decode cX8_count 69 = .ok (.getfield 26, 3) := by decide +kernel
theorem dX8_count_72 : decode cX8_count 72 = .ok (.getfield 86, 3) := by decide +kernel
theorem dX8_count_75 : decode cX8_count 75 = .ok (.ireturn, 1) := by decide +kernel
theorem dX8_count_76 : decode cX8_count 76 = .ok (.aload_n 0, 1) := by decide +kernel
theorem dX8_count_77 : decode cX8_count 77 = .ok (.getfield 35, 3) := by decide +kernel
theorem dX8_count_80 : decode cX8_count 80 = .ok (.invokevirtual 173, 3) := by decide +kernel
theorem dX8_count_83 : decode cX8_count 83 = .ok (.ireturn, 1) := by decide +kernel
theorem dX8_count_84 : decode cX8_count 84 = .ok (.aload_n 0, 1) := by decide +kernel
theorem dX8_count_85 : decode cX8_count 85 = .ok (.getfield 35, 3) := by decide +kernel
theorem dX8_count_88 : decode cX8_count 88 = .ok (.invokevirtual 247, 3) := by decide +kernel
theorem dX8_count_91 : decode cX8_count 91 = .ok (.ireturn, 1) := by decide +kernel
theorem dX8_count_92 : decode cX8_count 92 = .ok (.aload_n 0, 1) := by decide +kernel
theorem dX8_count_93 : decode cX8_count 93 = .ok (.getfield 42, 3) := by decide +kernel
theorem dX8_count_96 : decode cX8_count 96 = .ok (.getfield 87, 3) := by decide +kernel
theorem dX8_count_99 : decode cX8_count 99 = .ok (.ireturn, 1) := by decide +kernel
theorem dX8_count_100 : decode cX8_count 100 = .ok (.aload_n 0, 1) := by decide +kernel
theorem dX8_count_101 : decode cX8_count 101 = .ok (.getfield 10, 3) := by decide +kernel
theorem dX8_count_104 : decode cX8_count 104 = .ok (.getfield 66, 3) := by decide +kernel
theorem dX8_count_107 : decode cX8_count 107 = .ok (.ireturn, 1) := by decide +kernel
theorem dX8_count_108 : decode cX8_count 108 = .ok (.aload_n 0, 1) := by decide +kernel
theorem dX8_count_109 : decode cX8_count 109 = .ok (.getfield 99, 3) := by decide +kernel
theorem dX8_count_112 : decode cX8_count 112 = .ok (.ireturn, 1) := by decide +kernel
theorem dX8_count_113 : decode cX8_count 113 = .ok (.aload_n 0, 1) := by decide +kernel
theorem dX8_count_114 : decode cX8_count 114 = .ok (.getfield 186, 3) := by decide +kernel
theorem dX8_count_117 : decode cX8_count 117 = .ok (.ireturn, 1) := by decide +kernel
theorem dX8_count_118 : decode cX8_count 118 = .ok (.bipush (-102), 2) := by decide +kernel
theorem dX8_count_120 : decode cX8_count 120 = .ok (.ireturn, 1) := by decide +kernel
theorem dX8_digest_0 : decode cX8_digest 0 = .ok (.aload_n 0, 1) := by decide +kernel
theorem dX8_digest_1 : decode cX8_digest 1 = .ok (.aload_n 0, 1) := by decide +kernel
theorem dX8_digest_2 : decode cX8_digest 2 = .ok (.ldc2_w 250, 3) := by decide +kernel
theorem dX8_digest_5 : decode cX8_digest 5 = .ok (.invokevirtual 252, 3) := by decide +kernel
theorem dX8_digest_8 : decode cX8_digest 8 = .ok (.invokevirtual 256, 3) := by decide +kernel
theorem dX8_digest_11 : decode cX8_digest 11 = .ok (.lstore_n 1, 1) := by decide +kernel
theorem dX8_digest_12 : decode cX8_digest 12 = .ok (.aload_n 0, 1) := by decide +kernel
theorem dX8_digest_13 : decode cX8_digest 13 = .ok (.invokevirtual 124, 3) := by decide +kernel
theorem dX8_digest_16 : decode cX8_digest 16 = .ok (.ifCond .ne 46, 3) := by decide +kernel
theorem dX8_digest_19 : decode cX8_digest 19 = .ok (.lload_n 1, 1) := by decide +kernel
theorem dX8_digest_20 : decode cX8_digest 20 = .ok (.aload_n 0, 1) := by decide +kernel
theorem dX8_digest_21 : decode cX8_digest 21 = .ok (.invokevirtual 259, 3) := by decide +kernel
theorem dX8_digest_24 : decode cX8_digest 24 = .ok (.i2l, 1) := by decide +kernel
theorem dX8_digest_25 : decode cX8_digest 25 = .ok (.invokestatic 262, 3) := by decide +kernel
theorem dX8_digest_28 : decode cX8_digest 28 = .ok (.lstore_n 1, 1) := by decide +kernel
theorem dX8_digest_29 : decode cX8_digest 29 = .ok (.lload_n 1, 1) := by decide +kernel
theorem dX8_digest_30 : decode cX8_digest 30 = .ok (.aload_n 0, 1) := by decide +kernel
theorem dX8_digest_31 : decode cX8_digest 31 = .ok (.iconst 0, 1) := by decide +kernel
theorem dX8_digest_32 : decode cX8_digest 32 = .ok (.invokevirtual 266, 3) := by decide +kernel
theorem dX8_digest_35 : decode cX8_digest 35 = .ok (.i2l, 1) := by decide +kernel
theorem dX8_digest_36 : decode cX8_digest 36 = .ok (.invokestatic 262, 3) := by decide +kernel
theorem dX8_digest_39 : decode cX8_digest 39 = .ok (.lstore_n 1, 1) := by decide +kernel
theorem dX8_digest_40 : decode cX8_digest 40 = .ok (.lload_n 1, 1) := by decide +kernel
theorem dX8_digest_41 : decode cX8_digest 41 = .ok (.aload_n 0, 1) := by decide +kernel
theorem dX8_digest_42 : decode cX8_digest 42 = .ok (.iconst 1, 1) := by decide +kernel
theorem dX8_digest_43 : decode cX8_digest 43 = .ok (.invokevirtual 266, 3) := by decide +kernel
theorem dX8_digest_46 : decode cX8_digest 46 = .ok (.i2l, 1) := by decide +kernel
theorem dX8_digest_47 : decode cX8_digest 47 = .ok (.invokestatic 262, 3) := by decide +kernel
theorem dX8_digest_50 : decode cX8_digest 50 = .ok (.lstore_n 1, 1) := by decide +kernel
theorem dX8_digest_51 : decode cX8_digest 51 = .ok (.lload_n 1, 1) := by decide +kernel
theorem dX8_digest_52 : decode cX8_digest 52 = .ok (.aload_n 0, 1) := by decide +kernel
theorem dX8_digest_53 : decode cX8_digest 53 = .ok (.iconst 0, 1) := by decide +kernel
theorem dX8_digest_54 : decode cX8_digest 54 = .ok (.invokevirtual 269, 3) := by decide +kernel
theorem dX8_digest_57 : decode cX8_digest 57 = .ok (.i2l, 1) := by decide +kernel
theorem dX8_digest_58 : decode cX8_digest 58 = .ok (.invokestatic 262, 3) := by decide +kernel
theorem dX8_digest_61 : decode cX8_digest 61 = .ok (.lstore_n 1, 1) := by decide +kernel
theorem dX8_digest_62 : decode cX8_digest 62 = .ok (.aload_n 0, 1) := by decide +kernel
theorem dX8_digest_63 : decode cX8_digest 63 = .ok (.getfield 26, 3) := by decide +kernel
theorem dX8_digest_66 : decode cX8_digest 66 = .ok (.getfield 86, 3) := by decide +kernel
theorem dX8_digest_69 : decode cX8_digest 69 = .ok (.ifCond .le 27, 3) := by decide +kernel
theorem dX8_digest_72 : decode cX8_digest 72 = .ok (.lload_n 1, 1) := by decide +kernel
theorem dX8_digest_73 : decode cX8_digest 73 = .ok (.aload_n 0, 1) := by decide +kernel
theorem dX8_digest_74 : decode cX8_digest 74 = .ok (.iconst (-1), 1) := by decide +kernel
theorem dX8_digest_75 : decode cX8_digest 75 = .ok (.iconst 0, 1) := by decide +kernel
theorem dX8_digest_76 : decode cX8_digest 76 = .ok (.invokevirtual 272, 3) := by decide +kernel
theorem dX8_digest_79 : decode cX8_digest 79 = .ok (.i2l, 1) := by decide +kernel
theorem dX8_digest_80 : decode cX8_digest 80 = .ok (.invokestatic 262, 3) := by decide +kernel
theorem dX8_digest_83 : decode cX8_digest 83 = .ok (.lstore_n 1, 1) := by decide +kernel
theorem dX8_digest_84 : decode cX8_digest 84 = .ok (.lload_n 1, 1) := by decide +kernel
theorem dX8_digest_85 : decode cX8_digest 85 = .ok (.aload_n 0, 1) := by decide +kernel
theorem dX8_digest_86 : decode cX8_digest 86 = .ok (.iconst (-1), 1) := by decide +kernel
theorem dX8_digest_87 : decode cX8_digest 87 = .ok (.iconst 1, 1) := by decide +kernel
theorem dX8_digest_88 : decode cX8_digest 88 = .ok (.invokevirtual 272, 3) := by decide +kernel
theorem dX8_digest_91 : decode cX8_digest 91 = .ok (.i2l, 1) := by decide +kernel
theorem dX8_digest_92 : decode cX8_digest 92 = .ok (.invokestatic 262, 3) := by decide +kernel
theorem dX8_digest_95 : decode cX8_digest 95 = .ok (.lstore_n 1, 1) := by decide +kernel
theorem dX8_digest_96 : decode cX8_digest 96 = .ok (.iconst 0, 1) := by decide +kernel
theorem dX8_digest_97 : decode cX8_digest 97 = .ok (.istore_n 3, 1) := by decide +kernel
theorem dX8_digest_98 : decode cX8_digest 98 = .ok (.iload_n 3, 1) := by decide +kernel
theorem dX8_digest_99 : decode cX8_digest 99 = .ok (.aload_n 0, 1) := by decide +kernel
theorem dX8_digest_100 : decode cX8_digest 100 = .ok (.getfield 10, 3) := by decide +kernel
theorem dX8_digest_103 : decode cX8_digest 103 = .ok (.getfield 66, 3) := by decide +kernel
theorem dX8_digest_106 : decode cX8_digest 106 = .ok (.if_icmp .ge 24, 3) := by decide +kernel
theorem dX8_digest_109 : decode cX8_digest 109 = .ok (.lload_n 1, 1) := by decide +kernel
theorem dX8_digest_110 : decode cX8_digest 110 = .ok (.aload_n 0, 1) := by decide +kernel
theorem dX8_digest_111 : decode cX8_digest 111 = .ok (.getfield 10, 3) := by decide +kernel
theorem dX8_digest_114 : decode cX8_digest 114 = .ok (.getfield 70, 3) := by decide +kernel
theorem dX8_digest_117 : decode cX8_digest 117 = .ok (.iload_n 3, 1) := by decide +kernel
theorem dX8_digest_118 : decode cX8_digest 118 = .ok (.iaload, 1) := by decide +kernel
theorem dX8_digest_119 : decode cX8_digest 119 = .ok (.i2l, 1) := by decide +kernel
theorem dX8_digest_120 : decode cX8_digest 120 = .ok (.invokestatic 262, 3) := by decide +kernel
theorem dX8_digest_123 : decode cX8_digest 123 = .ok (.lstore_n 1, 1) := by decide +kernel
theorem dX8_digest_124 : decode cX8_digest 124 = .ok (.iinc 3 1, 3) := by decide +kernel
theorem dX8_digest_127 : decode cX8_digest 127 = .ok (.goto (-29), 3) := by decide +kernel
theorem dX8_digest_130 : decode cX8_digest 130 = .ok (.iconst 0, 1) := by decide +kernel
theorem dX8_digest_131 : decode cX8_digest 131 = .ok (.istore_n 3, 1) := by decide +kernel
theorem dX8_digest_132 : decode cX8_digest 132 = .ok (.iload_n 3, 1) := by decide +kernel
theorem dX8_digest_133 : decode cX8_digest 133 = .ok (.bipush 9, 2) := by decide +kernel
theorem dX8_digest_135 : decode cX8_digest 135 = .ok (.if_icmp .ge 20, 3) := by decide +kernel
theorem dX8_digest_138 : decode cX8_digest 138 = .ok (.lload_n 1, 1) := by decide +kernel
theorem dX8_digest_139 : decode cX8_digest 139 = .ok (.aload_n 0, 1) := by decide +kernel
theorem dX8_digest_140 : decode cX8_digest 140 = .ok (.iload_n 3, 1) := by decide +kernel
theorem dX8_digest_141 : decode cX8_digest 141 = .ok (.invokevirtual 275, 3) := by decide +kernel
theorem dX8_digest_144 : decode cX8_digest 144 = .ok (.i2l, 1) := by decide +kernel
theorem dX8_digest_145 : decode cX8_digest 145 = .ok (.invokestatic 262, 3) := by decide +kernel
theorem dX8_digest_148 : decode cX8_digest 148 = .ok (.lstore_n 1, 1) := by decide +kernel
theorem dX8_digest_149 : decode cX8_digest 149 = .ok (.iinc 3 1, 3) := by decide +kernel
theorem dX8_digest_152 : decode cX8_digest 152 = .ok (.goto (-20), 3) := by decide +kernel
theorem dX8_digest_155 : decode cX8_digest 155 = .ok (.lload_n 1, 1) := by decide +kernel
theorem dX8_digest_156 : decode cX8_digest 156 = .ok (.lreturn, 1) := by decide +kernel
theorem dX8_mixedDishes_0 : decode cX8_mixedDishes 0 = .ok (.lload_n 1, 1) := by decide +kernel
theorem dX8_mixedDishes_1 : decode cX8_mixedDishes 1 = .ok (.lstore_n 3, 1) := by decide +kernel
theorem dX8_mixedDishes_2 : decode cX8_mixedDishes 2 = .ok (.iconst 0, 1) := by decide +kernel
theorem dX8_mixedDishes_3 : decode cX8_mixedDishes 3 = .ok (.istore 5, 2) := by decide +kernel
theorem dX8_mixedDishes_5 : decode cX8_mixedDishes 5 = .ok (.iload 5, 2) := by decide +kernel
theorem dX8_mixedDishes_7 : decode cX8_mixedDishes 7 = .ok (.aload_n 0, 1) := by decide +kernel
theorem dX8_mixedDishes_8 : decode cX8_mixedDishes 8 = .ok (.getfield 19, 3) := by decide +kernel
theorem dX8_mixedDishes_11 : decode cX8_mixedDishes 11 = .ok (.getfield 102, 3) := by decide +kernel
theorem dX8_mixedDishes_14 : decode cX8_mixedDishes 14 = .ok (.if_icmp .ge 38, 3) := by decide +kernel
theorem dX8_mixedDishes_17 : decode cX8_mixedDishes 17 = .ok (.iconst 0, 1) := by decide +kernel
theorem dX8_mixedDishes_18 : decode cX8_mixedDishes 18 = .ok (.istore 6, 2) := by decide +kernel
theorem dX8_mixedDishes_20 : decode cX8_mixedDishes 20 = .ok (.iload 6, 2) := by decide +kernel
theorem dX8_mixedDishes_22 : decode cX8_mixedDishes 22 = .ok (.iconst 4, 1) := by decide +kernel
theorem dX8_mixedDishes_23 : decode cX8_mixedDishes 23 = .ok (.if_icmp .ge 23, 3) := by decide +kernel
theorem dX8_mixedDishes_26 : decode cX8_mixedDishes 26 = .ok (.lload_n 3, 1) := by decide +kernel
theorem dX8_mixedDishes_27 : decode cX8_mixedDishes 27 = .ok (.aload_n 0, 1) := by decide +kernel
theorem dX8_mixedDishes_28 : decode cX8_mixedDishes 28 = .ok (.iload 5, 2) := by decide +kernel
theorem dX8_mixedDishes_30 : decode cX8_mixedDishes 30 = .ok (.iload 6, 2) := by decide +kernel
theorem dX8_mixedDishes_32 : decode cX8_mixedDishes 32 = .ok (.invokevirtual 278, 3) := by decide +kernel
theorem dX8_mixedDishes_35 : decode cX8_mixedDishes 35 = .ok (.i2l, 1) := by decide +kernel
theorem dX8_mixedDishes_36 : decode cX8_mixedDishes 36 = .ok (.invokestatic 262, 3) := by decide +kernel
theorem dX8_mixedDishes_39 : decode cX8_mixedDishes 39 = .ok (.lstore_n 3, 1) := by decide +kernel
theorem dX8_mixedDishes_40 : decode cX8_mixedDishes 40 = .ok (.iinc 6 1, 3) := by decide +kernel
theorem dX8_mixedDishes_43 : decode cX8_mixedDishes 43 = .ok (.goto (-23), 3) := by decide +kernel
theorem dX8_mixedDishes_46 : decode cX8_mixedDishes 46 = .ok (.iinc 5 1, 3) := by decide +kernel
theorem dX8_mixedDishes_49 : decode cX8_mixedDishes 49 = .ok (.goto (-44), 3) := by decide +kernel
theorem dX8_mixedDishes_52 : decode cX8_mixedDishes 52 = .ok (.lload_n 3, 1) := by decide +kernel
theorem dX8_mixedDishes_53 : decode cX8_mixedDishes 53 = .ok (.lreturn, 1) := by decide +kernel
theorem dX8_mixedGuests_0 : decode cX8_mixedGuests 0 = .ok (.lload_n 1, 1) := by decide +kernel
theorem dX8_mixedGuests_1 : decode cX8_mixedGuests 1 = .ok (.lstore_n 3, 1) := by decide +kernel
theorem dX8_mixedGuests_2 : decode cX8_mixedGuests 2 = .ok (.iconst 0, 1) := by decide +kernel
theorem dX8_mixedGuests_3 : decode cX8_mixedGuests 3 = .ok (.istore 5, 2) := by decide +kernel
theorem dX8_mixedGuests_5 : decode cX8_mixedGuests 5 = .ok (.iload 5, 2) := by decide +kernel
theorem dX8_mixedGuests_7 : decode cX8_mixedGuests 7 = .ok (.aload_n 0, 1) := by decide +kernel
theorem dX8_mixedGuests_8 : decode cX8_mixedGuests 8 = .ok (.getfield 26, 3) := by decide +kernel
theorem dX8_mixedGuests_11 : decode cX8_mixedGuests 11 = .ok (.getfield 86, 3) := by decide +kernel
theorem dX8_mixedGuests_14 : decode cX8_mixedGuests 14 = .ok (.if_icmp .ge 94, 3) := by decide +kernel
theorem dX8_mixedGuests_17 : decode cX8_mixedGuests 17 = .ok (.iconst 0, 1) := by decide +kernel
theorem dX8_mixedGuests_18 : decode cX8_mixedGuests 18 = .ok (.istore 6, 2) := by decide +kernel
theorem dX8_mixedGuests_20 : decode cX8_mixedGuests 20 = .ok (.iload 6, 2) := by decide +kernel
theorem dX8_mixedGuests_22 : decode cX8_mixedGuests 22 = .ok (.bipush 6, 2) := by decide +kernel
theorem dX8_mixedGuests_24 : decode cX8_mixedGuests 24 = .ok (.if_icmp .ge 23, 3) := by decide +kernel
theorem dX8_mixedGuests_27 : decode cX8_mixedGuests 27 = .ok (.lload_n 3, 1) := by decide +kernel
theorem dX8_mixedGuests_28 : decode cX8_mixedGuests 28 = .ok (.aload_n 0, 1) := by decide +kernel
theorem dX8_mixedGuests_29 : decode cX8_mixedGuests 29 = .ok (.iload 5, 2) := by decide +kernel
theorem dX8_mixedGuests_31 : decode cX8_mixedGuests 31 = .ok (.iload 6, 2) := by decide +kernel
theorem dX8_mixedGuests_33 : decode cX8_mixedGuests 33 = .ok (.invokevirtual 281, 3) := by decide +kernel
theorem dX8_mixedGuests_36 : decode cX8_mixedGuests 36 = .ok (.i2l, 1) := by decide +kernel
theorem dX8_mixedGuests_37 : decode cX8_mixedGuests 37 = .ok (.invokestatic 262, 3) := by decide +kernel
theorem dX8_mixedGuests_40 : decode cX8_mixedGuests 40 = .ok (.lstore_n 3, 1) := by decide +kernel
theorem dX8_mixedGuests_41 : decode cX8_mixedGuests 41 = .ok (.iinc 6 1, 3) := by decide +kernel
theorem dX8_mixedGuests_44 : decode cX8_mixedGuests 44 = .ok (.goto (-24), 3) := by decide +kernel
theorem dX8_mixedGuests_47 : decode cX8_mixedGuests 47 = .ok (.iconst 0, 1) := by decide +kernel
theorem dX8_mixedGuests_48 : decode cX8_mixedGuests 48 = .ok (.istore 6, 2) := by decide +kernel
theorem dX8_mixedGuests_50 : decode cX8_mixedGuests 50 = .ok (.iload 6, 2) := by decide +kernel
theorem dX8_mixedGuests_52 : decode cX8_mixedGuests 52 = .ok (.aload_n 0, 1) := by decide +kernel
theorem dX8_mixedGuests_53 : decode cX8_mixedGuests 53 = .ok (.getfield 19, 3) := by decide +kernel
theorem dX8_mixedGuests_56 : decode cX8_mixedGuests 56 = .ok (.getfield 102, 3) := by decide +kernel
theorem dX8_mixedGuests_59 : decode cX8_mixedGuests 59 = .ok (.if_icmp .ge 31, 3) := by decide +kernel
theorem dX8_mixedGuests_62 : decode cX8_mixedGuests 62 = .ok (.lload_n 3, 1) := by decide +kernel
theorem dX8_mixedGuests_63 : decode cX8_mixedGuests 63 = .ok (.aload_n 0, 1) := by decide +kernel
theorem dX8_mixedGuests_64 : decode cX8_mixedGuests 64 = .ok (.getfield 26, 3) := by decide +kernel
theorem dX8_mixedGuests_67 : decode cX8_mixedGuests 67 = .ok (.getfield 127, 3) := by decide +kernel
theorem dX8_mixedGuests_70 : decode cX8_mixedGuests 70 = .ok (.iload 5, 2) := by decide +kernel
theorem dX8_mixedGuests_72 : decode cX8_mixedGuests 72 = .ok (.aaload, 1) := by decide +kernel
theorem dX8_mixedGuests_73 : decode cX8_mixedGuests 73 = .ok (.getfield 161, 3) := by decide +kernel
theorem dX8_mixedGuests_76 : decode cX8_mixedGuests 76 = .ok (.iload 6, 2) := by decide +kernel
theorem dX8_mixedGuests_78 : decode cX8_mixedGuests 78 = .ok (.iaload, 1) := by decide +kernel
theorem dX8_mixedGuests_79 : decode cX8_mixedGuests 79 = .ok (.i2l, 1) := by decide +kernel
theorem dX8_mixedGuests_80 : decode cX8_mixedGuests 80 = .ok (.invokestatic 262, 3) := by decide +kernel
theorem dX8_mixedGuests_83 : decode cX8_mixedGuests 83 = .ok (.lstore_n 3, 1) := by decide +kernel
theorem dX8_mixedGuests_84 : decode cX8_mixedGuests 84 = .ok (.iinc 6 1, 3) := by decide +kernel
theorem dX8_mixedGuests_87 : decode cX8_mixedGuests 87 = .ok (.goto (-37), 3) := by decide +kernel
theorem dX8_mixedGuests_90 : decode cX8_mixedGuests 90 = .ok (.lload_n 3, 1) := by decide +kernel
theorem dX8_mixedGuests_91 : decode cX8_mixedGuests 91 = .ok (.aload_n 0, 1) := by decide +kernel
theorem dX8_mixedGuests_92 : decode cX8_mixedGuests 92 = .ok (.iload 5, 2) := by decide +kernel
theorem dX8_mixedGuests_94 : decode cX8_mixedGuests 94 = .ok (.invokevirtual 284, 3) := by decide +kernel
theorem dX8_mixedGuests_97 : decode cX8_mixedGuests 97 = .ok (.i2l, 1) := by decide +kernel
theorem dX8_mixedGuests_98 : decode cX8_mixedGuests 98 = .ok (.invokestatic 262, 3) := by decide +kernel
theorem dX8_mixedGuests_101 : decode cX8_mixedGuests 101 = .ok (.lstore_n 3, 1) := by decide +kernel
theorem dX8_mixedGuests_102 : decode cX8_mixedGuests 102 = .ok (.iinc 5 1, 3) := by decide +kernel
theorem dX8_mixedGuests_105 : decode cX8_mixedGuests 105 = .ok (.goto (-100), 3) := by decide +kernel
theorem dX8_mixedGuests_108 : decode cX8_mixedGuests 108 = .ok (.lload_n 3, 1) := by decide +kernel
theorem dX8_mixedGuests_109 : decode cX8_mixedGuests 109 = .ok (.lreturn, 1) := by decide +kernel
theorem dX8_mixed_0 : decode cX8_mixed 0 = .ok (.ldc2_w 287, 3) := by decide +kernel
theorem dX8_mixed_3 : decode cX8_mixed 3 = .ok (.lload_n 0, 1) := by decide +kernel
theorem dX8_mixed_4 : decode cX8_mixed 4 = .ok (.lmul, 1) := by decide +kernel
theorem dX8_mixed_5 : decode cX8_mixed 5 = .ok (.lload_n 2, 1) := by decide +kernel
theorem dX8_mixed_6 : decode cX8_mixed 6 = .ok (.ladd, 1) := by decide +kernel
theorem dX8_mixed_7 : decode cX8_mixed 7 = .ok (.lreturn, 1) := by decide +kernel
theorem dX8_onlyLoath_0 : decode cX8_onlyLoath 0 = .ok (.iconst 0, 1) := by decide +kernel
theorem dX8_onlyLoath_1 : decode cX8_onlyLoath 1 = .ok (.istore_n 1, 1) := by decide +kernel
theorem dX8_onlyLoath_2 : decode cX8_onlyLoath 2 = .ok (.iload_n 1, 1) := by decide +kernel
theorem dX8_onlyLoath_3 : decode cX8_onlyLoath 3 = .ok (.bipush 10, 2) := by decide +kernel
theorem dX8_onlyLoath_5 : decode cX8_onlyLoath 5 = .ok (.if_icmp .ge 18, 3) := by decide +kernel
theorem dX8_onlyLoath_8 : decode cX8_onlyLoath 8 = .ok (.iload_n 0, 1) := by decide +kernel
theorem dX8_onlyLoath_9 : decode cX8_onlyLoath 9 = .ok (.iconst 1, 1) := by decide +kernel
theorem dX8_onlyLoath_10 : decode cX8_onlyLoath 10 = .ok (.iload_n 1, 1) := by decide +kernel
theorem dX8_onlyLoath_11 : decode cX8_onlyLoath 11 = .ok (.ishl, 1) := by decide +kernel
theorem dX8_onlyLoath_12 : decode cX8_onlyLoath 12 = .ok (.if_icmp .ne 5, 3) := by decide +kernel
theorem dX8_onlyLoath_15 : decode cX8_onlyLoath 15 = .ok (.iload_n 1, 1) := by decide +kernel
theorem dX8_onlyLoath_16 : decode cX8_onlyLoath 16 = .ok (.ireturn, 1) := by decide +kernel
theorem dX8_onlyLoath_17 : decode cX8_onlyLoath 17 = .ok (.iinc 1 1, 3) := by decide +kernel
theorem dX8_onlyLoath_20 : decode cX8_onlyLoath 20 = .ok (.goto (-18), 3) := by decide +kernel
theorem dX8_onlyLoath_23 : decode cX8_onlyLoath 23 = .ok (.iconst (-1), 1) := by decide +kernel
theorem dX8_onlyLoath_24 : decode cX8_onlyLoath 24 = .ok (.ireturn, 1) := by decide +kernel
theorem dX8_isOutside_0 : decode cX8_isOutside 0 = .ok (.iload_n 0, 1) := by decide +kernel
theorem dX8_isOutside_1 : decode cX8_isOutside 1 = .ok (.iload_n 1, 1) := by decide +kernel
theorem dX8_isOutside_2 : decode cX8_isOutside 2 = .ok (.if_icmp .lt 8, 3) := by decide +kernel
theorem dX8_isOutside_5 : decode cX8_isOutside 5 = .ok (.iload_n 0, 1) := by decide +kernel
theorem dX8_isOutside_6 : decode cX8_isOutside 6 = .ok (.iload_n 2, 1) := by decide +kernel
theorem dX8_isOutside_7 : decode cX8_isOutside 7 = .ok (.if_icmp .le 7, 3) := by decide +kernel
theorem dX8_isOutside_10 : decode cX8_isOutside 10 = .ok (.iconst 1, 1) := by decide +kernel
theorem dX8_isOutside_11 : decode cX8_isOutside 11 = .ok (.goto 4, 3) := by decide +kernel
theorem dX8_isOutside_14 : decode cX8_isOutside 14 = .ok (.iconst 0, 1) := by decide +kernel
theorem dX8_isOutside_15 : decode cX8_isOutside 15 = .ok (.ireturn, 1) := by decide +kernel
theorem dX8_noCard_0 : decode cX8_noCard 0 = .ok (.aload_n 0, 1) := by decide +kernel
theorem dX8_noCard_1 : decode cX8_noCard 1 = .ok (.getfield 19, 3) := by decide +kernel
theorem dX8_noCard_4 : decode cX8_noCard 4 = .ok (.getfield 102, 3) := by decide +kernel
theorem dX8_noCard_7 : decode cX8_noCard 7 = .ok (.ifCond .ne 7, 3) := by decide +kernel
theorem dX8_noCard_10 : decode cX8_noCard 10 = .ok (.iconst 1, 1) := by decide +kernel
theorem dX8_noCard_11 : decode cX8_noCard 11 = .ok (.goto 4, 3) := by decide +kernel
theorem dX8_noCard_14 : decode cX8_noCard 14 = .ok (.iconst 0, 1) := by decide +kernel
theorem dX8_noCard_15 : decode cX8_noCard 15 = .ok (.ireturn, 1) := by decide +kernel
theorem dX8_noDish_0 : decode cX8_noDish 0 = .ok (.iload_n 1, 1) := by decide +kernel
theorem dX8_noDish_1 : decode cX8_noDish 1 = .ok (.ifCond .lt 14, 3) := by decide +kernel
theorem dX8_noDish_4 : decode cX8_noDish 4 = .ok (.iload_n 1, 1) := by decide +kernel
theorem dX8_noDish_5 : decode cX8_noDish 5 = .ok (.aload_n 0, 1) := by decide +kernel
theorem dX8_noDish_6 : decode cX8_noDish 6 = .ok (.getfield 19, 3) := by decide +kernel
theorem dX8_noDish_9 : decode cX8_noDish 9 = .ok (.getfield 102, 3) := by decide +kernel
theorem dX8_noDish_12 : decode cX8_noDish 12 = .ok (.if_icmp .lt 7, 3) := by decide +kernel
theorem dX8_noDish_15 : decode cX8_noDish 15 = .ok (.iconst 1, 1) := by decide +kernel
theorem dX8_noDish_16 : decode cX8_noDish 16 = .ok (.goto 4, 3) := by decide +kernel
theorem dX8_noDish_19 : decode cX8_noDish 19 = .ok (.iconst 0, 1) := by decide +kernel
theorem dX8_noDish_20 : decode cX8_noDish 20 = .ok (.ireturn, 1) := by decide +kernel
theorem dX8_noGuest_0 : decode cX8_noGuest 0 = .ok (.iload_n 1, 1) := by decide +kernel
theorem dX8_noGuest_1 : decode cX8_noGuest 1 = .ok (.ifCond .lt 14, 3) := by decide +kernel
theorem dX8_noGuest_4 : decode cX8_noGuest 4 = .ok (.iload_n 1, 1) := by decide +kernel
theorem dX8_noGuest_5 : decode cX8_noGuest 5 = .ok (.aload_n 0, 1) := by decide +kernel
theorem dX8_noGuest_6 : decode cX8_noGuest 6 = .ok (.getfield 26, 3) := by decide +kernel
theorem dX8_noGuest_9 : decode cX8_noGuest 9 = .ok (.getfield 86, 3) := by decide +kernel
theorem dX8_noGuest_12 : decode cX8_noGuest 12 = .ok (.if_icmp .lt 7, 3) := by decide +kernel
theorem dX8_noGuest_15 : decode cX8_noGuest 15 = .ok (.iconst 1, 1) := by decide +kernel
theorem dX8_noGuest_16 : decode cX8_noGuest 16 = .ok (.goto 4, 3) := by decide +kernel
theorem dX8_noGuest_19 : decode cX8_noGuest 19 = .ok (.iconst 0, 1) := by decide +kernel
theorem dX8_noGuest_20 : decode cX8_noGuest 20 = .ok (.ireturn, 1) := by decide +kernel
end
section
theorem dX9_init_0 : decode cX9_init 0 = .ok (.aload_n 0, 1) := by decide +kernel
theorem dX9_init_1 : decode cX9_init 1 = .ok (.invokespecial 1, 3) := by decide +kernel
theorem dX9_init_4 : decode cX9_init 4 = .ok (.aload_n 0, 1) := by decide +kernel
theorem dX9_init_5 : decode cX9_init 5 = .ok (.bipush 22, 2) := by decide +kernel
theorem dX9_init_7 : decode cX9_init 7 = .ok (.newarray .int, 2) := by decide +kernel
theorem dX9_init_9 : decode cX9_init 9 = .ok (.putfield 7, 3) := by decide +kernel
theorem dX9_init_12 : decode cX9_init 12 = .ok (.aload_n 0, 1) := by decide +kernel
theorem dX9_init_13 : decode cX9_init 13 = .ok (.bipush 6, 2) := by decide +kernel
theorem dX9_init_15 : decode cX9_init 15 = .ok (.newarray .int, 2) := by decide +kernel
theorem dX9_init_17 : decode cX9_init 17 = .ok (.putfield 13, 3) := by decide +kernel
theorem dX9_init_20 : decode cX9_init 20 = .ok (.aload_n 0, 1) := by decide +kernel
theorem dX9_init_21 : decode cX9_init 21 = .ok (.bipush 6, 2) := by decide +kernel
theorem dX9_init_23 : decode cX9_init 23 = .ok (.newarray .int, 2) := by decide +kernel
theorem dX9_init_25 : decode cX9_init 25 = .ok (.putfield 16, 3) := by decide +kernel
theorem dX9_init_28 : decode cX9_init 28 = .ok (.aload_n 0, 1) := by decide +kernel
theorem dX9_init_29 : decode cX9_init 29 = .ok (.bipush 6, 2) := by decide +kernel
theorem dX9_init_31 : decode cX9_init 31 = .ok (.newarray .int, 2) := by decide +kernel
theorem dX9_init_33 : decode cX9_init 33 = .ok (.putfield 19, 3) := by decide +kernel
theorem dX9_init_36 : decode cX9_init 36 = .ok (.aload_n 0, 1) := by decide +kernel
theorem dX9_init_37 : decode cX9_init 37 = .ok (.bipush 6, 2) := by decide +kernel
theorem dX9_init_39 : decode cX9_init 39 = .ok (.newarray .int, 2) := by decide +kernel
theorem dX9_init_41 : decode cX9_init 41 = .ok (.putfield 22, 3) := by decide +kernel
theorem dX9_init_44 : decode cX9_init 44 = .ok (.aload_n 0, 1) := by decide +kernel
theorem dX9_init_45 : decode cX9_init 45 = .ok (.bipush 10, 2) := by decide +kernel
theorem dX9_init_47 : decode cX9_init 47 = .ok (.newarray .int, 2) := by decide +kernel
theorem dX9_init_49 : decode cX9_init 49 = .ok (.putfield 25, 3) := by decide +kernel
theorem dX9_init_52 : decode cX9_init 52 = .ok (.aload_n 0, 1) := by decide +kernel
theorem dX9_init_53 : decode cX9_init 53 = .ok (.bipush 30, 2) := by decide +kernel
theorem dX9_init_55 : decode cX9_init 55 = .ok (.newarray .int, 2) := by decide +kernel
theorem dX9_init_57 : decode cX9_init 57 = .ok (.putfield 28, 3) := by decide +kernel
theorem dX9_init_60 : decode cX9_init 60 = .ok (.aload_n 0, 1) := by decide +kernel
theorem dX9_init_61 : decode cX9_init 61 = .ok (.iconst 5, 1) := by decide +kernel
theorem dX9_init_62 : decode cX9_init 62 = .ok (.newarray .int, 2) := by decide +kernel
theorem dX9_init_64 : decode cX9_init 64 = .ok (.putfield 31, 3) := by decide +kernel
theorem dX9_init_67 : decode cX9_init 67 = .ok (.aload_n 0, 1) := by decide +kernel
theorem dX9_init_68 : decode cX9_init 68 = .ok (.iconst 5, 1) := by decide +kernel
theorem dX9_init_69 : decode cX9_init 69 = .ok (.newarray .int, 2) := by decide +kernel
theorem dX9_init_71 : decode cX9_init 71 = .ok (.putfield 34, 3) := by decide +kernel
theorem dX9_init_74 : decode cX9_init 74 = .ok (.aload_n 0, 1) := by decide +kernel
theorem dX9_init_75 : decode cX9_init 75 = .ok (.bipush 12, 2) := by decide +kernel
theorem dX9_init_77 : decode cX9_init 77 = .ok (.newarray .int, 2) := by decide +kernel
theorem dX9_init_79 : decode cX9_init 79 = .ok (.putfield 37, 3) := by decide +kernel
theorem dX9_init_82 : decode cX9_init 82 = .ok (.aload_n 0, 1) := by decide +kernel
theorem dX9_init_83 : decode cX9_init 83 = .ok (.bipush 30, 2) := by decide +kernel
theorem dX9_init_85 : decode cX9_init 85 = .ok (.newarray .int, 2) := by decide +kernel
theorem dX9_init_87 : decode cX9_init 87 = .ok (.putfield 40, 3) := by decide +kernel
theorem dX9_init_90 : decode cX9_init 90 = .ok (.aload_n 0, 1) := by decide +kernel
theorem dX9_init_91 : decode cX9_init 91 = .ok (.bipush 30, 2) := by decide +kernel
theorem dX9_init_93 : decode cX9_init 93 = .ok (.newarray .int, 2) := by decide +kernel
theorem dX9_init_95 : decode cX9_init 95 = .ok (.putfield 43, 3) := by decide +kernel
theorem dX9_init_98 : decode cX9_init 98 = .ok (.aload_n 0, 1) := by decide +kernel
theorem dX9_init_99 : decode cX9_init 99 = .ok (.bipush 10, 2) := by decide +kernel
theorem dX9_init_101 : decode cX9_init 101 = .ok (.newarray .int, 2) := by decide +kernel
theorem dX9_init_103 : decode cX9_init 103 = .ok (.putfield 46, 3) := by decide +kernel
theorem dX9_init_106 : decode cX9_init 106 = .ok (.aload_n 0, 1) := by decide +kernel
theorem dX9_init_107 : decode cX9_init 107 = .ok (.iconst 5, 1) := by decide +kernel
theorem dX9_init_108 : decode cX9_init 108 = .ok (.newarray .int, 2) := by decide +kernel
theorem dX9_init_110 : decode cX9_init 110 = .ok (.putfield 49, 3) := by decide +kernel
theorem dX9_init_113 : decode cX9_init 113 = .ok (.aload_n 0, 1) := by decide +kernel
theorem dX9_init_114 : decode cX9_init 114 = .ok (.bipush 12, 2) := by decide +kernel
theorem dX9_init_116 : decode cX9_init 116 = .ok (.newarray .int, 2) := by decide +kernel
theorem dX9_init_118 : decode cX9_init 118 = .ok (.putfield 52, 3) := by decide +kernel
theorem dX9_init_121 : decode cX9_init 121 = .ok (.aload_n 0, 1) := by decide +kernel
theorem dX9_init_122 : decode cX9_init 122 = .ok (.iconst (-1), 1) := by decide +kernel
theorem dX9_init_123 : decode cX9_init 123 = .ok (.putfield 55, 3) := by decide +kernel
theorem dX9_init_126 : decode cX9_init 126 = .ok (.aload_n 0, 1) := by decide +kernel
theorem dX9_init_127 : decode cX9_init 127 = .ok (.iconst (-1), 1) := by decide +kernel
theorem dX9_init_128 : decode cX9_init 128 = .ok (.putfield 59, 3) := by decide +kernel
theorem dX9_init_131 : decode cX9_init 131 = .ok (.return_, 1) := by decide +kernel
theorem dX9_in_0 : decode cX9_in 0 = .ok (.lload_n 0, 1) := by decide +kernel
theorem dX9_in_1 : decode cX9_in 1 = .ok (.lload_n 2, 1) := by decide +kernel
theorem dX9_in_2 : decode cX9_in 2 = .ok (.lcmp, 1) := by decide +kernel
theorem dX9_in_3 : decode cX9_in 3 = .ok (.ifCond .lt 14, 3) := by decide +kernel
theorem dX9_in_6 : decode cX9_in 6 = .ok (.lload_n 0, 1) := by decide +kernel
theorem dX9_in_7 : decode cX9_in 7 = .ok (.lload 4, 2) := by decide +kernel
theorem dX9_in_9 : decode cX9_in 9 = .ok (.lcmp, 1) := by decide +kernel
theorem dX9_in_10 : decode cX9_in 10 = .ok (.ifCond .gt 7, 3) := by decide +kernel
theorem dX9_in_13 : decode cX9_in 13 = .ok (.iconst 1, 1) := by decide +kernel
theorem dX9_in_14 : decode cX9_in 14 = .ok (.goto 4, 3) := by decide +kernel
theorem dX9_in_17 : decode cX9_in 17 = .ok (.iconst 0, 1) := by decide +kernel
theorem dX9_in_18 : decode cX9_in 18 = .ok (.ireturn, 1) := by decide +kernel
theorem dX9_letter_0 : decode cX9_letter 0 = .ok (.iload_n 1, 1) := by decide +kernel
theorem dX9_letter_1 : decode cX9_letter 1 = .ok (.i2l, 1) := by decide +kernel
theorem dX9_letter_2 : decode cX9_letter 2 = .ok (.lconst 1, 1) := by decide +kernel
theorem dX9_letter_3 : decode cX9_letter 3 = .ok (.ldc2_w 62, 3) := by decide +kernel
theorem dX9_letter_6 : decode cX9_letter 6 = .ok (.invokestatic 64, 3) := by decide +kernel
theorem dX9_letter_9 : decode cX9_letter 9 = .ok (.ifCond .ne 6, 3) := by decide +kernel
theorem dX9_letter_12 : decode cX9_letter 12 = .ok (.bipush (-102), 2) := by decide +kernel
theorem dX9_letter_14 : decode cX9_letter 14 = .ok (.ireturn, 1) := by decide +kernel
theorem dX9_letter_15 : decode cX9_letter 15 = .ok (.aload_n 0, 1) := by decide +kernel
theorem dX9_letter_16 : decode cX9_letter 16 = .ok (.getfield 68, 3) := by decide +kernel
theorem dX9_letter_19 : decode cX9_letter 19 = .ok (.bipush 22, 2) := by decide +kernel
theorem dX9_letter_21 : decode cX9_letter 21 = .ok (.if_icmp .ne 6, 3) := by decide +kernel
theorem dX9_letter_24 : decode cX9_letter 24 = .ok (.bipush (-104), 2) := by decide +kernel
theorem dX9_letter_26 : decode cX9_letter 26 = .ok (.ireturn, 1) := by decide +kernel
theorem dX9_letter_27 : decode cX9_letter 27 = .ok (.aload_n 0, 1) := by decide +kernel
theorem dX9_letter_28 : decode cX9_letter 28 = .ok (.getfield 7, 3) := by decide +kernel
theorem dX9_letter_31 : decode cX9_letter 31 = .ok (.aload_n 0, 1) := by decide +kernel
theorem dX9_letter_32 : decode cX9_letter 32 = .ok (.getfield 68, 3) := by decide +kernel
theorem dX9_letter_35 : decode cX9_letter 35 = .ok (.iload_n 1, 1) := by decide +kernel
theorem dX9_letter_36 : decode cX9_letter 36 = .ok (.iastore, 1) := by decide +kernel
theorem dX9_letter_37 : decode cX9_letter 37 = .ok (.aload_n 0, 1) := by decide +kernel
theorem dX9_letter_38 : decode cX9_letter 38 = .ok (.dup, 1) := by decide +kernel
theorem dX9_letter_39 : decode cX9_letter 39 = .ok (.getfield 68, 3) := by decide +kernel
theorem dX9_letter_42 : decode cX9_letter 42 = .ok (.iconst 1, 1) := by decide +kernel
theorem dX9_letter_43 : decode cX9_letter 43 = .ok (.iadd, 1) := by decide +kernel
theorem dX9_letter_44 : decode cX9_letter 44 = .ok (.putfield 68, 3) := by decide +kernel
theorem dX9_letter_47 : decode cX9_letter 47 = .ok (.aload_n 0, 1) := by decide +kernel
theorem dX9_letter_48 : decode cX9_letter 48 = .ok (.getfield 68, 3) := by decide +kernel
theorem dX9_letter_51 : decode cX9_letter 51 = .ok (.ireturn, 1) := by decide +kernel
theorem dX9_blank_0 : decode cX9_blank 0 = .ok (.aload_n 0, 1) := by decide +kernel
theorem dX9_blank_1 : decode cX9_blank 1 = .ok (.getfield 68, 3) := by decide +kernel
theorem dX9_blank_4 : decode cX9_blank 4 = .ok (.istore_n 1, 1) := by decide +kernel
theorem dX9_blank_5 : decode cX9_blank 5 = .ok (.aload_n 0, 1) := by decide +kernel
theorem dX9_blank_6 : decode cX9_blank 6 = .ok (.iconst 0, 1) := by decide +kernel
theorem dX9_blank_7 : decode cX9_blank 7 = .ok (.putfield 68, 3) := by decide +kernel
theorem dX9_blank_10 : decode cX9_blank 10 = .ok (.iload_n 1, 1) := by decide +kernel
theorem dX9_blank_11 : decode cX9_blank 11 = .ok (.ireturn, 1) := by decide +kernel
theorem dX9_go_0 : decode cX9_go 0 = .ok (.iload_n 1, 1) := by decide +kernel
theorem dX9_go_1 : decode cX9_go 1 = .ok (.bipush 48, 2) := by decide +kernel
theorem dX9_go_3 : decode cX9_go 3 = .ok (.isub, 1) := by decide +kernel
theorem dX9_go_4 : decode cX9_go 4 = .ok (.istore_n 2, 1) := by decide +kernel
theorem dX9_go_5 : decode cX9_go 5 = .ok (.aload_n 0, 1) := by decide +kernel
theorem dX9_go_6 : decode cX9_go 6 = .ok (.getfield 71, 3) := by decide +kernel
theorem dX9_go_9 : decode cX9_go 9 = .ok (.istore_n 3, 1) := by decide +kernel
theorem dX9_go_10 : decode cX9_go 10 = .ok (.aload_n 0, 1) := by decide +kernel
theorem dX9_go_11 : decode cX9_go 11 = .ok (.dup, 1) := by decide +kernel
theorem dX9_go_12 : decode cX9_go 12 = .ok (.getfield 71, 3) := by decide +kernel
theorem dX9_go_15 : decode cX9_go 15 = .ok (.iconst 1, 1) := by decide +kernel
theorem dX9_go_16 : decode cX9_go 16 = .ok (.iadd, 1) := by decide +kernel
theorem dX9_go_17 : decode cX9_go 17 = .ok (.putfield 71, 3) := by decide +kernel
theorem dX9_go_20 : decode cX9_go 20 = .ok (.iload_n 3, 1) := by decide +kernel
theorem dX9_go_21 : decode cX9_go 21 = .ok (.ifCond .ne 23, 3) := by decide +kernel
theorem dX9_go_24 : decode cX9_go 24 = .ok (.aload_n 0, 1) := by decide +kernel
theorem dX9_go_25 : decode cX9_go 25 = .ok (.getfield 13, 3) := by decide +kernel
theorem dX9_go_28 : decode cX9_go 28 = .ok (.aload_n 0, 1) := by decide +kernel
theorem dX9_go_29 : decode cX9_go 29 = .ok (.getfield 74, 3) := by decide +kernel
theorem dX9_go_32 : decode cX9_go 32 = .ok (.iload_n 2, 1) := by decide +kernel
theorem dX9_go_33 : decode cX9_go 33 = .ok (.iastore, 1) := by decide +kernel
theorem dX9_go_34 : decode cX9_go 34 = .ok (.iload_n 2, 1) := by decide +kernel
theorem dX9_go_35 : decode cX9_go 35 = .ok (.i2l, 1) := by decide +kernel
theorem dX9_go_36 : decode cX9_go 36 = .ok (.lconst 1, 1) := by decide +kernel
theorem dX9_go_37 : decode cX9_go 37 = .ok (.ldc2_w 77, 3) := by decide +kernel
theorem dX9_go_40 : decode cX9_go 40 = .ok (.invokestatic 64, 3) := by decide +kernel
theorem dX9_go_43 : decode cX9_go 43 = .ok (.ireturn, 1) := by decide +kernel
theorem dX9_go_44 : decode cX9_go 44 = .ok (.iload_n 3, 1) := by decide +kernel
theorem dX9_go_45 : decode cX9_go 45 = .ok (.iconst 1, 1) := by decide +kernel
theorem dX9_go_46 : decode cX9_go 46 = .ok (.if_icmp .ne 33, 3) := by decide +kernel
theorem dX9_go_49 : decode cX9_go 49 = .ok (.aload_n 0, 1) := by decide +kernel
theorem dX9_go_50 : decode cX9_go 50 = .ok (.getfield 16, 3) := by decide +kernel
theorem dX9_go_53 : decode cX9_go 53 = .ok (.aload_n 0, 1) := by decide +kernel
theorem dX9_go_54 : decode cX9_go 54 = .ok (.getfield 74, 3) := by decide +kernel
theorem dX9_go_57 : decode cX9_go 57 = .ok (.iload_n 2, 1) := by decide +kernel
theorem dX9_go_58 : decode cX9_go 58 = .ok (.iastore, 1) := by decide +kernel
theorem dX9_go_59 : decode cX9_go 59 = .ok (.aload_n 0, 1) := by decide +kernel
theorem dX9_go_60 : decode cX9_go 60 = .ok (.dup, 1) := by decide +kernel
theorem dX9_go_61 : decode cX9_go 61 = .ok (.getfield 74, 3) := by decide +kernel
theorem dX9_go_64 : decode cX9_go 64 = .ok (.iconst 1, 1) := by decide +kernel
theorem dX9_go_65 : decode cX9_go 65 = .ok (.iadd, 1) := by decide +kernel
theorem dX9_go_66 : decode cX9_go 66 = .ok (.putfield 74, 3) := by decide +kernel
theorem dX9_go_69 : decode cX9_go 69 = .ok (.iload_n 2, 1) := by decide +kernel
theorem dX9_go_70 : decode cX9_go 70 = .ok (.i2l, 1) := by decide +kernel
theorem dX9_go_71 : decode cX9_go 71 = .ok (.lconst 1, 1) := by decide +kernel
theorem dX9_go_72 : decode cX9_go 72 = .ok (.ldc2_w 77, 3) := by decide +kernel
theorem dX9_go_75 : decode cX9_go 75 = .ok (.invokestatic 64, 3) := by decide +kernel
theorem dX9_go_78 : decode cX9_go 78 = .ok (.ireturn, 1) := by decide +kernel
theorem dX9_go_79 : decode cX9_go 79 = .ok (.iload_n 3, 1) := by decide +kernel
theorem dX9_go_80 : decode cX9_go 80 = .ok (.iconst 2, 1) := by decide +kernel
theorem dX9_go_81 : decode cX9_go 81 = .ok (.if_icmp .ne 61, 3) := by decide +kernel
theorem dX9_go_84 : decode cX9_go 84 = .ok (.aload_n 0, 1) := by decide +kernel
theorem dX9_go_85 : decode cX9_go 85 = .ok (.iload_n 1, 1) := by decide +kernel
theorem dX9_go_86 : decode cX9_go 86 = .ok (.bipush 44, 2) := by decide +kernel
theorem dX9_go_88 : decode cX9_go 88 = .ok (.if_icmp .ne 7, 3) := by decide +kernel
theorem dX9_go_91 : decode cX9_go 91 = .ok (.iconst 0, 1) := by decide +kernel
theorem dX9_go_92 : decode cX9_go 92 = .ok (.goto 4, 3) := by decide +kernel
theorem dX9_go_95 : decode cX9_go 95 = .ok (.iconst 3, 1) := by decide +kernel
theorem dX9_go_96 : decode cX9_go 96 = .ok (.putfield 71, 3) := by decide +kernel
theorem dX9_go_99 : decode cX9_go 99 = .ok (.iload_n 1, 1) := by decide +kernel
theorem dX9_go_100 : decode cX9_go 100 = .ok (.bipush 44, 2) := by decide +kernel
theorem dX9_go_102 : decode cX9_go 102 = .ok (.if_icmp .ne 20, 3) := by decide +kernel
theorem dX9_go_105 : decode cX9_go 105 = .ok (.aload_n 0, 1) := by decide +kernel
theorem dX9_go_106 : decode cX9_go 106 = .ok (.getfield 74, 3) := by decide +kernel
theorem dX9_go_109 : decode cX9_go 109 = .ok (.bipush 6, 2) := by decide +kernel
theorem dX9_go_111 : decode cX9_go 111 = .ok (.if_icmp .ge 7, 3) := by decide +kernel
theorem dX9_go_114 : decode cX9_go 114 = .ok (.iconst 1, 1) := by decide +kernel
theorem dX9_go_115 : decode cX9_go 115 = .ok (.goto 26, 3) := by decide +kernel
theorem dX9_go_118 : decode cX9_go 118 = .ok (.iconst 0, 1) := by decide +kernel
theorem dX9_go_119 : decode cX9_go 119 = .ok (.goto 22, 3) := by decide +kernel
theorem dX9_go_122 : decode cX9_go 122 = .ok (.iload_n 1, 1) := by decide +kernel
theorem dX9_go_123 : decode cX9_go 123 = .ok (.bipush 59, 2) := by decide +kernel
theorem dX9_go_125 : decode cX9_go 125 = .ok (.if_icmp .ne 15, 3) := by decide +kernel
theorem dX9_go_128 : decode cX9_go 128 = .ok (.aload_n 0, 1) := by decide +kernel
theorem dX9_go_129 : decode cX9_go 129 = .ok (.getfield 74, 3) := by decide +kernel
theorem dX9_go_132 : decode cX9_go 132 = .ok (.iconst 1, 1) := by decide +kernel
theorem dX9_go_133 : decode cX9_go 133 = .ok (.if_icmp .le 7, 3) := by decide +kernel
theorem dX9_go_136 : decode cX9_go 136 = .ok (.iconst 1, 1) := by decide +kernel
theorem dX9_go_137 : decode cX9_go 137 = .ok (.goto 4, 3) := by decide +kernel
theorem dX9_go_140 : decode cX9_go 140 = .ok (.iconst 0, 1) := by decide +kernel
theorem dX9_go_141 : decode cX9_go 141 = .ok (.ireturn, 1) := by decide +kernel
theorem dX9_go_142 : decode cX9_go 142 = .ok (.aload_n 0, 1) := by decide +kernel
theorem dX9_go_143 : decode cX9_go 143 = .ok (.iload_n 2, 1) := by decide +kernel
theorem dX9_go_144 : decode cX9_go 144 = .ok (.putfield 79, 3) := by decide +kernel
theorem dX9_go_147 : decode cX9_go 147 = .ok (.iload_n 3, 1) := by decide +kernel
theorem dX9_go_148 : decode cX9_go 148 = .ok (.iconst 3, 1) := by decide +kernel
theorem dX9_go_149 : decode cX9_go 149 = .ok (.if_icmp .ne 19, 3) := by decide +kernel
theorem dX9_go_152 : decode cX9_go 152 = .ok (.iload_n 2, 1) := by decide +kernel
theorem dX9_go_153 : decode cX9_go 153 = .ok (.i2l, 1) := by decide +kernel
theorem dX9_go_154 : decode cX9_go 154 = .ok (.lconst 0, 1) := by decide +kernel
theorem dX9_go_155 : decode cX9_go 155 = .ok (.ldc2_w 77, 3) := by decide +kernel
theorem dX9_go_158 : decode cX9_go 158 = .ok (.invokestatic 64, 3) := by decide +kernel
theorem dX9_go_161 : decode cX9_go 161 = .ok (.ifCond .eq 7, 3) := by decide +kernel
theorem dX9_go_164 : decode cX9_go 164 = .ok (.iconst 1, 1) := by decide +kernel
theorem dX9_go_165 : decode cX9_go 165 = .ok (.goto 4, 3) := by decide +kernel
theorem dX9_go_168 : decode cX9_go 168 = .ok (.iconst 0, 1) := by decide +kernel
theorem dX9_go_169 : decode cX9_go 169 = .ok (.ireturn, 1) := by decide +kernel
theorem dX9_faultOf_0 : decode cX9_faultOf 0 = .ok (.aload_n 0, 1) := by decide +kernel
theorem dX9_faultOf_1 : decode cX9_faultOf 1 = .ok (.iconst 0, 1) := by decide +kernel
theorem dX9_faultOf_2 : decode cX9_faultOf 2 = .ok (.putfield 74, 3) := by decide +kernel
theorem dX9_faultOf_5 : decode cX9_faultOf 5 = .ok (.aload_n 0, 1) := by decide +kernel
theorem dX9_faultOf_6 : decode cX9_faultOf 6 = .ok (.iconst 0, 1) := by decide +kernel
theorem dX9_faultOf_7 : decode cX9_faultOf 7 = .ok (.putfield 71, 3) := by decide +kernel
theorem dX9_faultOf_10 : decode cX9_faultOf 10 = .ok (.iconst 0, 1) := by decide +kernel
theorem dX9_faultOf_11 : decode cX9_faultOf 11 = .ok (.istore_n 1, 1) := by decide +kernel
theorem dX9_faultOf_12 : decode cX9_faultOf 12 = .ok (.iload_n 1, 1) := by decide +kernel
theorem dX9_faultOf_13 : decode cX9_faultOf 13 = .ok (.aload_n 0, 1) := by decide +kernel
theorem dX9_faultOf_14 : decode cX9_faultOf 14 = .ok (.getfield 68, 3) := by decide +kernel
theorem dX9_faultOf_17 : decode cX9_faultOf 17 = .ok (.if_icmp .ge 22, 3) := by decide +kernel
theorem dX9_faultOf_20 : decode cX9_faultOf 20 = .ok (.aload_n 0, 1) := by decide +kernel
theorem dX9_faultOf_21 : decode cX9_faultOf 21 = .ok (.aload_n 0, 1) := by decide +kernel
theorem dX9_faultOf_22 : decode cX9_faultOf 22 = .ok (.getfield 7, 3) := by decide +kernel
theorem dX9_faultOf_25 : decode cX9_faultOf 25 = .ok (.iload_n 1, 1) := by decide +kernel
theorem dX9_faultOf_26 : decode cX9_faultOf 26 = .ok (.iaload, 1) := by decide +kernel
theorem dX9_faultOf_27 : decode cX9_faultOf 27 = .ok (.invokevirtual 82, 3) := by decide +kernel
theorem dX9_faultOf_30 : decode cX9_faultOf 30 = .ok (.ifCond .eq 9, 3) := by decide +kernel
theorem dX9_faultOf_33 : decode cX9_faultOf 33 = .ok (.iinc 1 1, 3) := by decide +kernel
theorem dX9_faultOf_36 : decode cX9_faultOf 36 = .ok (.goto (-24), 3) := by decide +kernel
theorem dX9_faultOf_39 : decode cX9_faultOf 39 = .ok (.iload_n 1, 1) := by decide +kernel
theorem dX9_faultOf_40 : decode cX9_faultOf 40 = .ok (.ireturn, 1) := by decide +kernel
theorem dX9_fault_0 : decode cX9_fault 0 = .ok (.aload_n 0, 1) := by decide +kernel
theorem dX9_fault_1 : decode cX9_fault 1 = .ok (.invokevirtual 86, 3) := by decide +kernel
theorem dX9_fault_4 : decode cX9_fault 4 = .ok (.ireturn, 1) := by decide +kernel
theorem dX9_card_0 : decode cX9_card 0 = .ok (.aload_n 0, 1) := by decide +kernel
theorem dX9_card_1 : decode cX9_card 1 = .ok (.invokevirtual 86, 3) := by decide +kernel
theorem dX9_card_4 : decode cX9_card 4 = .ok (.aload_n 0, 1) := by decide +kernel
theorem dX9_card_5 : decode cX9_card 5 = .ok (.getfield 68, 3) := by decide +kernel
theorem dX9_card_8 : decode cX9_card 8 = .ok (.if_icmp .lt 11, 3) := by decide +kernel
theorem dX9_card_11 : decode cX9_card 11 = .ok (.aload_n 0, 1) := by decide +kernel
theorem dX9_card_12 : decode cX9_card 12 = .ok (.getfield 71, 3) := by decide +kernel
theorem dX9_card_15 : decode cX9_card 15 = .ok (.iconst 4, 1) := by decide +kernel
theorem dX9_card_16 : decode cX9_card 16 = .ok (.if_icmp .eq 6, 3) := by decide +kernel
theorem dX9_card_19 : decode cX9_card 19 = .ok (.bipush (-103), 2) := by decide +kernel
theorem dX9_card_21 : decode cX9_card 21 = .ok (.ireturn, 1) := by decide +kernel
theorem dX9_card_22 : decode cX9_card 22 = .ok (.iconst 0, 1) := by decide +kernel
theorem dX9_card_23 : decode cX9_card 23 = .ok (.istore_n 1, 1) := by decide +kernel
theorem dX9_card_24 : decode cX9_card 24 = .ok (.iload_n 1, 1) := by decide +kernel
theorem dX9_card_25 : decode cX9_card 25 = .ok (.bipush 6, 2) := by decide +kernel
theorem dX9_card_27 : decode cX9_card 27 = .ok (.if_icmp .ge 33, 3) := by decide +kernel
theorem dX9_card_30 : decode cX9_card 30 = .ok (.aload_n 0, 1) := by decide +kernel
theorem dX9_card_31 : decode cX9_card 31 = .ok (.getfield 19, 3) := by decide +kernel
theorem dX9_card_34 : decode cX9_card 34 = .ok (.iload_n 1, 1) := by decide +kernel
theorem dX9_card_35 : decode cX9_card 35 = .ok (.aload_n 0, 1) := by decide +kernel
theorem dX9_card_36 : decode cX9_card 36 = .ok (.getfield 13, 3) := by decide +kernel
theorem dX9_card_39 : decode cX9_card 39 = .ok (.iload_n 1, 1) := by decide +kernel
theorem dX9_card_40 : decode cX9_card 40 = .ok (.iaload, 1) := by decide +kernel
theorem dX9_card_41 : decode cX9_card 41 = .ok (.iastore, 1) := by decide +kernel
theorem dX9_card_42 : decode cX9_card 42 = .ok (.aload_n 0, 1) := by decide +kernel
theorem dX9_card_43 : decode cX9_card 43 = .ok (.getfield 22, 3) := by decide +kernel
theorem dX9_card_46 : decode cX9_card 46 = .ok (.iload_n 1, 1) := by decide +kernel
theorem dX9_card_47 : decode cX9_card 47 = .ok (.aload_n 0, 1) := by decide +kernel
theorem dX9_card_48 : decode cX9_card 48 = .ok (.getfield 16, 3) := by decide +kernel
theorem dX9_card_51 : decode cX9_card 51 = .ok (.iload_n 1, 1) := by decide +kernel
theorem dX9_card_52 : decode cX9_card 52 = .ok (.iaload, 1) := by decide +kernel
theorem dX9_card_53 : decode cX9_card 53 = .ok (.iastore, 1) := by decide +kernel
theorem dX9_card_54 : decode cX9_card 54 = .ok (.iinc 1 1, 3) := by decide +kernel
theorem dX9_card_57 : decode cX9_card 57 = .ok (.goto (-33), 3) := by decide +kernel
theorem dX9_card_60 : decode cX9_card 60 = .ok (.aload_n 0, 1) := by decide +kernel
theorem dX9_card_61 : decode cX9_card 61 = .ok (.aload_n 0, 1) := by decide +kernel
theorem dX9_card_62 : decode cX9_card 62 = .ok (.getfield 74, 3) := by decide +kernel
theorem dX9_card_65 : decode cX9_card 65 = .ok (.putfield 90, 3) := by decide +kernel
theorem dX9_card_68 : decode cX9_card 68 = .ok (.aload_n 0, 1) := by decide +kernel
theorem dX9_card_69 : decode cX9_card 69 = .ok (.aload_n 0, 1) := by decide +kernel
theorem dX9_card_70 : decode cX9_card 70 = .ok (.getfield 79, 3) := by decide +kernel
theorem dX9_card_73 : decode cX9_card 73 = .ok (.putfield 93, 3) := by decide +kernel
theorem dX9_card_76 : decode cX9_card 76 = .ok (.aload_n 0, 1) := by decide +kernel
theorem dX9_card_77 : decode cX9_card 77 = .ok (.iconst 0, 1) := by decide +kernel
theorem dX9_card_78 : decode cX9_card 78 = .ok (.putfield 96, 3) := by decide +kernel
theorem dX9_card_81 : decode cX9_card 81 = .ok (.aload_n 0, 1) := by decide +kernel
theorem dX9_card_82 : decode cX9_card 82 = .ok (.iconst 0, 1) := by decide +kernel
theorem dX9_card_83 : decode cX9_card 83 = .ok (.putfield 99, 3) := by decide +kernel
theorem dX9_card_86 : decode cX9_card 86 = .ok (.aload_n 0, 1) := by decide +kernel
theorem dX9_card_87 : decode cX9_card 87 = .ok (.iconst (-1), 1) := by decide +kernel
theorem dX9_card_88 : decode cX9_card 88 = .ok (.putfield 59, 3) := by decide +kernel
theorem dX9_card_91 : decode cX9_card 91 = .ok (.aload_n 0, 1) := by decide +kernel
theorem dX9_card_92 : decode cX9_card 92 = .ok (.iconst 0, 1) := by decide +kernel
theorem dX9_card_93 : decode cX9_card 93 = .ok (.putfield 102, 3) := by decide +kernel
theorem dX9_card_96 : decode cX9_card 96 = .ok (.aload_n 0, 1) := by decide +kernel
theorem dX9_card_97 : decode cX9_card 97 = .ok (.dup, 1) := by decide +kernel
theorem dX9_card_98 : decode cX9_card 98 = .ok (.getfield 105, 3) := by decide +kernel
theorem dX9_card_101 : decode cX9_card 101 = .ok (.iconst 1, 1) := by decide +kernel
theorem dX9_card_102 : decode cX9_card 102 = .ok (.iadd, 1) := by decide +kernel
theorem dX9_card_103 : decode cX9_card 103 = .ok (.putfield 105, 3) := by decide +kernel
theorem dX9_card_106 : decode cX9_card 106 = .ok (.aload_n 0, 1) := by decide +kernel
theorem dX9_card_107 : decode cX9_card 107 = .ok (.iconst 0, 1) := by decide +kernel
theorem dX9_card_108 : decode cX9_card 108 = .ok (.putfield 68, 3) := by decide +kernel
theorem dX9_card_111 : decode cX9_card 111 = .ok (.aload_n 0, 1) := by decide +kernel
theorem dX9_card_112 : decode cX9_card 112 = .ok (.getfield 90, 3) := by decide +kernel
theorem dX9_card_115 : decode cX9_card 115 = .ok (.ireturn, 1) := by decide +kernel
theorem dX9_lacks_0 : decode cX9_lacks 0 = .ok (.aload_n 0, 1) := by decide +kernel
theorem dX9_lacks_1 : decode cX9_lacks 1 = .ok (.getfield 90, 3) := by decide +kernel
theorem dX9_lacks_4 : decode cX9_lacks 4 = .ok (.ifCond .ne 7, 3) := by decide +kernel
theorem dX9_lacks_7 : decode cX9_lacks 7 = .ok (.iconst 1, 1) := by decide +kernel
theorem dX9_lacks_8 : decode cX9_lacks 8 = .ok (.goto 4, 3) := by decide +kernel
theorem dX9_lacks_11 : decode cX9_lacks 11 = .ok (.iconst 0, 1) := by decide +kernel
theorem dX9_lacks_12 : decode cX9_lacks 12 = .ok (.ireturn, 1) := by decide +kernel
theorem dX9_isDish_0 : decode cX9_isDish 0 = .ok (.iload_n 1, 1) := by decide +kernel
theorem dX9_isDish_1 : decode cX9_isDish 1 = .ok (.i2l, 1) := by decide +kernel
theorem dX9_isDish_2 : decode cX9_isDish 2 = .ok (.lconst 0, 1) := by decide +kernel
theorem dX9_isDish_3 : decode cX9_isDish 3 = .ok (.aload_n 0, 1) := by decide +kernel
theorem dX9_isDish_4 : decode cX9_isDish 4 = .ok (.getfield 90, 3) := by decide +kernel
theorem dX9_isDish_7 : decode cX9_isDish 7 = .ok (.iconst 1, 1) := by decide +kernel
theorem dX9_isDish_8 : decode cX9_isDish 8 = .ok (.isub, 1) := by decide +kernel
theorem dX9_isDish_9 : decode cX9_isDish 9 = .ok (.i2l, 1) := by decide +kernel
theorem dX9_isDish_10 : decode cX9_isDish 10 = .ok (.invokestatic 64, 3) := by decide +kernel
theorem dX9_isDish_13 : decode cX9_isDish 13 = .ok (.ireturn, 1) := by decide +kernel
theorem dX9_isGuest_0 : decode cX9_isGuest 0 = .ok (.iload_n 1, 1) := by decide +kernel
theorem dX9_isGuest_1 : decode cX9_isGuest 1 = .ok (.i2l, 1) := by decide +kernel
theorem dX9_isGuest_2 : decode cX9_isGuest 2 = .ok (.lconst 0, 1) := by decide +kernel
theorem dX9_isGuest_3 : decode cX9_isGuest 3 = .ok (.aload_n 0, 1) := by decide +kernel
theorem dX9_isGuest_4 : decode cX9_isGuest 4 = .ok (.getfield 96, 3) := by decide +kernel
theorem dX9_isGuest_7 : decode cX9_isGuest 7 = .ok (.iconst 1, 1) := by decide +kernel
theorem dX9_isGuest_8 : decode cX9_isGuest 8 = .ok (.isub, 1) := by decide +kernel
theorem dX9_isGuest_9 : decode cX9_isGuest 9 = .ok (.i2l, 1) := by decide +kernel
theorem dX9_isGuest_10 : decode cX9_isGuest 10 = .ok (.invokestatic 64, 3) := by decide +kernel
theorem dX9_isGuest_13 : decode cX9_isGuest 13 = .ok (.ireturn, 1) := by decide +kernel
theorem dX9_haveOf_0 : decode cX9_haveOf 0 = .ok (.iconst 0, 1) := by decide +kernel
theorem dX9_haveOf_1 : decode cX9_haveOf 1 = .ok (.istore_n 3, 1) := by decide +kernel
theorem dX9_haveOf_2 : decode cX9_haveOf 2 = .ok (.iconst 0, 1) := by decide +kernel
theorem dX9_haveOf_3 : decode cX9_haveOf 3 = .ok (.istore 4, 2) := by decide +kernel
theorem dX9_haveOf_5 : decode cX9_haveOf 5 = .ok (.iload 4, 2) := by decide +kernel
theorem dX9_haveOf_7 : decode cX9_haveOf 7 = .ok (.aload_n 0, 1) := by decide +kernel
theorem dX9_haveOf_8 : decode cX9_haveOf 8 = .ok (.getfield 96, 3) := by decide +kernel
theorem dX9_haveOf_11 : decode cX9_haveOf 11 = .ok (.if_icmp .ge 25, 3) := by decide +kernel
theorem dX9_haveOf_14 : decode cX9_haveOf 14 = .ok (.iload_n 3, 1) := by decide +kernel
theorem dX9_haveOf_15 : decode cX9_haveOf 15 = .ok (.aload_n 1, 1) := by decide +kernel
theorem dX9_haveOf_16 : decode cX9_haveOf 16 = .ok (.iload 4, 2) := by decide +kernel
theorem dX9_haveOf_18 : decode cX9_haveOf 18 = .ok (.iaload, 1) := by decide +kernel
theorem dX9_haveOf_19 : decode cX9_haveOf 19 = .ok (.iload_n 2, 1) := by decide +kernel
theorem dX9_haveOf_20 : decode cX9_haveOf 20 = .ok (.if_icmp .ne 7, 3) := by decide +kernel
theorem dX9_haveOf_23 : decode cX9_haveOf 23 = .ok (.iconst 1, 1) := by decide +kernel
theorem dX9_haveOf_24 : decode cX9_haveOf 24 = .ok (.goto 4, 3) := by decide +kernel
theorem dX9_haveOf_27 : decode cX9_haveOf 27 = .ok (.iconst 0, 1) := by decide +kernel
theorem dX9_haveOf_28 : decode cX9_haveOf 28 = .ok (.iadd, 1) := by decide +kernel
theorem dX9_haveOf_29 : decode cX9_haveOf 29 = .ok (.istore_n 3, 1) := by decide +kernel
theorem dX9_haveOf_30 : decode cX9_haveOf 30 = .ok (.iinc 4 1, 3) := by decide +kernel
theorem dX9_haveOf_33 : decode cX9_haveOf 33 = .ok (.goto (-28), 3) := by decide +kernel
theorem dX9_haveOf_36 : decode cX9_haveOf 36 = .ok (.iload_n 3, 1) := by decide +kernel
theorem dX9_haveOf_37 : decode cX9_haveOf 37 = .ok (.ireturn, 1) := by decide +kernel
theorem dX9_tellDish_0 : decode cX9_tellDish 0 = .ok (.iload_n 2, 1) := by decide +kernel
theorem dX9_tellDish_1 : decode cX9_tellDish 1 = .ok (.tableswitch 82 0 3 #[31, 48, 55, 65], 31) := by decide +kernel
theorem dX9_tellDish_32 : decode cX9_tellDish 32 = .ok (.aload_n 0, 1) := by decide +kernel
theorem dX9_tellDish_33 : decode cX9_tellDish 33 = .ok (.getfield 19, 3) := by decide +kernel
theorem dX9_tellDish_36 : decode cX9_tellDish 36 = .ok (.iload_n 1, 1) := by decide +kernel
theorem dX9_tellDish_37 : decode cX9_tellDish 37 = .ok (.iaload, 1) := by decide +kernel
theorem dX9_tellDish_38 : decode cX9_tellDish 38 = .ok (.aload_n 0, 1) := by decide +kernel
theorem dX9_tellDish_39 : decode cX9_tellDish 39 = .ok (.aload_n 0, 1) := by decide +kernel
theorem dX9_tellDish_40 : decode cX9_tellDish 40 = .ok (.getfield 31, 3) := by decide +kernel
theorem dX9_tellDish_43 : decode cX9_tellDish 43 = .ok (.iload_n 1, 1) := by decide +kernel
theorem dX9_tellDish_44 : decode cX9_tellDish 44 = .ok (.invokevirtual 108, 3) := by decide +kernel
theorem dX9_tellDish_47 : decode cX9_tellDish 47 = .ok (.isub, 1) := by decide +kernel
theorem dX9_tellDish_48 : decode cX9_tellDish 48 = .ok (.ireturn, 1) := by decide +kernel
theorem dX9_tellDish_49 : decode cX9_tellDish 49 = .ok (.aload_n 0, 1) := by decide +kernel
theorem dX9_tellDish_50 : decode cX9_tellDish 50 = .ok (.getfield 22, 3) := by decide +kernel
theorem dX9_tellDish_53 : decode cX9_tellDish 53 = .ok (.iload_n 1, 1) := by decide +kernel
theorem dX9_tellDish_54 : decode cX9_tellDish 54 = .ok (.iaload, 1) := by decide +kernel
theorem dX9_tellDish_55 : decode cX9_tellDish 55 = .ok (.ireturn, 1) := by decide +kernel
theorem dX9_tellDish_56 : decode cX9_tellDish 56 = .ok (.aload_n 0, 1) := by decide +kernel
theorem dX9_tellDish_57 : decode cX9_tellDish 57 = .ok (.aload_n 0, 1) := by decide +kernel
theorem dX9_tellDish_58 : decode cX9_tellDish 58 = .ok (.getfield 31, 3) := by decide +kernel
theorem dX9_tellDish_61 : decode cX9_tellDish 61 = .ok (.iload_n 1, 1) := by decide +kernel
theorem dX9_tellDish_62 : decode cX9_tellDish 62 = .ok (.invokevirtual 108, 3) := by decide +kernel
theorem dX9_tellDish_65 : decode cX9_tellDish 65 = .ok (.ireturn, 1) := by decide +kernel
theorem dX9_tellDish_66 : decode cX9_tellDish 66 = .ok (.iload_n 1, 1) := by decide +kernel
theorem dX9_tellDish_67 : decode cX9_tellDish 67 = .ok (.aload_n 0, 1) := by decide +kernel
theorem dX9_tellDish_68 : decode cX9_tellDish 68 = .ok (.getfield 59, 3) := by decide +kernel
theorem dX9_tellDish_71 : decode cX9_tellDish 71 = .ok (.if_icmp .ne 10, 3) := by decide +kernel
theorem dX9_tellDish_74 : decode cX9_tellDish 74 = .ok (.aload_n 0, 1) := by decide +kernel
theorem dX9_tellDish_75 : decode cX9_tellDish 75 = .ok (.getfield 102, 3) := by decide +kernel
theorem dX9_tellDish_78 : decode cX9_tellDish 78 = .ok (.goto 4, 3) := by decide +kernel
theorem dX9_tellDish_81 : decode cX9_tellDish 81 = .ok (.iconst 0, 1) := by decide +kernel
theorem dX9_tellDish_82 : decode cX9_tellDish 82 = .ok (.ireturn, 1) := by decide +kernel
theorem dX9_tellDish_83 : decode cX9_tellDish 83 = .ok (.bipush (-102), 2) := by decide +kernel
theorem dX9_tellDish_85 : decode cX9_tellDish 85 = .ok (.ireturn, 1) := by decide +kernel
theorem dX9_dish_0 : decode cX9_dish 0 = .ok (.aload_n 0, 1) := by decide +kernel
theorem dX9_dish_1 : decode cX9_dish 1 = .ok (.iload_n 1, 1) := by decide +kernel
theorem dX9_dish_2 : decode cX9_dish 2 = .ok (.invokevirtual 112, 3) := by decide +kernel
theorem dX9_dish_5 : decode cX9_dish 5 = .ok (.ifCond .eq 12, 3) := by decide +kernel
theorem dX9_dish_8 : decode cX9_dish 8 = .ok (.aload_n 0, 1) := by decide +kernel
theorem dX9_dish_9 : decode cX9_dish 9 = .ok (.iload_n 1, 1) := by decide +kernel
theorem dX9_dish_10 : decode cX9_dish 10 = .ok (.iload_n 2, 1) := by decide +kernel
theorem dX9_dish_11 : decode cX9_dish 11 = .ok (.invokevirtual 115, 3) := by decide +kernel
theorem dX9_dish_14 : decode cX9_dish 14 = .ok (.goto 5, 3) := by decide +kernel
theorem dX9_dish_17 : decode cX9_dish 17 = .ok (.bipush (-101), 2) := by decide +kernel
theorem dX9_dish_19 : decode cX9_dish 19 = .ok (.ireturn, 1) := by decide +kernel
theorem dX9_guest_0 : decode cX9_guest 0 = .ok (.iload_n 1, 1) := by decide +kernel
theorem dX9_guest_1 : decode cX9_guest 1 = .ok (.i2l, 1) := by decide +kernel
theorem dX9_guest_2 : decode cX9_guest 2 = .ok (.lconst 0, 1) := by decide +kernel
theorem dX9_guest_3 : decode cX9_guest 3 = .ok (.ldc2_w 119, 3) := by decide +kernel
theorem dX9_guest_6 : decode cX9_guest 6 = .ok (.invokestatic 64, 3) := by decide +kernel
theorem dX9_guest_9 : decode cX9_guest 9 = .ok (.ifCond .eq 15, 3) := by decide +kernel
theorem dX9_guest_12 : decode cX9_guest 12 = .ok (.iload_n 2, 1) := by decide +kernel
theorem dX9_guest_13 : decode cX9_guest 13 = .ok (.i2l, 1) := by decide +kernel
theorem dX9_guest_14 : decode cX9_guest 14 = .ok (.lconst 1, 1) := by decide +kernel
theorem dX9_guest_15 : decode cX9_guest 15 = .ok (.ldc2_w 77, 3) := by decide +kernel
theorem dX9_guest_18 : decode cX9_guest 18 = .ok (.invokestatic 64, 3) := by decide +kernel
theorem dX9_guest_21 : decode cX9_guest 21 = .ok (.ifCond .ne 6, 3) := by decide +kernel
theorem dX9_guest_24 : decode cX9_guest 24 = .ok (.bipush (-102), 2) := by decide +kernel
theorem dX9_guest_26 : decode cX9_guest 26 = .ok (.ireturn, 1) := by decide +kernel
theorem dX9_guest_27 : decode cX9_guest 27 = .ok (.aload_n 0, 1) := by decide +kernel
theorem dX9_guest_28 : decode cX9_guest 28 = .ok (.invokevirtual 121, 3) := by decide +kernel
theorem dX9_guest_31 : decode cX9_guest 31 = .ok (.ifCond .eq 6, 3) := by decide +kernel
theorem dX9_guest_34 : decode cX9_guest 34 = .ok (.bipush (-103), 2) := by decide +kernel
theorem dX9_guest_36 : decode cX9_guest 36 = .ok (.ireturn, 1) := by decide +kernel
theorem dX9_guest_37 : decode cX9_guest 37 = .ok (.aload_n 0, 1) := by decide +kernel
theorem dX9_guest_38 : decode cX9_guest 38 = .ok (.getfield 96, 3) := by decide +kernel
theorem dX9_guest_41 : decode cX9_guest 41 = .ok (.iconst 5, 1) := by decide +kernel
theorem dX9_guest_42 : decode cX9_guest 42 = .ok (.if_icmp .ne 6, 3) := by decide +kernel
theorem dX9_guest_45 : decode cX9_guest 45 = .ok (.bipush (-104), 2) := by decide +kernel
theorem dX9_guest_47 : decode cX9_guest 47 = .ok (.ireturn, 1) := by decide +kernel
theorem dX9_guest_48 : decode cX9_guest 48 = .ok (.aload_n 0, 1) := by decide +kernel
theorem dX9_guest_49 : decode cX9_guest 49 = .ok (.getfield 25, 3) := by decide +kernel
theorem dX9_guest_52 : decode cX9_guest 52 = .ok (.iconst 2, 1) := by decide +kernel
theorem dX9_guest_53 : decode cX9_guest 53 = .ok (.aload_n 0, 1) := by decide +kernel
theorem dX9_guest_54 : decode cX9_guest 54 = .ok (.getfield 96, 3) := by decide +kernel
theorem dX9_guest_57 : decode cX9_guest 57 = .ok (.imul, 1) := by decide +kernel
theorem dX9_guest_58 : decode cX9_guest 58 = .ok (.iload_n 1, 1) := by decide +kernel
theorem dX9_guest_59 : decode cX9_guest 59 = .ok (.iastore, 1) := by decide +kernel
theorem dX9_guest_60 : decode cX9_guest 60 = .ok (.aload_n 0, 1) := by decide +kernel
theorem dX9_guest_61 : decode cX9_guest 61 = .ok (.getfield 25, 3) := by decide +kernel
theorem dX9_guest_64 : decode cX9_guest 64 = .ok (.iconst 2, 1) := by decide +kernel
theorem dX9_guest_65 : decode cX9_guest 65 = .ok (.aload_n 0, 1) := by decide +kernel
theorem dX9_guest_66 : decode cX9_guest 66 = .ok (.getfield 96, 3) := by decide +kernel
theorem dX9_guest_69 : decode cX9_guest 69 = .ok (.imul, 1) := by decide +kernel
theorem dX9_guest_70 : decode cX9_guest 70 = .ok (.iconst 1, 1) := by decide +kernel
theorem dX9_guest_71 : decode cX9_guest 71 = .ok (.iadd, 1) := by decide +kernel
theorem dX9_guest_72 : decode cX9_guest 72 = .ok (.iload_n 2, 1) := by decide +kernel
theorem dX9_guest_73 : decode cX9_guest 73 = .ok (.iastore, 1) := by decide +kernel
theorem dX9_guest_74 : decode cX9_guest 74 = .ok (.aload_n 0, 1) := by decide +kernel
theorem dX9_guest_75 : decode cX9_guest 75 = .ok (.getfield 31, 3) := by decide +kernel
theorem dX9_guest_78 : decode cX9_guest 78 = .ok (.aload_n 0, 1) := by decide +kernel
theorem dX9_guest_79 : decode cX9_guest 79 = .ok (.getfield 96, 3) := by decide +kernel
theorem dX9_guest_82 : decode cX9_guest 82 = .ok (.bipush (-2), 2) := by decide +kernel
theorem dX9_guest_84 : decode cX9_guest 84 = .ok (.iastore, 1) := by decide +kernel
theorem dX9_guest_85 : decode cX9_guest 85 = .ok (.iconst 0, 1) := by decide +kernel
theorem dX9_guest_86 : decode cX9_guest 86 = .ok (.istore_n 3, 1) := by decide +kernel
theorem dX9_guest_87 : decode cX9_guest 87 = .ok (.iload_n 3, 1) := by decide +kernel
theorem dX9_guest_88 : decode cX9_guest 88 = .ok (.bipush 6, 2) := by decide +kernel
theorem dX9_guest_90 : decode cX9_guest 90 = .ok (.if_icmp .ge 24, 3) := by decide +kernel
theorem dX9_guest_93 : decode cX9_guest 93 = .ok (.aload_n 0, 1) := by decide +kernel
theorem dX9_guest_94 : decode cX9_guest 94 = .ok (.getfield 28, 3) := by decide +kernel
theorem dX9_guest_97 : decode cX9_guest 97 = .ok (.bipush 6, 2) := by decide +kernel
theorem dX9_guest_99 : decode cX9_guest 99 = .ok (.aload_n 0, 1) := by decide +kernel
theorem dX9_guest_100 : decode cX9_guest 100 = .ok (.getfield 96, 3) := by decide +kernel
theorem dX9_guest_103 : decode cX9_guest 103 = .ok (.imul, 1) := by decide +kernel
theorem dX9_guest_104 : decode cX9_guest 104 = .ok (.iload_n 3, 1) := by decide +kernel
theorem dX9_guest_105 : decode cX9_guest 105 = .ok (.iadd, 1) := by decide +kernel
theorem dX9_guest_106 : decode cX9_guest 106 = .ok (.iconst 0, 1) := by decide +kernel
theorem dX9_guest_107 : decode cX9_guest 107 = .ok (.iastore, 1) := by decide +kernel
theorem dX9_guest_108 : decode cX9_guest 108 = .ok (.iinc 3 1, 3) := by decide +kernel
theorem dX9_guest_111 : decode cX9_guest 111 = .ok (.goto (-24), 3) := by decide +kernel
theorem dX9_guest_114 : decode cX9_guest 114 = .ok (.aload_n 0, 1) := by decide +kernel
theorem dX9_guest_115 : decode cX9_guest 115 = .ok (.dup, 1) := by decide +kernel
theorem dX9_guest_116 : decode cX9_guest 116 = .ok (.getfield 96, 3) := by decide +kernel
theorem dX9_guest_119 : decode cX9_guest 119 = .ok (.iconst 1, 1) := by decide +kernel
theorem dX9_guest_120 : decode cX9_guest 120 = .ok (.iadd, 1) := by decide +kernel
theorem dX9_guest_121 : decode cX9_guest 121 = .ok (.putfield 96, 3) := by decide +kernel
theorem dX9_guest_124 : decode cX9_guest 124 = .ok (.aload_n 0, 1) := by decide +kernel
theorem dX9_guest_125 : decode cX9_guest 125 = .ok (.getfield 96, 3) := by decide +kernel
theorem dX9_guest_128 : decode cX9_guest 128 = .ok (.iconst 1, 1) := by decide +kernel
theorem dX9_guest_129 : decode cX9_guest 129 = .ok (.isub, 1) := by decide +kernel
theorem dX9_guest_130 : decode cX9_guest 130 = .ok (.ireturn, 1) := by decide +kernel
theorem dX9_swayBy_0 : decode cX9_swayBy 0 = .ok (.aload_n 0, 1) := by decide +kernel
theorem dX9_swayBy_1 : decode cX9_swayBy 1 = .ok (.getfield 25, 3) := by decide +kernel
theorem dX9_swayBy_4 : decode cX9_swayBy 4 = .ok (.iconst 2, 1) := by decide +kernel
theorem dX9_swayBy_5 : decode cX9_swayBy 5 = .ok (.iload_n 1, 1) := by decide +kernel
theorem dX9_swayBy_6 : decode cX9_swayBy 6 = .ok (.imul, 1) := by decide +kernel
theorem dX9_swayBy_7 : decode cX9_swayBy 7 = .ok (.iaload, 1) := by decide +kernel
theorem dX9_swayBy_8 : decode cX9_swayBy 8 = .ok (.istore_n 3, 1) := by decide +kernel
theorem dX9_swayBy_9 : decode cX9_swayBy 9 = .ok (.iload_n 3, 1) := by decide +kernel
theorem dX9_swayBy_10 : decode cX9_swayBy 10 = .ok (.ifCond .ne 8, 3) := by decide +kernel
theorem dX9_swayBy_13 : decode cX9_swayBy 13 = .ok (.iload_n 2, 1) := by decide +kernel
theorem dX9_swayBy_14 : decode cX9_swayBy 14 = .ok (.ineg, 1) := by decide +kernel
theorem dX9_swayBy_15 : decode cX9_swayBy 15 = .ok (.goto 36, 3) := by decide +kernel
theorem dX9_swayBy_18 : decode cX9_swayBy 18 = .ok (.iload_n 3, 1) := by decide +kernel
theorem dX9_swayBy_19 : decode cX9_swayBy 19 = .ok (.iconst 1, 1) := by decide +kernel
theorem dX9_swayBy_20 : decode cX9_swayBy 20 = .ok (.if_icmp .ne 7, 3) := by decide +kernel
theorem dX9_swayBy_23 : decode cX9_swayBy 23 = .ok (.iconst 0, 1) := by decide +kernel
theorem dX9_swayBy_24 : decode cX9_swayBy 24 = .ok (.goto 27, 3) := by decide +kernel
theorem dX9_swayBy_27 : decode cX9_swayBy 27 = .ok (.iload_n 3, 1) := by decide +kernel
theorem dX9_swayBy_28 : decode cX9_swayBy 28 = .ok (.iconst 2, 1) := by decide +kernel
theorem dX9_swayBy_29 : decode cX9_swayBy 29 = .ok (.if_icmp .ne 10, 3) := by decide +kernel
theorem dX9_swayBy_32 : decode cX9_swayBy 32 = .ok (.bipush (-2), 2) := by decide +kernel
theorem dX9_swayBy_34 : decode cX9_swayBy 34 = .ok (.iload_n 2, 1) := by decide +kernel
theorem dX9_swayBy_35 : decode cX9_swayBy 35 = .ok (.imul, 1) := by decide +kernel
theorem dX9_swayBy_36 : decode cX9_swayBy 36 = .ok (.goto 15, 3) := by decide +kernel
theorem dX9_swayBy_39 : decode cX9_swayBy 39 = .ok (.iload_n 3, 1) := by decide +kernel
theorem dX9_swayBy_40 : decode cX9_swayBy 40 = .ok (.iconst 3, 1) := by decide +kernel
theorem dX9_swayBy_41 : decode cX9_swayBy 41 = .ok (.if_icmp .ne 7, 3) := by decide +kernel
theorem dX9_swayBy_44 : decode cX9_swayBy 44 = .ok (.iload_n 2, 1) := by decide +kernel
theorem dX9_swayBy_45 : decode cX9_swayBy 45 = .ok (.goto 6, 3) := by decide +kernel
theorem dX9_swayBy_48 : decode cX9_swayBy 48 = .ok (.iconst 2, 1) := by decide +kernel
theorem dX9_swayBy_49 : decode cX9_swayBy 49 = .ok (.iload_n 2, 1) := by decide +kernel
theorem dX9_swayBy_50 : decode cX9_swayBy 50 = .ok (.imul, 1) := by decide +kernel
theorem dX9_swayBy_51 : decode cX9_swayBy 51 = .ok (.ireturn, 1) := by decide +kernel
theorem dX9_joyOf_0 : decode cX9_joyOf 0 = .ok (.aload_n 1, 1) := by decide +kernel
theorem dX9_joyOf_1 : decode cX9_joyOf 1 = .ok (.iload_n 2, 1) := by decide +kernel
theorem dX9_joyOf_2 : decode cX9_joyOf 2 = .ok (.iaload, 1) := by decide +kernel
theorem dX9_joyOf_3 : decode cX9_joyOf 3 = .ok (.ifCond .ge 7, 3) := by decide +kernel
theorem dX9_joyOf_6 : decode cX9_joyOf 6 = .ok (.iconst 0, 1) := by decide +kernel
theorem dX9_joyOf_7 : decode cX9_joyOf 7 = .ok (.goto 16, 3) := by decide +kernel
theorem dX9_joyOf_10 : decode cX9_joyOf 10 = .ok (.aload_n 0, 1) := by decide +kernel
theorem dX9_joyOf_11 : decode cX9_joyOf 11 = .ok (.getfield 28, 3) := by decide +kernel
theorem dX9_joyOf_14 : decode cX9_joyOf 14 = .ok (.bipush 6, 2) := by decide +kernel
theorem dX9_joyOf_16 : decode cX9_joyOf 16 = .ok (.iload_n 2, 1) := by decide +kernel
theorem dX9_joyOf_17 : decode cX9_joyOf 17 = .ok (.imul, 1) := by decide +kernel
theorem dX9_joyOf_18 : decode cX9_joyOf 18 = .ok (.aload_n 1, 1) := by decide +kernel
theorem dX9_joyOf_19 : decode cX9_joyOf 19 = .ok (.iload_n 2, 1) := by decide +kernel
theorem dX9_joyOf_20 : decode cX9_joyOf 20 = .ok (.iaload, 1) := by decide +kernel
theorem dX9_joyOf_21 : decode cX9_joyOf 21 = .ok (.iadd, 1) := by decide +kernel
theorem dX9_joyOf_22 : decode cX9_joyOf 22 = .ok (.iaload, 1) := by decide +kernel
theorem dX9_joyOf_23 : decode cX9_joyOf 23 = .ok (.ireturn, 1) := by decide +kernel
theorem dX9_tell_0 : decode cX9_tell 0 = .ok (.iload_n 2, 1) := by decide +kernel
theorem dX9_tell_1 : decode cX9_tell 1 = .ok (.tableswitch 107 0 5 #[39, 39, 50, 70, 87, 97], 39) := by decide +kernel
theorem dX9_tell_40 : decode cX9_tell 40 = .ok (.aload_n 0, 1) := by decide +kernel
theorem dX9_tell_41 : decode cX9_tell 41 = .ok (.getfield 25, 3) := by decide +kernel
theorem dX9_tell_44 : decode cX9_tell 44 = .ok (.iconst 2, 1) := by decide +kernel
theorem dX9_tell_45 : decode cX9_tell 45 = .ok (.iload_n 1, 1) := by decide +kernel
theorem dX9_tell_46 : decode cX9_tell 46 = .ok (.imul, 1) := by decide +kernel
theorem dX9_tell_47 : decode cX9_tell 47 = .ok (.iload_n 2, 1) := by decide +kernel
theorem dX9_tell_48 : decode cX9_tell 48 = .ok (.iadd, 1) := by decide +kernel
theorem dX9_tell_49 : decode cX9_tell 49 = .ok (.iaload, 1) := by decide +kernel
theorem dX9_tell_50 : decode cX9_tell 50 = .ok (.ireturn, 1) := by decide +kernel
theorem dX9_tell_51 : decode cX9_tell 51 = .ok (.aload_n 0, 1) := by decide +kernel
theorem dX9_tell_52 : decode cX9_tell 52 = .ok (.getfield 31, 3) := by decide +kernel
theorem dX9_tell_55 : decode cX9_tell 55 = .ok (.iload_n 1, 1) := by decide +kernel
theorem dX9_tell_56 : decode cX9_tell 56 = .ok (.iaload, 1) := by decide +kernel
theorem dX9_tell_57 : decode cX9_tell 57 = .ok (.ifCond .ge 7, 3) := by decide +kernel
theorem dX9_tell_60 : decode cX9_tell 60 = .ok (.iconst (-1), 1) := by decide +kernel
theorem dX9_tell_61 : decode cX9_tell 61 = .ok (.goto 9, 3) := by decide +kernel
theorem dX9_tell_64 : decode cX9_tell 64 = .ok (.aload_n 0, 1) := by decide +kernel
theorem dX9_tell_65 : decode cX9_tell 65 = .ok (.getfield 31, 3) := by decide +kernel
theorem dX9_tell_68 : decode cX9_tell 68 = .ok (.iload_n 1, 1) := by decide +kernel
theorem dX9_tell_69 : decode cX9_tell 69 = .ok (.iaload, 1) := by decide +kernel
theorem dX9_tell_70 : decode cX9_tell 70 = .ok (.ireturn, 1) := by decide +kernel
theorem dX9_tell_71 : decode cX9_tell 71 = .ok (.aload_n 0, 1) := by decide +kernel
theorem dX9_tell_72 : decode cX9_tell 72 = .ok (.getfield 31, 3) := by decide +kernel
theorem dX9_tell_75 : decode cX9_tell 75 = .ok (.iload_n 1, 1) := by decide +kernel
theorem dX9_tell_76 : decode cX9_tell 76 = .ok (.iaload, 1) := by decide +kernel
theorem dX9_tell_77 : decode cX9_tell 77 = .ok (.bipush (-2), 2) := by decide +kernel
theorem dX9_tell_79 : decode cX9_tell 79 = .ok (.if_icmp .ne 7, 3) := by decide +kernel
theorem dX9_tell_82 : decode cX9_tell 82 = .ok (.iconst 0, 1) := by decide +kernel
theorem dX9_tell_83 : decode cX9_tell 83 = .ok (.goto 4, 3) := by decide +kernel
theorem dX9_tell_86 : decode cX9_tell 86 = .ok (.iconst 1, 1) := by decide +kernel
theorem dX9_tell_87 : decode cX9_tell 87 = .ok (.ireturn, 1) := by decide +kernel
theorem dX9_tell_88 : decode cX9_tell 88 = .ok (.aload_n 0, 1) := by decide +kernel
theorem dX9_tell_89 : decode cX9_tell 89 = .ok (.iload_n 1, 1) := by decide +kernel
theorem dX9_tell_90 : decode cX9_tell 90 = .ok (.aload_n 0, 1) := by decide +kernel
theorem dX9_tell_91 : decode cX9_tell 91 = .ok (.getfield 93, 3) := by decide +kernel
theorem dX9_tell_94 : decode cX9_tell 94 = .ok (.invokevirtual 125, 3) := by decide +kernel
theorem dX9_tell_97 : decode cX9_tell 97 = .ok (.ireturn, 1) := by decide +kernel
theorem dX9_tell_98 : decode cX9_tell 98 = .ok (.aload_n 0, 1) := by decide +kernel
theorem dX9_tell_99 : decode cX9_tell 99 = .ok (.aload_n 0, 1) := by decide +kernel
theorem dX9_tell_100 : decode cX9_tell 100 = .ok (.getfield 31, 3) := by decide +kernel
theorem dX9_tell_103 : decode cX9_tell 103 = .ok (.iload_n 1, 1) := by decide +kernel
theorem dX9_tell_104 : decode cX9_tell 104 = .ok (.invokevirtual 128, 3) := by decide +kernel
theorem dX9_tell_107 : decode cX9_tell 107 = .ok (.ireturn, 1) := by decide +kernel
theorem dX9_tell_108 : decode cX9_tell 108 = .ok (.bipush (-102), 2) := by decide +kernel
theorem dX9_tell_110 : decode cX9_tell 110 = .ok (.ireturn, 1) := by decide +kernel
theorem dX9_about_0 : decode cX9_about 0 = .ok (.aload_n 0, 1) := by decide +kernel
theorem dX9_about_1 : decode cX9_about 1 = .ok (.iload_n 1, 1) := by decide +kernel
theorem dX9_about_2 : decode cX9_about 2 = .ok (.invokevirtual 131, 3) := by decide +kernel
theorem dX9_about_5 : decode cX9_about 5 = .ok (.ifCond .eq 12, 3) := by decide +kernel
theorem dX9_about_8 : decode cX9_about 8 = .ok (.aload_n 0, 1) := by decide +kernel
theorem dX9_about_9 : decode cX9_about 9 = .ok (.iload_n 1, 1) := by decide +kernel
theorem dX9_about_10 : decode cX9_about 10 = .ok (.iload_n 2, 1) := by decide +kernel
theorem dX9_about_11 : decode cX9_about 11 = .ok (.invokevirtual 134, 3) := by decide +kernel
theorem dX9_about_14 : decode cX9_about 14 = .ok (.goto 5, 3) := by decide +kernel
theorem dX9_about_17 : decode cX9_about 17 = .ok (.bipush (-101), 2) := by decide +kernel
theorem dX9_about_19 : decode cX9_about 19 = .ok (.ireturn, 1) := by decide +kernel
theorem dX9_as_0 : decode cX9_as 0 = .ok (.aload_n 0, 1) := by decide +kernel
theorem dX9_as_1 : decode cX9_as 1 = .ok (.iload_n 1, 1) := by decide +kernel
theorem dX9_as_2 : decode cX9_as 2 = .ok (.invokevirtual 131, 3) := by decide +kernel
theorem dX9_as_5 : decode cX9_as 5 = .ok (.ifCond .ne 6, 3) := by decide +kernel
theorem dX9_as_8 : decode cX9_as 8 = .ok (.bipush (-101), 2) := by decide +kernel
theorem dX9_as_10 : decode cX9_as 10 = .ok (.ireturn, 1) := by decide +kernel
theorem dX9_as_11 : decode cX9_as 11 = .ok (.iload_n 2, 1) := by decide +kernel
theorem dX9_as_12 : decode cX9_as 12 = .ok (.i2l, 1) := by decide +kernel
theorem dX9_as_13 : decode cX9_as 13 = .ok (.lconst 0, 1) := by decide +kernel
theorem dX9_as_14 : decode cX9_as 14 = .ok (.ldc2_w 119, 3) := by decide +kernel
theorem dX9_as_17 : decode cX9_as 17 = .ok (.invokestatic 64, 3) := by decide +kernel
theorem dX9_as_20 : decode cX9_as 20 = .ok (.ifCond .ne 6, 3) := by decide +kernel
theorem dX9_as_23 : decode cX9_as 23 = .ok (.bipush (-102), 2) := by decide +kernel
theorem dX9_as_25 : decode cX9_as 25 = .ok (.ireturn, 1) := by decide +kernel
theorem dX9_as_26 : decode cX9_as 26 = .ok (.aload_n 0, 1) := by decide +kernel
theorem dX9_as_27 : decode cX9_as 27 = .ok (.getfield 25, 3) := by decide +kernel
theorem dX9_as_30 : decode cX9_as 30 = .ok (.iconst 2, 1) := by decide +kernel
theorem dX9_as_31 : decode cX9_as 31 = .ok (.iload_n 1, 1) := by decide +kernel
theorem dX9_as_32 : decode cX9_as 32 = .ok (.imul, 1) := by decide +kernel
theorem dX9_as_33 : decode cX9_as 33 = .ok (.iaload, 1) := by decide +kernel
theorem dX9_as_34 : decode cX9_as 34 = .ok (.istore_n 3, 1) := by decide +kernel
theorem dX9_as_35 : decode cX9_as 35 = .ok (.iload_n 2, 1) := by decide +kernel
theorem dX9_as_36 : decode cX9_as 36 = .ok (.ifCond .eq 18, 3) := by decide +kernel
theorem dX9_as_39 : decode cX9_as 39 = .ok (.iload_n 2, 1) := by decide +kernel
theorem dX9_as_40 : decode cX9_as 40 = .ok (.iload_n 3, 1) := by decide +kernel
theorem dX9_as_41 : decode cX9_as 41 = .ok (.if_icmp .eq 13, 3) := by decide +kernel
theorem dX9_as_44 : decode cX9_as 44 = .ok (.iload_n 2, 1) := by decide +kernel
theorem dX9_as_45 : decode cX9_as 45 = .ok (.iconst 3, 1) := by decide +kernel
theorem dX9_as_46 : decode cX9_as 46 = .ok (.if_icmp .ne 12, 3) := by decide +kernel
theorem dX9_as_49 : decode cX9_as 49 = .ok (.iload_n 3, 1) := by decide +kernel
theorem dX9_as_50 : decode cX9_as 50 = .ok (.iconst 4, 1) := by decide +kernel
theorem dX9_as_51 : decode cX9_as 51 = .ok (.if_icmp .ne 7, 3) := by decide +kernel
theorem dX9_as_54 : decode cX9_as 54 = .ok (.iconst 1, 1) := by decide +kernel
theorem dX9_as_55 : decode cX9_as 55 = .ok (.goto 4, 3) := by decide +kernel
theorem dX9_as_58 : decode cX9_as 58 = .ok (.iconst 0, 1) := by decide +kernel
theorem dX9_as_59 : decode cX9_as 59 = .ok (.istore 4, 2) := by decide +kernel
theorem dX9_as_61 : decode cX9_as 61 = .ok (.iload 4, 2) := by decide +kernel
theorem dX9_as_63 : decode cX9_as 63 = .ok (.ifCond .eq 7, 3) := by decide +kernel
theorem dX9_as_66 : decode cX9_as 66 = .ok (.iload_n 1, 1) := by decide +kernel
theorem dX9_as_67 : decode cX9_as 67 = .ok (.goto 4, 3) := by decide +kernel
theorem dX9_as_70 : decode cX9_as 70 = .ok (.iconst (-1), 1) := by decide +kernel
theorem dX9_as_71 : decode cX9_as 71 = .ok (.ireturn, 1) := by decide +kernel
theorem dX9_want_0 : decode cX9_want 0 = .ok (.aload_n 0, 1) := by decide +kernel
theorem dX9_want_1 : decode cX9_want 1 = .ok (.iload_n 1, 1) := by decide +kernel
theorem dX9_want_2 : decode cX9_want 2 = .ok (.invokevirtual 131, 3) := by decide +kernel
theorem dX9_want_5 : decode cX9_want 5 = .ok (.ifCond .eq 11, 3) := by decide +kernel
theorem dX9_want_8 : decode cX9_want 8 = .ok (.aload_n 0, 1) := by decide +kernel
theorem dX9_want_9 : decode cX9_want 9 = .ok (.iload_n 2, 1) := by decide +kernel
theorem dX9_want_10 : decode cX9_want 10 = .ok (.invokevirtual 112, 3) := by decide +kernel
theorem dX9_want_13 : decode cX9_want 13 = .ok (.ifCond .ne 6, 3) := by decide +kernel
theorem dX9_want_16 : decode cX9_want 16 = .ok (.bipush (-101), 2) := by decide +kernel
theorem dX9_want_18 : decode cX9_want 18 = .ok (.ireturn, 1) := by decide +kernel
theorem dX9_want_19 : decode cX9_want 19 = .ok (.iload_n 3, 1) := by decide +kernel
theorem dX9_want_20 : decode cX9_want 20 = .ok (.i2l, 1) := by decide +kernel
theorem dX9_want_21 : decode cX9_want 21 = .ok (.lconst 0, 1) := by decide +kernel
theorem dX9_want_22 : decode cX9_want 22 = .ok (.ldc2_w 77, 3) := by decide +kernel
theorem dX9_want_25 : decode cX9_want 25 = .ok (.invokestatic 64, 3) := by decide +kernel
theorem dX9_want_28 : decode cX9_want 28 = .ok (.ifCond .ne 6, 3) := by decide +kernel
theorem dX9_want_31 : decode cX9_want 31 = .ok (.bipush (-102), 2) := by decide +kernel
theorem dX9_want_33 : decode cX9_want 33 = .ok (.ireturn, 1) := by decide +kernel
theorem dX9_want_34 : decode cX9_want 34 = .ok (.aload_n 0, 1) := by decide +kernel
theorem dX9_want_35 : decode cX9_want 35 = .ok (.getfield 28, 3) := by decide +kernel
theorem dX9_want_38 : decode cX9_want 38 = .ok (.bipush 6, 2) := by decide +kernel
theorem dX9_want_40 : decode cX9_want 40 = .ok (.iload_n 1, 1) := by decide +kernel
theorem dX9_want_41 : decode cX9_want 41 = .ok (.imul, 1) := by decide +kernel
theorem dX9_want_42 : decode cX9_want 42 = .ok (.iload_n 2, 1) := by decide +kernel
theorem dX9_want_43 : decode cX9_want 43 = .ok (.iadd, 1) := by decide +kernel
theorem dX9_want_44 : decode cX9_want 44 = .ok (.iaload, 1) := by decide +kernel
theorem dX9_want_45 : decode cX9_want 45 = .ok (.istore 4, 2) := by decide +kernel
theorem dX9_want_47 : decode cX9_want 47 = .ok (.aload_n 0, 1) := by decide +kernel
theorem dX9_want_48 : decode cX9_want 48 = .ok (.getfield 28, 3) := by decide +kernel
theorem dX9_want_51 : decode cX9_want 51 = .ok (.bipush 6, 2) := by decide +kernel
theorem dX9_want_53 : decode cX9_want 53 = .ok (.iload_n 1, 1) := by decide +kernel
theorem dX9_want_54 : decode cX9_want 54 = .ok (.imul, 1) := by decide +kernel
theorem dX9_want_55 : decode cX9_want 55 = .ok (.iload_n 2, 1) := by decide +kernel
theorem dX9_want_56 : decode cX9_want 56 = .ok (.iadd, 1) := by decide +kernel
theorem dX9_want_57 : decode cX9_want 57 = .ok (.iload_n 3, 1) := by decide +kernel
theorem dX9_want_58 : decode cX9_want 58 = .ok (.iastore, 1) := by decide +kernel
theorem dX9_want_59 : decode cX9_want 59 = .ok (.iload 4, 2) := by decide +kernel
theorem dX9_want_61 : decode cX9_want 61 = .ok (.ireturn, 1) := by decide +kernel
theorem dX9_purse_0 : decode cX9_purse 0 = .ok (.aload_n 0, 1) := by decide +kernel
theorem dX9_purse_1 : decode cX9_purse 1 = .ok (.iload_n 1, 1) := by decide +kernel
theorem dX9_purse_2 : decode cX9_purse 2 = .ok (.invokevirtual 131, 3) := by decide +kernel
theorem dX9_purse_5 : decode cX9_purse 5 = .ok (.ifCond .ne 6, 3) := by decide +kernel
theorem dX9_purse_8 : decode cX9_purse 8 = .ok (.bipush (-101), 2) := by decide +kernel
theorem dX9_purse_10 : decode cX9_purse 10 = .ok (.ireturn, 1) := by decide +kernel
theorem dX9_purse_11 : decode cX9_purse 11 = .ok (.iload_n 2, 1) := by decide +kernel
theorem dX9_purse_12 : decode cX9_purse 12 = .ok (.i2l, 1) := by decide +kernel
theorem dX9_purse_13 : decode cX9_purse 13 = .ok (.lconst 1, 1) := by decide +kernel
theorem dX9_purse_14 : decode cX9_purse 14 = .ok (.ldc2_w 77, 3) := by decide +kernel
theorem dX9_purse_17 : decode cX9_purse 17 = .ok (.invokestatic 64, 3) := by decide +kernel
theorem dX9_purse_20 : decode cX9_purse 20 = .ok (.ifCond .ne 6, 3) := by decide +kernel
theorem dX9_purse_23 : decode cX9_purse 23 = .ok (.bipush (-102), 2) := by decide +kernel
theorem dX9_purse_25 : decode cX9_purse 25 = .ok (.ireturn, 1) := by decide +kernel
theorem dX9_purse_26 : decode cX9_purse 26 = .ok (.aload_n 0, 1) := by decide +kernel
theorem dX9_purse_27 : decode cX9_purse 27 = .ok (.getfield 25, 3) := by decide +kernel
theorem dX9_purse_30 : decode cX9_purse 30 = .ok (.iconst 2, 1) := by decide +kernel
theorem dX9_purse_31 : decode cX9_purse 31 = .ok (.iload_n 1, 1) := by decide +kernel
theorem dX9_purse_32 : decode cX9_purse 32 = .ok (.imul, 1) := by decide +kernel
theorem dX9_purse_33 : decode cX9_purse 33 = .ok (.iconst 1, 1) := by decide +kernel
theorem dX9_purse_34 : decode cX9_purse 34 = .ok (.iadd, 1) := by decide +kernel
theorem dX9_purse_35 : decode cX9_purse 35 = .ok (.iaload, 1) := by decide +kernel
theorem dX9_purse_36 : decode cX9_purse 36 = .ok (.istore_n 3, 1) := by decide +kernel
theorem dX9_purse_37 : decode cX9_purse 37 = .ok (.aload_n 0, 1) := by decide +kernel
theorem dX9_purse_38 : decode cX9_purse 38 = .ok (.getfield 25, 3) := by decide +kernel
theorem dX9_purse_41 : decode cX9_purse 41 = .ok (.iconst 2, 1) := by decide +kernel
theorem dX9_purse_42 : decode cX9_purse 42 = .ok (.iload_n 1, 1) := by decide +kernel
theorem dX9_purse_43 : decode cX9_purse 43 = .ok (.imul, 1) := by decide +kernel
theorem dX9_purse_44 : decode cX9_purse 44 = .ok (.iconst 1, 1) := by decide +kernel
theorem dX9_purse_45 : decode cX9_purse 45 = .ok (.iadd, 1) := by decide +kernel
theorem dX9_purse_46 : decode cX9_purse 46 = .ok (.iload_n 2, 1) := by decide +kernel
theorem dX9_purse_47 : decode cX9_purse 47 = .ok (.iastore, 1) := by decide +kernel
theorem dX9_purse_48 : decode cX9_purse 48 = .ok (.iload_n 3, 1) := by decide +kernel
theorem dX9_purse_49 : decode cX9_purse 49 = .ok (.ireturn, 1) := by decide +kernel
theorem dX9_urge_0 : decode cX9_urge 0 = .ok (.aload_n 0, 1) := by decide +kernel
theorem dX9_urge_1 : decode cX9_urge 1 = .ok (.iload_n 1, 1) := by decide +kernel
theorem dX9_urge_2 : decode cX9_urge 2 = .ok (.invokevirtual 112, 3) := by decide +kernel
theorem dX9_urge_5 : decode cX9_urge 5 = .ok (.ifCond .ne 6, 3) := by decide +kernel
theorem dX9_urge_8 : decode cX9_urge 8 = .ok (.bipush (-101), 2) := by decide +kernel
theorem dX9_urge_10 : decode cX9_urge 10 = .ok (.ireturn, 1) := by decide +kernel
theorem dX9_urge_11 : decode cX9_urge 11 = .ok (.iload_n 2, 1) := by decide +kernel
theorem dX9_urge_12 : decode cX9_urge 12 = .ok (.i2l, 1) := by decide +kernel
theorem dX9_urge_13 : decode cX9_urge 13 = .ok (.lconst 0, 1) := by decide +kernel
theorem dX9_urge_14 : decode cX9_urge 14 = .ok (.ldc2_w 137, 3) := by decide +kernel
theorem dX9_urge_17 : decode cX9_urge 17 = .ok (.invokestatic 64, 3) := by decide +kernel
theorem dX9_urge_20 : decode cX9_urge 20 = .ok (.ifCond .ne 6, 3) := by decide +kernel
theorem dX9_urge_23 : decode cX9_urge 23 = .ok (.bipush (-102), 2) := by decide +kernel
theorem dX9_urge_25 : decode cX9_urge 25 = .ok (.ireturn, 1) := by decide +kernel
theorem dX9_urge_26 : decode cX9_urge 26 = .ok (.aload_n 0, 1) := by decide +kernel
theorem dX9_urge_27 : decode cX9_urge 27 = .ok (.getfield 59, 3) := by decide +kernel
theorem dX9_urge_30 : decode cX9_urge 30 = .ok (.istore_n 3, 1) := by decide +kernel
theorem dX9_urge_31 : decode cX9_urge 31 = .ok (.aload_n 0, 1) := by decide +kernel
theorem dX9_urge_32 : decode cX9_urge 32 = .ok (.iload_n 2, 1) := by decide +kernel
theorem dX9_urge_33 : decode cX9_urge 33 = .ok (.ifCond .ne 7, 3) := by decide +kernel
theorem dX9_urge_36 : decode cX9_urge 36 = .ok (.iconst (-1), 1) := by decide +kernel
theorem dX9_urge_37 : decode cX9_urge 37 = .ok (.goto 4, 3) := by decide +kernel
theorem dX9_urge_40 : decode cX9_urge 40 = .ok (.iload_n 1, 1) := by decide +kernel
theorem dX9_urge_41 : decode cX9_urge 41 = .ok (.putfield 59, 3) := by decide +kernel
theorem dX9_urge_44 : decode cX9_urge 44 = .ok (.aload_n 0, 1) := by decide +kernel
theorem dX9_urge_45 : decode cX9_urge 45 = .ok (.iload_n 2, 1) := by decide +kernel
theorem dX9_urge_46 : decode cX9_urge 46 = .ok (.putfield 102, 3) := by decide +kernel
theorem dX9_urge_49 : decode cX9_urge 49 = .ok (.iload_n 3, 1) := by decide +kernel
theorem dX9_urge_50 : decode cX9_urge 50 = .ok (.ireturn, 1) := by decide +kernel
theorem dX9_asItIs_0 : decode cX9_asItIs 0 = .ok (.aload_n 0, 1) := by decide +kernel
theorem dX9_asItIs_1 : decode cX9_asItIs 1 = .ok (.aload_n 0, 1) := by decide +kernel
theorem dX9_asItIs_2 : decode cX9_asItIs 2 = .ok (.getfield 93, 3) := by decide +kernel
theorem dX9_asItIs_5 : decode cX9_asItIs 5 = .ok (.putfield 139, 3) := by decide +kernel
theorem dX9_asItIs_8 : decode cX9_asItIs 8 = .ok (.aload_n 0, 1) := by decide +kernel
theorem dX9_asItIs_9 : decode cX9_asItIs 9 = .ok (.aload_n 0, 1) := by decide +kernel
theorem dX9_asItIs_10 : decode cX9_asItIs 10 = .ok (.getfield 59, 3) := by decide +kernel
theorem dX9_asItIs_13 : decode cX9_asItIs 13 = .ok (.putfield 142, 3) := by decide +kernel
theorem dX9_asItIs_16 : decode cX9_asItIs 16 = .ok (.aload_n 0, 1) := by decide +kernel
theorem dX9_asItIs_17 : decode cX9_asItIs 17 = .ok (.aload_n 0, 1) := by decide +kernel
theorem dX9_asItIs_18 : decode cX9_asItIs 18 = .ok (.getfield 102, 3) := by decide +kernel
theorem dX9_asItIs_21 : decode cX9_asItIs 21 = .ok (.putfield 145, 3) := by decide +kernel
theorem dX9_asItIs_24 : decode cX9_asItIs 24 = .ok (.return_, 1) := by decide +kernel
theorem dX9_valueOf_0 : decode cX9_valueOf 0 = .ok (.aload_n 0, 1) := by decide +kernel
theorem dX9_valueOf_1 : decode cX9_valueOf 1 = .ok (.aload_n 1, 1) := by decide +kernel
theorem dX9_valueOf_2 : decode cX9_valueOf 2 = .ok (.iload_n 3, 1) := by decide +kernel
theorem dX9_valueOf_3 : decode cX9_valueOf 3 = .ok (.invokevirtual 108, 3) := by decide +kernel
theorem dX9_valueOf_6 : decode cX9_valueOf 6 = .ok (.aload_n 1, 1) := by decide +kernel
theorem dX9_valueOf_7 : decode cX9_valueOf 7 = .ok (.iload_n 2, 1) := by decide +kernel
theorem dX9_valueOf_8 : decode cX9_valueOf 8 = .ok (.iaload, 1) := by decide +kernel
theorem dX9_valueOf_9 : decode cX9_valueOf 9 = .ok (.iload_n 3, 1) := by decide +kernel
theorem dX9_valueOf_10 : decode cX9_valueOf 10 = .ok (.if_icmp .ne 7, 3) := by decide +kernel
theorem dX9_valueOf_13 : decode cX9_valueOf 13 = .ok (.iconst 1, 1) := by decide +kernel
theorem dX9_valueOf_14 : decode cX9_valueOf 14 = .ok (.goto 4, 3) := by decide +kernel
theorem dX9_valueOf_17 : decode cX9_valueOf 17 = .ok (.iconst 0, 1) := by decide +kernel
theorem dX9_valueOf_18 : decode cX9_valueOf 18 = .ok (.isub, 1) := by decide +kernel
theorem dX9_valueOf_19 : decode cX9_valueOf 19 = .ok (.istore 4, 2) := by decide +kernel
theorem dX9_valueOf_21 : decode cX9_valueOf 21 = .ok (.aload_n 0, 1) := by decide +kernel
theorem dX9_valueOf_22 : decode cX9_valueOf 22 = .ok (.getfield 28, 3) := by decide +kernel
theorem dX9_valueOf_25 : decode cX9_valueOf 25 = .ok (.bipush 6, 2) := by decide +kernel
theorem dX9_valueOf_27 : decode cX9_valueOf 27 = .ok (.iload_n 2, 1) := by decide +kernel
theorem dX9_valueOf_28 : decode cX9_valueOf 28 = .ok (.imul, 1) := by decide +kernel
theorem dX9_valueOf_29 : decode cX9_valueOf 29 = .ok (.iload_n 3, 1) := by decide +kernel
theorem dX9_valueOf_30 : decode cX9_valueOf 30 = .ok (.iadd, 1) := by decide +kernel
theorem dX9_valueOf_31 : decode cX9_valueOf 31 = .ok (.iaload, 1) := by decide +kernel
theorem dX9_valueOf_32 : decode cX9_valueOf 32 = .ok (.aload_n 0, 1) := by decide +kernel
theorem dX9_valueOf_33 : decode cX9_valueOf 33 = .ok (.iload_n 2, 1) := by decide +kernel
theorem dX9_valueOf_34 : decode cX9_valueOf 34 = .ok (.aload_n 0, 1) := by decide +kernel
theorem dX9_valueOf_35 : decode cX9_valueOf 35 = .ok (.getfield 139, 3) := by decide +kernel
theorem dX9_valueOf_38 : decode cX9_valueOf 38 = .ok (.invokevirtual 125, 3) := by decide +kernel
theorem dX9_valueOf_41 : decode cX9_valueOf 41 = .ok (.iload 4, 2) := by decide +kernel
theorem dX9_valueOf_43 : decode cX9_valueOf 43 = .ok (.imul, 1) := by decide +kernel
theorem dX9_valueOf_44 : decode cX9_valueOf 44 = .ok (.iadd, 1) := by decide +kernel
theorem dX9_valueOf_45 : decode cX9_valueOf 45 = .ok (.iload_n 3, 1) := by decide +kernel
theorem dX9_valueOf_46 : decode cX9_valueOf 46 = .ok (.aload_n 0, 1) := by decide +kernel
theorem dX9_valueOf_47 : decode cX9_valueOf 47 = .ok (.getfield 142, 3) := by decide +kernel
theorem dX9_valueOf_50 : decode cX9_valueOf 50 = .ok (.if_icmp .ne 10, 3) := by decide +kernel
theorem dX9_valueOf_53 : decode cX9_valueOf 53 = .ok (.aload_n 0, 1) := by decide +kernel
theorem dX9_valueOf_54 : decode cX9_valueOf 54 = .ok (.getfield 145, 3) := by decide +kernel
theorem dX9_valueOf_57 : decode cX9_valueOf 57 = .ok (.goto 4, 3) := by decide +kernel
theorem dX9_valueOf_60 : decode cX9_valueOf 60 = .ok (.iconst 0, 1) := by decide +kernel
theorem dX9_valueOf_61 : decode cX9_valueOf 61 = .ok (.iadd, 1) := by decide +kernel
theorem dX9_valueOf_62 : decode cX9_valueOf 62 = .ok (.ireturn, 1) := by decide +kernel
theorem dX9_mayHave_0 : decode cX9_mayHave 0 = .ok (.aload_n 0, 1) := by decide +kernel
theorem dX9_mayHave_1 : decode cX9_mayHave 1 = .ok (.aload_n 1, 1) := by decide +kernel
theorem dX9_mayHave_2 : decode cX9_mayHave 2 = .ok (.iload_n 3, 1) := by decide +kernel
theorem dX9_mayHave_3 : decode cX9_mayHave 3 = .ok (.invokevirtual 108, 3) := by decide +kernel
theorem dX9_mayHave_6 : decode cX9_mayHave 6 = .ok (.aload_n 1, 1) := by decide +kernel
theorem dX9_mayHave_7 : decode cX9_mayHave 7 = .ok (.iload_n 2, 1) := by decide +kernel
theorem dX9_mayHave_8 : decode cX9_mayHave 8 = .ok (.iaload, 1) := by decide +kernel
theorem dX9_mayHave_9 : decode cX9_mayHave 9 = .ok (.iload_n 3, 1) := by decide +kernel
theorem dX9_mayHave_10 : decode cX9_mayHave 10 = .ok (.if_icmp .ne 7, 3) := by decide +kernel
theorem dX9_mayHave_13 : decode cX9_mayHave 13 = .ok (.iconst 1, 1) := by decide +kernel
theorem dX9_mayHave_14 : decode cX9_mayHave 14 = .ok (.goto 4, 3) := by decide +kernel
theorem dX9_mayHave_17 : decode cX9_mayHave 17 = .ok (.iconst 0, 1) := by decide +kernel
theorem dX9_mayHave_18 : decode cX9_mayHave 18 = .ok (.isub, 1) := by decide +kernel
theorem dX9_mayHave_19 : decode cX9_mayHave 19 = .ok (.istore 4, 2) := by decide +kernel
theorem dX9_mayHave_21 : decode cX9_mayHave 21 = .ok (.aload_n 0, 1) := by decide +kernel
theorem dX9_mayHave_22 : decode cX9_mayHave 22 = .ok (.getfield 22, 3) := by decide +kernel
theorem dX9_mayHave_25 : decode cX9_mayHave 25 = .ok (.iload_n 3, 1) := by decide +kernel
theorem dX9_mayHave_26 : decode cX9_mayHave 26 = .ok (.iaload, 1) := by decide +kernel
theorem dX9_mayHave_27 : decode cX9_mayHave 27 = .ok (.aload_n 0, 1) := by decide +kernel
theorem dX9_mayHave_28 : decode cX9_mayHave 28 = .ok (.getfield 25, 3) := by decide +kernel
theorem dX9_mayHave_31 : decode cX9_mayHave 31 = .ok (.iconst 2, 1) := by decide +kernel
theorem dX9_mayHave_32 : decode cX9_mayHave 32 = .ok (.iload_n 2, 1) := by decide +kernel
theorem dX9_mayHave_33 : decode cX9_mayHave 33 = .ok (.imul, 1) := by decide +kernel
theorem dX9_mayHave_34 : decode cX9_mayHave 34 = .ok (.iconst 1, 1) := by decide +kernel
theorem dX9_mayHave_35 : decode cX9_mayHave 35 = .ok (.iadd, 1) := by decide +kernel
theorem dX9_mayHave_36 : decode cX9_mayHave 36 = .ok (.iaload, 1) := by decide +kernel
theorem dX9_mayHave_37 : decode cX9_mayHave 37 = .ok (.if_icmp .gt 18, 3) := by decide +kernel
theorem dX9_mayHave_40 : decode cX9_mayHave 40 = .ok (.iload 4, 2) := by decide +kernel
theorem dX9_mayHave_42 : decode cX9_mayHave 42 = .ok (.aload_n 0, 1) := by decide +kernel
theorem dX9_mayHave_43 : decode cX9_mayHave 43 = .ok (.getfield 19, 3) := by decide +kernel
theorem dX9_mayHave_46 : decode cX9_mayHave 46 = .ok (.iload_n 3, 1) := by decide +kernel
theorem dX9_mayHave_47 : decode cX9_mayHave 47 = .ok (.iaload, 1) := by decide +kernel
theorem dX9_mayHave_48 : decode cX9_mayHave 48 = .ok (.if_icmp .ge 7, 3) := by decide +kernel
theorem dX9_mayHave_51 : decode cX9_mayHave 51 = .ok (.iconst 1, 1) := by decide +kernel
theorem dX9_mayHave_52 : decode cX9_mayHave 52 = .ok (.goto 4, 3) := by decide +kernel
theorem dX9_mayHave_55 : decode cX9_mayHave 55 = .ok (.iconst 0, 1) := by decide +kernel
theorem dX9_mayHave_56 : decode cX9_mayHave 56 = .ok (.ireturn, 1) := by decide +kernel
theorem dX9_bestFor_0 : decode cX9_bestFor 0 = .ok (.iconst (-1), 1) := by decide +kernel
theorem dX9_bestFor_1 : decode cX9_bestFor 1 = .ok (.istore_n 3, 1) := by decide +kernel
theorem dX9_bestFor_2 : decode cX9_bestFor 2 = .ok (.iconst 0, 1) := by decide +kernel
theorem dX9_bestFor_3 : decode cX9_bestFor 3 = .ok (.istore 4, 2) := by decide +kernel
theorem dX9_bestFor_5 : decode cX9_bestFor 5 = .ok (.iconst 0, 1) := by decide +kernel
theorem dX9_bestFor_6 : decode cX9_bestFor 6 = .ok (.istore 5, 2) := by decide +kernel
theorem dX9_bestFor_8 : decode cX9_bestFor 8 = .ok (.iload 5, 2) := by decide +kernel
theorem dX9_bestFor_10 : decode cX9_bestFor 10 = .ok (.aload_n 0, 1) := by decide +kernel
theorem dX9_bestFor_11 : decode cX9_bestFor 11 = .ok (.getfield 90, 3) := by decide +kernel
theorem dX9_bestFor_14 : decode cX9_bestFor 14 = .ok (.if_icmp .ge 75, 3) := by decide +kernel
theorem dX9_bestFor_17 : decode cX9_bestFor 17 = .ok (.aload_n 0, 1) := by decide +kernel
theorem dX9_bestFor_18 : decode cX9_bestFor 18 = .ok (.aload_n 1, 1) := by decide +kernel
theorem dX9_bestFor_19 : decode cX9_bestFor 19 = .ok (.iload_n 2, 1) := by decide +kernel
theorem dX9_bestFor_20 : decode cX9_bestFor 20 = .ok (.iload 5, 2) := by decide +kernel
theorem dX9_bestFor_22 : decode cX9_bestFor 22 = .ok (.invokevirtual 148, 3) := by decide +kernel
theorem dX9_bestFor_25 : decode cX9_bestFor 25 = .ok (.ifCond .eq 58, 3) := by decide +kernel
theorem dX9_bestFor_28 : decode cX9_bestFor 28 = .ok (.aload_n 0, 1) := by decide +kernel
theorem dX9_bestFor_29 : decode cX9_bestFor 29 = .ok (.aload_n 1, 1) := by decide +kernel
theorem dX9_bestFor_30 : decode cX9_bestFor 30 = .ok (.iload_n 2, 1) := by decide +kernel
theorem dX9_bestFor_31 : decode cX9_bestFor 31 = .ok (.iload 5, 2) := by decide +kernel
theorem dX9_bestFor_33 : decode cX9_bestFor 33 = .ok (.invokevirtual 152, 3) := by decide +kernel
theorem dX9_bestFor_36 : decode cX9_bestFor 36 = .ok (.istore 6, 2) := by decide +kernel
theorem dX9_bestFor_38 : decode cX9_bestFor 38 = .ok (.iload_n 3, 1) := by decide +kernel
theorem dX9_bestFor_39 : decode cX9_bestFor 39 = .ok (.iconst (-1), 1) := by decide +kernel
theorem dX9_bestFor_40 : decode cX9_bestFor 40 = .ok (.if_icmp .eq 10, 3) := by decide +kernel
theorem dX9_bestFor_43 : decode cX9_bestFor 43 = .ok (.iload 6, 2) := by decide +kernel
theorem dX9_bestFor_45 : decode cX9_bestFor 45 = .ok (.iload 4, 2) := by decide +kernel
theorem dX9_bestFor_47 : decode cX9_bestFor 47 = .ok (.if_icmp .le 7, 3) := by decide +kernel
theorem dX9_bestFor_50 : decode cX9_bestFor 50 = .ok (.iconst 1, 1) := by decide +kernel
theorem dX9_bestFor_51 : decode cX9_bestFor 51 = .ok (.goto 4, 3) := by decide +kernel
theorem dX9_bestFor_54 : decode cX9_bestFor 54 = .ok (.iconst 0, 1) := by decide +kernel
theorem dX9_bestFor_55 : decode cX9_bestFor 55 = .ok (.istore 7, 2) := by decide +kernel
theorem dX9_bestFor_57 : decode cX9_bestFor 57 = .ok (.iload 7, 2) := by decide +kernel
theorem dX9_bestFor_59 : decode cX9_bestFor 59 = .ok (.ifCond .eq 8, 3) := by decide +kernel
theorem dX9_bestFor_62 : decode cX9_bestFor 62 = .ok (.iload 5, 2) := by decide +kernel
theorem dX9_bestFor_64 : decode cX9_bestFor 64 = .ok (.goto 4, 3) := by decide +kernel
theorem dX9_bestFor_67 : decode cX9_bestFor 67 = .ok (.iload_n 3, 1) := by decide +kernel
theorem dX9_bestFor_68 : decode cX9_bestFor 68 = .ok (.istore_n 3, 1) := by decide +kernel
theorem dX9_bestFor_69 : decode cX9_bestFor 69 = .ok (.iload 7, 2) := by decide +kernel
theorem dX9_bestFor_71 : decode cX9_bestFor 71 = .ok (.ifCond .eq 8, 3) := by decide +kernel
theorem dX9_bestFor_74 : decode cX9_bestFor 74 = .ok (.iload 6, 2) := by decide +kernel
theorem dX9_bestFor_76 : decode cX9_bestFor 76 = .ok (.goto 5, 3) := by decide +kernel
theorem dX9_bestFor_79 : decode cX9_bestFor 79 = .ok (.iload 4, 2) := by decide +kernel
theorem dX9_bestFor_81 : decode cX9_bestFor 81 = .ok (.istore 4, 2) := by decide +kernel
theorem dX9_bestFor_83 : decode cX9_bestFor 83 = .ok (.iinc 5 1, 3) := by decide +kernel
theorem dX9_bestFor_86 : decode cX9_bestFor 86 = .ok (.goto (-78), 3) := by decide +kernel
theorem dX9_bestFor_89 : decode cX9_bestFor 89 = .ok (.iload_n 3, 1) := by decide +kernel
theorem dX9_bestFor_90 : decode cX9_bestFor 90 = .ok (.ireturn, 1) := by decide +kernel
theorem dX9_takes_0 : decode cX9_takes 0 = .ok (.aload_n 0, 1) := by decide +kernel
theorem dX9_takes_1 : decode cX9_takes 1 = .ok (.iload_n 1, 1) := by decide +kernel
theorem dX9_takes_2 : decode cX9_takes 2 = .ok (.invokevirtual 131, 3) := by decide +kernel
theorem dX9_takes_5 : decode cX9_takes 5 = .ok (.ifCond .ne 6, 3) := by decide +kernel
theorem dX9_takes_8 : decode cX9_takes 8 = .ok (.bipush (-101), 2) := by decide +kernel
theorem dX9_takes_10 : decode cX9_takes 10 = .ok (.ireturn, 1) := by decide +kernel
theorem dX9_takes_11 : decode cX9_takes 11 = .ok (.aload_n 0, 1) := by decide +kernel
theorem dX9_takes_12 : decode cX9_takes 12 = .ok (.getfield 31, 3) := by decide +kernel
theorem dX9_takes_15 : decode cX9_takes 15 = .ok (.iload_n 1, 1) := by decide +kernel
theorem dX9_takes_16 : decode cX9_takes 16 = .ok (.iaload, 1) := by decide +kernel
theorem dX9_takes_17 : decode cX9_takes 17 = .ok (.bipush (-2), 2) := by decide +kernel
theorem dX9_takes_19 : decode cX9_takes 19 = .ok (.if_icmp .eq 6, 3) := by decide +kernel
theorem dX9_takes_22 : decode cX9_takes 22 = .ok (.bipush (-103), 2) := by decide +kernel
theorem dX9_takes_24 : decode cX9_takes 24 = .ok (.ireturn, 1) := by decide +kernel
theorem dX9_takes_25 : decode cX9_takes 25 = .ok (.aload_n 0, 1) := by decide +kernel
theorem dX9_takes_26 : decode cX9_takes 26 = .ok (.invokevirtual 156, 3) := by decide +kernel
theorem dX9_takes_29 : decode cX9_takes 29 = .ok (.aload_n 0, 1) := by decide +kernel
theorem dX9_takes_30 : decode cX9_takes 30 = .ok (.aload_n 0, 1) := by decide +kernel
theorem dX9_takes_31 : decode cX9_takes 31 = .ok (.getfield 31, 3) := by decide +kernel
theorem dX9_takes_34 : decode cX9_takes 34 = .ok (.iload_n 1, 1) := by decide +kernel
theorem dX9_takes_35 : decode cX9_takes 35 = .ok (.invokevirtual 159, 3) := by decide +kernel
theorem dX9_takes_38 : decode cX9_takes 38 = .ok (.ireturn, 1) := by decide +kernel
theorem dX9_order_0 : decode cX9_order 0 = .ok (.aload_n 0, 1) := by decide +kernel
theorem dX9_order_1 : decode cX9_order 1 = .ok (.iload_n 1, 1) := by decide +kernel
theorem dX9_order_2 : decode cX9_order 2 = .ok (.invokevirtual 131, 3) := by decide +kernel
theorem dX9_order_5 : decode cX9_order 5 = .ok (.ifCond .ne 6, 3) := by decide +kernel
theorem dX9_order_8 : decode cX9_order 8 = .ok (.bipush (-101), 2) := by decide +kernel
theorem dX9_order_10 : decode cX9_order 10 = .ok (.ireturn, 1) := by decide +kernel
theorem dX9_order_11 : decode cX9_order 11 = .ok (.aload_n 0, 1) := by decide +kernel
theorem dX9_order_12 : decode cX9_order 12 = .ok (.getfield 31, 3) := by decide +kernel
theorem dX9_order_15 : decode cX9_order 15 = .ok (.iload_n 1, 1) := by decide +kernel
theorem dX9_order_16 : decode cX9_order 16 = .ok (.iaload, 1) := by decide +kernel
theorem dX9_order_17 : decode cX9_order 17 = .ok (.bipush (-2), 2) := by decide +kernel
theorem dX9_order_19 : decode cX9_order 19 = .ok (.if_icmp .eq 6, 3) := by decide +kernel
theorem dX9_order_22 : decode cX9_order 22 = .ok (.bipush (-103), 2) := by decide +kernel
theorem dX9_order_24 : decode cX9_order 24 = .ok (.ireturn, 1) := by decide +kernel
theorem dX9_order_25 : decode cX9_order 25 = .ok (.aload_n 0, 1) := by decide +kernel
theorem dX9_order_26 : decode cX9_order 26 = .ok (.invokevirtual 156, 3) := by decide +kernel
theorem dX9_order_29 : decode cX9_order 29 = .ok (.aload_n 0, 1) := by decide +kernel
theorem dX9_order_30 : decode cX9_order 30 = .ok (.getfield 31, 3) := by decide +kernel
theorem dX9_order_33 : decode cX9_order 33 = .ok (.iload_n 1, 1) := by decide +kernel
theorem dX9_order_34 : decode cX9_order 34 = .ok (.aload_n 0, 1) := by decide +kernel
theorem dX9_order_35 : decode cX9_order 35 = .ok (.aload_n 0, 1) := by decide +kernel
theorem dX9_order_36 : decode cX9_order 36 = .ok (.getfield 31, 3) := by decide +kernel
theorem dX9_order_39 : decode cX9_order 39 = .ok (.iload_n 1, 1) := by decide +kernel
theorem dX9_order_40 : decode cX9_order 40 = .ok (.invokevirtual 159, 3) := by decide +kernel
theorem dX9_order_43 : decode cX9_order 43 = .ok (.iastore, 1) := by decide +kernel
theorem dX9_order_44 : decode cX9_order 44 = .ok (.aload_n 0, 1) := by decide +kernel
theorem dX9_order_45 : decode cX9_order 45 = .ok (.getfield 31, 3) := by decide +kernel
theorem dX9_order_48 : decode cX9_order 48 = .ok (.iload_n 1, 1) := by decide +kernel
theorem dX9_order_49 : decode cX9_order 49 = .ok (.iaload, 1) := by decide +kernel
theorem dX9_order_50 : decode cX9_order 50 = .ok (.ireturn, 1) := by decide +kernel
theorem dX9_orderedMany_0 : decode cX9_orderedMany 0 = .ok (.iconst 0, 1) := by decide +kernel
theorem dX9_orderedMany_1 : decode cX9_orderedMany 1 = .ok (.istore_n 1, 1) := by decide +kernel
theorem dX9_orderedMany_2 : decode cX9_orderedMany 2 = .ok (.iconst 0, 1) := by decide +kernel
theorem dX9_orderedMany_3 : decode cX9_orderedMany 3 = .ok (.istore_n 2, 1) := by decide +kernel
theorem dX9_orderedMany_4 : decode cX9_orderedMany 4 = .ok (.iload_n 2, 1) := by decide +kernel
theorem dX9_orderedMany_5 : decode cX9_orderedMany 5 = .ok (.aload_n 0, 1) := by decide +kernel
theorem dX9_orderedMany_6 : decode cX9_orderedMany 6 = .ok (.getfield 96, 3) := by decide +kernel
theorem dX9_orderedMany_9 : decode cX9_orderedMany 9 = .ok (.if_icmp .ge 28, 3) := by decide +kernel
theorem dX9_orderedMany_12 : decode cX9_orderedMany 12 = .ok (.iload_n 1, 1) := by decide +kernel
theorem dX9_orderedMany_13 : decode cX9_orderedMany 13 = .ok (.aload_n 0, 1) := by decide +kernel
theorem dX9_orderedMany_14 : decode cX9_orderedMany 14 = .ok (.getfield 31, 3) := by decide +kernel
theorem dX9_orderedMany_17 : decode cX9_orderedMany 17 = .ok (.iload_n 2, 1) := by decide +kernel
theorem dX9_orderedMany_18 : decode cX9_orderedMany 18 = .ok (.iaload, 1) := by decide +kernel
theorem dX9_orderedMany_19 : decode cX9_orderedMany 19 = .ok (.bipush (-2), 2) := by decide +kernel
theorem dX9_orderedMany_21 : decode cX9_orderedMany 21 = .ok (.if_icmp .ne 7, 3) := by decide +kernel
theorem dX9_orderedMany_24 : decode cX9_orderedMany 24 = .ok (.iconst 0, 1) := by decide +kernel
theorem dX9_orderedMany_25 : decode cX9_orderedMany 25 = .ok (.goto 4, 3) := by decide +kernel
theorem dX9_orderedMany_28 : decode cX9_orderedMany 28 = .ok (.iconst 1, 1) := by decide +kernel
theorem dX9_orderedMany_29 : decode cX9_orderedMany 29 = .ok (.iadd, 1) := by decide +kernel
theorem dX9_orderedMany_30 : decode cX9_orderedMany 30 = .ok (.istore_n 1, 1) := by decide +kernel
theorem dX9_orderedMany_31 : decode cX9_orderedMany 31 = .ok (.iinc 2 1, 3) := by decide +kernel
theorem dX9_orderedMany_34 : decode cX9_orderedMany 34 = .ok (.goto (-30), 3) := by decide +kernel
theorem dX9_orderedMany_37 : decode cX9_orderedMany 37 = .ok (.iload_n 1, 1) := by decide +kernel
theorem dX9_orderedMany_38 : decode cX9_orderedMany 38 = .ok (.ireturn, 1) := by decide +kernel
theorem dX9_clear_0 : decode cX9_clear 0 = .ok (.aload_n 0, 1) := by decide +kernel
theorem dX9_clear_1 : decode cX9_clear 1 = .ok (.invokevirtual 162, 3) := by decide +kernel
theorem dX9_clear_4 : decode cX9_clear 4 = .ok (.istore_n 1, 1) := by decide +kernel
theorem dX9_clear_5 : decode cX9_clear 5 = .ok (.iconst 0, 1) := by decide +kernel
theorem dX9_clear_6 : decode cX9_clear 6 = .ok (.istore_n 2, 1) := by decide +kernel
theorem dX9_clear_7 : decode cX9_clear 7 = .ok (.iload_n 2, 1) := by decide +kernel
theorem dX9_clear_8 : decode cX9_clear 8 = .ok (.aload_n 0, 1) := by decide +kernel
theorem dX9_clear_9 : decode cX9_clear 9 = .ok (.getfield 96, 3) := by decide +kernel
theorem dX9_clear_12 : decode cX9_clear 12 = .ok (.if_icmp .ge 17, 3) := by decide +kernel
theorem dX9_clear_15 : decode cX9_clear 15 = .ok (.aload_n 0, 1) := by decide +kernel
theorem dX9_clear_16 : decode cX9_clear 16 = .ok (.getfield 31, 3) := by decide +kernel
theorem dX9_clear_19 : decode cX9_clear 19 = .ok (.iload_n 2, 1) := by decide +kernel
theorem dX9_clear_20 : decode cX9_clear 20 = .ok (.bipush (-2), 2) := by decide +kernel
theorem dX9_clear_22 : decode cX9_clear 22 = .ok (.iastore, 1) := by decide +kernel
theorem dX9_clear_23 : decode cX9_clear 23 = .ok (.iinc 2 1, 3) := by decide +kernel
theorem dX9_clear_26 : decode cX9_clear 26 = .ok (.goto (-19), 3) := by decide +kernel
theorem dX9_clear_29 : decode cX9_clear 29 = .ok (.iload_n 1, 1) := by decide +kernel
theorem dX9_clear_30 : decode cX9_clear 30 = .ok (.ireturn, 1) := by decide +kernel
theorem dX9_layInTurn_0 : decode cX9_layInTurn 0 = .ok (.iconst 0, 1) := by decide +kernel
theorem dX9_layInTurn_1 : decode cX9_layInTurn 1 = .ok (.istore_n 2, 1) := by decide +kernel
theorem dX9_layInTurn_2 : decode cX9_layInTurn 2 = .ok (.iload_n 2, 1) := by decide +kernel
theorem dX9_layInTurn_3 : decode cX9_layInTurn 3 = .ok (.iconst 5, 1) := by decide +kernel
theorem dX9_layInTurn_4 : decode cX9_layInTurn 4 = .ok (.if_icmp .ge 17, 3) := by decide +kernel
theorem dX9_layInTurn_7 : decode cX9_layInTurn 7 = .ok (.aload_n 0, 1) := by decide +kernel
theorem dX9_layInTurn_8 : decode cX9_layInTurn 8 = .ok (.getfield 34, 3) := by decide +kernel
theorem dX9_layInTurn_11 : decode cX9_layInTurn 11 = .ok (.iload_n 2, 1) := by decide +kernel
theorem dX9_layInTurn_12 : decode cX9_layInTurn 12 = .ok (.bipush (-2), 2) := by decide +kernel
theorem dX9_layInTurn_14 : decode cX9_layInTurn 14 = .ok (.iastore, 1) := by decide +kernel
theorem dX9_layInTurn_15 : decode cX9_layInTurn 15 = .ok (.iinc 2 1, 3) := by decide +kernel
theorem dX9_layInTurn_18 : decode cX9_layInTurn 18 = .ok (.goto (-16), 3) := by decide +kernel
theorem dX9_layInTurn_21 : decode cX9_layInTurn 21 = .ok (.iconst 0, 1) := by decide +kernel
theorem dX9_layInTurn_22 : decode cX9_layInTurn 22 = .ok (.istore_n 2, 1) := by decide +kernel
theorem dX9_layInTurn_23 : decode cX9_layInTurn 23 = .ok (.iload_n 2, 1) := by decide +kernel
theorem dX9_layInTurn_24 : decode cX9_layInTurn 24 = .ok (.aload_n 0, 1) := by decide +kernel
theorem dX9_layInTurn_25 : decode cX9_layInTurn 25 = .ok (.getfield 96, 3) := by decide +kernel
theorem dX9_layInTurn_28 : decode cX9_layInTurn 28 = .ok (.if_icmp .ge 33, 3) := by decide +kernel
theorem dX9_layInTurn_31 : decode cX9_layInTurn 31 = .ok (.iload_n 1, 1) := by decide +kernel
theorem dX9_layInTurn_32 : decode cX9_layInTurn 32 = .ok (.iload_n 2, 1) := by decide +kernel
theorem dX9_layInTurn_33 : decode cX9_layInTurn 33 = .ok (.iadd, 1) := by decide +kernel
theorem dX9_layInTurn_34 : decode cX9_layInTurn 34 = .ok (.aload_n 0, 1) := by decide +kernel
theorem dX9_layInTurn_35 : decode cX9_layInTurn 35 = .ok (.getfield 96, 3) := by decide +kernel
theorem dX9_layInTurn_38 : decode cX9_layInTurn 38 = .ok (.irem, 1) := by decide +kernel
theorem dX9_layInTurn_39 : decode cX9_layInTurn 39 = .ok (.istore_n 3, 1) := by decide +kernel
theorem dX9_layInTurn_40 : decode cX9_layInTurn 40 = .ok (.aload_n 0, 1) := by decide +kernel
theorem dX9_layInTurn_41 : decode cX9_layInTurn 41 = .ok (.getfield 34, 3) := by decide +kernel
theorem dX9_layInTurn_44 : decode cX9_layInTurn 44 = .ok (.iload_n 3, 1) := by decide +kernel
theorem dX9_layInTurn_45 : decode cX9_layInTurn 45 = .ok (.aload_n 0, 1) := by decide +kernel
theorem dX9_layInTurn_46 : decode cX9_layInTurn 46 = .ok (.aload_n 0, 1) := by decide +kernel
theorem dX9_layInTurn_47 : decode cX9_layInTurn 47 = .ok (.getfield 34, 3) := by decide +kernel
theorem dX9_layInTurn_50 : decode cX9_layInTurn 50 = .ok (.iload_n 3, 1) := by decide +kernel
theorem dX9_layInTurn_51 : decode cX9_layInTurn 51 = .ok (.invokevirtual 159, 3) := by decide +kernel
theorem dX9_layInTurn_54 : decode cX9_layInTurn 54 = .ok (.iastore, 1) := by decide +kernel
theorem dX9_layInTurn_55 : decode cX9_layInTurn 55 = .ok (.iinc 2 1, 3) := by decide +kernel
theorem dX9_layInTurn_58 : decode cX9_layInTurn 58 = .ok (.goto (-35), 3) := by decide +kernel
theorem dX9_layInTurn_61 : decode cX9_layInTurn 61 = .ok (.return_, 1) := by decide +kernel
theorem dX9_inTurn_0 : decode cX9_inTurn 0 = .ok (.aload_n 0, 1) := by decide +kernel
theorem dX9_inTurn_1 : decode cX9_inTurn 1 = .ok (.iload_n 1, 1) := by decide +kernel
theorem dX9_inTurn_2 : decode cX9_inTurn 2 = .ok (.invokevirtual 131, 3) := by decide +kernel
theorem dX9_inTurn_5 : decode cX9_inTurn 5 = .ok (.ifCond .eq 11, 3) := by decide +kernel
theorem dX9_inTurn_8 : decode cX9_inTurn 8 = .ok (.aload_n 0, 1) := by decide +kernel
theorem dX9_inTurn_9 : decode cX9_inTurn 9 = .ok (.iload_n 2, 1) := by decide +kernel
theorem dX9_inTurn_10 : decode cX9_inTurn 10 = .ok (.invokevirtual 131, 3) := by decide +kernel
theorem dX9_inTurn_13 : decode cX9_inTurn 13 = .ok (.ifCond .ne 6, 3) := by decide +kernel
theorem dX9_inTurn_16 : decode cX9_inTurn 16 = .ok (.bipush (-101), 2) := by decide +kernel
theorem dX9_inTurn_18 : decode cX9_inTurn 18 = .ok (.ireturn, 1) := by decide +kernel
theorem dX9_inTurn_19 : decode cX9_inTurn 19 = .ok (.aload_n 0, 1) := by decide +kernel
theorem dX9_inTurn_20 : decode cX9_inTurn 20 = .ok (.invokevirtual 156, 3) := by decide +kernel
theorem dX9_inTurn_23 : decode cX9_inTurn 23 = .ok (.aload_n 0, 1) := by decide +kernel
theorem dX9_inTurn_24 : decode cX9_inTurn 24 = .ok (.iload_n 1, 1) := by decide +kernel
theorem dX9_inTurn_25 : decode cX9_inTurn 25 = .ok (.invokevirtual 165, 3) := by decide +kernel
theorem dX9_inTurn_28 : decode cX9_inTurn 28 = .ok (.aload_n 0, 1) := by decide +kernel
theorem dX9_inTurn_29 : decode cX9_inTurn 29 = .ok (.getfield 34, 3) := by decide +kernel
theorem dX9_inTurn_32 : decode cX9_inTurn 32 = .ok (.iload_n 2, 1) := by decide +kernel
theorem dX9_inTurn_33 : decode cX9_inTurn 33 = .ok (.iaload, 1) := by decide +kernel
theorem dX9_inTurn_34 : decode cX9_inTurn 34 = .ok (.ireturn, 1) := by decide +kernel
theorem dX9_joyAll_0 : decode cX9_joyAll 0 = .ok (.iconst 0, 1) := by decide +kernel
theorem dX9_joyAll_1 : decode cX9_joyAll 1 = .ok (.istore_n 2, 1) := by decide +kernel
theorem dX9_joyAll_2 : decode cX9_joyAll 2 = .ok (.iconst 0, 1) := by decide +kernel
theorem dX9_joyAll_3 : decode cX9_joyAll 3 = .ok (.istore_n 3, 1) := by decide +kernel
theorem dX9_joyAll_4 : decode cX9_joyAll 4 = .ok (.iload_n 3, 1) := by decide +kernel
theorem dX9_joyAll_5 : decode cX9_joyAll 5 = .ok (.aload_n 0, 1) := by decide +kernel
theorem dX9_joyAll_6 : decode cX9_joyAll 6 = .ok (.getfield 96, 3) := by decide +kernel
theorem dX9_joyAll_9 : decode cX9_joyAll 9 = .ok (.if_icmp .ge 18, 3) := by decide +kernel
theorem dX9_joyAll_12 : decode cX9_joyAll 12 = .ok (.iload_n 2, 1) := by decide +kernel
theorem dX9_joyAll_13 : decode cX9_joyAll 13 = .ok (.aload_n 0, 1) := by decide +kernel
theorem dX9_joyAll_14 : decode cX9_joyAll 14 = .ok (.aload_n 1, 1) := by decide +kernel
theorem dX9_joyAll_15 : decode cX9_joyAll 15 = .ok (.iload_n 3, 1) := by decide +kernel
theorem dX9_joyAll_16 : decode cX9_joyAll 16 = .ok (.invokevirtual 128, 3) := by decide +kernel
theorem dX9_joyAll_19 : decode cX9_joyAll 19 = .ok (.iadd, 1) := by decide +kernel
theorem dX9_joyAll_20 : decode cX9_joyAll 20 = .ok (.istore_n 2, 1) := by decide +kernel
theorem dX9_joyAll_21 : decode cX9_joyAll 21 = .ok (.iinc 3 1, 3) := by decide +kernel
theorem dX9_joyAll_24 : decode cX9_joyAll 24 = .ok (.goto (-20), 3) := by decide +kernel
theorem dX9_joyAll_27 : decode cX9_joyAll 27 = .ok (.iload_n 2, 1) := by decide +kernel
theorem dX9_joyAll_28 : decode cX9_joyAll 28 = .ok (.ireturn, 1) := by decide +kernel
theorem dX9_beginOf_0 : decode cX9_beginOf 0 = .ok (.aload_n 0, 1) := by decide +kernel
theorem dX9_beginOf_1 : decode cX9_beginOf 1 = .ok (.invokevirtual 156, 3) := by decide +kernel
theorem dX9_beginOf_4 : decode cX9_beginOf 4 = .ok (.iconst (-1), 1) := by decide +kernel
theorem dX9_beginOf_5 : decode cX9_beginOf 5 = .ok (.istore_n 3, 1) := by decide +kernel
theorem dX9_beginOf_6 : decode cX9_beginOf 6 = .ok (.iconst (-1), 1) := by decide +kernel
theorem dX9_beginOf_7 : decode cX9_beginOf 7 = .ok (.istore 4, 2) := by decide +kernel
theorem dX9_beginOf_9 : decode cX9_beginOf 9 = .ok (.iconst 0, 1) := by decide +kernel
theorem dX9_beginOf_10 : decode cX9_beginOf 10 = .ok (.istore 5, 2) := by decide +kernel
theorem dX9_beginOf_12 : decode cX9_beginOf 12 = .ok (.iload 5, 2) := by decide +kernel
theorem dX9_beginOf_14 : decode cX9_beginOf 14 = .ok (.aload_n 0, 1) := by decide +kernel
theorem dX9_beginOf_15 : decode cX9_beginOf 15 = .ok (.getfield 96, 3) := by decide +kernel
theorem dX9_beginOf_18 : decode cX9_beginOf 18 = .ok (.if_icmp .ge 72, 3) := by decide +kernel
theorem dX9_beginOf_21 : decode cX9_beginOf 21 = .ok (.aload_n 0, 1) := by decide +kernel
theorem dX9_beginOf_22 : decode cX9_beginOf 22 = .ok (.iload 5, 2) := by decide +kernel
theorem dX9_beginOf_24 : decode cX9_beginOf 24 = .ok (.invokevirtual 165, 3) := by decide +kernel
theorem dX9_beginOf_27 : decode cX9_beginOf 27 = .ok (.iload_n 1, 1) := by decide +kernel
theorem dX9_beginOf_28 : decode cX9_beginOf 28 = .ok (.iconst (-1), 1) := by decide +kernel
theorem dX9_beginOf_29 : decode cX9_beginOf 29 = .ok (.if_icmp .ne 14, 3) := by decide +kernel
theorem dX9_beginOf_32 : decode cX9_beginOf 32 = .ok (.aload_n 0, 1) := by decide +kernel
theorem dX9_beginOf_33 : decode cX9_beginOf 33 = .ok (.aload_n 0, 1) := by decide +kernel
theorem dX9_beginOf_34 : decode cX9_beginOf 34 = .ok (.getfield 34, 3) := by decide +kernel
theorem dX9_beginOf_37 : decode cX9_beginOf 37 = .ok (.invokevirtual 169, 3) := by decide +kernel
theorem dX9_beginOf_40 : decode cX9_beginOf 40 = .ok (.goto 12, 3) := by decide +kernel
theorem dX9_beginOf_43 : decode cX9_beginOf 43 = .ok (.aload_n 0, 1) := by decide +kernel
theorem dX9_beginOf_44 : decode cX9_beginOf 44 = .ok (.aload_n 0, 1) := by decide +kernel
theorem dX9_beginOf_45 : decode cX9_beginOf 45 = .ok (.getfield 34, 3) := by decide +kernel
theorem dX9_beginOf_48 : decode cX9_beginOf 48 = .ok (.iload_n 1, 1) := by decide +kernel
theorem dX9_beginOf_49 : decode cX9_beginOf 49 = .ok (.invokevirtual 128, 3) := by decide +kernel
theorem dX9_beginOf_52 : decode cX9_beginOf 52 = .ok (.istore 6, 2) := by decide +kernel
theorem dX9_beginOf_54 : decode cX9_beginOf 54 = .ok (.iload 6, 2) := by decide +kernel
theorem dX9_beginOf_56 : decode cX9_beginOf 56 = .ok (.iload 4, 2) := by decide +kernel
theorem dX9_beginOf_58 : decode cX9_beginOf 58 = .ok (.if_icmp .le 8, 3) := by decide +kernel
theorem dX9_beginOf_61 : decode cX9_beginOf 61 = .ok (.iload 5, 2) := by decide +kernel
theorem dX9_beginOf_63 : decode cX9_beginOf 63 = .ok (.goto 4, 3) := by decide +kernel
theorem dX9_beginOf_66 : decode cX9_beginOf 66 = .ok (.iload_n 3, 1) := by decide +kernel
theorem dX9_beginOf_67 : decode cX9_beginOf 67 = .ok (.istore_n 3, 1) := by decide +kernel
theorem dX9_beginOf_68 : decode cX9_beginOf 68 = .ok (.iload 6, 2) := by decide +kernel
theorem dX9_beginOf_70 : decode cX9_beginOf 70 = .ok (.iload 4, 2) := by decide +kernel
theorem dX9_beginOf_72 : decode cX9_beginOf 72 = .ok (.if_icmp .le 8, 3) := by decide +kernel
theorem dX9_beginOf_75 : decode cX9_beginOf 75 = .ok (.iload 6, 2) := by decide +kernel
theorem dX9_beginOf_77 : decode cX9_beginOf 77 = .ok (.goto 5, 3) := by decide +kernel
theorem dX9_beginOf_80 : decode cX9_beginOf 80 = .ok (.iload 4, 2) := by decide +kernel
theorem dX9_beginOf_82 : decode cX9_beginOf 82 = .ok (.istore 4, 2) := by decide +kernel
theorem dX9_beginOf_84 : decode cX9_beginOf 84 = .ok (.iinc 5 1, 3) := by decide +kernel
theorem dX9_beginOf_87 : decode cX9_beginOf 87 = .ok (.goto (-75), 3) := by decide +kernel
theorem dX9_beginOf_90 : decode cX9_beginOf 90 = .ok (.iload_n 2, 1) := by decide +kernel
theorem dX9_beginOf_91 : decode cX9_beginOf 91 = .ok (.ifCond .ne 7, 3) := by decide +kernel
theorem dX9_beginOf_94 : decode cX9_beginOf 94 = .ok (.iload_n 3, 1) := by decide +kernel
theorem dX9_beginOf_95 : decode cX9_beginOf 95 = .ok (.goto 5, 3) := by decide +kernel
theorem dX9_beginOf_98 : decode cX9_beginOf 98 = .ok (.iload 4, 2) := by decide +kernel
theorem dX9_beginOf_100 : decode cX9_beginOf 100 = .ok (.ireturn, 1) := by decide +kernel
theorem dX9_begin_0 : decode cX9_begin 0 = .ok (.iload_n 1, 1) := by decide +kernel
theorem dX9_begin_1 : decode cX9_begin 1 = .ok (.iconst (-1), 1) := by decide +kernel
theorem dX9_begin_2 : decode cX9_begin 2 = .ok (.if_icmp .eq 14, 3) := by decide +kernel
theorem dX9_begin_5 : decode cX9_begin 5 = .ok (.aload_n 0, 1) := by decide +kernel
theorem dX9_begin_6 : decode cX9_begin 6 = .ok (.iload_n 1, 1) := by decide +kernel
theorem dX9_begin_7 : decode cX9_begin 7 = .ok (.invokevirtual 131, 3) := by decide +kernel
theorem dX9_begin_10 : decode cX9_begin 10 = .ok (.ifCond .ne 6, 3) := by decide +kernel
theorem dX9_begin_13 : decode cX9_begin 13 = .ok (.bipush (-101), 2) := by decide +kernel
theorem dX9_begin_15 : decode cX9_begin 15 = .ok (.ireturn, 1) := by decide +kernel
theorem dX9_begin_16 : decode cX9_begin 16 = .ok (.iload_n 2, 1) := by decide +kernel
theorem dX9_begin_17 : decode cX9_begin 17 = .ok (.i2l, 1) := by decide +kernel
theorem dX9_begin_18 : decode cX9_begin 18 = .ok (.lconst 0, 1) := by decide +kernel
theorem dX9_begin_19 : decode cX9_begin 19 = .ok (.lconst 1, 1) := by decide +kernel
theorem dX9_begin_20 : decode cX9_begin 20 = .ok (.invokestatic 64, 3) := by decide +kernel
theorem dX9_begin_23 : decode cX9_begin 23 = .ok (.ifCond .ne 6, 3) := by decide +kernel
theorem dX9_begin_26 : decode cX9_begin 26 = .ok (.bipush (-102), 2) := by decide +kernel
theorem dX9_begin_28 : decode cX9_begin 28 = .ok (.ireturn, 1) := by decide +kernel
theorem dX9_begin_29 : decode cX9_begin 29 = .ok (.aload_n 0, 1) := by decide +kernel
theorem dX9_begin_30 : decode cX9_begin 30 = .ok (.getfield 96, 3) := by decide +kernel
theorem dX9_begin_33 : decode cX9_begin 33 = .ok (.ifCond .ne 8, 3) := by decide +kernel
theorem dX9_begin_36 : decode cX9_begin 36 = .ok (.bipush (-103), 2) := by decide +kernel
theorem dX9_begin_38 : decode cX9_begin 38 = .ok (.goto 9, 3) := by decide +kernel
theorem dX9_begin_41 : decode cX9_begin 41 = .ok (.aload_n 0, 1) := by decide +kernel
theorem dX9_begin_42 : decode cX9_begin 42 = .ok (.iload_n 1, 1) := by decide +kernel
theorem dX9_begin_43 : decode cX9_begin 43 = .ok (.iload_n 2, 1) := by decide +kernel
theorem dX9_begin_44 : decode cX9_begin 44 = .ok (.invokevirtual 173, 3) := by decide +kernel
theorem dX9_begin_47 : decode cX9_begin 47 = .ok (.ireturn, 1) := by decide +kernel
theorem dX9_isAtOnce_0 : decode cX9_isAtOnce 0 = .ok (.iconst 1, 1) := by decide +kernel
theorem dX9_isAtOnce_1 : decode cX9_isAtOnce 1 = .ok (.istore_n 1, 1) := by decide +kernel
theorem dX9_isAtOnce_2 : decode cX9_isAtOnce 2 = .ok (.iconst 0, 1) := by decide +kernel
theorem dX9_isAtOnce_3 : decode cX9_isAtOnce 3 = .ok (.istore_n 2, 1) := by decide +kernel
theorem dX9_isAtOnce_4 : decode cX9_isAtOnce 4 = .ok (.iload_n 2, 1) := by decide +kernel
theorem dX9_isAtOnce_5 : decode cX9_isAtOnce 5 = .ok (.aload_n 0, 1) := by decide +kernel
theorem dX9_isAtOnce_6 : decode cX9_isAtOnce 6 = .ok (.getfield 96, 3) := by decide +kernel
theorem dX9_isAtOnce_9 : decode cX9_isAtOnce 9 = .ok (.if_icmp .ge 106, 3) := by decide +kernel
theorem dX9_isAtOnce_12 : decode cX9_isAtOnce 12 = .ok (.iload_n 1, 1) := by decide +kernel
theorem dX9_isAtOnce_13 : decode cX9_isAtOnce 13 = .ok (.ifCond .eq 102, 3) := by decide +kernel
theorem dX9_isAtOnce_16 : decode cX9_isAtOnce 16 = .ok (.aload_n 0, 1) := by decide +kernel
theorem dX9_isAtOnce_17 : decode cX9_isAtOnce 17 = .ok (.aload_n 0, 1) := by decide +kernel
theorem dX9_isAtOnce_18 : decode cX9_isAtOnce 18 = .ok (.getfield 34, 3) := by decide +kernel
theorem dX9_isAtOnce_21 : decode cX9_isAtOnce 21 = .ok (.iload_n 2, 1) := by decide +kernel
theorem dX9_isAtOnce_22 : decode cX9_isAtOnce 22 = .ok (.aload_n 0, 1) := by decide +kernel
theorem dX9_isAtOnce_23 : decode cX9_isAtOnce 23 = .ok (.getfield 34, 3) := by decide +kernel
theorem dX9_isAtOnce_26 : decode cX9_isAtOnce 26 = .ok (.iload_n 2, 1) := by decide +kernel
theorem dX9_isAtOnce_27 : decode cX9_isAtOnce 27 = .ok (.iaload, 1) := by decide +kernel
theorem dX9_isAtOnce_28 : decode cX9_isAtOnce 28 = .ok (.invokevirtual 148, 3) := by decide +kernel
theorem dX9_isAtOnce_31 : decode cX9_isAtOnce 31 = .ok (.istore_n 1, 1) := by decide +kernel
theorem dX9_isAtOnce_32 : decode cX9_isAtOnce 32 = .ok (.iconst 0, 1) := by decide +kernel
theorem dX9_isAtOnce_33 : decode cX9_isAtOnce 33 = .ok (.istore_n 3, 1) := by decide +kernel
theorem dX9_isAtOnce_34 : decode cX9_isAtOnce 34 = .ok (.iload_n 3, 1) := by decide +kernel
theorem dX9_isAtOnce_35 : decode cX9_isAtOnce 35 = .ok (.aload_n 0, 1) := by decide +kernel
theorem dX9_isAtOnce_36 : decode cX9_isAtOnce 36 = .ok (.getfield 90, 3) := by decide +kernel
theorem dX9_isAtOnce_39 : decode cX9_isAtOnce 39 = .ok (.if_icmp .ge 70, 3) := by decide +kernel
theorem dX9_isAtOnce_42 : decode cX9_isAtOnce 42 = .ok (.iload_n 1, 1) := by decide +kernel
theorem dX9_isAtOnce_43 : decode cX9_isAtOnce 43 = .ok (.ifCond .eq 66, 3) := by decide +kernel
theorem dX9_isAtOnce_46 : decode cX9_isAtOnce 46 = .ok (.iload_n 3, 1) := by decide +kernel
theorem dX9_isAtOnce_47 : decode cX9_isAtOnce 47 = .ok (.aload_n 0, 1) := by decide +kernel
theorem dX9_isAtOnce_48 : decode cX9_isAtOnce 48 = .ok (.getfield 34, 3) := by decide +kernel
theorem dX9_isAtOnce_51 : decode cX9_isAtOnce 51 = .ok (.iload_n 2, 1) := by decide +kernel
theorem dX9_isAtOnce_52 : decode cX9_isAtOnce 52 = .ok (.iaload, 1) := by decide +kernel
theorem dX9_isAtOnce_53 : decode cX9_isAtOnce 53 = .ok (.if_icmp .eq 44, 3) := by decide +kernel
theorem dX9_isAtOnce_56 : decode cX9_isAtOnce 56 = .ok (.aload_n 0, 1) := by decide +kernel
theorem dX9_isAtOnce_57 : decode cX9_isAtOnce 57 = .ok (.aload_n 0, 1) := by decide +kernel
theorem dX9_isAtOnce_58 : decode cX9_isAtOnce 58 = .ok (.getfield 34, 3) := by decide +kernel
theorem dX9_isAtOnce_61 : decode cX9_isAtOnce 61 = .ok (.iload_n 2, 1) := by decide +kernel
theorem dX9_isAtOnce_62 : decode cX9_isAtOnce 62 = .ok (.iload_n 3, 1) := by decide +kernel
theorem dX9_isAtOnce_63 : decode cX9_isAtOnce 63 = .ok (.invokevirtual 148, 3) := by decide +kernel
theorem dX9_isAtOnce_66 : decode cX9_isAtOnce 66 = .ok (.ifCond .eq 31, 3) := by decide +kernel
theorem dX9_isAtOnce_69 : decode cX9_isAtOnce 69 = .ok (.aload_n 0, 1) := by decide +kernel
theorem dX9_isAtOnce_70 : decode cX9_isAtOnce 70 = .ok (.aload_n 0, 1) := by decide +kernel
theorem dX9_isAtOnce_71 : decode cX9_isAtOnce 71 = .ok (.getfield 34, 3) := by decide +kernel
theorem dX9_isAtOnce_74 : decode cX9_isAtOnce 74 = .ok (.iload_n 2, 1) := by decide +kernel
theorem dX9_isAtOnce_75 : decode cX9_isAtOnce 75 = .ok (.iload_n 3, 1) := by decide +kernel
theorem dX9_isAtOnce_76 : decode cX9_isAtOnce 76 = .ok (.invokevirtual 152, 3) := by decide +kernel
theorem dX9_isAtOnce_79 : decode cX9_isAtOnce 79 = .ok (.aload_n 0, 1) := by decide +kernel
theorem dX9_isAtOnce_80 : decode cX9_isAtOnce 80 = .ok (.aload_n 0, 1) := by decide +kernel
theorem dX9_isAtOnce_81 : decode cX9_isAtOnce 81 = .ok (.getfield 34, 3) := by decide +kernel
theorem dX9_isAtOnce_84 : decode cX9_isAtOnce 84 = .ok (.iload_n 2, 1) := by decide +kernel
theorem dX9_isAtOnce_85 : decode cX9_isAtOnce 85 = .ok (.aload_n 0, 1) := by decide +kernel
theorem dX9_isAtOnce_86 : decode cX9_isAtOnce 86 = .ok (.getfield 34, 3) := by decide +kernel
theorem dX9_isAtOnce_89 : decode cX9_isAtOnce 89 = .ok (.iload_n 2, 1) := by decide +kernel
theorem dX9_isAtOnce_90 : decode cX9_isAtOnce 90 = .ok (.iaload, 1) := by decide +kernel
theorem dX9_isAtOnce_91 : decode cX9_isAtOnce 91 = .ok (.invokevirtual 152, 3) := by decide +kernel
theorem dX9_isAtOnce_94 : decode cX9_isAtOnce 94 = .ok (.if_icmp .gt 7, 3) := by decide +kernel
theorem dX9_isAtOnce_97 : decode cX9_isAtOnce 97 = .ok (.iconst 1, 1) := by decide +kernel
theorem dX9_isAtOnce_98 : decode cX9_isAtOnce 98 = .ok (.goto 4, 3) := by decide +kernel
theorem dX9_isAtOnce_101 : decode cX9_isAtOnce 101 = .ok (.iconst 0, 1) := by decide +kernel
theorem dX9_isAtOnce_102 : decode cX9_isAtOnce 102 = .ok (.istore_n 1, 1) := by decide +kernel
theorem dX9_isAtOnce_103 : decode cX9_isAtOnce 103 = .ok (.iinc 3 1, 3) := by decide +kernel
theorem dX9_isAtOnce_106 : decode cX9_isAtOnce 106 = .ok (.goto (-72), 3) := by decide +kernel
theorem dX9_isAtOnce_109 : decode cX9_isAtOnce 109 = .ok (.iinc 2 1, 3) := by decide +kernel
theorem dX9_isAtOnce_112 : decode cX9_isAtOnce 112 = .ok (.goto (-108), 3) := by decide +kernel
theorem dX9_isAtOnce_115 : decode cX9_isAtOnce 115 = .ok (.iload_n 1, 1) := by decide +kernel
theorem dX9_isAtOnce_116 : decode cX9_isAtOnce 116 = .ok (.ireturn, 1) := by decide +kernel
theorem dX9_power_0 : decode cX9_power 0 = .ok (.iconst 1, 1) := by decide +kernel
theorem dX9_power_1 : decode cX9_power 1 = .ok (.istore_n 2, 1) := by decide +kernel
theorem dX9_power_2 : decode cX9_power 2 = .ok (.iconst 0, 1) := by decide +kernel
theorem dX9_power_3 : decode cX9_power 3 = .ok (.istore_n 3, 1) := by decide +kernel
theorem dX9_power_4 : decode cX9_power 4 = .ok (.iload_n 3, 1) := by decide +kernel
theorem dX9_power_5 : decode cX9_power 5 = .ok (.aload_n 0, 1) := by decide +kernel
theorem dX9_power_6 : decode cX9_power 6 = .ok (.getfield 96, 3) := by decide +kernel
theorem dX9_power_9 : decode cX9_power 9 = .ok (.if_icmp .ge 13, 3) := by decide +kernel
theorem dX9_power_12 : decode cX9_power 12 = .ok (.iload_n 2, 1) := by decide +kernel
theorem dX9_power_13 : decode cX9_power 13 = .ok (.iload_n 1, 1) := by decide +kernel
theorem dX9_power_14 : decode cX9_power 14 = .ok (.imul, 1) := by decide +kernel
theorem dX9_power_15 : decode cX9_power 15 = .ok (.istore_n 2, 1) := by decide +kernel
theorem dX9_power_16 : decode cX9_power 16 = .ok (.iinc 3 1, 3) := by decide +kernel
theorem dX9_power_19 : decode cX9_power 19 = .ok (.goto (-15), 3) := by decide +kernel
theorem dX9_power_22 : decode cX9_power 22 = .ok (.iload_n 2, 1) := by decide +kernel
theorem dX9_power_23 : decode cX9_power 23 = .ok (.ireturn, 1) := by decide +kernel
theorem dX9_atOnce_0 : decode cX9_atOnce 0 = .ok (.iload_n 1, 1) := by decide +kernel
theorem dX9_atOnce_1 : decode cX9_atOnce 1 = .ok (.i2l, 1) := by decide +kernel
theorem dX9_atOnce_2 : decode cX9_atOnce 2 = .ok (.lconst 0, 1) := by decide +kernel
theorem dX9_atOnce_3 : decode cX9_atOnce 3 = .ok (.lconst 1, 1) := by decide +kernel
theorem dX9_atOnce_4 : decode cX9_atOnce 4 = .ok (.invokestatic 64, 3) := by decide +kernel
theorem dX9_atOnce_7 : decode cX9_atOnce 7 = .ok (.ifCond .ne 6, 3) := by decide +kernel
theorem dX9_atOnce_10 : decode cX9_atOnce 10 = .ok (.bipush (-102), 2) := by decide +kernel
theorem dX9_atOnce_12 : decode cX9_atOnce 12 = .ok (.ireturn, 1) := by decide +kernel
theorem dX9_atOnce_13 : decode cX9_atOnce 13 = .ok (.aload_n 0, 1) := by decide +kernel
theorem dX9_atOnce_14 : decode cX9_atOnce 14 = .ok (.invokevirtual 121, 3) := by decide +kernel
theorem dX9_atOnce_17 : decode cX9_atOnce 17 = .ok (.ifCond .ne 12, 3) := by decide +kernel
theorem dX9_atOnce_20 : decode cX9_atOnce 20 = .ok (.aload_n 0, 1) := by decide +kernel
theorem dX9_atOnce_21 : decode cX9_atOnce 21 = .ok (.getfield 176, 3) := by decide +kernel
theorem dX9_atOnce_24 : decode cX9_atOnce 24 = .ok (.bipush 20, 2) := by decide +kernel
theorem dX9_atOnce_26 : decode cX9_atOnce 26 = .ok (.if_icmp .ne 6, 3) := by decide +kernel
theorem dX9_atOnce_29 : decode cX9_atOnce 29 = .ok (.bipush (-103), 2) := by decide +kernel
theorem dX9_atOnce_31 : decode cX9_atOnce 31 = .ok (.ireturn, 1) := by decide +kernel
theorem dX9_atOnce_32 : decode cX9_atOnce 32 = .ok (.aload_n 0, 1) := by decide +kernel
theorem dX9_atOnce_33 : decode cX9_atOnce 33 = .ok (.dup, 1) := by decide +kernel
theorem dX9_atOnce_34 : decode cX9_atOnce 34 = .ok (.getfield 176, 3) := by decide +kernel
theorem dX9_atOnce_37 : decode cX9_atOnce 37 = .ok (.iconst 1, 1) := by decide +kernel
theorem dX9_atOnce_38 : decode cX9_atOnce 38 = .ok (.iadd, 1) := by decide +kernel
theorem dX9_atOnce_39 : decode cX9_atOnce 39 = .ok (.putfield 176, 3) := by decide +kernel
theorem dX9_atOnce_42 : decode cX9_atOnce 42 = .ok (.aload_n 0, 1) := by decide +kernel
theorem dX9_atOnce_43 : decode cX9_atOnce 43 = .ok (.invokevirtual 156, 3) := by decide +kernel
theorem dX9_atOnce_46 : decode cX9_atOnce 46 = .ok (.iconst 0, 1) := by decide +kernel
theorem dX9_atOnce_47 : decode cX9_atOnce 47 = .ok (.istore_n 2, 1) := by decide +kernel
theorem dX9_atOnce_48 : decode cX9_atOnce 48 = .ok (.iconst (-1), 1) := by decide +kernel
theorem dX9_atOnce_49 : decode cX9_atOnce 49 = .ok (.istore_n 3, 1) := by decide +kernel
theorem dX9_atOnce_50 : decode cX9_atOnce 50 = .ok (.iconst 0, 1) := by decide +kernel
theorem dX9_atOnce_51 : decode cX9_atOnce 51 = .ok (.istore 4, 2) := by decide +kernel
theorem dX9_atOnce_53 : decode cX9_atOnce 53 = .ok (.iload 4, 2) := by decide +kernel
theorem dX9_atOnce_55 : decode cX9_atOnce 55 = .ok (.aload_n 0, 1) := by decide +kernel
theorem dX9_atOnce_56 : decode cX9_atOnce 56 = .ok (.aload_n 0, 1) := by decide +kernel
theorem dX9_atOnce_57 : decode cX9_atOnce 57 = .ok (.getfield 90, 3) := by decide +kernel
theorem dX9_atOnce_60 : decode cX9_atOnce 60 = .ok (.invokevirtual 179, 3) := by decide +kernel
theorem dX9_atOnce_63 : decode cX9_atOnce 63 = .ok (.if_icmp .ge 87, 3) := by decide +kernel
theorem dX9_atOnce_66 : decode cX9_atOnce 66 = .ok (.iload 4, 2) := by decide +kernel
theorem dX9_atOnce_68 : decode cX9_atOnce 68 = .ok (.istore 5, 2) := by decide +kernel
theorem dX9_atOnce_70 : decode cX9_atOnce 70 = .ok (.iconst 0, 1) := by decide +kernel
theorem dX9_atOnce_71 : decode cX9_atOnce 71 = .ok (.istore 6, 2) := by decide +kernel
theorem dX9_atOnce_73 : decode cX9_atOnce 73 = .ok (.iload 6, 2) := by decide +kernel
theorem dX9_atOnce_75 : decode cX9_atOnce 75 = .ok (.aload_n 0, 1) := by decide +kernel
theorem dX9_atOnce_76 : decode cX9_atOnce 76 = .ok (.getfield 96, 3) := by decide +kernel
theorem dX9_atOnce_79 : decode cX9_atOnce 79 = .ok (.if_icmp .ge 32, 3) := by decide +kernel
theorem dX9_atOnce_82 : decode cX9_atOnce 82 = .ok (.aload_n 0, 1) := by decide +kernel
theorem dX9_atOnce_83 : decode cX9_atOnce 83 = .ok (.getfield 34, 3) := by decide +kernel
theorem dX9_atOnce_86 : decode cX9_atOnce 86 = .ok (.iload 6, 2) := by decide +kernel
theorem dX9_atOnce_88 : decode cX9_atOnce 88 = .ok (.iload 5, 2) := by decide +kernel
theorem dX9_atOnce_90 : decode cX9_atOnce 90 = .ok (.aload_n 0, 1) := by decide +kernel
theorem dX9_atOnce_91 : decode cX9_atOnce 91 = .ok (.getfield 90, 3) := by decide +kernel
theorem dX9_atOnce_94 : decode cX9_atOnce 94 = .ok (.irem, 1) := by decide +kernel
theorem dX9_atOnce_95 : decode cX9_atOnce 95 = .ok (.iastore, 1) := by decide +kernel
theorem dX9_atOnce_96 : decode cX9_atOnce 96 = .ok (.iload 5, 2) := by decide +kernel
theorem dX9_atOnce_98 : decode cX9_atOnce 98 = .ok (.aload_n 0, 1) := by decide +kernel
theorem dX9_atOnce_99 : decode cX9_atOnce 99 = .ok (.getfield 90, 3) := by decide +kernel
theorem dX9_atOnce_102 : decode cX9_atOnce 102 = .ok (.idiv, 1) := by decide +kernel
theorem dX9_atOnce_103 : decode cX9_atOnce 103 = .ok (.istore 5, 2) := by decide +kernel
theorem dX9_atOnce_105 : decode cX9_atOnce 105 = .ok (.iinc 6 1, 3) := by decide +kernel
theorem dX9_atOnce_108 : decode cX9_atOnce 108 = .ok (.goto (-35), 3) := by decide +kernel
theorem dX9_atOnce_111 : decode cX9_atOnce 111 = .ok (.aload_n 0, 1) := by decide +kernel
theorem dX9_atOnce_112 : decode cX9_atOnce 112 = .ok (.invokevirtual 183, 3) := by decide +kernel
theorem dX9_atOnce_115 : decode cX9_atOnce 115 = .ok (.ifCond .eq 29, 3) := by decide +kernel
theorem dX9_atOnce_118 : decode cX9_atOnce 118 = .ok (.aload_n 0, 1) := by decide +kernel
theorem dX9_atOnce_119 : decode cX9_atOnce 119 = .ok (.aload_n 0, 1) := by decide +kernel
theorem dX9_atOnce_120 : decode cX9_atOnce 120 = .ok (.getfield 34, 3) := by decide +kernel
theorem dX9_atOnce_123 : decode cX9_atOnce 123 = .ok (.invokevirtual 169, 3) := by decide +kernel
theorem dX9_atOnce_126 : decode cX9_atOnce 126 = .ok (.istore 6, 2) := by decide +kernel
theorem dX9_atOnce_128 : decode cX9_atOnce 128 = .ok (.iinc 2 1, 3) := by decide +kernel
theorem dX9_atOnce_131 : decode cX9_atOnce 131 = .ok (.iload 6, 2) := by decide +kernel
theorem dX9_atOnce_133 : decode cX9_atOnce 133 = .ok (.iload_n 3, 1) := by decide +kernel
theorem dX9_atOnce_134 : decode cX9_atOnce 134 = .ok (.if_icmp .le 8, 3) := by decide +kernel
theorem dX9_atOnce_137 : decode cX9_atOnce 137 = .ok (.iload 6, 2) := by decide +kernel
theorem dX9_atOnce_139 : decode cX9_atOnce 139 = .ok (.goto 4, 3) := by decide +kernel
theorem dX9_atOnce_142 : decode cX9_atOnce 142 = .ok (.iload_n 3, 1) := by decide +kernel
theorem dX9_atOnce_143 : decode cX9_atOnce 143 = .ok (.istore_n 3, 1) := by decide +kernel
theorem dX9_atOnce_144 : decode cX9_atOnce 144 = .ok (.iinc 4 1, 3) := by decide +kernel
theorem dX9_atOnce_147 : decode cX9_atOnce 147 = .ok (.goto (-94), 3) := by decide +kernel
theorem dX9_atOnce_150 : decode cX9_atOnce 150 = .ok (.iload_n 1, 1) := by decide +kernel
theorem dX9_atOnce_151 : decode cX9_atOnce 151 = .ok (.ifCond .ne 7, 3) := by decide +kernel
theorem dX9_atOnce_154 : decode cX9_atOnce 154 = .ok (.iload_n 2, 1) := by decide +kernel
theorem dX9_atOnce_155 : decode cX9_atOnce 155 = .ok (.goto 4, 3) := by decide +kernel
theorem dX9_atOnce_158 : decode cX9_atOnce 158 = .ok (.iload_n 3, 1) := by decide +kernel
theorem dX9_atOnce_159 : decode cX9_atOnce 159 = .ok (.ireturn, 1) := by decide +kernel
theorem dX9_mindsOf_0 : decode cX9_mindsOf 0 = .ok (.aload_n 0, 1) := by decide +kernel
theorem dX9_mindsOf_1 : decode cX9_mindsOf 1 = .ok (.invokevirtual 156, 3) := by decide +kernel
theorem dX9_mindsOf_4 : decode cX9_mindsOf 4 = .ok (.aload_n 0, 1) := by decide +kernel
theorem dX9_mindsOf_5 : decode cX9_mindsOf 5 = .ok (.iload_n 1, 1) := by decide +kernel
theorem dX9_mindsOf_6 : decode cX9_mindsOf 6 = .ok (.invokevirtual 165, 3) := by decide +kernel
theorem dX9_mindsOf_9 : decode cX9_mindsOf 9 = .ok (.iconst 1, 1) := by decide +kernel
theorem dX9_mindsOf_10 : decode cX9_mindsOf 10 = .ok (.istore_n 2, 1) := by decide +kernel
theorem dX9_mindsOf_11 : decode cX9_mindsOf 11 = .ok (.iload_n 2, 1) := by decide +kernel
theorem dX9_mindsOf_12 : decode cX9_mindsOf 12 = .ok (.bipush 20, 2) := by decide +kernel
theorem dX9_mindsOf_14 : decode cX9_mindsOf 14 = .ok (.if_icmp .gt 141, 3) := by decide +kernel
theorem dX9_mindsOf_17 : decode cX9_mindsOf 17 = .ok (.iconst 0, 1) := by decide +kernel
theorem dX9_mindsOf_18 : decode cX9_mindsOf 18 = .ok (.istore_n 3, 1) := by decide +kernel
theorem dX9_mindsOf_19 : decode cX9_mindsOf 19 = .ok (.iconst 0, 1) := by decide +kernel
theorem dX9_mindsOf_20 : decode cX9_mindsOf 20 = .ok (.istore 4, 2) := by decide +kernel
theorem dX9_mindsOf_22 : decode cX9_mindsOf 22 = .ok (.iload 4, 2) := by decide +kernel
theorem dX9_mindsOf_24 : decode cX9_mindsOf 24 = .ok (.aload_n 0, 1) := by decide +kernel
theorem dX9_mindsOf_25 : decode cX9_mindsOf 25 = .ok (.getfield 96, 3) := by decide +kernel
theorem dX9_mindsOf_28 : decode cX9_mindsOf 28 = .ok (.if_icmp .ge 115, 3) := by decide +kernel
theorem dX9_mindsOf_31 : decode cX9_mindsOf 31 = .ok (.iload_n 1, 1) := by decide +kernel
theorem dX9_mindsOf_32 : decode cX9_mindsOf 32 = .ok (.iload 4, 2) := by decide +kernel
theorem dX9_mindsOf_34 : decode cX9_mindsOf 34 = .ok (.iadd, 1) := by decide +kernel
theorem dX9_mindsOf_35 : decode cX9_mindsOf 35 = .ok (.aload_n 0, 1) := by decide +kernel
theorem dX9_mindsOf_36 : decode cX9_mindsOf 36 = .ok (.getfield 96, 3) := by decide +kernel
theorem dX9_mindsOf_39 : decode cX9_mindsOf 39 = .ok (.irem, 1) := by decide +kernel
theorem dX9_mindsOf_40 : decode cX9_mindsOf 40 = .ok (.istore 5, 2) := by decide +kernel
theorem dX9_mindsOf_42 : decode cX9_mindsOf 42 = .ok (.aload_n 0, 1) := by decide +kernel
theorem dX9_mindsOf_43 : decode cX9_mindsOf 43 = .ok (.aload_n 0, 1) := by decide +kernel
theorem dX9_mindsOf_44 : decode cX9_mindsOf 44 = .ok (.getfield 34, 3) := by decide +kernel
theorem dX9_mindsOf_47 : decode cX9_mindsOf 47 = .ok (.iload 5, 2) := by decide +kernel
theorem dX9_mindsOf_49 : decode cX9_mindsOf 49 = .ok (.invokevirtual 159, 3) := by decide +kernel
theorem dX9_mindsOf_52 : decode cX9_mindsOf 52 = .ok (.istore 6, 2) := by decide +kernel
theorem dX9_mindsOf_54 : decode cX9_mindsOf 54 = .ok (.iload 6, 2) := by decide +kernel
theorem dX9_mindsOf_56 : decode cX9_mindsOf 56 = .ok (.iconst (-1), 1) := by decide +kernel
theorem dX9_mindsOf_57 : decode cX9_mindsOf 57 = .ok (.if_icmp .eq 45, 3) := by decide +kernel
theorem dX9_mindsOf_60 : decode cX9_mindsOf 60 = .ok (.aload_n 0, 1) := by decide +kernel
theorem dX9_mindsOf_61 : decode cX9_mindsOf 61 = .ok (.getfield 34, 3) := by decide +kernel
theorem dX9_mindsOf_64 : decode cX9_mindsOf 64 = .ok (.iload 5, 2) := by decide +kernel
theorem dX9_mindsOf_66 : decode cX9_mindsOf 66 = .ok (.iaload, 1) := by decide +kernel
theorem dX9_mindsOf_67 : decode cX9_mindsOf 67 = .ok (.ifCond .lt 39, 3) := by decide +kernel
theorem dX9_mindsOf_70 : decode cX9_mindsOf 70 = .ok (.aload_n 0, 1) := by decide +kernel
theorem dX9_mindsOf_71 : decode cX9_mindsOf 71 = .ok (.aload_n 0, 1) := by decide +kernel
theorem dX9_mindsOf_72 : decode cX9_mindsOf 72 = .ok (.getfield 34, 3) := by decide +kernel
theorem dX9_mindsOf_75 : decode cX9_mindsOf 75 = .ok (.iload 5, 2) := by decide +kernel
theorem dX9_mindsOf_77 : decode cX9_mindsOf 77 = .ok (.aload_n 0, 1) := by decide +kernel
theorem dX9_mindsOf_78 : decode cX9_mindsOf 78 = .ok (.getfield 34, 3) := by decide +kernel
theorem dX9_mindsOf_81 : decode cX9_mindsOf 81 = .ok (.iload 5, 2) := by decide +kernel
theorem dX9_mindsOf_83 : decode cX9_mindsOf 83 = .ok (.iaload, 1) := by decide +kernel
theorem dX9_mindsOf_84 : decode cX9_mindsOf 84 = .ok (.invokevirtual 152, 3) := by decide +kernel
theorem dX9_mindsOf_87 : decode cX9_mindsOf 87 = .ok (.aload_n 0, 1) := by decide +kernel
theorem dX9_mindsOf_88 : decode cX9_mindsOf 88 = .ok (.aload_n 0, 1) := by decide +kernel
theorem dX9_mindsOf_89 : decode cX9_mindsOf 89 = .ok (.getfield 34, 3) := by decide +kernel
theorem dX9_mindsOf_92 : decode cX9_mindsOf 92 = .ok (.iload 5, 2) := by decide +kernel
theorem dX9_mindsOf_94 : decode cX9_mindsOf 94 = .ok (.iload 6, 2) := by decide +kernel
theorem dX9_mindsOf_96 : decode cX9_mindsOf 96 = .ok (.invokevirtual 152, 3) := by decide +kernel
theorem dX9_mindsOf_99 : decode cX9_mindsOf 99 = .ok (.if_icmp .lt 7, 3) := by decide +kernel
theorem dX9_mindsOf_102 : decode cX9_mindsOf 102 = .ok (.iconst 1, 1) := by decide +kernel
theorem dX9_mindsOf_103 : decode cX9_mindsOf 103 = .ok (.goto 4, 3) := by decide +kernel
theorem dX9_mindsOf_106 : decode cX9_mindsOf 106 = .ok (.iconst 0, 1) := by decide +kernel
theorem dX9_mindsOf_107 : decode cX9_mindsOf 107 = .ok (.istore 7, 2) := by decide +kernel
theorem dX9_mindsOf_109 : decode cX9_mindsOf 109 = .ok (.iload 7, 2) := by decide +kernel
theorem dX9_mindsOf_111 : decode cX9_mindsOf 111 = .ok (.ifCond .ne 26, 3) := by decide +kernel
theorem dX9_mindsOf_114 : decode cX9_mindsOf 114 = .ok (.iload 6, 2) := by decide +kernel
theorem dX9_mindsOf_116 : decode cX9_mindsOf 116 = .ok (.aload_n 0, 1) := by decide +kernel
theorem dX9_mindsOf_117 : decode cX9_mindsOf 117 = .ok (.getfield 34, 3) := by decide +kernel
theorem dX9_mindsOf_120 : decode cX9_mindsOf 120 = .ok (.iload 5, 2) := by decide +kernel
theorem dX9_mindsOf_122 : decode cX9_mindsOf 122 = .ok (.iaload, 1) := by decide +kernel
theorem dX9_mindsOf_123 : decode cX9_mindsOf 123 = .ok (.if_icmp .eq 14, 3) := by decide +kernel
theorem dX9_mindsOf_126 : decode cX9_mindsOf 126 = .ok (.aload_n 0, 1) := by decide +kernel
theorem dX9_mindsOf_127 : decode cX9_mindsOf 127 = .ok (.getfield 34, 3) := by decide +kernel
theorem dX9_mindsOf_130 : decode cX9_mindsOf 130 = .ok (.iload 5, 2) := by decide +kernel
theorem dX9_mindsOf_132 : decode cX9_mindsOf 132 = .ok (.iload 6, 2) := by decide +kernel
theorem dX9_mindsOf_134 : decode cX9_mindsOf 134 = .ok (.iastore, 1) := by decide +kernel
theorem dX9_mindsOf_135 : decode cX9_mindsOf 135 = .ok (.iconst 1, 1) := by decide +kernel
theorem dX9_mindsOf_136 : decode cX9_mindsOf 136 = .ok (.istore_n 3, 1) := by decide +kernel
theorem dX9_mindsOf_137 : decode cX9_mindsOf 137 = .ok (.iinc 4 1, 3) := by decide +kernel
theorem dX9_mindsOf_140 : decode cX9_mindsOf 140 = .ok (.goto (-118), 3) := by decide +kernel
theorem dX9_mindsOf_143 : decode cX9_mindsOf 143 = .ok (.iload_n 3, 1) := by decide +kernel
theorem dX9_mindsOf_144 : decode cX9_mindsOf 144 = .ok (.ifCond .ne 5, 3) := by decide +kernel
theorem dX9_mindsOf_147 : decode cX9_mindsOf 147 = .ok (.iload_n 2, 1) := by decide +kernel
theorem dX9_mindsOf_148 : decode cX9_mindsOf 148 = .ok (.ireturn, 1) := by decide +kernel
theorem dX9_mindsOf_149 : decode cX9_mindsOf 149 = .ok (.iinc 2 1, 3) := by decide +kernel
theorem dX9_mindsOf_152 : decode cX9_mindsOf 152 = .ok (.goto (-141), 3) := by decide +kernel
theorem dX9_mindsOf_155 : decode cX9_mindsOf 155 = .ok (.iconst (-1), 1) := by decide +kernel
theorem dX9_mindsOf_156 : decode cX9_mindsOf 156 = .ok (.ireturn, 1) := by decide +kernel
theorem dX9_minds_0 : decode cX9_minds 0 = .ok (.aload_n 0, 1) := by decide +kernel
theorem dX9_minds_1 : decode cX9_minds 1 = .ok (.iload_n 1, 1) := by decide +kernel
theorem dX9_minds_2 : decode cX9_minds 2 = .ok (.invokevirtual 131, 3) := by decide +kernel
theorem dX9_minds_5 : decode cX9_minds 5 = .ok (.ifCond .eq 11, 3) := by decide +kernel
theorem dX9_minds_8 : decode cX9_minds 8 = .ok (.aload_n 0, 1) := by decide +kernel
theorem dX9_minds_9 : decode cX9_minds 9 = .ok (.iload_n 1, 1) := by decide +kernel
theorem dX9_minds_10 : decode cX9_minds 10 = .ok (.invokevirtual 186, 3) := by decide +kernel
theorem dX9_minds_13 : decode cX9_minds 13 = .ok (.goto 5, 3) := by decide +kernel
theorem dX9_minds_16 : decode cX9_minds 16 = .ok (.bipush (-101), 2) := by decide +kernel
theorem dX9_minds_18 : decode cX9_minds 18 = .ok (.ireturn, 1) := by decide +kernel
theorem dX9_hostOf_0 : decode cX9_hostOf 0 = .ok (.iconst 0, 1) := by decide +kernel
theorem dX9_hostOf_1 : decode cX9_hostOf 1 = .ok (.istore_n 1, 1) := by decide +kernel
theorem dX9_hostOf_2 : decode cX9_hostOf 2 = .ok (.iconst 0, 1) := by decide +kernel
theorem dX9_hostOf_3 : decode cX9_hostOf 3 = .ok (.istore_n 2, 1) := by decide +kernel
theorem dX9_hostOf_4 : decode cX9_hostOf 4 = .ok (.iload_n 2, 1) := by decide +kernel
theorem dX9_hostOf_5 : decode cX9_hostOf 5 = .ok (.aload_n 0, 1) := by decide +kernel
theorem dX9_hostOf_6 : decode cX9_hostOf 6 = .ok (.aload_n 0, 1) := by decide +kernel
theorem dX9_hostOf_7 : decode cX9_hostOf 7 = .ok (.getfield 90, 3) := by decide +kernel
theorem dX9_hostOf_10 : decode cX9_hostOf 10 = .ok (.iconst 1, 1) := by decide +kernel
theorem dX9_hostOf_11 : decode cX9_hostOf 11 = .ok (.iadd, 1) := by decide +kernel
theorem dX9_hostOf_12 : decode cX9_hostOf 12 = .ok (.invokevirtual 179, 3) := by decide +kernel
theorem dX9_hostOf_15 : decode cX9_hostOf 15 = .ok (.if_icmp .ge 189, 3) := by decide +kernel
theorem dX9_hostOf_18 : decode cX9_hostOf 18 = .ok (.iload_n 2, 1) := by decide +kernel
theorem dX9_hostOf_19 : decode cX9_hostOf 19 = .ok (.istore_n 3, 1) := by decide +kernel
theorem dX9_hostOf_20 : decode cX9_hostOf 20 = .ok (.iconst 1, 1) := by decide +kernel
theorem dX9_hostOf_21 : decode cX9_hostOf 21 = .ok (.istore 4, 2) := by decide +kernel
theorem dX9_hostOf_23 : decode cX9_hostOf 23 = .ok (.iconst 0, 1) := by decide +kernel
theorem dX9_hostOf_24 : decode cX9_hostOf 24 = .ok (.istore 5, 2) := by decide +kernel
theorem dX9_hostOf_26 : decode cX9_hostOf 26 = .ok (.iload 5, 2) := by decide +kernel
theorem dX9_hostOf_28 : decode cX9_hostOf 28 = .ok (.aload_n 0, 1) := by decide +kernel
theorem dX9_hostOf_29 : decode cX9_hostOf 29 = .ok (.getfield 96, 3) := by decide +kernel
theorem dX9_hostOf_32 : decode cX9_hostOf 32 = .ok (.if_icmp .ge 84, 3) := by decide +kernel
theorem dX9_hostOf_35 : decode cX9_hostOf 35 = .ok (.aload_n 0, 1) := by decide +kernel
theorem dX9_hostOf_36 : decode cX9_hostOf 36 = .ok (.getfield 34, 3) := by decide +kernel
theorem dX9_hostOf_39 : decode cX9_hostOf 39 = .ok (.iload 5, 2) := by decide +kernel
theorem dX9_hostOf_41 : decode cX9_hostOf 41 = .ok (.iload_n 3, 1) := by decide +kernel
theorem dX9_hostOf_42 : decode cX9_hostOf 42 = .ok (.aload_n 0, 1) := by decide +kernel
theorem dX9_hostOf_43 : decode cX9_hostOf 43 = .ok (.getfield 90, 3) := by decide +kernel
theorem dX9_hostOf_46 : decode cX9_hostOf 46 = .ok (.iconst 1, 1) := by decide +kernel
theorem dX9_hostOf_47 : decode cX9_hostOf 47 = .ok (.iadd, 1) := by decide +kernel
theorem dX9_hostOf_48 : decode cX9_hostOf 48 = .ok (.irem, 1) := by decide +kernel
theorem dX9_hostOf_49 : decode cX9_hostOf 49 = .ok (.iconst 1, 1) := by decide +kernel
theorem dX9_hostOf_50 : decode cX9_hostOf 50 = .ok (.isub, 1) := by decide +kernel
theorem dX9_hostOf_51 : decode cX9_hostOf 51 = .ok (.iastore, 1) := by decide +kernel
theorem dX9_hostOf_52 : decode cX9_hostOf 52 = .ok (.iload_n 3, 1) := by decide +kernel
theorem dX9_hostOf_53 : decode cX9_hostOf 53 = .ok (.aload_n 0, 1) := by decide +kernel
theorem dX9_hostOf_54 : decode cX9_hostOf 54 = .ok (.getfield 90, 3) := by decide +kernel
theorem dX9_hostOf_57 : decode cX9_hostOf 57 = .ok (.iconst 1, 1) := by decide +kernel
theorem dX9_hostOf_58 : decode cX9_hostOf 58 = .ok (.iadd, 1) := by decide +kernel
theorem dX9_hostOf_59 : decode cX9_hostOf 59 = .ok (.idiv, 1) := by decide +kernel
theorem dX9_hostOf_60 : decode cX9_hostOf 60 = .ok (.istore_n 3, 1) := by decide +kernel
theorem dX9_hostOf_61 : decode cX9_hostOf 61 = .ok (.iload 4, 2) := by decide +kernel
theorem dX9_hostOf_63 : decode cX9_hostOf 63 = .ok (.ifCond .eq 44, 3) := by decide +kernel
theorem dX9_hostOf_66 : decode cX9_hostOf 66 = .ok (.aload_n 0, 1) := by decide +kernel
theorem dX9_hostOf_67 : decode cX9_hostOf 67 = .ok (.getfield 34, 3) := by decide +kernel
theorem dX9_hostOf_70 : decode cX9_hostOf 70 = .ok (.iload 5, 2) := by decide +kernel
theorem dX9_hostOf_72 : decode cX9_hostOf 72 = .ok (.iaload, 1) := by decide +kernel
theorem dX9_hostOf_73 : decode cX9_hostOf 73 = .ok (.iconst (-1), 1) := by decide +kernel
theorem dX9_hostOf_74 : decode cX9_hostOf 74 = .ok (.if_icmp .eq 29, 3) := by decide +kernel
theorem dX9_hostOf_77 : decode cX9_hostOf 77 = .ok (.aload_n 0, 1) := by decide +kernel
theorem dX9_hostOf_78 : decode cX9_hostOf 78 = .ok (.getfield 22, 3) := by decide +kernel
theorem dX9_hostOf_81 : decode cX9_hostOf 81 = .ok (.aload_n 0, 1) := by decide +kernel
theorem dX9_hostOf_82 : decode cX9_hostOf 82 = .ok (.getfield 34, 3) := by decide +kernel
theorem dX9_hostOf_85 : decode cX9_hostOf 85 = .ok (.iload 5, 2) := by decide +kernel
theorem dX9_hostOf_87 : decode cX9_hostOf 87 = .ok (.iaload, 1) := by decide +kernel
theorem dX9_hostOf_88 : decode cX9_hostOf 88 = .ok (.iaload, 1) := by decide +kernel
theorem dX9_hostOf_89 : decode cX9_hostOf 89 = .ok (.aload_n 0, 1) := by decide +kernel
theorem dX9_hostOf_90 : decode cX9_hostOf 90 = .ok (.getfield 25, 3) := by decide +kernel
theorem dX9_hostOf_93 : decode cX9_hostOf 93 = .ok (.iconst 2, 1) := by decide +kernel
theorem dX9_hostOf_94 : decode cX9_hostOf 94 = .ok (.iload 5, 2) := by decide +kernel
theorem dX9_hostOf_96 : decode cX9_hostOf 96 = .ok (.imul, 1) := by decide +kernel
theorem dX9_hostOf_97 : decode cX9_hostOf 97 = .ok (.iconst 1, 1) := by decide +kernel
theorem dX9_hostOf_98 : decode cX9_hostOf 98 = .ok (.iadd, 1) := by decide +kernel
theorem dX9_hostOf_99 : decode cX9_hostOf 99 = .ok (.iaload, 1) := by decide +kernel
theorem dX9_hostOf_100 : decode cX9_hostOf 100 = .ok (.if_icmp .gt 7, 3) := by decide +kernel
theorem dX9_hostOf_103 : decode cX9_hostOf 103 = .ok (.iconst 1, 1) := by decide +kernel
theorem dX9_hostOf_104 : decode cX9_hostOf 104 = .ok (.goto 4, 3) := by decide +kernel
theorem dX9_hostOf_107 : decode cX9_hostOf 107 = .ok (.iconst 0, 1) := by decide +kernel
theorem dX9_hostOf_108 : decode cX9_hostOf 108 = .ok (.istore 4, 2) := by decide +kernel
theorem dX9_hostOf_110 : decode cX9_hostOf 110 = .ok (.iinc 5 1, 3) := by decide +kernel
theorem dX9_hostOf_113 : decode cX9_hostOf 113 = .ok (.goto (-87), 3) := by decide +kernel
theorem dX9_hostOf_116 : decode cX9_hostOf 116 = .ok (.iconst 0, 1) := by decide +kernel
theorem dX9_hostOf_117 : decode cX9_hostOf 117 = .ok (.istore 5, 2) := by decide +kernel
theorem dX9_hostOf_119 : decode cX9_hostOf 119 = .ok (.iload 5, 2) := by decide +kernel
theorem dX9_hostOf_121 : decode cX9_hostOf 121 = .ok (.aload_n 0, 1) := by decide +kernel
theorem dX9_hostOf_122 : decode cX9_hostOf 122 = .ok (.getfield 90, 3) := by decide +kernel
theorem dX9_hostOf_125 : decode cX9_hostOf 125 = .ok (.if_icmp .ge 41, 3) := by decide +kernel
theorem dX9_hostOf_128 : decode cX9_hostOf 128 = .ok (.iload 4, 2) := by decide +kernel
theorem dX9_hostOf_130 : decode cX9_hostOf 130 = .ok (.ifCond .eq 36, 3) := by decide +kernel
theorem dX9_hostOf_133 : decode cX9_hostOf 133 = .ok (.aload_n 0, 1) := by decide +kernel
theorem dX9_hostOf_134 : decode cX9_hostOf 134 = .ok (.aload_n 0, 1) := by decide +kernel
theorem dX9_hostOf_135 : decode cX9_hostOf 135 = .ok (.getfield 34, 3) := by decide +kernel
theorem dX9_hostOf_138 : decode cX9_hostOf 138 = .ok (.iload 5, 2) := by decide +kernel
theorem dX9_hostOf_140 : decode cX9_hostOf 140 = .ok (.invokevirtual 108, 3) := by decide +kernel
theorem dX9_hostOf_143 : decode cX9_hostOf 143 = .ok (.aload_n 0, 1) := by decide +kernel
theorem dX9_hostOf_144 : decode cX9_hostOf 144 = .ok (.getfield 19, 3) := by decide +kernel
theorem dX9_hostOf_147 : decode cX9_hostOf 147 = .ok (.iload 5, 2) := by decide +kernel
theorem dX9_hostOf_149 : decode cX9_hostOf 149 = .ok (.iaload, 1) := by decide +kernel
theorem dX9_hostOf_150 : decode cX9_hostOf 150 = .ok (.if_icmp .gt 7, 3) := by decide +kernel
theorem dX9_hostOf_153 : decode cX9_hostOf 153 = .ok (.iconst 1, 1) := by decide +kernel
theorem dX9_hostOf_154 : decode cX9_hostOf 154 = .ok (.goto 4, 3) := by decide +kernel
theorem dX9_hostOf_157 : decode cX9_hostOf 157 = .ok (.iconst 0, 1) := by decide +kernel
theorem dX9_hostOf_158 : decode cX9_hostOf 158 = .ok (.istore 4, 2) := by decide +kernel
theorem dX9_hostOf_160 : decode cX9_hostOf 160 = .ok (.iinc 5 1, 3) := by decide +kernel
theorem dX9_hostOf_163 : decode cX9_hostOf 163 = .ok (.goto (-44), 3) := by decide +kernel
theorem dX9_hostOf_166 : decode cX9_hostOf 166 = .ok (.iload 4, 2) := by decide +kernel
theorem dX9_hostOf_168 : decode cX9_hostOf 168 = .ok (.ifCond .eq 14, 3) := by decide +kernel
theorem dX9_hostOf_171 : decode cX9_hostOf 171 = .ok (.aload_n 0, 1) := by decide +kernel
theorem dX9_hostOf_172 : decode cX9_hostOf 172 = .ok (.aload_n 0, 1) := by decide +kernel
theorem dX9_hostOf_173 : decode cX9_hostOf 173 = .ok (.getfield 34, 3) := by decide +kernel
theorem dX9_hostOf_176 : decode cX9_hostOf 176 = .ok (.invokevirtual 169, 3) := by decide +kernel
theorem dX9_hostOf_179 : decode cX9_hostOf 179 = .ok (.goto 4, 3) := by decide +kernel
theorem dX9_hostOf_182 : decode cX9_hostOf 182 = .ok (.iconst 0, 1) := by decide +kernel
theorem dX9_hostOf_183 : decode cX9_hostOf 183 = .ok (.istore 5, 2) := by decide +kernel
theorem dX9_hostOf_185 : decode cX9_hostOf 185 = .ok (.iload 5, 2) := by decide +kernel
theorem dX9_hostOf_187 : decode cX9_hostOf 187 = .ok (.iload_n 1, 1) := by decide +kernel
theorem dX9_hostOf_188 : decode cX9_hostOf 188 = .ok (.if_icmp .le 8, 3) := by decide +kernel
theorem dX9_hostOf_191 : decode cX9_hostOf 191 = .ok (.iload 5, 2) := by decide +kernel
theorem dX9_hostOf_193 : decode cX9_hostOf 193 = .ok (.goto 4, 3) := by decide +kernel
theorem dX9_hostOf_196 : decode cX9_hostOf 196 = .ok (.iload_n 1, 1) := by decide +kernel
theorem dX9_hostOf_197 : decode cX9_hostOf 197 = .ok (.istore_n 1, 1) := by decide +kernel
theorem dX9_hostOf_198 : decode cX9_hostOf 198 = .ok (.iinc 2 1, 3) := by decide +kernel
theorem dX9_hostOf_201 : decode cX9_hostOf 201 = .ok (.goto (-197), 3) := by decide +kernel
theorem dX9_hostOf_204 : decode cX9_hostOf 204 = .ok (.iload_n 1, 1) := by decide +kernel
theorem dX9_hostOf_205 : decode cX9_hostOf 205 = .ok (.ireturn, 1) := by decide +kernel
theorem dX9_host_0 : decode cX9_host 0 = .ok (.aload_n 0, 1) := by decide +kernel
theorem dX9_host_1 : decode cX9_host 1 = .ok (.invokevirtual 121, 3) := by decide +kernel
theorem dX9_host_4 : decode cX9_host 4 = .ok (.ifCond .eq 8, 3) := by decide +kernel
theorem dX9_host_7 : decode cX9_host 7 = .ok (.bipush (-103), 2) := by decide +kernel
theorem dX9_host_9 : decode cX9_host 9 = .ok (.goto 7, 3) := by decide +kernel
theorem dX9_host_12 : decode cX9_host 12 = .ok (.aload_n 0, 1) := by decide +kernel
theorem dX9_host_13 : decode cX9_host 13 = .ok (.invokevirtual 189, 3) := by decide +kernel
theorem dX9_host_16 : decode cX9_host 16 = .ok (.ireturn, 1) := by decide +kernel
theorem dX9_ones_0 : decode cX9_ones 0 = .ok (.iconst 0, 1) := by decide +kernel
theorem dX9_ones_1 : decode cX9_ones 1 = .ok (.istore_n 1, 1) := by decide +kernel
theorem dX9_ones_2 : decode cX9_ones 2 = .ok (.iconst 0, 1) := by decide +kernel
theorem dX9_ones_3 : decode cX9_ones 3 = .ok (.istore_n 2, 1) := by decide +kernel
theorem dX9_ones_4 : decode cX9_ones 4 = .ok (.iload_n 2, 1) := by decide +kernel
theorem dX9_ones_5 : decode cX9_ones 5 = .ok (.bipush 6, 2) := by decide +kernel
theorem dX9_ones_7 : decode cX9_ones 7 = .ok (.if_icmp .ge 17, 3) := by decide +kernel
theorem dX9_ones_10 : decode cX9_ones 10 = .ok (.iload_n 1, 1) := by decide +kernel
theorem dX9_ones_11 : decode cX9_ones 11 = .ok (.iload_n 0, 1) := by decide +kernel
theorem dX9_ones_12 : decode cX9_ones 12 = .ok (.iload_n 2, 1) := by decide +kernel
theorem dX9_ones_13 : decode cX9_ones 13 = .ok (.ishr, 1) := by decide +kernel
theorem dX9_ones_14 : decode cX9_ones 14 = .ok (.iconst 1, 1) := by decide +kernel
theorem dX9_ones_15 : decode cX9_ones 15 = .ok (.iand, 1) := by decide +kernel
theorem dX9_ones_16 : decode cX9_ones 16 = .ok (.iadd, 1) := by decide +kernel
theorem dX9_ones_17 : decode cX9_ones 17 = .ok (.istore_n 1, 1) := by decide +kernel
theorem dX9_ones_18 : decode cX9_ones 18 = .ok (.iinc 2 1, 3) := by decide +kernel
theorem dX9_ones_21 : decode cX9_ones 21 = .ok (.goto (-17), 3) := by decide +kernel
theorem dX9_ones_24 : decode cX9_ones 24 = .ok (.iload_n 1, 1) := by decide +kernel
theorem dX9_ones_25 : decode cX9_ones 25 = .ok (.ireturn, 1) := by decide +kernel
theorem dX9_fewestOf_0 : decode cX9_fewestOf 0 = .ok (.iconst (-1), 1) := by decide +kernel
theorem dX9_fewestOf_1 : decode cX9_fewestOf 1 = .ok (.istore_n 2, 1) := by decide +kernel
theorem dX9_fewestOf_2 : decode cX9_fewestOf 2 = .ok (.iconst 0, 1) := by decide +kernel
theorem dX9_fewestOf_3 : decode cX9_fewestOf 3 = .ok (.istore_n 3, 1) := by decide +kernel
theorem dX9_fewestOf_4 : decode cX9_fewestOf 4 = .ok (.iload_n 3, 1) := by decide +kernel
theorem dX9_fewestOf_5 : decode cX9_fewestOf 5 = .ok (.iconst 1, 1) := by decide +kernel
theorem dX9_fewestOf_6 : decode cX9_fewestOf 6 = .ok (.aload_n 0, 1) := by decide +kernel
theorem dX9_fewestOf_7 : decode cX9_fewestOf 7 = .ok (.getfield 90, 3) := by decide +kernel
theorem dX9_fewestOf_10 : decode cX9_fewestOf 10 = .ok (.ishl, 1) := by decide +kernel
theorem dX9_fewestOf_11 : decode cX9_fewestOf 11 = .ok (.if_icmp .ge 134, 3) := by decide +kernel
theorem dX9_fewestOf_14 : decode cX9_fewestOf 14 = .ok (.iconst 1, 1) := by decide +kernel
theorem dX9_fewestOf_15 : decode cX9_fewestOf 15 = .ok (.istore 4, 2) := by decide +kernel
theorem dX9_fewestOf_17 : decode cX9_fewestOf 17 = .ok (.iconst 0, 1) := by decide +kernel
theorem dX9_fewestOf_18 : decode cX9_fewestOf 18 = .ok (.istore 5, 2) := by decide +kernel
theorem dX9_fewestOf_20 : decode cX9_fewestOf 20 = .ok (.iload 5, 2) := by decide +kernel
theorem dX9_fewestOf_22 : decode cX9_fewestOf 22 = .ok (.aload_n 0, 1) := by decide +kernel
theorem dX9_fewestOf_23 : decode cX9_fewestOf 23 = .ok (.getfield 96, 3) := by decide +kernel
theorem dX9_fewestOf_26 : decode cX9_fewestOf 26 = .ok (.if_icmp .ge 86, 3) := by decide +kernel
theorem dX9_fewestOf_29 : decode cX9_fewestOf 29 = .ok (.iconst 0, 1) := by decide +kernel
theorem dX9_fewestOf_30 : decode cX9_fewestOf 30 = .ok (.istore 6, 2) := by decide +kernel
theorem dX9_fewestOf_32 : decode cX9_fewestOf 32 = .ok (.iconst 0, 1) := by decide +kernel
theorem dX9_fewestOf_33 : decode cX9_fewestOf 33 = .ok (.istore 7, 2) := by decide +kernel
theorem dX9_fewestOf_35 : decode cX9_fewestOf 35 = .ok (.iload 7, 2) := by decide +kernel
theorem dX9_fewestOf_37 : decode cX9_fewestOf 37 = .ok (.aload_n 0, 1) := by decide +kernel
theorem dX9_fewestOf_38 : decode cX9_fewestOf 38 = .ok (.getfield 90, 3) := by decide +kernel
theorem dX9_fewestOf_41 : decode cX9_fewestOf 41 = .ok (.if_icmp .ge 48, 3) := by decide +kernel
theorem dX9_fewestOf_44 : decode cX9_fewestOf 44 = .ok (.iload 6, 2) := by decide +kernel
theorem dX9_fewestOf_46 : decode cX9_fewestOf 46 = .ok (.ifCond .ne 30, 3) := by decide +kernel
theorem dX9_fewestOf_49 : decode cX9_fewestOf 49 = .ok (.iload_n 3, 1) := by decide +kernel
theorem dX9_fewestOf_50 : decode cX9_fewestOf 50 = .ok (.iload 7, 2) := by decide +kernel
theorem dX9_fewestOf_52 : decode cX9_fewestOf 52 = .ok (.ishr, 1) := by decide +kernel
theorem dX9_fewestOf_53 : decode cX9_fewestOf 53 = .ok (.iconst 1, 1) := by decide +kernel
theorem dX9_fewestOf_54 : decode cX9_fewestOf 54 = .ok (.iand, 1) := by decide +kernel
theorem dX9_fewestOf_55 : decode cX9_fewestOf 55 = .ok (.iconst 1, 1) := by decide +kernel
theorem dX9_fewestOf_56 : decode cX9_fewestOf 56 = .ok (.if_icmp .ne 24, 3) := by decide +kernel
theorem dX9_fewestOf_59 : decode cX9_fewestOf 59 = .ok (.aload_n 0, 1) := by decide +kernel
theorem dX9_fewestOf_60 : decode cX9_fewestOf 60 = .ok (.getfield 28, 3) := by decide +kernel
theorem dX9_fewestOf_63 : decode cX9_fewestOf 63 = .ok (.bipush 6, 2) := by decide +kernel
theorem dX9_fewestOf_65 : decode cX9_fewestOf 65 = .ok (.iload 5, 2) := by decide +kernel
theorem dX9_fewestOf_67 : decode cX9_fewestOf 67 = .ok (.imul, 1) := by decide +kernel
theorem dX9_fewestOf_68 : decode cX9_fewestOf 68 = .ok (.iload 7, 2) := by decide +kernel
theorem dX9_fewestOf_70 : decode cX9_fewestOf 70 = .ok (.iadd, 1) := by decide +kernel
theorem dX9_fewestOf_71 : decode cX9_fewestOf 71 = .ok (.iaload, 1) := by decide +kernel
theorem dX9_fewestOf_72 : decode cX9_fewestOf 72 = .ok (.iconst 5, 1) := by decide +kernel
theorem dX9_fewestOf_73 : decode cX9_fewestOf 73 = .ok (.if_icmp .lt 7, 3) := by decide +kernel
theorem dX9_fewestOf_76 : decode cX9_fewestOf 76 = .ok (.iconst 1, 1) := by decide +kernel
theorem dX9_fewestOf_77 : decode cX9_fewestOf 77 = .ok (.goto 4, 3) := by decide +kernel
theorem dX9_fewestOf_80 : decode cX9_fewestOf 80 = .ok (.iconst 0, 1) := by decide +kernel
theorem dX9_fewestOf_81 : decode cX9_fewestOf 81 = .ok (.istore 6, 2) := by decide +kernel
theorem dX9_fewestOf_83 : decode cX9_fewestOf 83 = .ok (.iinc 7 1, 3) := by decide +kernel
theorem dX9_fewestOf_86 : decode cX9_fewestOf 86 = .ok (.goto (-51), 3) := by decide +kernel
theorem dX9_fewestOf_89 : decode cX9_fewestOf 89 = .ok (.iload 4, 2) := by decide +kernel
theorem dX9_fewestOf_91 : decode cX9_fewestOf 91 = .ok (.ifCond .eq 12, 3) := by decide +kernel
theorem dX9_fewestOf_94 : decode cX9_fewestOf 94 = .ok (.iload 6, 2) := by decide +kernel
theorem dX9_fewestOf_96 : decode cX9_fewestOf 96 = .ok (.ifCond .eq 7, 3) := by decide +kernel
theorem dX9_fewestOf_99 : decode cX9_fewestOf 99 = .ok (.iconst 1, 1) := by decide +kernel
theorem dX9_fewestOf_100 : decode cX9_fewestOf 100 = .ok (.goto 4, 3) := by decide +kernel
theorem dX9_fewestOf_103 : decode cX9_fewestOf 103 = .ok (.iconst 0, 1) := by decide +kernel
theorem dX9_fewestOf_104 : decode cX9_fewestOf 104 = .ok (.istore 4, 2) := by decide +kernel
theorem dX9_fewestOf_106 : decode cX9_fewestOf 106 = .ok (.iinc 5 1, 3) := by decide +kernel
theorem dX9_fewestOf_109 : decode cX9_fewestOf 109 = .ok (.goto (-89), 3) := by decide +kernel
theorem dX9_fewestOf_112 : decode cX9_fewestOf 112 = .ok (.iload 4, 2) := by decide +kernel
theorem dX9_fewestOf_114 : decode cX9_fewestOf 114 = .ok (.ifCond .eq 23, 3) := by decide +kernel
theorem dX9_fewestOf_117 : decode cX9_fewestOf 117 = .ok (.iload_n 2, 1) := by decide +kernel
theorem dX9_fewestOf_118 : decode cX9_fewestOf 118 = .ok (.iconst (-1), 1) := by decide +kernel
theorem dX9_fewestOf_119 : decode cX9_fewestOf 119 = .ok (.if_icmp .eq 14, 3) := by decide +kernel
theorem dX9_fewestOf_122 : decode cX9_fewestOf 122 = .ok (.iload_n 3, 1) := by decide +kernel
theorem dX9_fewestOf_123 : decode cX9_fewestOf 123 = .ok (.invokestatic 192, 3) := by decide +kernel
theorem dX9_fewestOf_126 : decode cX9_fewestOf 126 = .ok (.iload_n 2, 1) := by decide +kernel
theorem dX9_fewestOf_127 : decode cX9_fewestOf 127 = .ok (.invokestatic 192, 3) := by decide +kernel
theorem dX9_fewestOf_130 : decode cX9_fewestOf 130 = .ok (.if_icmp .ge 7, 3) := by decide +kernel
theorem dX9_fewestOf_133 : decode cX9_fewestOf 133 = .ok (.iload_n 3, 1) := by decide +kernel
theorem dX9_fewestOf_134 : decode cX9_fewestOf 134 = .ok (.goto 4, 3) := by decide +kernel
theorem dX9_fewestOf_137 : decode cX9_fewestOf 137 = .ok (.iload_n 2, 1) := by decide +kernel
theorem dX9_fewestOf_138 : decode cX9_fewestOf 138 = .ok (.istore_n 2, 1) := by decide +kernel
theorem dX9_fewestOf_139 : decode cX9_fewestOf 139 = .ok (.iinc 3 1, 3) := by decide +kernel
theorem dX9_fewestOf_142 : decode cX9_fewestOf 142 = .ok (.goto (-138), 3) := by decide +kernel
theorem dX9_fewestOf_145 : decode cX9_fewestOf 145 = .ok (.iload_n 2, 1) := by decide +kernel
theorem dX9_fewestOf_146 : decode cX9_fewestOf 146 = .ok (.iconst (-1), 1) := by decide +kernel
theorem dX9_fewestOf_147 : decode cX9_fewestOf 147 = .ok (.if_icmp .eq 8, 3) := by decide +kernel
theorem dX9_fewestOf_150 : decode cX9_fewestOf 150 = .ok (.iload_n 1, 1) := by decide +kernel
theorem dX9_fewestOf_151 : decode cX9_fewestOf 151 = .ok (.iconst 1, 1) := by decide +kernel
theorem dX9_fewestOf_152 : decode cX9_fewestOf 152 = .ok (.if_icmp .ne 7, 3) := by decide +kernel
theorem dX9_fewestOf_155 : decode cX9_fewestOf 155 = .ok (.iload_n 2, 1) := by decide +kernel
theorem dX9_fewestOf_156 : decode cX9_fewestOf 156 = .ok (.goto 7, 3) := by decide +kernel
theorem dX9_fewestOf_159 : decode cX9_fewestOf 159 = .ok (.iload_n 2, 1) := by decide +kernel
theorem dX9_fewestOf_160 : decode cX9_fewestOf 160 = .ok (.invokestatic 192, 3) := by decide +kernel
theorem dX9_fewestOf_163 : decode cX9_fewestOf 163 = .ok (.ireturn, 1) := by decide +kernel
theorem dX9_fewest_0 : decode cX9_fewest 0 = .ok (.iload_n 1, 1) := by decide +kernel
theorem dX9_fewest_1 : decode cX9_fewest 1 = .ok (.i2l, 1) := by decide +kernel
theorem dX9_fewest_2 : decode cX9_fewest 2 = .ok (.lconst 0, 1) := by decide +kernel
theorem dX9_fewest_3 : decode cX9_fewest 3 = .ok (.lconst 1, 1) := by decide +kernel
theorem dX9_fewest_4 : decode cX9_fewest 4 = .ok (.invokestatic 64, 3) := by decide +kernel
theorem dX9_fewest_7 : decode cX9_fewest 7 = .ok (.ifCond .ne 6, 3) := by decide +kernel
theorem dX9_fewest_10 : decode cX9_fewest 10 = .ok (.bipush (-102), 2) := by decide +kernel
theorem dX9_fewest_12 : decode cX9_fewest 12 = .ok (.ireturn, 1) := by decide +kernel
theorem dX9_fewest_13 : decode cX9_fewest 13 = .ok (.aload_n 0, 1) := by decide +kernel
theorem dX9_fewest_14 : decode cX9_fewest 14 = .ok (.invokevirtual 121, 3) := by decide +kernel
theorem dX9_fewest_17 : decode cX9_fewest 17 = .ok (.ifCond .eq 8, 3) := by decide +kernel
theorem dX9_fewest_20 : decode cX9_fewest 20 = .ok (.bipush (-103), 2) := by decide +kernel
theorem dX9_fewest_22 : decode cX9_fewest 22 = .ok (.goto 8, 3) := by decide +kernel
theorem dX9_fewest_25 : decode cX9_fewest 25 = .ok (.aload_n 0, 1) := by decide +kernel
theorem dX9_fewest_26 : decode cX9_fewest 26 = .ok (.iload_n 1, 1) := by decide +kernel
theorem dX9_fewest_27 : decode cX9_fewest 27 = .ok (.invokevirtual 195, 3) := by decide +kernel
theorem dX9_fewest_30 : decode cX9_fewest 30 = .ok (.ireturn, 1) := by decide +kernel
theorem dX9_urges_0 : decode cX9_urges 0 = .ok (.aload_n 0, 1) := by decide +kernel
theorem dX9_urges_1 : decode cX9_urges 1 = .ok (.iload_n 1, 1) := by decide +kernel
theorem dX9_urges_2 : decode cX9_urges 2 = .ok (.invokevirtual 112, 3) := by decide +kernel
theorem dX9_urges_5 : decode cX9_urges 5 = .ok (.ifCond .eq 11, 3) := by decide +kernel
theorem dX9_urges_8 : decode cX9_urges 8 = .ok (.aload_n 0, 1) := by decide +kernel
theorem dX9_urges_9 : decode cX9_urges 9 = .ok (.iload_n 2, 1) := by decide +kernel
theorem dX9_urges_10 : decode cX9_urges 10 = .ok (.invokevirtual 131, 3) := by decide +kernel
theorem dX9_urges_13 : decode cX9_urges 13 = .ok (.ifCond .ne 6, 3) := by decide +kernel
theorem dX9_urges_16 : decode cX9_urges 16 = .ok (.bipush (-101), 2) := by decide +kernel
theorem dX9_urges_18 : decode cX9_urges 18 = .ok (.ireturn, 1) := by decide +kernel
theorem dX9_urges_19 : decode cX9_urges 19 = .ok (.iload_n 3, 1) := by decide +kernel
theorem dX9_urges_20 : decode cX9_urges 20 = .ok (.i2l, 1) := by decide +kernel
theorem dX9_urges_21 : decode cX9_urges 21 = .ok (.lconst 1, 1) := by decide +kernel
theorem dX9_urges_22 : decode cX9_urges 22 = .ok (.ldc2_w 198, 3) := by decide +kernel
theorem dX9_urges_25 : decode cX9_urges 25 = .ok (.invokestatic 64, 3) := by decide +kernel
theorem dX9_urges_28 : decode cX9_urges 28 = .ok (.ifCond .ne 6, 3) := by decide +kernel
theorem dX9_urges_31 : decode cX9_urges 31 = .ok (.bipush (-102), 2) := by decide +kernel
theorem dX9_urges_33 : decode cX9_urges 33 = .ok (.ireturn, 1) := by decide +kernel
theorem dX9_urges_34 : decode cX9_urges 34 = .ok (.aload_n 0, 1) := by decide +kernel
theorem dX9_urges_35 : decode cX9_urges 35 = .ok (.aload_n 0, 1) := by decide +kernel
theorem dX9_urges_36 : decode cX9_urges 36 = .ok (.getfield 93, 3) := by decide +kernel
theorem dX9_urges_39 : decode cX9_urges 39 = .ok (.putfield 139, 3) := by decide +kernel
theorem dX9_urges_42 : decode cX9_urges 42 = .ok (.aload_n 0, 1) := by decide +kernel
theorem dX9_urges_43 : decode cX9_urges 43 = .ok (.iload_n 1, 1) := by decide +kernel
theorem dX9_urges_44 : decode cX9_urges 44 = .ok (.putfield 142, 3) := by decide +kernel
theorem dX9_urges_47 : decode cX9_urges 47 = .ok (.iconst 0, 1) := by decide +kernel
theorem dX9_urges_48 : decode cX9_urges 48 = .ok (.istore 4, 2) := by decide +kernel
theorem dX9_urges_50 : decode cX9_urges 50 = .ok (.iload 4, 2) := by decide +kernel
theorem dX9_urges_52 : decode cX9_urges 52 = .ok (.bipush 20, 2) := by decide +kernel
theorem dX9_urges_54 : decode cX9_urges 54 = .ok (.if_icmp .gt 36, 3) := by decide +kernel
theorem dX9_urges_57 : decode cX9_urges 57 = .ok (.aload_n 0, 1) := by decide +kernel
theorem dX9_urges_58 : decode cX9_urges 58 = .ok (.iload 4, 2) := by decide +kernel
theorem dX9_urges_60 : decode cX9_urges 60 = .ok (.putfield 145, 3) := by decide +kernel
theorem dX9_urges_63 : decode cX9_urges 63 = .ok (.aload_n 0, 1) := by decide +kernel
theorem dX9_urges_64 : decode cX9_urges 64 = .ok (.iload_n 2, 1) := by decide +kernel
theorem dX9_urges_65 : decode cX9_urges 65 = .ok (.invokevirtual 165, 3) := by decide +kernel
theorem dX9_urges_68 : decode cX9_urges 68 = .ok (.aload_n 0, 1) := by decide +kernel
theorem dX9_urges_69 : decode cX9_urges 69 = .ok (.aload_n 0, 1) := by decide +kernel
theorem dX9_urges_70 : decode cX9_urges 70 = .ok (.getfield 34, 3) := by decide +kernel
theorem dX9_urges_73 : decode cX9_urges 73 = .ok (.iload_n 1, 1) := by decide +kernel
theorem dX9_urges_74 : decode cX9_urges 74 = .ok (.invokevirtual 108, 3) := by decide +kernel
theorem dX9_urges_77 : decode cX9_urges 77 = .ok (.iload_n 3, 1) := by decide +kernel
theorem dX9_urges_78 : decode cX9_urges 78 = .ok (.if_icmp .lt 6, 3) := by decide +kernel
theorem dX9_urges_81 : decode cX9_urges 81 = .ok (.iload 4, 2) := by decide +kernel
theorem dX9_urges_83 : decode cX9_urges 83 = .ok (.ireturn, 1) := by decide +kernel
theorem dX9_urges_84 : decode cX9_urges 84 = .ok (.iinc 4 1, 3) := by decide +kernel
theorem dX9_urges_87 : decode cX9_urges 87 = .ok (.goto (-37), 3) := by decide +kernel
theorem dX9_urges_90 : decode cX9_urges 90 = .ok (.iconst (-1), 1) := by decide +kernel
theorem dX9_urges_91 : decode cX9_urges 91 = .ok (.ireturn, 1) := by decide +kernel
theorem dX9_evening_0 : decode cX9_evening 0 = .ok (.aload_n 0, 1) := by decide +kernel
theorem dX9_evening_1 : decode cX9_evening 1 = .ok (.iload_n 1, 1) := by decide +kernel
theorem dX9_evening_2 : decode cX9_evening 2 = .ok (.invokevirtual 131, 3) := by decide +kernel
theorem dX9_evening_5 : decode cX9_evening 5 = .ok (.ifCond .eq 24, 3) := by decide +kernel
theorem dX9_evening_8 : decode cX9_evening 8 = .ok (.aload_n 0, 1) := by decide +kernel
theorem dX9_evening_9 : decode cX9_evening 9 = .ok (.iload_n 2, 1) := by decide +kernel
theorem dX9_evening_10 : decode cX9_evening 10 = .ok (.invokevirtual 131, 3) := by decide +kernel
theorem dX9_evening_13 : decode cX9_evening 13 = .ok (.ifCond .eq 16, 3) := by decide +kernel
theorem dX9_evening_16 : decode cX9_evening 16 = .ok (.iload_n 3, 1) := by decide +kernel
theorem dX9_evening_17 : decode cX9_evening 17 = .ok (.iconst (-1), 1) := by decide +kernel
theorem dX9_evening_18 : decode cX9_evening 18 = .ok (.if_icmp .eq 14, 3) := by decide +kernel
theorem dX9_evening_21 : decode cX9_evening 21 = .ok (.aload_n 0, 1) := by decide +kernel
theorem dX9_evening_22 : decode cX9_evening 22 = .ok (.iload_n 3, 1) := by decide +kernel
theorem dX9_evening_23 : decode cX9_evening 23 = .ok (.invokevirtual 112, 3) := by decide +kernel
theorem dX9_evening_26 : decode cX9_evening 26 = .ok (.ifCond .ne 6, 3) := by decide +kernel
theorem dX9_evening_29 : decode cX9_evening 29 = .ok (.bipush (-101), 2) := by decide +kernel
theorem dX9_evening_31 : decode cX9_evening 31 = .ok (.ireturn, 1) := by decide +kernel
theorem dX9_evening_32 : decode cX9_evening 32 = .ok (.aload_n 0, 1) := by decide +kernel
theorem dX9_evening_33 : decode cX9_evening 33 = .ok (.getfield 99, 3) := by decide +kernel
theorem dX9_evening_36 : decode cX9_evening 36 = .ok (.iconst 4, 1) := by decide +kernel
theorem dX9_evening_37 : decode cX9_evening 37 = .ok (.if_icmp .ne 6, 3) := by decide +kernel
theorem dX9_evening_40 : decode cX9_evening 40 = .ok (.bipush (-104), 2) := by decide +kernel
theorem dX9_evening_42 : decode cX9_evening 42 = .ok (.ireturn, 1) := by decide +kernel
theorem dX9_evening_43 : decode cX9_evening 43 = .ok (.aload_n 0, 1) := by decide +kernel
theorem dX9_evening_44 : decode cX9_evening 44 = .ok (.getfield 37, 3) := by decide +kernel
theorem dX9_evening_47 : decode cX9_evening 47 = .ok (.iconst 3, 1) := by decide +kernel
theorem dX9_evening_48 : decode cX9_evening 48 = .ok (.aload_n 0, 1) := by decide +kernel
theorem dX9_evening_49 : decode cX9_evening 49 = .ok (.getfield 99, 3) := by decide +kernel
theorem dX9_evening_52 : decode cX9_evening 52 = .ok (.imul, 1) := by decide +kernel
theorem dX9_evening_53 : decode cX9_evening 53 = .ok (.iload_n 1, 1) := by decide +kernel
theorem dX9_evening_54 : decode cX9_evening 54 = .ok (.iastore, 1) := by decide +kernel
theorem dX9_evening_55 : decode cX9_evening 55 = .ok (.aload_n 0, 1) := by decide +kernel
theorem dX9_evening_56 : decode cX9_evening 56 = .ok (.getfield 37, 3) := by decide +kernel
theorem dX9_evening_59 : decode cX9_evening 59 = .ok (.iconst 3, 1) := by decide +kernel
theorem dX9_evening_60 : decode cX9_evening 60 = .ok (.aload_n 0, 1) := by decide +kernel
theorem dX9_evening_61 : decode cX9_evening 61 = .ok (.getfield 99, 3) := by decide +kernel
theorem dX9_evening_64 : decode cX9_evening 64 = .ok (.imul, 1) := by decide +kernel
theorem dX9_evening_65 : decode cX9_evening 65 = .ok (.iconst 1, 1) := by decide +kernel
theorem dX9_evening_66 : decode cX9_evening 66 = .ok (.iadd, 1) := by decide +kernel
theorem dX9_evening_67 : decode cX9_evening 67 = .ok (.iload_n 2, 1) := by decide +kernel
theorem dX9_evening_68 : decode cX9_evening 68 = .ok (.iastore, 1) := by decide +kernel
theorem dX9_evening_69 : decode cX9_evening 69 = .ok (.aload_n 0, 1) := by decide +kernel
theorem dX9_evening_70 : decode cX9_evening 70 = .ok (.getfield 37, 3) := by decide +kernel
theorem dX9_evening_73 : decode cX9_evening 73 = .ok (.iconst 3, 1) := by decide +kernel
theorem dX9_evening_74 : decode cX9_evening 74 = .ok (.aload_n 0, 1) := by decide +kernel
theorem dX9_evening_75 : decode cX9_evening 75 = .ok (.getfield 99, 3) := by decide +kernel
theorem dX9_evening_78 : decode cX9_evening 78 = .ok (.imul, 1) := by decide +kernel
theorem dX9_evening_79 : decode cX9_evening 79 = .ok (.iconst 2, 1) := by decide +kernel
theorem dX9_evening_80 : decode cX9_evening 80 = .ok (.iadd, 1) := by decide +kernel
theorem dX9_evening_81 : decode cX9_evening 81 = .ok (.iload_n 3, 1) := by decide +kernel
theorem dX9_evening_82 : decode cX9_evening 82 = .ok (.iastore, 1) := by decide +kernel
theorem dX9_evening_83 : decode cX9_evening 83 = .ok (.aload_n 0, 1) := by decide +kernel
theorem dX9_evening_84 : decode cX9_evening 84 = .ok (.dup, 1) := by decide +kernel
theorem dX9_evening_85 : decode cX9_evening 85 = .ok (.getfield 99, 3) := by decide +kernel
theorem dX9_evening_88 : decode cX9_evening 88 = .ok (.iconst 1, 1) := by decide +kernel
theorem dX9_evening_89 : decode cX9_evening 89 = .ok (.iadd, 1) := by decide +kernel
theorem dX9_evening_90 : decode cX9_evening 90 = .ok (.putfield 99, 3) := by decide +kernel
theorem dX9_evening_93 : decode cX9_evening 93 = .ok (.aload_n 0, 1) := by decide +kernel
theorem dX9_evening_94 : decode cX9_evening 94 = .ok (.getfield 99, 3) := by decide +kernel
theorem dX9_evening_97 : decode cX9_evening 97 = .ok (.ireturn, 1) := by decide +kernel
theorem dX9_forget_0 : decode cX9_forget 0 = .ok (.aload_n 0, 1) := by decide +kernel
theorem dX9_forget_1 : decode cX9_forget 1 = .ok (.getfield 99, 3) := by decide +kernel
theorem dX9_forget_4 : decode cX9_forget 4 = .ok (.istore_n 1, 1) := by decide +kernel
theorem dX9_forget_5 : decode cX9_forget 5 = .ok (.aload_n 0, 1) := by decide +kernel
theorem dX9_forget_6 : decode cX9_forget 6 = .ok (.iconst 0, 1) := by decide +kernel
theorem dX9_forget_7 : decode cX9_forget 7 = .ok (.putfield 99, 3) := by decide +kernel
theorem dX9_forget_10 : decode cX9_forget 10 = .ok (.iload_n 1, 1) := by decide +kernel
theorem dX9_forget_11 : decode cX9_forget 11 = .ok (.ireturn, 1) := by decide +kernel
theorem dX9_fitsOf_0 : decode cX9_fitsOf 0 = .ok (.iconst 0, 1) := by decide +kernel
theorem dX9_fitsOf_1 : decode cX9_fitsOf 1 = .ok (.istore_n 1, 1) := by decide +kernel
theorem dX9_fitsOf_2 : decode cX9_fitsOf 2 = .ok (.aload_n 0, 1) := by decide +kernel
theorem dX9_fitsOf_3 : decode cX9_fitsOf 3 = .ok (.invokevirtual 156, 3) := by decide +kernel
theorem dX9_fitsOf_6 : decode cX9_fitsOf 6 = .ok (.iconst 0, 1) := by decide +kernel
theorem dX9_fitsOf_7 : decode cX9_fitsOf 7 = .ok (.istore_n 2, 1) := by decide +kernel
theorem dX9_fitsOf_8 : decode cX9_fitsOf 8 = .ok (.iload_n 2, 1) := by decide +kernel
theorem dX9_fitsOf_9 : decode cX9_fitsOf 9 = .ok (.bipush 10, 2) := by decide +kernel
theorem dX9_fitsOf_11 : decode cX9_fitsOf 11 = .ok (.if_icmp .ge 101, 3) := by decide +kernel
theorem dX9_fitsOf_14 : decode cX9_fitsOf 14 = .ok (.aload_n 0, 1) := by decide +kernel
theorem dX9_fitsOf_15 : decode cX9_fitsOf 15 = .ok (.iload_n 2, 1) := by decide +kernel
theorem dX9_fitsOf_16 : decode cX9_fitsOf 16 = .ok (.putfield 139, 3) := by decide +kernel
theorem dX9_fitsOf_19 : decode cX9_fitsOf 19 = .ok (.iconst 1, 1) := by decide +kernel
theorem dX9_fitsOf_20 : decode cX9_fitsOf 20 = .ok (.istore_n 3, 1) := by decide +kernel
theorem dX9_fitsOf_21 : decode cX9_fitsOf 21 = .ok (.iconst 0, 1) := by decide +kernel
theorem dX9_fitsOf_22 : decode cX9_fitsOf 22 = .ok (.istore 4, 2) := by decide +kernel
theorem dX9_fitsOf_24 : decode cX9_fitsOf 24 = .ok (.iload 4, 2) := by decide +kernel
theorem dX9_fitsOf_26 : decode cX9_fitsOf 26 = .ok (.aload_n 0, 1) := by decide +kernel
theorem dX9_fitsOf_27 : decode cX9_fitsOf 27 = .ok (.getfield 99, 3) := by decide +kernel
theorem dX9_fitsOf_30 : decode cX9_fitsOf 30 = .ok (.if_icmp .ge 62, 3) := by decide +kernel
theorem dX9_fitsOf_33 : decode cX9_fitsOf 33 = .ok (.iload_n 3, 1) := by decide +kernel
theorem dX9_fitsOf_34 : decode cX9_fitsOf 34 = .ok (.ifCond .eq 58, 3) := by decide +kernel
theorem dX9_fitsOf_37 : decode cX9_fitsOf 37 = .ok (.aload_n 0, 1) := by decide +kernel
theorem dX9_fitsOf_38 : decode cX9_fitsOf 38 = .ok (.aload_n 0, 1) := by decide +kernel
theorem dX9_fitsOf_39 : decode cX9_fitsOf 39 = .ok (.getfield 37, 3) := by decide +kernel
theorem dX9_fitsOf_42 : decode cX9_fitsOf 42 = .ok (.iconst 3, 1) := by decide +kernel
theorem dX9_fitsOf_43 : decode cX9_fitsOf 43 = .ok (.iload 4, 2) := by decide +kernel
theorem dX9_fitsOf_45 : decode cX9_fitsOf 45 = .ok (.imul, 1) := by decide +kernel
theorem dX9_fitsOf_46 : decode cX9_fitsOf 46 = .ok (.iaload, 1) := by decide +kernel
theorem dX9_fitsOf_47 : decode cX9_fitsOf 47 = .ok (.invokevirtual 165, 3) := by decide +kernel
theorem dX9_fitsOf_50 : decode cX9_fitsOf 50 = .ok (.aload_n 0, 1) := by decide +kernel
theorem dX9_fitsOf_51 : decode cX9_fitsOf 51 = .ok (.getfield 34, 3) := by decide +kernel
theorem dX9_fitsOf_54 : decode cX9_fitsOf 54 = .ok (.aload_n 0, 1) := by decide +kernel
theorem dX9_fitsOf_55 : decode cX9_fitsOf 55 = .ok (.getfield 37, 3) := by decide +kernel
theorem dX9_fitsOf_58 : decode cX9_fitsOf 58 = .ok (.iconst 3, 1) := by decide +kernel
theorem dX9_fitsOf_59 : decode cX9_fitsOf 59 = .ok (.iload 4, 2) := by decide +kernel
theorem dX9_fitsOf_61 : decode cX9_fitsOf 61 = .ok (.imul, 1) := by decide +kernel
theorem dX9_fitsOf_62 : decode cX9_fitsOf 62 = .ok (.iconst 1, 1) := by decide +kernel
theorem dX9_fitsOf_63 : decode cX9_fitsOf 63 = .ok (.iadd, 1) := by decide +kernel
theorem dX9_fitsOf_64 : decode cX9_fitsOf 64 = .ok (.iaload, 1) := by decide +kernel
theorem dX9_fitsOf_65 : decode cX9_fitsOf 65 = .ok (.iaload, 1) := by decide +kernel
theorem dX9_fitsOf_66 : decode cX9_fitsOf 66 = .ok (.aload_n 0, 1) := by decide +kernel
theorem dX9_fitsOf_67 : decode cX9_fitsOf 67 = .ok (.getfield 37, 3) := by decide +kernel
theorem dX9_fitsOf_70 : decode cX9_fitsOf 70 = .ok (.iconst 3, 1) := by decide +kernel
theorem dX9_fitsOf_71 : decode cX9_fitsOf 71 = .ok (.iload 4, 2) := by decide +kernel
theorem dX9_fitsOf_73 : decode cX9_fitsOf 73 = .ok (.imul, 1) := by decide +kernel
theorem dX9_fitsOf_74 : decode cX9_fitsOf 74 = .ok (.iconst 2, 1) := by decide +kernel
theorem dX9_fitsOf_75 : decode cX9_fitsOf 75 = .ok (.iadd, 1) := by decide +kernel
theorem dX9_fitsOf_76 : decode cX9_fitsOf 76 = .ok (.iaload, 1) := by decide +kernel
theorem dX9_fitsOf_77 : decode cX9_fitsOf 77 = .ok (.if_icmp .ne 7, 3) := by decide +kernel
theorem dX9_fitsOf_80 : decode cX9_fitsOf 80 = .ok (.iconst 1, 1) := by decide +kernel
theorem dX9_fitsOf_81 : decode cX9_fitsOf 81 = .ok (.goto 4, 3) := by decide +kernel
theorem dX9_fitsOf_84 : decode cX9_fitsOf 84 = .ok (.iconst 0, 1) := by decide +kernel
theorem dX9_fitsOf_85 : decode cX9_fitsOf 85 = .ok (.istore_n 3, 1) := by decide +kernel
theorem dX9_fitsOf_86 : decode cX9_fitsOf 86 = .ok (.iinc 4 1, 3) := by decide +kernel
theorem dX9_fitsOf_89 : decode cX9_fitsOf 89 = .ok (.goto (-65), 3) := by decide +kernel
theorem dX9_fitsOf_92 : decode cX9_fitsOf 92 = .ok (.iload_n 1, 1) := by decide +kernel
theorem dX9_fitsOf_93 : decode cX9_fitsOf 93 = .ok (.iload_n 3, 1) := by decide +kernel
theorem dX9_fitsOf_94 : decode cX9_fitsOf 94 = .ok (.ifCond .eq 9, 3) := by decide +kernel
theorem dX9_fitsOf_97 : decode cX9_fitsOf 97 = .ok (.iconst 1, 1) := by decide +kernel
theorem dX9_fitsOf_98 : decode cX9_fitsOf 98 = .ok (.iload_n 2, 1) := by decide +kernel
theorem dX9_fitsOf_99 : decode cX9_fitsOf 99 = .ok (.ishl, 1) := by decide +kernel
theorem dX9_fitsOf_100 : decode cX9_fitsOf 100 = .ok (.goto 4, 3) := by decide +kernel
theorem dX9_fitsOf_103 : decode cX9_fitsOf 103 = .ok (.iconst 0, 1) := by decide +kernel
theorem dX9_fitsOf_104 : decode cX9_fitsOf 104 = .ok (.ior, 1) := by decide +kernel
theorem dX9_fitsOf_105 : decode cX9_fitsOf 105 = .ok (.istore_n 1, 1) := by decide +kernel
theorem dX9_fitsOf_106 : decode cX9_fitsOf 106 = .ok (.iinc 2 1, 3) := by decide +kernel
theorem dX9_fitsOf_109 : decode cX9_fitsOf 109 = .ok (.goto (-101), 3) := by decide +kernel
theorem dX9_fitsOf_112 : decode cX9_fitsOf 112 = .ok (.iload_n 1, 1) := by decide +kernel
theorem dX9_fitsOf_113 : decode cX9_fitsOf 113 = .ok (.ireturn, 1) := by decide +kernel
theorem dX9_fits_0 : decode cX9_fits 0 = .ok (.iload_n 1, 1) := by decide +kernel
theorem dX9_fits_1 : decode cX9_fits 1 = .ok (.i2l, 1) := by decide +kernel
theorem dX9_fits_2 : decode cX9_fits 2 = .ok (.lconst 0, 1) := by decide +kernel
theorem dX9_fits_3 : decode cX9_fits 3 = .ok (.lconst 1, 1) := by decide +kernel
theorem dX9_fits_4 : decode cX9_fits 4 = .ok (.invokestatic 64, 3) := by decide +kernel
theorem dX9_fits_7 : decode cX9_fits 7 = .ok (.ifCond .ne 6, 3) := by decide +kernel
theorem dX9_fits_10 : decode cX9_fits 10 = .ok (.bipush (-102), 2) := by decide +kernel
theorem dX9_fits_12 : decode cX9_fits 12 = .ok (.ireturn, 1) := by decide +kernel
theorem dX9_fits_13 : decode cX9_fits 13 = .ok (.aload_n 0, 1) := by decide +kernel
theorem dX9_fits_14 : decode cX9_fits 14 = .ok (.invokevirtual 121, 3) := by decide +kernel
theorem dX9_fits_17 : decode cX9_fits 17 = .ok (.ifCond .eq 6, 3) := by decide +kernel
theorem dX9_fits_20 : decode cX9_fits 20 = .ok (.bipush (-103), 2) := by decide +kernel
theorem dX9_fits_22 : decode cX9_fits 22 = .ok (.ireturn, 1) := by decide +kernel
theorem dX9_fits_23 : decode cX9_fits 23 = .ok (.aload_n 0, 1) := by decide +kernel
theorem dX9_fits_24 : decode cX9_fits 24 = .ok (.invokevirtual 200, 3) := by decide +kernel
theorem dX9_fits_27 : decode cX9_fits 27 = .ok (.istore_n 2, 1) := by decide +kernel
theorem dX9_fits_28 : decode cX9_fits 28 = .ok (.iload_n 1, 1) := by decide +kernel
theorem dX9_fits_29 : decode cX9_fits 29 = .ok (.ifCond .ne 5, 3) := by decide +kernel
theorem dX9_fits_32 : decode cX9_fits 32 = .ok (.iload_n 2, 1) := by decide +kernel
theorem dX9_fits_33 : decode cX9_fits 33 = .ok (.ireturn, 1) := by decide +kernel
theorem dX9_fits_34 : decode cX9_fits 34 = .ok (.iconst 0, 1) := by decide +kernel
theorem dX9_fits_35 : decode cX9_fits 35 = .ok (.istore_n 3, 1) := by decide +kernel
theorem dX9_fits_36 : decode cX9_fits 36 = .ok (.iload_n 3, 1) := by decide +kernel
theorem dX9_fits_37 : decode cX9_fits 37 = .ok (.bipush 10, 2) := by decide +kernel
theorem dX9_fits_39 : decode cX9_fits 39 = .ok (.if_icmp .ge 18, 3) := by decide +kernel
theorem dX9_fits_42 : decode cX9_fits 42 = .ok (.iload_n 2, 1) := by decide +kernel
theorem dX9_fits_43 : decode cX9_fits 43 = .ok (.iconst 1, 1) := by decide +kernel
theorem dX9_fits_44 : decode cX9_fits 44 = .ok (.iload_n 3, 1) := by decide +kernel
theorem dX9_fits_45 : decode cX9_fits 45 = .ok (.ishl, 1) := by decide +kernel
theorem dX9_fits_46 : decode cX9_fits 46 = .ok (.if_icmp .ne 5, 3) := by decide +kernel
theorem dX9_fits_49 : decode cX9_fits 49 = .ok (.iload_n 3, 1) := by decide +kernel
theorem dX9_fits_50 : decode cX9_fits 50 = .ok (.ireturn, 1) := by decide +kernel
theorem dX9_fits_51 : decode cX9_fits 51 = .ok (.iinc 3 1, 3) := by decide +kernel
theorem dX9_fits_54 : decode cX9_fits 54 = .ok (.goto (-18), 3) := by decide +kernel
theorem dX9_fits_57 : decode cX9_fits 57 = .ok (.iconst (-1), 1) := by decide +kernel
theorem dX9_fits_58 : decode cX9_fits 58 = .ok (.ireturn, 1) := by decide +kernel
theorem dX9_draw_0 : decode cX9_draw 0 = .ok (.aload_n 0, 1) := by decide +kernel
theorem dX9_draw_1 : decode cX9_draw 1 = .ok (.ldc2_w 203, 3) := by decide +kernel
theorem dX9_draw_4 : decode cX9_draw 4 = .ok (.aload_n 0, 1) := by decide +kernel
theorem dX9_draw_5 : decode cX9_draw 5 = .ok (.getfield 205, 3) := by decide +kernel
theorem dX9_draw_8 : decode cX9_draw 8 = .ok (.i2l, 1) := by decide +kernel
theorem dX9_draw_9 : decode cX9_draw 9 = .ok (.lmul, 1) := by decide +kernel
theorem dX9_draw_10 : decode cX9_draw 10 = .ok (.ldc2_w 208, 3) := by decide +kernel
theorem dX9_draw_13 : decode cX9_draw 13 = .ok (.ladd, 1) := by decide +kernel
theorem dX9_draw_14 : decode cX9_draw 14 = .ok (.ldc2_w 210, 3) := by decide +kernel
theorem dX9_draw_17 : decode cX9_draw 17 = .ok (.land, 1) := by decide +kernel
theorem dX9_draw_18 : decode cX9_draw 18 = .ok (.l2i, 1) := by decide +kernel
theorem dX9_draw_19 : decode cX9_draw 19 = .ok (.putfield 205, 3) := by decide +kernel
theorem dX9_draw_22 : decode cX9_draw 22 = .ok (.aload_n 0, 1) := by decide +kernel
theorem dX9_draw_23 : decode cX9_draw 23 = .ok (.getfield 205, 3) := by decide +kernel
theorem dX9_draw_26 : decode cX9_draw 26 = .ok (.ldc 212, 2) := by decide +kernel
theorem dX9_draw_28 : decode cX9_draw 28 = .ok (.idiv, 1) := by decide +kernel
theorem dX9_draw_29 : decode cX9_draw 29 = .ok (.iload_n 1, 1) := by decide +kernel
theorem dX9_draw_30 : decode cX9_draw 30 = .ok (.irem, 1) := by decide +kernel
theorem dX9_draw_31 : decode cX9_draw 31 = .ok (.ireturn, 1) := by decide +kernel
theorem dX9_copy_0 : decode cX9_copy 0 = .ok (.iconst 0, 1) := by decide +kernel
theorem dX9_copy_1 : decode cX9_copy 1 = .ok (.istore_n 2, 1) := by decide +kernel
theorem dX9_copy_2 : decode cX9_copy 2 = .ok (.iload_n 2, 1) := by decide +kernel
theorem dX9_copy_3 : decode cX9_copy 3 = .ok (.aload_n 0, 1) := by decide +kernel
theorem dX9_copy_4 : decode cX9_copy 4 = .ok (.arraylength, 1) := by decide +kernel
theorem dX9_copy_5 : decode cX9_copy 5 = .ok (.if_icmp .ge 15, 3) := by decide +kernel
theorem dX9_copy_8 : decode cX9_copy 8 = .ok (.aload_n 1, 1) := by decide +kernel
theorem dX9_copy_9 : decode cX9_copy 9 = .ok (.iload_n 2, 1) := by decide +kernel
theorem dX9_copy_10 : decode cX9_copy 10 = .ok (.aload_n 0, 1) := by decide +kernel
theorem dX9_copy_11 : decode cX9_copy 11 = .ok (.iload_n 2, 1) := by decide +kernel
theorem dX9_copy_12 : decode cX9_copy 12 = .ok (.iaload, 1) := by decide +kernel
theorem dX9_copy_13 : decode cX9_copy 13 = .ok (.iastore, 1) := by decide +kernel
theorem dX9_copy_14 : decode cX9_copy 14 = .ok (.iinc 2 1, 3) := by decide +kernel
theorem dX9_copy_17 : decode cX9_copy 17 = .ok (.goto (-15), 3) := by decide +kernel
theorem dX9_copy_20 : decode cX9_copy 20 = .ok (.return_, 1) := by decide +kernel
theorem dX9_evenings_0 : decode cX9_evenings 0 = .ok (.iload_n 1, 1) := by decide +kernel
theorem dX9_evenings_1 : decode cX9_evenings 1 = .ok (.i2l, 1) := by decide +kernel
theorem dX9_evenings_2 : decode cX9_evenings 2 = .ok (.lconst 1, 1) := by decide +kernel
theorem dX9_evenings_3 : decode cX9_evenings 3 = .ok (.ldc2_w 213, 3) := by decide +kernel
theorem dX9_evenings_6 : decode cX9_evenings 6 = .ok (.invokestatic 64, 3) := by decide +kernel
theorem dX9_evenings_9 : decode cX9_evenings 9 = .ok (.ifCond .eq 17, 3) := by decide +kernel
theorem dX9_evenings_12 : decode cX9_evenings 12 = .ok (.iload_n 2, 1) := by decide +kernel
theorem dX9_evenings_13 : decode cX9_evenings 13 = .ok (.ifCond .lt 13, 3) := by decide +kernel
theorem dX9_evenings_16 : decode cX9_evenings 16 = .ok (.iload_n 3, 1) := by decide +kernel
theorem dX9_evenings_17 : decode cX9_evenings 17 = .ok (.i2l, 1) := by decide +kernel
theorem dX9_evenings_18 : decode cX9_evenings 18 = .ok (.lconst 0, 1) := by decide +kernel
theorem dX9_evenings_19 : decode cX9_evenings 19 = .ok (.lconst 1, 1) := by decide +kernel
theorem dX9_evenings_20 : decode cX9_evenings 20 = .ok (.invokestatic 64, 3) := by decide +kernel
theorem dX9_evenings_23 : decode cX9_evenings 23 = .ok (.ifCond .ne 6, 3) := by decide +kernel
theorem dX9_evenings_26 : decode cX9_evenings 26 = .ok (.bipush (-102), 2) := by decide +kernel
theorem dX9_evenings_28 : decode cX9_evenings 28 = .ok (.ireturn, 1) := by decide +kernel
theorem dX9_evenings_29 : decode cX9_evenings 29 = .ok (.aload_n 0, 1) := by decide +kernel
theorem dX9_evenings_30 : decode cX9_evenings 30 = .ok (.getfield 96, 3) := by decide +kernel
theorem dX9_evenings_33 : decode cX9_evenings 33 = .ok (.ifCond .ne 6, 3) := by decide +kernel
theorem dX9_evenings_36 : decode cX9_evenings 36 = .ok (.bipush (-103), 2) := by decide +kernel
theorem dX9_evenings_38 : decode cX9_evenings 38 = .ok (.ireturn, 1) := by decide +kernel
theorem dX9_evenings_39 : decode cX9_evenings 39 = .ok (.aload_n 0, 1) := by decide +kernel
theorem dX9_evenings_40 : decode cX9_evenings 40 = .ok (.getfield 28, 3) := by decide +kernel
theorem dX9_evenings_43 : decode cX9_evenings 43 = .ok (.aload_n 0, 1) := by decide +kernel
theorem dX9_evenings_44 : decode cX9_evenings 44 = .ok (.getfield 40, 3) := by decide +kernel
theorem dX9_evenings_47 : decode cX9_evenings 47 = .ok (.invokestatic 215, 3) := by decide +kernel
theorem dX9_evenings_50 : decode cX9_evenings 50 = .ok (.aload_n 0, 1) := by decide +kernel
theorem dX9_evenings_51 : decode cX9_evenings 51 = .ok (.invokevirtual 156, 3) := by decide +kernel
theorem dX9_evenings_54 : decode cX9_evenings 54 = .ok (.aload_n 0, 1) := by decide +kernel
theorem dX9_evenings_55 : decode cX9_evenings 55 = .ok (.iload_n 2, 1) := by decide +kernel
theorem dX9_evenings_56 : decode cX9_evenings 56 = .ok (.putfield 205, 3) := by decide +kernel
theorem dX9_evenings_59 : decode cX9_evenings 59 = .ok (.iconst 0, 1) := by decide +kernel
theorem dX9_evenings_60 : decode cX9_evenings 60 = .ok (.istore 4, 2) := by decide +kernel
theorem dX9_evenings_62 : decode cX9_evenings 62 = .ok (.iconst 0, 1) := by decide +kernel
theorem dX9_evenings_63 : decode cX9_evenings 63 = .ok (.istore 5, 2) := by decide +kernel
theorem dX9_evenings_65 : decode cX9_evenings 65 = .ok (.iload 5, 2) := by decide +kernel
theorem dX9_evenings_67 : decode cX9_evenings 67 = .ok (.iload_n 1, 1) := by decide +kernel
theorem dX9_evenings_68 : decode cX9_evenings 68 = .ok (.if_icmp .ge 77, 3) := by decide +kernel
theorem dX9_evenings_71 : decode cX9_evenings 71 = .ok (.aload_n 0, 1) := by decide +kernel
theorem dX9_evenings_72 : decode cX9_evenings 72 = .ok (.aload_n 0, 1) := by decide +kernel
theorem dX9_evenings_73 : decode cX9_evenings 73 = .ok (.getfield 96, 3) := by decide +kernel
theorem dX9_evenings_76 : decode cX9_evenings 76 = .ok (.invokevirtual 219, 3) := by decide +kernel
theorem dX9_evenings_79 : decode cX9_evenings 79 = .ok (.istore 6, 2) := by decide +kernel
theorem dX9_evenings_81 : decode cX9_evenings 81 = .ok (.aload_n 0, 1) := by decide +kernel
theorem dX9_evenings_82 : decode cX9_evenings 82 = .ok (.aload_n 0, 1) := by decide +kernel
theorem dX9_evenings_83 : decode cX9_evenings 83 = .ok (.getfield 90, 3) := by decide +kernel
theorem dX9_evenings_86 : decode cX9_evenings 86 = .ok (.invokevirtual 219, 3) := by decide +kernel
theorem dX9_evenings_89 : decode cX9_evenings 89 = .ok (.istore 7, 2) := by decide +kernel
theorem dX9_evenings_91 : decode cX9_evenings 91 = .ok (.aload_n 0, 1) := by decide +kernel
theorem dX9_evenings_92 : decode cX9_evenings 92 = .ok (.aload_n 0, 1) := by decide +kernel
theorem dX9_evenings_93 : decode cX9_evenings 93 = .ok (.getfield 96, 3) := by decide +kernel
theorem dX9_evenings_96 : decode cX9_evenings 96 = .ok (.invokevirtual 219, 3) := by decide +kernel
theorem dX9_evenings_99 : decode cX9_evenings 99 = .ok (.istore 8, 2) := by decide +kernel
theorem dX9_evenings_101 : decode cX9_evenings 101 = .ok (.aload_n 0, 1) := by decide +kernel
theorem dX9_evenings_102 : decode cX9_evenings 102 = .ok (.getfield 28, 3) := by decide +kernel
theorem dX9_evenings_105 : decode cX9_evenings 105 = .ok (.bipush 6, 2) := by decide +kernel
theorem dX9_evenings_107 : decode cX9_evenings 107 = .ok (.iload 8, 2) := by decide +kernel
theorem dX9_evenings_109 : decode cX9_evenings 109 = .ok (.imul, 1) := by decide +kernel
theorem dX9_evenings_110 : decode cX9_evenings 110 = .ok (.iload 7, 2) := by decide +kernel
theorem dX9_evenings_112 : decode cX9_evenings 112 = .ok (.iadd, 1) := by decide +kernel
theorem dX9_evenings_113 : decode cX9_evenings 113 = .ok (.aload_n 0, 1) := by decide +kernel
theorem dX9_evenings_114 : decode cX9_evenings 114 = .ok (.bipush 10, 2) := by decide +kernel
theorem dX9_evenings_116 : decode cX9_evenings 116 = .ok (.invokevirtual 219, 3) := by decide +kernel
theorem dX9_evenings_119 : decode cX9_evenings 119 = .ok (.iastore, 1) := by decide +kernel
theorem dX9_evenings_120 : decode cX9_evenings 120 = .ok (.aload_n 0, 1) := by decide +kernel
theorem dX9_evenings_121 : decode cX9_evenings 121 = .ok (.iload 6, 2) := by decide +kernel
theorem dX9_evenings_123 : decode cX9_evenings 123 = .ok (.invokevirtual 165, 3) := by decide +kernel
theorem dX9_evenings_126 : decode cX9_evenings 126 = .ok (.iload 4, 2) := by decide +kernel
theorem dX9_evenings_128 : decode cX9_evenings 128 = .ok (.aload_n 0, 1) := by decide +kernel
theorem dX9_evenings_129 : decode cX9_evenings 129 = .ok (.aload_n 0, 1) := by decide +kernel
theorem dX9_evenings_130 : decode cX9_evenings 130 = .ok (.getfield 34, 3) := by decide +kernel
theorem dX9_evenings_133 : decode cX9_evenings 133 = .ok (.invokevirtual 169, 3) := by decide +kernel
theorem dX9_evenings_136 : decode cX9_evenings 136 = .ok (.iadd, 1) := by decide +kernel
theorem dX9_evenings_137 : decode cX9_evenings 137 = .ok (.istore 4, 2) := by decide +kernel
theorem dX9_evenings_139 : decode cX9_evenings 139 = .ok (.iinc 5 1, 3) := by decide +kernel
theorem dX9_evenings_142 : decode cX9_evenings 142 = .ok (.goto (-77), 3) := by decide +kernel
theorem dX9_evenings_145 : decode cX9_evenings 145 = .ok (.aload_n 0, 1) := by decide +kernel
theorem dX9_evenings_146 : decode cX9_evenings 146 = .ok (.getfield 40, 3) := by decide +kernel
theorem dX9_evenings_149 : decode cX9_evenings 149 = .ok (.aload_n 0, 1) := by decide +kernel
theorem dX9_evenings_150 : decode cX9_evenings 150 = .ok (.getfield 28, 3) := by decide +kernel
theorem dX9_evenings_153 : decode cX9_evenings 153 = .ok (.invokestatic 215, 3) := by decide +kernel
theorem dX9_evenings_156 : decode cX9_evenings 156 = .ok (.iload_n 3, 1) := by decide +kernel
theorem dX9_evenings_157 : decode cX9_evenings 157 = .ok (.ifCond .ne 8, 3) := by decide +kernel
theorem dX9_evenings_160 : decode cX9_evenings 160 = .ok (.iload 4, 2) := by decide +kernel
theorem dX9_evenings_162 : decode cX9_evenings 162 = .ok (.goto 7, 3) := by decide +kernel
theorem dX9_evenings_165 : decode cX9_evenings 165 = .ok (.aload_n 0, 1) := by decide +kernel
theorem dX9_evenings_166 : decode cX9_evenings 166 = .ok (.getfield 205, 3) := by decide +kernel
theorem dX9_evenings_169 : decode cX9_evenings 169 = .ok (.ireturn, 1) := by decide +kernel
theorem dX9_image_0 : decode cX9_image 0 = .ok (.aload_n 0, 1) := by decide +kernel
theorem dX9_image_1 : decode cX9_image 1 = .ok (.invokevirtual 121, 3) := by decide +kernel
theorem dX9_image_4 : decode cX9_image 4 = .ok (.ifCond .eq 6, 3) := by decide +kernel
theorem dX9_image_7 : decode cX9_image 7 = .ok (.bipush (-103), 2) := by decide +kernel
theorem dX9_image_9 : decode cX9_image 9 = .ok (.ireturn, 1) := by decide +kernel
theorem dX9_image_10 : decode cX9_image 10 = .ok (.aload_n 0, 1) := by decide +kernel
theorem dX9_image_11 : decode cX9_image 11 = .ok (.getfield 28, 3) := by decide +kernel
theorem dX9_image_14 : decode cX9_image 14 = .ok (.aload_n 0, 1) := by decide +kernel
theorem dX9_image_15 : decode cX9_image 15 = .ok (.getfield 43, 3) := by decide +kernel
theorem dX9_image_18 : decode cX9_image 18 = .ok (.invokestatic 215, 3) := by decide +kernel
theorem dX9_image_21 : decode cX9_image 21 = .ok (.aload_n 0, 1) := by decide +kernel
theorem dX9_image_22 : decode cX9_image 22 = .ok (.getfield 25, 3) := by decide +kernel
theorem dX9_image_25 : decode cX9_image 25 = .ok (.aload_n 0, 1) := by decide +kernel
theorem dX9_image_26 : decode cX9_image 26 = .ok (.getfield 46, 3) := by decide +kernel
theorem dX9_image_29 : decode cX9_image 29 = .ok (.invokestatic 215, 3) := by decide +kernel
theorem dX9_image_32 : decode cX9_image 32 = .ok (.aload_n 0, 1) := by decide +kernel
theorem dX9_image_33 : decode cX9_image 33 = .ok (.getfield 31, 3) := by decide +kernel
theorem dX9_image_36 : decode cX9_image 36 = .ok (.aload_n 0, 1) := by decide +kernel
theorem dX9_image_37 : decode cX9_image 37 = .ok (.getfield 49, 3) := by decide +kernel
theorem dX9_image_40 : decode cX9_image 40 = .ok (.invokestatic 215, 3) := by decide +kernel
theorem dX9_image_43 : decode cX9_image 43 = .ok (.aload_n 0, 1) := by decide +kernel
theorem dX9_image_44 : decode cX9_image 44 = .ok (.getfield 37, 3) := by decide +kernel
theorem dX9_image_47 : decode cX9_image 47 = .ok (.aload_n 0, 1) := by decide +kernel
theorem dX9_image_48 : decode cX9_image 48 = .ok (.getfield 52, 3) := by decide +kernel
theorem dX9_image_51 : decode cX9_image 51 = .ok (.invokestatic 215, 3) := by decide +kernel
theorem dX9_image_54 : decode cX9_image 54 = .ok (.aload_n 0, 1) := by decide +kernel
theorem dX9_image_55 : decode cX9_image 55 = .ok (.aload_n 0, 1) := by decide +kernel
theorem dX9_image_56 : decode cX9_image 56 = .ok (.getfield 96, 3) := by decide +kernel
theorem dX9_image_59 : decode cX9_image 59 = .ok (.putfield 222, 3) := by decide +kernel
theorem dX9_image_62 : decode cX9_image 62 = .ok (.aload_n 0, 1) := by decide +kernel
theorem dX9_image_63 : decode cX9_image 63 = .ok (.aload_n 0, 1) := by decide +kernel
theorem dX9_image_64 : decode cX9_image 64 = .ok (.getfield 59, 3) := by decide +kernel
theorem dX9_image_67 : decode cX9_image 67 = .ok (.putfield 225, 3) := by decide +kernel
theorem dX9_image_70 : decode cX9_image 70 = .ok (.aload_n 0, 1) := by decide +kernel
theorem dX9_image_71 : decode cX9_image 71 = .ok (.aload_n 0, 1) := by decide +kernel
theorem dX9_image_72 : decode cX9_image 72 = .ok (.getfield 102, 3) := by decide +kernel
theorem dX9_image_75 : decode cX9_image 75 = .ok (.putfield 228, 3) := by decide +kernel
theorem dX9_image_78 : decode cX9_image 78 = .ok (.aload_n 0, 1) := by decide +kernel
theorem dX9_image_79 : decode cX9_image 79 = .ok (.aload_n 0, 1) := by decide +kernel
theorem dX9_image_80 : decode cX9_image 80 = .ok (.getfield 99, 3) := by decide +kernel
theorem dX9_image_83 : decode cX9_image 83 = .ok (.putfield 231, 3) := by decide +kernel
theorem dX9_image_86 : decode cX9_image 86 = .ok (.aload_n 0, 1) := by decide +kernel
theorem dX9_image_87 : decode cX9_image 87 = .ok (.aload_n 0, 1) := by decide +kernel
theorem dX9_image_88 : decode cX9_image 88 = .ok (.getfield 105, 3) := by decide +kernel
theorem dX9_image_91 : decode cX9_image 91 = .ok (.putfield 55, 3) := by decide +kernel
theorem dX9_image_94 : decode cX9_image 94 = .ok (.aload_n 0, 1) := by decide +kernel
theorem dX9_image_95 : decode cX9_image 95 = .ok (.invokevirtual 162, 3) := by decide +kernel
theorem dX9_image_98 : decode cX9_image 98 = .ok (.ireturn, 1) := by decide +kernel
theorem dX9_restore_0 : decode cX9_restore 0 = .ok (.aload_n 0, 1) := by decide +kernel
theorem dX9_restore_1 : decode cX9_restore 1 = .ok (.getfield 55, 3) := by decide +kernel
theorem dX9_restore_4 : decode cX9_restore 4 = .ok (.aload_n 0, 1) := by decide +kernel
theorem dX9_restore_5 : decode cX9_restore 5 = .ok (.getfield 105, 3) := by decide +kernel
theorem dX9_restore_8 : decode cX9_restore 8 = .ok (.if_icmp .ne 14, 3) := by decide +kernel
theorem dX9_restore_11 : decode cX9_restore 11 = .ok (.aload_n 0, 1) := by decide +kernel
theorem dX9_restore_12 : decode cX9_restore 12 = .ok (.getfield 222, 3) := by decide +kernel
theorem dX9_restore_15 : decode cX9_restore 15 = .ok (.aload_n 0, 1) := by decide +kernel
theorem dX9_restore_16 : decode cX9_restore 16 = .ok (.getfield 96, 3) := by decide +kernel
theorem dX9_restore_19 : decode cX9_restore 19 = .ok (.if_icmp .eq 6, 3) := by decide +kernel
theorem dX9_restore_22 : decode cX9_restore 22 = .ok (.bipush (-103), 2) := by decide +kernel
theorem dX9_restore_24 : decode cX9_restore 24 = .ok (.ireturn, 1) := by decide +kernel
theorem dX9_restore_25 : decode cX9_restore 25 = .ok (.aload_n 0, 1) := by decide +kernel
theorem dX9_restore_26 : decode cX9_restore 26 = .ok (.getfield 43, 3) := by decide +kernel
theorem dX9_restore_29 : decode cX9_restore 29 = .ok (.aload_n 0, 1) := by decide +kernel
theorem dX9_restore_30 : decode cX9_restore 30 = .ok (.getfield 28, 3) := by decide +kernel
theorem dX9_restore_33 : decode cX9_restore 33 = .ok (.invokestatic 215, 3) := by decide +kernel
theorem dX9_restore_36 : decode cX9_restore 36 = .ok (.aload_n 0, 1) := by decide +kernel
theorem dX9_restore_37 : decode cX9_restore 37 = .ok (.getfield 46, 3) := by decide +kernel
theorem dX9_restore_40 : decode cX9_restore 40 = .ok (.aload_n 0, 1) := by decide +kernel
theorem dX9_restore_41 : decode cX9_restore 41 = .ok (.getfield 25, 3) := by decide +kernel
theorem dX9_restore_44 : decode cX9_restore 44 = .ok (.invokestatic 215, 3) := by decide +kernel
theorem dX9_restore_47 : decode cX9_restore 47 = .ok (.aload_n 0, 1) := by decide +kernel
theorem dX9_restore_48 : decode cX9_restore 48 = .ok (.getfield 49, 3) := by decide +kernel
theorem dX9_restore_51 : decode cX9_restore 51 = .ok (.aload_n 0, 1) := by decide +kernel
theorem dX9_restore_52 : decode cX9_restore 52 = .ok (.getfield 31, 3) := by decide +kernel
theorem dX9_restore_55 : decode cX9_restore 55 = .ok (.invokestatic 215, 3) := by decide +kernel
theorem dX9_restore_58 : decode cX9_restore 58 = .ok (.aload_n 0, 1) := by decide +kernel
theorem dX9_restore_59 : decode cX9_restore 59 = .ok (.getfield 52, 3) := by decide +kernel
theorem dX9_restore_62 : decode cX9_restore 62 = .ok (.aload_n 0, 1) := by decide +kernel
theorem dX9_restore_63 : decode cX9_restore 63 = .ok (.getfield 37, 3) := by decide +kernel
theorem dX9_restore_66 : decode cX9_restore 66 = .ok (.invokestatic 215, 3) := by decide +kernel
theorem dX9_restore_69 : decode cX9_restore 69 = .ok (.aload_n 0, 1) := by decide +kernel
theorem dX9_restore_70 : decode cX9_restore 70 = .ok (.aload_n 0, 1) := by decide +kernel
theorem dX9_restore_71 : decode cX9_restore 71 = .ok (.getfield 225, 3) := by decide +kernel
theorem dX9_restore_74 : decode cX9_restore 74 = .ok (.putfield 59, 3) := by decide +kernel
theorem dX9_restore_77 : decode cX9_restore 77 = .ok (.aload_n 0, 1) := by decide +kernel
theorem dX9_restore_78 : decode cX9_restore 78 = .ok (.aload_n 0, 1) := by decide +kernel
theorem dX9_restore_79 : decode cX9_restore 79 = .ok (.getfield 228, 3) := by decide +kernel
theorem dX9_restore_82 : decode cX9_restore 82 = .ok (.putfield 102, 3) := by decide +kernel
theorem dX9_restore_85 : decode cX9_restore 85 = .ok (.aload_n 0, 1) := by decide +kernel
theorem dX9_restore_86 : decode cX9_restore 86 = .ok (.aload_n 0, 1) := by decide +kernel
theorem dX9_restore_87 : decode cX9_restore 87 = .ok (.getfield 231, 3) := by decide +kernel
theorem dX9_restore_90 : decode cX9_restore 90 = .ok (.putfield 99, 3) := by decide +kernel
theorem dX9_restore_93 : decode cX9_restore 93 = .ok (.aload_n 0, 1) := by decide +kernel
theorem dX9_restore_94 : decode cX9_restore 94 = .ok (.invokevirtual 162, 3) := by decide +kernel
theorem dX9_restore_97 : decode cX9_restore 97 = .ok (.ireturn, 1) := by decide +kernel
theorem dX9_countOf_0 : decode cX9_countOf 0 = .ok (.iload_n 1, 1) := by decide +kernel
theorem dX9_countOf_1 : decode cX9_countOf 1 = .ok (.tableswitch 100 0 8 #[51, 56, 61, 66, 71, 80, 85, 90, 95], 51) := by decide +kernel
theorem dX9_countOf_52 : decode cX9_countOf 52 = .ok (.aload_n 0, 1) := by decide +kernel
theorem dX9_countOf_53 : decode cX9_countOf 53 = .ok (.getfield 90, 3) := by decide +kernel
theorem dX9_countOf_56 : decode cX9_countOf 56 = .ok (.ireturn, 1) := by decide +kernel
theorem dX9_countOf_57 : decode cX9_countOf 57 = .ok (.aload_n 0, 1) := by decide +kernel
theorem dX9_countOf_58 : decode cX9_countOf 58 = .ok (.getfield 93, 3) := by decide +kernel
theorem dX9_countOf_61 : decode cX9_countOf 61 = .ok (.ireturn, 1) := by decide +kernel
theorem dX9_countOf_62 : decode cX9_countOf 62 = .ok (.aload_n 0, 1) := by decide +kernel
theorem dX9_countOf_63 : decode cX9_countOf 63 = .ok (.getfield 96, 3) := by decide +kernel
theorem dX9_countOf_66 : decode cX9_countOf 66 = .ok (.ireturn, 1) := by decide +kernel
theorem dX9_countOf_67 : decode cX9_countOf 67 = .ok (.aload_n 0, 1) := by decide +kernel
theorem dX9_countOf_68 : decode cX9_countOf 68 = .ok (.invokevirtual 162, 3) := by decide +kernel
theorem dX9_countOf_71 : decode cX9_countOf 71 = .ok (.ireturn, 1) := by decide +kernel
theorem dX9_countOf_72 : decode cX9_countOf 72 = .ok (.aload_n 0, 1) := by decide +kernel
theorem dX9_countOf_73 : decode cX9_countOf 73 = .ok (.aload_n 0, 1) := by decide +kernel
theorem dX9_countOf_74 : decode cX9_countOf 74 = .ok (.getfield 31, 3) := by decide +kernel
theorem dX9_countOf_77 : decode cX9_countOf 77 = .ok (.invokevirtual 169, 3) := by decide +kernel
theorem dX9_countOf_80 : decode cX9_countOf 80 = .ok (.ireturn, 1) := by decide +kernel
theorem dX9_countOf_81 : decode cX9_countOf 81 = .ok (.aload_n 0, 1) := by decide +kernel
theorem dX9_countOf_82 : decode cX9_countOf 82 = .ok (.getfield 99, 3) := by decide +kernel
theorem dX9_countOf_85 : decode cX9_countOf 85 = .ok (.ireturn, 1) := by decide +kernel
theorem dX9_countOf_86 : decode cX9_countOf 86 = .ok (.aload_n 0, 1) := by decide +kernel
theorem dX9_countOf_87 : decode cX9_countOf 87 = .ok (.getfield 68, 3) := by decide +kernel
theorem dX9_countOf_90 : decode cX9_countOf 90 = .ok (.ireturn, 1) := by decide +kernel
theorem dX9_countOf_91 : decode cX9_countOf 91 = .ok (.aload_n 0, 1) := by decide +kernel
theorem dX9_countOf_92 : decode cX9_countOf 92 = .ok (.getfield 105, 3) := by decide +kernel
theorem dX9_countOf_95 : decode cX9_countOf 95 = .ok (.ireturn, 1) := by decide +kernel
theorem dX9_countOf_96 : decode cX9_countOf 96 = .ok (.aload_n 0, 1) := by decide +kernel
theorem dX9_countOf_97 : decode cX9_countOf 97 = .ok (.getfield 176, 3) := by decide +kernel
theorem dX9_countOf_100 : decode cX9_countOf 100 = .ok (.ireturn, 1) := by decide +kernel
theorem dX9_countOf_101 : decode cX9_countOf 101 = .ok (.bipush (-102), 2) := by decide +kernel
theorem dX9_countOf_103 : decode cX9_countOf 103 = .ok (.ireturn, 1) := by decide +kernel
theorem dX9_count_0 : decode cX9_count 0 = .ok (.aload_n 0, 1) := by decide +kernel
theorem dX9_count_1 : decode cX9_count 1 = .ok (.iload_n 1, 1) := by decide +kernel
theorem dX9_count_2 : decode cX9_count 2 = .ok (.invokevirtual 234, 3) := by decide +kernel
theorem dX9_count_5 : decode cX9_count 5 = .ok (.ireturn, 1) := by decide +kernel
theorem dX9_say_0 : decode cX9_say 0 = .ok (.aload_n 0, 1) := by decide +kernel
theorem dX9_say_1 : decode cX9_say 1 = .ok (.ldc2_w 237, 3) := by decide +kernel
theorem dX9_say_4 : decode cX9_say 4 = .ok (.aload_n 0, 1) := by decide +kernel
theorem dX9_say_5 : decode cX9_say 5 = .ok (.getfield 239, 3) := by decide +kernel
theorem dX9_say_8 : decode cX9_say 8 = .ok (.lmul, 1) := by decide +kernel
theorem dX9_say_9 : decode cX9_say 9 = .ok (.lload_n 1, 1) := by decide +kernel
theorem dX9_say_10 : decode cX9_say 10 = .ok (.ladd, 1) := by decide +kernel
theorem dX9_say_11 : decode cX9_say 11 = .ok (.putfield 239, 3) := by decide +kernel
theorem dX9_say_14 : decode cX9_say 14 = .ok (.return_, 1) := by decide +kernel
theorem dX9_sayGuest_0 : decode cX9_sayGuest 0 = .ok (.iconst 0, 1) := by decide +kernel
theorem dX9_sayGuest_1 : decode cX9_sayGuest 1 = .ok (.istore_n 2, 1) := by decide +kernel
theorem dX9_sayGuest_2 : decode cX9_sayGuest 2 = .ok (.iload_n 2, 1) := by decide +kernel
theorem dX9_sayGuest_3 : decode cX9_sayGuest 3 = .ok (.bipush 6, 2) := by decide +kernel
theorem dX9_sayGuest_5 : decode cX9_sayGuest 5 = .ok (.if_icmp .ge 20, 3) := by decide +kernel
theorem dX9_sayGuest_8 : decode cX9_sayGuest 8 = .ok (.aload_n 0, 1) := by decide +kernel
theorem dX9_sayGuest_9 : decode cX9_sayGuest 9 = .ok (.aload_n 0, 1) := by decide +kernel
theorem dX9_sayGuest_10 : decode cX9_sayGuest 10 = .ok (.iload_n 1, 1) := by decide +kernel
theorem dX9_sayGuest_11 : decode cX9_sayGuest 11 = .ok (.iload_n 2, 1) := by decide +kernel
theorem dX9_sayGuest_12 : decode cX9_sayGuest 12 = .ok (.invokevirtual 134, 3) := by decide +kernel
theorem dX9_sayGuest_15 : decode cX9_sayGuest 15 = .ok (.i2l, 1) := by decide +kernel
theorem dX9_sayGuest_16 : decode cX9_sayGuest 16 = .ok (.invokevirtual 243, 3) := by decide +kernel
theorem dX9_sayGuest_19 : decode cX9_sayGuest 19 = .ok (.iinc 2 1, 3) := by decide +kernel
theorem dX9_sayGuest_22 : decode cX9_sayGuest 22 = .ok (.goto (-20), 3) := by decide +kernel
theorem dX9_sayGuest_25 : decode cX9_sayGuest 25 = .ok (.iconst 0, 1) := by decide +kernel
theorem dX9_sayGuest_26 : decode cX9_sayGuest 26 = .ok (.istore_n 2, 1) := by decide +kernel
theorem dX9_sayGuest_27 : decode cX9_sayGuest 27 = .ok (.iload_n 2, 1) := by decide +kernel
theorem dX9_sayGuest_28 : decode cX9_sayGuest 28 = .ok (.aload_n 0, 1) := by decide +kernel
theorem dX9_sayGuest_29 : decode cX9_sayGuest 29 = .ok (.getfield 90, 3) := by decide +kernel
theorem dX9_sayGuest_32 : decode cX9_sayGuest 32 = .ok (.if_icmp .ge 25, 3) := by decide +kernel
theorem dX9_sayGuest_35 : decode cX9_sayGuest 35 = .ok (.aload_n 0, 1) := by decide +kernel
theorem dX9_sayGuest_36 : decode cX9_sayGuest 36 = .ok (.aload_n 0, 1) := by decide +kernel
theorem dX9_sayGuest_37 : decode cX9_sayGuest 37 = .ok (.getfield 28, 3) := by decide +kernel
theorem dX9_sayGuest_40 : decode cX9_sayGuest 40 = .ok (.bipush 6, 2) := by decide +kernel
theorem dX9_sayGuest_42 : decode cX9_sayGuest 42 = .ok (.iload_n 1, 1) := by decide +kernel
theorem dX9_sayGuest_43 : decode cX9_sayGuest 43 = .ok (.imul, 1) := by decide +kernel
theorem dX9_sayGuest_44 : decode cX9_sayGuest 44 = .ok (.iload_n 2, 1) := by decide +kernel
theorem dX9_sayGuest_45 : decode cX9_sayGuest 45 = .ok (.iadd, 1) := by decide +kernel
theorem dX9_sayGuest_46 : decode cX9_sayGuest 46 = .ok (.iaload, 1) := by decide +kernel
theorem dX9_sayGuest_47 : decode cX9_sayGuest 47 = .ok (.i2l, 1) := by decide +kernel
theorem dX9_sayGuest_48 : decode cX9_sayGuest 48 = .ok (.invokevirtual 243, 3) := by decide +kernel
theorem dX9_sayGuest_51 : decode cX9_sayGuest 51 = .ok (.iinc 2 1, 3) := by decide +kernel
theorem dX9_sayGuest_54 : decode cX9_sayGuest 54 = .ok (.goto (-27), 3) := by decide +kernel
theorem dX9_sayGuest_57 : decode cX9_sayGuest 57 = .ok (.aload_n 0, 1) := by decide +kernel
theorem dX9_sayGuest_58 : decode cX9_sayGuest 58 = .ok (.aload_n 0, 1) := by decide +kernel
theorem dX9_sayGuest_59 : decode cX9_sayGuest 59 = .ok (.iload_n 1, 1) := by decide +kernel
theorem dX9_sayGuest_60 : decode cX9_sayGuest 60 = .ok (.invokevirtual 186, 3) := by decide +kernel
theorem dX9_sayGuest_63 : decode cX9_sayGuest 63 = .ok (.i2l, 1) := by decide +kernel
theorem dX9_sayGuest_64 : decode cX9_sayGuest 64 = .ok (.invokevirtual 243, 3) := by decide +kernel
theorem dX9_sayGuest_67 : decode cX9_sayGuest 67 = .ok (.return_, 1) := by decide +kernel
theorem dX9_digest_0 : decode cX9_digest 0 = .ok (.aload_n 0, 1) := by decide +kernel
theorem dX9_digest_1 : decode cX9_digest 1 = .ok (.ldc2_w 247, 3) := by decide +kernel
theorem dX9_digest_4 : decode cX9_digest 4 = .ok (.putfield 239, 3) := by decide +kernel
theorem dX9_digest_7 : decode cX9_digest 7 = .ok (.iconst 0, 1) := by decide +kernel
theorem dX9_digest_8 : decode cX9_digest 8 = .ok (.istore_n 1, 1) := by decide +kernel
theorem dX9_digest_9 : decode cX9_digest 9 = .ok (.iload_n 1, 1) := by decide +kernel
theorem dX9_digest_10 : decode cX9_digest 10 = .ok (.aload_n 0, 1) := by decide +kernel
theorem dX9_digest_11 : decode cX9_digest 11 = .ok (.getfield 90, 3) := by decide +kernel
theorem dX9_digest_14 : decode cX9_digest 14 = .ok (.if_icmp .ge 33, 3) := by decide +kernel
theorem dX9_digest_17 : decode cX9_digest 17 = .ok (.iconst 0, 1) := by decide +kernel
theorem dX9_digest_18 : decode cX9_digest 18 = .ok (.istore_n 2, 1) := by decide +kernel
theorem dX9_digest_19 : decode cX9_digest 19 = .ok (.iload_n 2, 1) := by decide +kernel
theorem dX9_digest_20 : decode cX9_digest 20 = .ok (.iconst 4, 1) := by decide +kernel
theorem dX9_digest_21 : decode cX9_digest 21 = .ok (.if_icmp .ge 20, 3) := by decide +kernel
theorem dX9_digest_24 : decode cX9_digest 24 = .ok (.aload_n 0, 1) := by decide +kernel
theorem dX9_digest_25 : decode cX9_digest 25 = .ok (.aload_n 0, 1) := by decide +kernel
theorem dX9_digest_26 : decode cX9_digest 26 = .ok (.iload_n 1, 1) := by decide +kernel
theorem dX9_digest_27 : decode cX9_digest 27 = .ok (.iload_n 2, 1) := by decide +kernel
theorem dX9_digest_28 : decode cX9_digest 28 = .ok (.invokevirtual 115, 3) := by decide +kernel
theorem dX9_digest_31 : decode cX9_digest 31 = .ok (.i2l, 1) := by decide +kernel
theorem dX9_digest_32 : decode cX9_digest 32 = .ok (.invokevirtual 243, 3) := by decide +kernel
theorem dX9_digest_35 : decode cX9_digest 35 = .ok (.iinc 2 1, 3) := by decide +kernel
theorem dX9_digest_38 : decode cX9_digest 38 = .ok (.goto (-19), 3) := by decide +kernel
theorem dX9_digest_41 : decode cX9_digest 41 = .ok (.iinc 1 1, 3) := by decide +kernel
theorem dX9_digest_44 : decode cX9_digest 44 = .ok (.goto (-35), 3) := by decide +kernel
theorem dX9_digest_47 : decode cX9_digest 47 = .ok (.iconst 0, 1) := by decide +kernel
theorem dX9_digest_48 : decode cX9_digest 48 = .ok (.istore_n 1, 1) := by decide +kernel
theorem dX9_digest_49 : decode cX9_digest 49 = .ok (.iload_n 1, 1) := by decide +kernel
theorem dX9_digest_50 : decode cX9_digest 50 = .ok (.aload_n 0, 1) := by decide +kernel
theorem dX9_digest_51 : decode cX9_digest 51 = .ok (.getfield 96, 3) := by decide +kernel
theorem dX9_digest_54 : decode cX9_digest 54 = .ok (.if_icmp .ge 14, 3) := by decide +kernel
theorem dX9_digest_57 : decode cX9_digest 57 = .ok (.aload_n 0, 1) := by decide +kernel
theorem dX9_digest_58 : decode cX9_digest 58 = .ok (.iload_n 1, 1) := by decide +kernel
theorem dX9_digest_59 : decode cX9_digest 59 = .ok (.invokevirtual 249, 3) := by decide +kernel
theorem dX9_digest_62 : decode cX9_digest 62 = .ok (.iinc 1 1, 3) := by decide +kernel
theorem dX9_digest_65 : decode cX9_digest 65 = .ok (.goto (-16), 3) := by decide +kernel
theorem dX9_digest_68 : decode cX9_digest 68 = .ok (.aload_n 0, 1) := by decide +kernel
theorem dX9_digest_69 : decode cX9_digest 69 = .ok (.invokevirtual 121, 3) := by decide +kernel
theorem dX9_digest_72 : decode cX9_digest 72 = .ok (.ifCond .ne 41, 3) := by decide +kernel
theorem dX9_digest_75 : decode cX9_digest 75 = .ok (.aload_n 0, 1) := by decide +kernel
theorem dX9_digest_76 : decode cX9_digest 76 = .ok (.aload_n 0, 1) := by decide +kernel
theorem dX9_digest_77 : decode cX9_digest 77 = .ok (.invokevirtual 189, 3) := by decide +kernel
theorem dX9_digest_80 : decode cX9_digest 80 = .ok (.i2l, 1) := by decide +kernel
theorem dX9_digest_81 : decode cX9_digest 81 = .ok (.invokevirtual 243, 3) := by decide +kernel
theorem dX9_digest_84 : decode cX9_digest 84 = .ok (.aload_n 0, 1) := by decide +kernel
theorem dX9_digest_85 : decode cX9_digest 85 = .ok (.aload_n 0, 1) := by decide +kernel
theorem dX9_digest_86 : decode cX9_digest 86 = .ok (.iconst 0, 1) := by decide +kernel
theorem dX9_digest_87 : decode cX9_digest 87 = .ok (.invokevirtual 195, 3) := by decide +kernel
theorem dX9_digest_90 : decode cX9_digest 90 = .ok (.i2l, 1) := by decide +kernel
theorem dX9_digest_91 : decode cX9_digest 91 = .ok (.invokevirtual 243, 3) := by decide +kernel
theorem dX9_digest_94 : decode cX9_digest 94 = .ok (.aload_n 0, 1) := by decide +kernel
theorem dX9_digest_95 : decode cX9_digest 95 = .ok (.aload_n 0, 1) := by decide +kernel
theorem dX9_digest_96 : decode cX9_digest 96 = .ok (.iconst 1, 1) := by decide +kernel
theorem dX9_digest_97 : decode cX9_digest 97 = .ok (.invokevirtual 195, 3) := by decide +kernel
theorem dX9_digest_100 : decode cX9_digest 100 = .ok (.i2l, 1) := by decide +kernel
theorem dX9_digest_101 : decode cX9_digest 101 = .ok (.invokevirtual 243, 3) := by decide +kernel
theorem dX9_digest_104 : decode cX9_digest 104 = .ok (.aload_n 0, 1) := by decide +kernel
theorem dX9_digest_105 : decode cX9_digest 105 = .ok (.aload_n 0, 1) := by decide +kernel
theorem dX9_digest_106 : decode cX9_digest 106 = .ok (.invokevirtual 200, 3) := by decide +kernel
theorem dX9_digest_109 : decode cX9_digest 109 = .ok (.i2l, 1) := by decide +kernel
theorem dX9_digest_110 : decode cX9_digest 110 = .ok (.invokevirtual 243, 3) := by decide +kernel
theorem dX9_digest_113 : decode cX9_digest 113 = .ok (.aload_n 0, 1) := by decide +kernel
theorem dX9_digest_114 : decode cX9_digest 114 = .ok (.getfield 96, 3) := by decide +kernel
theorem dX9_digest_117 : decode cX9_digest 117 = .ok (.ifCond .le 25, 3) := by decide +kernel
theorem dX9_digest_120 : decode cX9_digest 120 = .ok (.aload_n 0, 1) := by decide +kernel
theorem dX9_digest_121 : decode cX9_digest 121 = .ok (.aload_n 0, 1) := by decide +kernel
theorem dX9_digest_122 : decode cX9_digest 122 = .ok (.iconst (-1), 1) := by decide +kernel
theorem dX9_digest_123 : decode cX9_digest 123 = .ok (.iconst 0, 1) := by decide +kernel
theorem dX9_digest_124 : decode cX9_digest 124 = .ok (.invokevirtual 173, 3) := by decide +kernel
theorem dX9_digest_127 : decode cX9_digest 127 = .ok (.i2l, 1) := by decide +kernel
theorem dX9_digest_128 : decode cX9_digest 128 = .ok (.invokevirtual 243, 3) := by decide +kernel
theorem dX9_digest_131 : decode cX9_digest 131 = .ok (.aload_n 0, 1) := by decide +kernel
theorem dX9_digest_132 : decode cX9_digest 132 = .ok (.aload_n 0, 1) := by decide +kernel
theorem dX9_digest_133 : decode cX9_digest 133 = .ok (.iconst (-1), 1) := by decide +kernel
theorem dX9_digest_134 : decode cX9_digest 134 = .ok (.iconst 1, 1) := by decide +kernel
theorem dX9_digest_135 : decode cX9_digest 135 = .ok (.invokevirtual 173, 3) := by decide +kernel
theorem dX9_digest_138 : decode cX9_digest 138 = .ok (.i2l, 1) := by decide +kernel
theorem dX9_digest_139 : decode cX9_digest 139 = .ok (.invokevirtual 243, 3) := by decide +kernel
theorem dX9_digest_142 : decode cX9_digest 142 = .ok (.iconst 0, 1) := by decide +kernel
theorem dX9_digest_143 : decode cX9_digest 143 = .ok (.istore_n 1, 1) := by decide +kernel
theorem dX9_digest_144 : decode cX9_digest 144 = .ok (.iload_n 1, 1) := by decide +kernel
theorem dX9_digest_145 : decode cX9_digest 145 = .ok (.aload_n 0, 1) := by decide +kernel
theorem dX9_digest_146 : decode cX9_digest 146 = .ok (.getfield 68, 3) := by decide +kernel
theorem dX9_digest_149 : decode cX9_digest 149 = .ok (.if_icmp .ge 20, 3) := by decide +kernel
theorem dX9_digest_152 : decode cX9_digest 152 = .ok (.aload_n 0, 1) := by decide +kernel
theorem dX9_digest_153 : decode cX9_digest 153 = .ok (.aload_n 0, 1) := by decide +kernel
theorem dX9_digest_154 : decode cX9_digest 154 = .ok (.getfield 7, 3) := by decide +kernel
theorem dX9_digest_157 : decode cX9_digest 157 = .ok (.iload_n 1, 1) := by decide +kernel
theorem dX9_digest_158 : decode cX9_digest 158 = .ok (.iaload, 1) := by decide +kernel
theorem dX9_digest_159 : decode cX9_digest 159 = .ok (.i2l, 1) := by decide +kernel
theorem dX9_digest_160 : decode cX9_digest 160 = .ok (.invokevirtual 243, 3) := by decide +kernel
theorem dX9_digest_163 : decode cX9_digest 163 = .ok (.iinc 1 1, 3) := by decide +kernel
theorem dX9_digest_166 : decode cX9_digest 166 = .ok (.goto (-22), 3) := by decide +kernel
theorem dX9_digest_169 : decode cX9_digest 169 = .ok (.iconst 0, 1) := by decide +kernel
theorem dX9_digest_170 : decode cX9_digest 170 = .ok (.istore_n 1, 1) := by decide +kernel
theorem dX9_digest_171 : decode cX9_digest 171 = .ok (.iload_n 1, 1) := by decide +kernel
theorem dX9_digest_172 : decode cX9_digest 172 = .ok (.bipush 9, 2) := by decide +kernel
theorem dX9_digest_174 : decode cX9_digest 174 = .ok (.if_icmp .ge 19, 3) := by decide +kernel
theorem dX9_digest_177 : decode cX9_digest 177 = .ok (.aload_n 0, 1) := by decide +kernel
theorem dX9_digest_178 : decode cX9_digest 178 = .ok (.aload_n 0, 1) := by decide +kernel
theorem dX9_digest_179 : decode cX9_digest 179 = .ok (.iload_n 1, 1) := by decide +kernel
theorem dX9_digest_180 : decode cX9_digest 180 = .ok (.invokevirtual 234, 3) := by decide +kernel
theorem dX9_digest_183 : decode cX9_digest 183 = .ok (.i2l, 1) := by decide +kernel
theorem dX9_digest_184 : decode cX9_digest 184 = .ok (.invokevirtual 243, 3) := by decide +kernel
theorem dX9_digest_187 : decode cX9_digest 187 = .ok (.iinc 1 1, 3) := by decide +kernel
theorem dX9_digest_190 : decode cX9_digest 190 = .ok (.goto (-19), 3) := by decide +kernel
theorem dX9_digest_193 : decode cX9_digest 193 = .ok (.aload_n 0, 1) := by decide +kernel
theorem dX9_digest_194 : decode cX9_digest 194 = .ok (.getfield 239, 3) := by decide +kernel
theorem dX9_digest_197 : decode cX9_digest 197 = .ok (.lreturn, 1) := by decide +kernel
end
section
theorem dJ6_bitCount_0f7a4_0 : decode cJ6_bitCount_0f7a4 0 = .ok (.iload_n 0, 1) := by decide +kernel
theorem dJ6_bitCount_0f7a4_1 : decode cJ6_bitCount_0f7a4 1 = .ok (.iload_n 0, 1) := by decide +kernel
theorem dJ6_bitCount_0f7a4_2 : decode cJ6_bitCount_0f7a4 2 = .ok (.iconst 1, 1) := by decide +kernel
theorem dJ6_bitCount_0f7a4_3 : decode cJ6_bitCount_0f7a4 3 = .ok (.iushr, 1) := by decide +kernel
theorem dJ6_bitCount_0f7a4_4 : decode cJ6_bitCount_0f7a4 4 = .ok (.ldc_w 265, 3) := by decide +kernel
theorem dJ6_bitCount_0f7a4_7 : decode cJ6_bitCount_0f7a4 7 = .ok (.iand, 1) := by decide +kernel
theorem dJ6_bitCount_0f7a4_8 : decode cJ6_bitCount_0f7a4 8 = .ok (.isub, 1) := by decide +kernel
theorem dJ6_bitCount_0f7a4_9 : decode cJ6_bitCount_0f7a4 9 = .ok (.istore_n 0, 1) := by decide +kernel
theorem dJ6_bitCount_0f7a4_10 : decode cJ6_bitCount_0f7a4 10 = .ok (.iload_n 0, 1) := by decide +kernel
theorem dJ6_bitCount_0f7a4_11 : decode cJ6_bitCount_0f7a4 11 = .ok (.ldc_w 266, 3) := by decide +kernel
theorem dJ6_bitCount_0f7a4_14 : decode cJ6_bitCount_0f7a4 14 = .ok (.iand, 1) := by decide +kernel
theorem dJ6_bitCount_0f7a4_15 : decode cJ6_bitCount_0f7a4 15 = .ok (.iload_n 0, 1) := by decide +kernel
theorem dJ6_bitCount_0f7a4_16 : decode cJ6_bitCount_0f7a4 16 = .ok (.iconst 2, 1) := by decide +kernel
theorem dJ6_bitCount_0f7a4_17 : decode cJ6_bitCount_0f7a4 17 = .ok (.iushr, 1) := by decide +kernel
theorem dJ6_bitCount_0f7a4_18 : decode cJ6_bitCount_0f7a4 18 = .ok (.ldc_w 266, 3) := by decide +kernel
theorem dJ6_bitCount_0f7a4_21 : decode cJ6_bitCount_0f7a4 21 = .ok (.iand, 1) := by decide +kernel
theorem dJ6_bitCount_0f7a4_22 : decode cJ6_bitCount_0f7a4 22 = .ok (.iadd, 1) := by decide +kernel
theorem dJ6_bitCount_0f7a4_23 : decode cJ6_bitCount_0f7a4 23 = .ok (.istore_n 0, 1) := by decide +kernel
theorem dJ6_bitCount_0f7a4_24 : decode cJ6_bitCount_0f7a4 24 = .ok (.iload_n 0, 1) := by decide +kernel
theorem dJ6_bitCount_0f7a4_25 : decode cJ6_bitCount_0f7a4 25 = .ok (.iload_n 0, 1) := by decide +kernel
theorem dJ6_bitCount_0f7a4_26 : decode cJ6_bitCount_0f7a4 26 = .ok (.iconst 4, 1) := by decide +kernel
theorem dJ6_bitCount_0f7a4_27 : decode cJ6_bitCount_0f7a4 27 = .ok (.iushr, 1) := by decide +kernel
theorem dJ6_bitCount_0f7a4_28 : decode cJ6_bitCount_0f7a4 28 = .ok (.iadd, 1) := by decide +kernel
theorem dJ6_bitCount_0f7a4_29 : decode cJ6_bitCount_0f7a4 29 = .ok (.ldc_w 267, 3) := by decide +kernel
theorem dJ6_bitCount_0f7a4_32 : decode cJ6_bitCount_0f7a4 32 = .ok (.iand, 1) := by decide +kernel
theorem dJ6_bitCount_0f7a4_33 : decode cJ6_bitCount_0f7a4 33 = .ok (.istore_n 0, 1) := by decide +kernel
theorem dJ6_bitCount_0f7a4_34 : decode cJ6_bitCount_0f7a4 34 = .ok (.iload_n 0, 1) := by decide +kernel
theorem dJ6_bitCount_0f7a4_35 : decode cJ6_bitCount_0f7a4 35 = .ok (.iload_n 0, 1) := by decide +kernel
theorem dJ6_bitCount_0f7a4_36 : decode cJ6_bitCount_0f7a4 36 = .ok (.bipush 8, 2) := by decide +kernel
theorem dJ6_bitCount_0f7a4_38 : decode cJ6_bitCount_0f7a4 38 = .ok (.iushr, 1) := by decide +kernel
theorem dJ6_bitCount_0f7a4_39 : decode cJ6_bitCount_0f7a4 39 = .ok (.iadd, 1) := by decide +kernel
theorem dJ6_bitCount_0f7a4_40 : decode cJ6_bitCount_0f7a4 40 = .ok (.istore_n 0, 1) := by decide +kernel
theorem dJ6_bitCount_0f7a4_41 : decode cJ6_bitCount_0f7a4 41 = .ok (.iload_n 0, 1) := by decide +kernel
theorem dJ6_bitCount_0f7a4_42 : decode cJ6_bitCount_0f7a4 42 = .ok (.iload_n 0, 1) := by decide +kernel
theorem dJ6_bitCount_0f7a4_43 : decode cJ6_bitCount_0f7a4 43 = .ok (.bipush 16, 2) := by decide +kernel
theorem dJ6_bitCount_0f7a4_45 : decode cJ6_bitCount_0f7a4 45 = .ok (.iushr, 1) := by decide +kernel
theorem dJ6_bitCount_0f7a4_46 : decode cJ6_bitCount_0f7a4 46 = .ok (.iadd, 1) := by decide +kernel
theorem dJ6_bitCount_0f7a4_47 : decode cJ6_bitCount_0f7a4 47 = .ok (.istore_n 0, 1) := by decide +kernel
theorem dJ6_bitCount_0f7a4_48 : decode cJ6_bitCount_0f7a4 48 = .ok (.iload_n 0, 1) := by decide +kernel
theorem dJ6_bitCount_0f7a4_49 : decode cJ6_bitCount_0f7a4 49 = .ok (.bipush 63, 2) := by decide +kernel
theorem dJ6_bitCount_0f7a4_51 : decode cJ6_bitCount_0f7a4 51 = .ok (.iand, 1) := by decide +kernel
theorem dJ6_bitCount_0f7a4_52 : decode cJ6_bitCount_0f7a4 52 = .ok (.ireturn, 1) := by decide +kernel
theorem dJ9_max_7cf53_0 : decode cJ9_max_7cf53 0 = .ok (.iload_n 0, 1) := by decide +kernel
theorem dJ9_max_7cf53_1 : decode cJ9_max_7cf53 1 = .ok (.iload_n 1, 1) := by decide +kernel
theorem dJ9_max_7cf53_2 : decode cJ9_max_7cf53 2 = .ok (.if_icmp .lt 7, 3) := by decide +kernel
theorem dJ9_max_7cf53_5 : decode cJ9_max_7cf53 5 = .ok (.iload_n 0, 1) := by decide +kernel
theorem dJ9_max_7cf53_6 : decode cJ9_max_7cf53 6 = .ok (.goto 4, 3) := by decide +kernel
theorem dJ9_max_7cf53_9 : decode cJ9_max_7cf53 9 = .ok (.iload_n 1, 1) := by decide +kernel
theorem dJ9_max_7cf53_10 : decode cJ9_max_7cf53 10 = .ok (.ireturn, 1) := by decide +kernel
theorem dJ9_min_7cf53_0 : decode cJ9_min_7cf53 0 = .ok (.iload_n 0, 1) := by decide +kernel
theorem dJ9_min_7cf53_1 : decode cJ9_min_7cf53 1 = .ok (.iload_n 1, 1) := by decide +kernel
theorem dJ9_min_7cf53_2 : decode cJ9_min_7cf53 2 = .ok (.if_icmp .gt 7, 3) := by decide +kernel
theorem dJ9_min_7cf53_5 : decode cJ9_min_7cf53 5 = .ok (.iload_n 0, 1) := by decide +kernel
theorem dJ9_min_7cf53_6 : decode cJ9_min_7cf53 6 = .ok (.goto 4, 3) := by decide +kernel
theorem dJ9_min_7cf53_9 : decode cJ9_min_7cf53 9 = .ok (.iload_n 1, 1) := by decide +kernel
theorem dJ9_min_7cf53_10 : decode cJ9_min_7cf53 10 = .ok (.ireturn, 1) := by decide +kernel
theorem dL_law_0 : decode cL_law 0 = .ok (.new 7, 3) := by decide +kernel
theorem dL_law_3 : decode cL_law 3 = .ok (.dup, 1) := by decide +kernel
theorem dL_law_4 : decode cL_law 4 = .ok (.invokespecial 9, 3) := by decide +kernel
theorem dL_law_7 : decode cL_law 7 = .ok (.astore_n 1, 1) := by decide +kernel
theorem dL_law_8 : decode cL_law 8 = .ok (.new 10, 3) := by decide +kernel
theorem dL_law_11 : decode cL_law 11 = .ok (.dup, 1) := by decide +kernel
theorem dL_law_12 : decode cL_law 12 = .ok (.invokespecial 12, 3) := by decide +kernel
theorem dL_law_15 : decode cL_law 15 = .ok (.astore_n 2, 1) := by decide +kernel
theorem dL_law_16 : decode cL_law 16 = .ok (.iconst 0, 1) := by decide +kernel
theorem dL_law_17 : decode cL_law 17 = .ok (.istore_n 3, 1) := by decide +kernel
theorem dL_law_18 : decode cL_law 18 = .ok (.iload_n 3, 1) := by decide +kernel
theorem dL_law_19 : decode cL_law 19 = .ok (.aload_n 0, 1) := by decide +kernel
theorem dL_law_20 : decode cL_law 20 = .ok (.arraylength, 1) := by decide +kernel
theorem dL_law_21 : decode cL_law 21 = .ok (.iconst 4, 1) := by decide +kernel
theorem dL_law_22 : decode cL_law 22 = .ok (.isub, 1) := by decide +kernel
theorem dL_law_23 : decode cL_law 23 = .ok (.if_icmp .gt 885, 3) := by decide +kernel
theorem dL_law_26 : decode cL_law 26 = .ok (.aload_n 0, 1) := by decide +kernel
theorem dL_law_27 : decode cL_law 27 = .ok (.iload_n 3, 1) := by decide +kernel
theorem dL_law_28 : decode cL_law 28 = .ok (.iaload, 1) := by decide +kernel
theorem dL_law_29 : decode cL_law 29 = .ok (.bipush 31, 2) := by decide +kernel
theorem dL_law_31 : decode cL_law 31 = .ok (.iand, 1) := by decide +kernel
theorem dL_law_32 : decode cL_law 32 = .ok (.tableswitch 870 0 28 #[132, 155, 168, 181, 194, 227, 260, 293, 326, 369, 402, 435, 458, 481, 494, 527, 560, 583, 606, 619, 642, 685, 728, 741, 764, 807, 820, 833, 856], 132) := by decide +kernel
theorem dL_law_164 : decode cL_law 164 = .ok (.aload_n 1, 1) := by decide +kernel
theorem dL_law_165 : decode cL_law 165 = .ok (.aload_n 0, 1) := by decide +kernel
theorem dL_law_166 : decode cL_law 166 = .ok (.iload_n 3, 1) := by decide +kernel
theorem dL_law_167 : decode cL_law 167 = .ok (.iconst 1, 1) := by decide +kernel
theorem dL_law_168 : decode cL_law 168 = .ok (.iadd, 1) := by decide +kernel
theorem dL_law_169 : decode cL_law 169 = .ok (.iaload, 1) := by decide +kernel
theorem dL_law_170 : decode cL_law 170 = .ok (.invokevirtual 13, 3) := by decide +kernel
theorem dL_law_173 : decode cL_law 173 = .ok (.aload_n 2, 1) := by decide +kernel
theorem dL_law_174 : decode cL_law 174 = .ok (.aload_n 0, 1) := by decide +kernel
theorem dL_law_175 : decode cL_law 175 = .ok (.iload_n 3, 1) := by decide +kernel
theorem dL_law_176 : decode cL_law 176 = .ok (.iconst 1, 1) := by decide +kernel
theorem dL_law_177 : decode cL_law 177 = .ok (.iadd, 1) := by decide +kernel
theorem dL_law_178 : decode cL_law 178 = .ok (.iaload, 1) := by decide +kernel
theorem dL_law_179 : decode cL_law 179 = .ok (.invokevirtual 17, 3) := by decide +kernel
theorem dL_law_182 : decode cL_law 182 = .ok (.if_icmp .eq 720, 3) := by decide +kernel
theorem dL_law_185 : decode cL_law 185 = .ok (.iconst 0, 1) := by decide +kernel
theorem dL_law_186 : decode cL_law 186 = .ok (.ireturn, 1) := by decide +kernel
theorem dL_law_187 : decode cL_law 187 = .ok (.aload_n 1, 1) := by decide +kernel
theorem dL_law_188 : decode cL_law 188 = .ok (.invokevirtual 18, 3) := by decide +kernel
theorem dL_law_191 : decode cL_law 191 = .ok (.aload_n 2, 1) := by decide +kernel
theorem dL_law_192 : decode cL_law 192 = .ok (.invokevirtual 22, 3) := by decide +kernel
theorem dL_law_195 : decode cL_law 195 = .ok (.if_icmp .eq 707, 3) := by decide +kernel
theorem dL_law_198 : decode cL_law 198 = .ok (.iconst 0, 1) := by decide +kernel
theorem dL_law_199 : decode cL_law 199 = .ok (.ireturn, 1) := by decide +kernel
theorem dL_law_200 : decode cL_law 200 = .ok (.aload_n 1, 1) := by decide +kernel
theorem dL_law_201 : decode cL_law 201 = .ok (.invokevirtual 23, 3) := by decide +kernel
theorem dL_law_204 : decode cL_law 204 = .ok (.aload_n 2, 1) := by decide +kernel
theorem dL_law_205 : decode cL_law 205 = .ok (.invokevirtual 26, 3) := by decide +kernel
theorem dL_law_208 : decode cL_law 208 = .ok (.if_icmp .eq 694, 3) := by decide +kernel
theorem dL_law_211 : decode cL_law 211 = .ok (.iconst 0, 1) := by decide +kernel
theorem dL_law_212 : decode cL_law 212 = .ok (.ireturn, 1) := by decide +kernel
theorem dL_law_213 : decode cL_law 213 = .ok (.aload_n 1, 1) := by decide +kernel
theorem dL_law_214 : decode cL_law 214 = .ok (.invokevirtual 27, 3) := by decide +kernel
theorem dL_law_217 : decode cL_law 217 = .ok (.aload_n 2, 1) := by decide +kernel
theorem dL_law_218 : decode cL_law 218 = .ok (.invokevirtual 30, 3) := by decide +kernel
theorem dL_law_221 : decode cL_law 221 = .ok (.if_icmp .eq 681, 3) := by decide +kernel
theorem dL_law_224 : decode cL_law 224 = .ok (.iconst 0, 1) := by decide +kernel
theorem dL_law_225 : decode cL_law 225 = .ok (.ireturn, 1) := by decide +kernel
theorem dL_law_226 : decode cL_law 226 = .ok (.aload_n 1, 1) := by decide +kernel
theorem dL_law_227 : decode cL_law 227 = .ok (.aload_n 0, 1) := by decide +kernel
theorem dL_law_228 : decode cL_law 228 = .ok (.iload_n 3, 1) := by decide +kernel
theorem dL_law_229 : decode cL_law 229 = .ok (.iconst 1, 1) := by decide +kernel
theorem dL_law_230 : decode cL_law 230 = .ok (.iadd, 1) := by decide +kernel
theorem dL_law_231 : decode cL_law 231 = .ok (.iaload, 1) := by decide +kernel
theorem dL_law_232 : decode cL_law 232 = .ok (.aload_n 0, 1) := by decide +kernel
theorem dL_law_233 : decode cL_law 233 = .ok (.iload_n 3, 1) := by decide +kernel
theorem dL_law_234 : decode cL_law 234 = .ok (.iconst 2, 1) := by decide +kernel
theorem dL_law_235 : decode cL_law 235 = .ok (.iadd, 1) := by decide +kernel
theorem dL_law_236 : decode cL_law 236 = .ok (.iaload, 1) := by decide +kernel
theorem dL_law_237 : decode cL_law 237 = .ok (.invokevirtual 31, 3) := by decide +kernel
theorem dL_law_240 : decode cL_law 240 = .ok (.aload_n 2, 1) := by decide +kernel
theorem dL_law_241 : decode cL_law 241 = .ok (.aload_n 0, 1) := by decide +kernel
theorem dL_law_242 : decode cL_law 242 = .ok (.iload_n 3, 1) := by decide +kernel
theorem dL_law_243 : decode cL_law 243 = .ok (.iconst 1, 1) := by decide +kernel
theorem dL_law_244 : decode cL_law 244 = .ok (.iadd, 1) := by decide +kernel
theorem dL_law_245 : decode cL_law 245 = .ok (.iaload, 1) := by decide +kernel
theorem dL_law_246 : decode cL_law 246 = .ok (.aload_n 0, 1) := by decide +kernel
theorem dL_law_247 : decode cL_law 247 = .ok (.iload_n 3, 1) := by decide +kernel
theorem dL_law_248 : decode cL_law 248 = .ok (.iconst 2, 1) := by decide +kernel
theorem dL_law_249 : decode cL_law 249 = .ok (.iadd, 1) := by decide +kernel
theorem dL_law_250 : decode cL_law 250 = .ok (.iaload, 1) := by decide +kernel
theorem dL_law_251 : decode cL_law 251 = .ok (.invokevirtual 35, 3) := by decide +kernel
theorem dL_law_254 : decode cL_law 254 = .ok (.if_icmp .eq 648, 3) := by decide +kernel
theorem dL_law_257 : decode cL_law 257 = .ok (.iconst 0, 1) := by decide +kernel
theorem dL_law_258 : decode cL_law 258 = .ok (.ireturn, 1) := by decide +kernel
theorem dL_law_259 : decode cL_law 259 = .ok (.aload_n 1, 1) := by decide +kernel
theorem dL_law_260 : decode cL_law 260 = .ok (.aload_n 0, 1) := by decide +kernel
theorem dL_law_261 : decode cL_law 261 = .ok (.iload_n 3, 1) := by decide +kernel
theorem dL_law_262 : decode cL_law 262 = .ok (.iconst 1, 1) := by decide +kernel
theorem dL_law_263 : decode cL_law 263 = .ok (.iadd, 1) := by decide +kernel
theorem dL_law_264 : decode cL_law 264 = .ok (.iaload, 1) := by decide +kernel
theorem dL_law_265 : decode cL_law 265 = .ok (.aload_n 0, 1) := by decide +kernel
theorem dL_law_266 : decode cL_law 266 = .ok (.iload_n 3, 1) := by decide +kernel
theorem dL_law_267 : decode cL_law 267 = .ok (.iconst 2, 1) := by decide +kernel
theorem dL_law_268 : decode cL_law 268 = .ok (.iadd, 1) := by decide +kernel
theorem dL_law_269 : decode cL_law 269 = .ok (.iaload, 1) := by decide +kernel
theorem dL_law_270 : decode cL_law 270 = .ok (.invokevirtual 36, 3) := by decide +kernel
theorem dL_law_273 : decode cL_law 273 = .ok (.aload_n 2, 1) := by decide +kernel
theorem dL_law_274 : decode cL_law 274 = .ok (.aload_n 0, 1) := by decide +kernel
theorem dL_law_275 : decode cL_law 275 = .ok (.iload_n 3, 1) := by decide +kernel
theorem dL_law_276 : decode cL_law 276 = .ok (.iconst 1, 1) := by decide +kernel
theorem dL_law_277 : decode cL_law 277 = .ok (.iadd, 1) := by decide +kernel
theorem dL_law_278 : decode cL_law 278 = .ok (.iaload, 1) := by decide +kernel
theorem dL_law_279 : decode cL_law 279 = .ok (.aload_n 0, 1) := by decide +kernel
theorem dL_law_280 : decode cL_law 280 = .ok (.iload_n 3, 1) := by decide +kernel
theorem dL_law_281 : decode cL_law 281 = .ok (.iconst 2, 1) := by decide +kernel
theorem dL_law_282 : decode cL_law 282 = .ok (.iadd, 1) := by decide +kernel
theorem dL_law_283 : decode cL_law 283 = .ok (.iaload, 1) := by decide +kernel
theorem dL_law_284 : decode cL_law 284 = .ok (.invokevirtual 39, 3) := by decide +kernel
theorem dL_law_287 : decode cL_law 287 = .ok (.if_icmp .eq 615, 3) := by decide +kernel
theorem dL_law_290 : decode cL_law 290 = .ok (.iconst 0, 1) := by decide +kernel
theorem dL_law_291 : decode cL_law 291 = .ok (.ireturn, 1) := by decide +kernel
theorem dL_law_292 : decode cL_law 292 = .ok (.aload_n 1, 1) := by decide +kernel
theorem dL_law_293 : decode cL_law 293 = .ok (.aload_n 0, 1) := by decide +kernel
theorem dL_law_294 : decode cL_law 294 = .ok (.iload_n 3, 1) := by decide +kernel
theorem dL_law_295 : decode cL_law 295 = .ok (.iconst 1, 1) := by decide +kernel
theorem dL_law_296 : decode cL_law 296 = .ok (.iadd, 1) := by decide +kernel
theorem dL_law_297 : decode cL_law 297 = .ok (.iaload, 1) := by decide +kernel
theorem dL_law_298 : decode cL_law 298 = .ok (.aload_n 0, 1) := by decide +kernel
theorem dL_law_299 : decode cL_law 299 = .ok (.iload_n 3, 1) := by decide +kernel
theorem dL_law_300 : decode cL_law 300 = .ok (.iconst 2, 1) := by decide +kernel
theorem dL_law_301 : decode cL_law 301 = .ok (.iadd, 1) := by decide +kernel
theorem dL_law_302 : decode cL_law 302 = .ok (.iaload, 1) := by decide +kernel
theorem dL_law_303 : decode cL_law 303 = .ok (.invokevirtual 40, 3) := by decide +kernel
theorem dL_law_306 : decode cL_law 306 = .ok (.aload_n 2, 1) := by decide +kernel
theorem dL_law_307 : decode cL_law 307 = .ok (.aload_n 0, 1) := by decide +kernel
theorem dL_law_308 : decode cL_law 308 = .ok (.iload_n 3, 1) := by decide +kernel
theorem dL_law_309 : decode cL_law 309 = .ok (.iconst 1, 1) := by decide +kernel
theorem dL_law_310 : decode cL_law 310 = .ok (.iadd, 1) := by decide +kernel
theorem dL_law_311 : decode cL_law 311 = .ok (.iaload, 1) := by decide +kernel
theorem dL_law_312 : decode cL_law 312 = .ok (.aload_n 0, 1) := by decide +kernel
theorem dL_law_313 : decode cL_law 313 = .ok (.iload_n 3, 1) := by decide +kernel
theorem dL_law_314 : decode cL_law 314 = .ok (.iconst 2, 1) := by decide +kernel
theorem dL_law_315 : decode cL_law 315 = .ok (.iadd, 1) := by decide +kernel
theorem dL_law_316 : decode cL_law 316 = .ok (.iaload, 1) := by decide +kernel
theorem dL_law_317 : decode cL_law 317 = .ok (.invokevirtual 43, 3) := by decide +kernel
theorem dL_law_320 : decode cL_law 320 = .ok (.if_icmp .eq 582, 3) := by decide +kernel
theorem dL_law_323 : decode cL_law 323 = .ok (.iconst 0, 1) := by decide +kernel
theorem dL_law_324 : decode cL_law 324 = .ok (.ireturn, 1) := by decide +kernel
theorem dL_law_325 : decode cL_law 325 = .ok (.aload_n 1, 1) := by decide +kernel
theorem dL_law_326 : decode cL_law 326 = .ok (.aload_n 0, 1) := by decide +kernel
theorem dL_law_327 : decode cL_law 327 = .ok (.iload_n 3, 1) := by decide +kernel
theorem dL_law_328 : decode cL_law 328 = .ok (.iconst 1, 1) := by decide +kernel
theorem dL_law_329 : decode cL_law 329 = .ok (.iadd, 1) := by decide +kernel
theorem dL_law_330 : decode cL_law 330 = .ok (.iaload, 1) := by decide +kernel
theorem dL_law_331 : decode cL_law 331 = .ok (.aload_n 0, 1) := by decide +kernel
theorem dL_law_332 : decode cL_law 332 = .ok (.iload_n 3, 1) := by decide +kernel
theorem dL_law_333 : decode cL_law 333 = .ok (.iconst 2, 1) := by decide +kernel
theorem dL_law_334 : decode cL_law 334 = .ok (.iadd, 1) := by decide +kernel
theorem dL_law_335 : decode cL_law 335 = .ok (.iaload, 1) := by decide +kernel
theorem dL_law_336 : decode cL_law 336 = .ok (.invokevirtual 44, 3) := by decide +kernel
theorem dL_law_339 : decode cL_law 339 = .ok (.aload_n 2, 1) := by decide +kernel
theorem dL_law_340 : decode cL_law 340 = .ok (.aload_n 0, 1) := by decide +kernel
theorem dL_law_341 : decode cL_law 341 = .ok (.iload_n 3, 1) := by decide +kernel
theorem dL_law_342 : decode cL_law 342 = .ok (.iconst 1, 1) := by decide +kernel
theorem dL_law_343 : decode cL_law 343 = .ok (.iadd, 1) := by decide +kernel
theorem dL_law_344 : decode cL_law 344 = .ok (.iaload, 1) := by decide +kernel
theorem dL_law_345 : decode cL_law 345 = .ok (.aload_n 0, 1) := by decide +kernel
theorem dL_law_346 : decode cL_law 346 = .ok (.iload_n 3, 1) := by decide +kernel
theorem dL_law_347 : decode cL_law 347 = .ok (.iconst 2, 1) := by decide +kernel
theorem dL_law_348 : decode cL_law 348 = .ok (.iadd, 1) := by decide +kernel
theorem dL_law_349 : decode cL_law 349 = .ok (.iaload, 1) := by decide +kernel
theorem dL_law_350 : decode cL_law 350 = .ok (.invokevirtual 47, 3) := by decide +kernel
theorem dL_law_353 : decode cL_law 353 = .ok (.if_icmp .eq 549, 3) := by decide +kernel
theorem dL_law_356 : decode cL_law 356 = .ok (.iconst 0, 1) := by decide +kernel
theorem dL_law_357 : decode cL_law 357 = .ok (.ireturn, 1) := by decide +kernel
theorem dL_law_358 : decode cL_law 358 = .ok (.aload_n 1, 1) := by decide +kernel
theorem dL_law_359 : decode cL_law 359 = .ok (.aload_n 0, 1) := by decide +kernel
theorem dL_law_360 : decode cL_law 360 = .ok (.iload_n 3, 1) := by decide +kernel
theorem dL_law_361 : decode cL_law 361 = .ok (.iconst 1, 1) := by decide +kernel
theorem dL_law_362 : decode cL_law 362 = .ok (.iadd, 1) := by decide +kernel
theorem dL_law_363 : decode cL_law 363 = .ok (.iaload, 1) := by decide +kernel
theorem dL_law_364 : decode cL_law 364 = .ok (.aload_n 0, 1) := by decide +kernel
theorem dL_law_365 : decode cL_law 365 = .ok (.iload_n 3, 1) := by decide +kernel
theorem dL_law_366 : decode cL_law 366 = .ok (.iconst 2, 1) := by decide +kernel
theorem dL_law_367 : decode cL_law 367 = .ok (.iadd, 1) := by decide +kernel
theorem dL_law_368 : decode cL_law 368 = .ok (.iaload, 1) := by decide +kernel
theorem dL_law_369 : decode cL_law 369 = .ok (.aload_n 0, 1) := by decide +kernel
theorem dL_law_370 : decode cL_law 370 = .ok (.iload_n 3, 1) := by decide +kernel
theorem dL_law_371 : decode cL_law 371 = .ok (.iconst 3, 1) := by decide +kernel
theorem dL_law_372 : decode cL_law 372 = .ok (.iadd, 1) := by decide +kernel
theorem dL_law_373 : decode cL_law 373 = .ok (.iaload, 1) := by decide +kernel
theorem dL_law_374 : decode cL_law 374 = .ok (.invokevirtual 48, 3) := by decide +kernel
theorem dL_law_377 : decode cL_law 377 = .ok (.aload_n 2, 1) := by decide +kernel
theorem dL_law_378 : decode cL_law 378 = .ok (.aload_n 0, 1) := by decide +kernel
theorem dL_law_379 : decode cL_law 379 = .ok (.iload_n 3, 1) := by decide +kernel
theorem dL_law_380 : decode cL_law 380 = .ok (.iconst 1, 1) := by decide +kernel
theorem dL_law_381 : decode cL_law 381 = .ok (.iadd, 1) := by decide +kernel
theorem dL_law_382 : decode cL_law 382 = .ok (.iaload, 1) := by decide +kernel
theorem dL_law_383 : decode cL_law 383 = .ok (.aload_n 0, 1) := by decide +kernel
theorem dL_law_384 : decode cL_law 384 = .ok (.iload_n 3, 1) := by decide +kernel
theorem dL_law_385 : decode cL_law 385 = .ok (.iconst 2, 1) := by decide +kernel
theorem dL_law_386 : decode cL_law 386 = .ok (.iadd, 1) := by decide +kernel
theorem dL_law_387 : decode cL_law 387 = .ok (.iaload, 1) := by decide +kernel
theorem dL_law_388 : decode cL_law 388 = .ok (.aload_n 0, 1) := by decide +kernel
theorem dL_law_389 : decode cL_law 389 = .ok (.iload_n 3, 1) := by decide +kernel
theorem dL_law_390 : decode cL_law 390 = .ok (.iconst 3, 1) := by decide +kernel
theorem dL_law_391 : decode cL_law 391 = .ok (.iadd, 1) := by decide +kernel
theorem dL_law_392 : decode cL_law 392 = .ok (.iaload, 1) := by decide +kernel
theorem dL_law_393 : decode cL_law 393 = .ok (.invokevirtual 52, 3) := by decide +kernel
theorem dL_law_396 : decode cL_law 396 = .ok (.if_icmp .eq 506, 3) := by decide +kernel
theorem dL_law_399 : decode cL_law 399 = .ok (.iconst 0, 1) := by decide +kernel
theorem dL_law_400 : decode cL_law 400 = .ok (.ireturn, 1) := by decide +kernel
theorem dL_law_401 : decode cL_law 401 = .ok (.aload_n 1, 1) := by decide +kernel
theorem dL_law_402 : decode cL_law 402 = .ok (.aload_n 0, 1) := by decide +kernel
theorem dL_law_403 : decode cL_law 403 = .ok (.iload_n 3, 1) := by decide +kernel
theorem dL_law_404 : decode cL_law 404 = .ok (.iconst 1, 1) := by decide +kernel
theorem dL_law_405 : decode cL_law 405 = .ok (.iadd, 1) := by decide +kernel
theorem dL_law_406 : decode cL_law 406 = .ok (.iaload, 1) := by decide +kernel
theorem dL_law_407 : decode cL_law 407 = .ok (.aload_n 0, 1) := by decide +kernel
theorem dL_law_408 : decode cL_law 408 = .ok (.iload_n 3, 1) := by decide +kernel
theorem dL_law_409 : decode cL_law 409 = .ok (.iconst 2, 1) := by decide +kernel
theorem dL_law_410 : decode cL_law 410 = .ok (.iadd, 1) := by decide +kernel
theorem dL_law_411 : decode cL_law 411 = .ok (.iaload, 1) := by decide +kernel
theorem dL_law_412 : decode cL_law 412 = .ok (.invokevirtual 53, 3) := by decide +kernel
theorem dL_law_415 : decode cL_law 415 = .ok (.aload_n 2, 1) := by decide +kernel
theorem dL_law_416 : decode cL_law 416 = .ok (.aload_n 0, 1) := by decide +kernel
theorem dL_law_417 : decode cL_law 417 = .ok (.iload_n 3, 1) := by decide +kernel
theorem dL_law_418 : decode cL_law 418 = .ok (.iconst 1, 1) := by decide +kernel
theorem dL_law_419 : decode cL_law 419 = .ok (.iadd, 1) := by decide +kernel
theorem dL_law_420 : decode cL_law 420 = .ok (.iaload, 1) := by decide +kernel
theorem dL_law_421 : decode cL_law 421 = .ok (.aload_n 0, 1) := by decide +kernel
theorem dL_law_422 : decode cL_law 422 = .ok (.iload_n 3, 1) := by decide +kernel
theorem dL_law_423 : decode cL_law 423 = .ok (.iconst 2, 1) := by decide +kernel
theorem dL_law_424 : decode cL_law 424 = .ok (.iadd, 1) := by decide +kernel
theorem dL_law_425 : decode cL_law 425 = .ok (.iaload, 1) := by decide +kernel
theorem dL_law_426 : decode cL_law 426 = .ok (.invokevirtual 56, 3) := by decide +kernel
theorem dL_law_429 : decode cL_law 429 = .ok (.if_icmp .eq 473, 3) := by decide +kernel
theorem dL_law_432 : decode cL_law 432 = .ok (.iconst 0, 1) := by decide +kernel
theorem dL_law_433 : decode cL_law 433 = .ok (.ireturn, 1) := by decide +kernel
theorem dL_law_434 : decode cL_law 434 = .ok (.aload_n 1, 1) := by decide +kernel
theorem dL_law_435 : decode cL_law 435 = .ok (.aload_n 0, 1) := by decide +kernel
theorem dL_law_436 : decode cL_law 436 = .ok (.iload_n 3, 1) := by decide +kernel
theorem dL_law_437 : decode cL_law 437 = .ok (.iconst 1, 1) := by decide +kernel
theorem dL_law_438 : decode cL_law 438 = .ok (.iadd, 1) := by decide +kernel
theorem dL_law_439 : decode cL_law 439 = .ok (.iaload, 1) := by decide +kernel
theorem dL_law_440 : decode cL_law 440 = .ok (.aload_n 0, 1) := by decide +kernel
theorem dL_law_441 : decode cL_law 441 = .ok (.iload_n 3, 1) := by decide +kernel
theorem dL_law_442 : decode cL_law 442 = .ok (.iconst 2, 1) := by decide +kernel
theorem dL_law_443 : decode cL_law 443 = .ok (.iadd, 1) := by decide +kernel
theorem dL_law_444 : decode cL_law 444 = .ok (.iaload, 1) := by decide +kernel
theorem dL_law_445 : decode cL_law 445 = .ok (.invokevirtual 57, 3) := by decide +kernel
theorem dL_law_448 : decode cL_law 448 = .ok (.aload_n 2, 1) := by decide +kernel
theorem dL_law_449 : decode cL_law 449 = .ok (.aload_n 0, 1) := by decide +kernel
theorem dL_law_450 : decode cL_law 450 = .ok (.iload_n 3, 1) := by decide +kernel
theorem dL_law_451 : decode cL_law 451 = .ok (.iconst 1, 1) := by decide +kernel
theorem dL_law_452 : decode cL_law 452 = .ok (.iadd, 1) := by decide +kernel
theorem dL_law_453 : decode cL_law 453 = .ok (.iaload, 1) := by decide +kernel
theorem dL_law_454 : decode cL_law 454 = .ok (.aload_n 0, 1) := by decide +kernel
theorem dL_law_455 : decode cL_law 455 = .ok (.iload_n 3, 1) := by decide +kernel
theorem dL_law_456 : decode cL_law 456 = .ok (.iconst 2, 1) := by decide +kernel
theorem dL_law_457 : decode cL_law 457 = .ok (.iadd, 1) := by decide +kernel
theorem dL_law_458 : decode cL_law 458 = .ok (.iaload, 1) := by decide +kernel
theorem dL_law_459 : decode cL_law 459 = .ok (.invokevirtual 60, 3) := by decide +kernel
theorem dL_law_462 : decode cL_law 462 = .ok (.if_icmp .eq 440, 3) := by decide +kernel
theorem dL_law_465 : decode cL_law 465 = .ok (.iconst 0, 1) := by decide +kernel
theorem dL_law_466 : decode cL_law 466 = .ok (.ireturn, 1) := by decide +kernel
theorem dL_law_467 : decode cL_law 467 = .ok (.aload_n 1, 1) := by decide +kernel
theorem dL_law_468 : decode cL_law 468 = .ok (.aload_n 0, 1) := by decide +kernel
theorem dL_law_469 : decode cL_law 469 = .ok (.iload_n 3, 1) := by decide +kernel
theorem dL_law_470 : decode cL_law 470 = .ok (.iconst 1, 1) := by decide +kernel
theorem dL_law_471 : decode cL_law 471 = .ok (.iadd, 1) := by decide +kernel
theorem dL_law_472 : decode cL_law 472 = .ok (.iaload, 1) := by decide +kernel
theorem dL_law_473 : decode cL_law 473 = .ok (.invokevirtual 61, 3) := by decide +kernel
theorem dL_law_476 : decode cL_law 476 = .ok (.aload_n 2, 1) := by decide +kernel
theorem dL_law_477 : decode cL_law 477 = .ok (.aload_n 0, 1) := by decide +kernel
theorem dL_law_478 : decode cL_law 478 = .ok (.iload_n 3, 1) := by decide +kernel
theorem dL_law_479 : decode cL_law 479 = .ok (.iconst 1, 1) := by decide +kernel
theorem dL_law_480 : decode cL_law 480 = .ok (.iadd, 1) := by decide +kernel
theorem dL_law_481 : decode cL_law 481 = .ok (.iaload, 1) := by decide +kernel
theorem dL_law_482 : decode cL_law 482 = .ok (.invokevirtual 64, 3) := by decide +kernel
theorem dL_law_485 : decode cL_law 485 = .ok (.if_icmp .eq 417, 3) := by decide +kernel
theorem dL_law_488 : decode cL_law 488 = .ok (.iconst 0, 1) := by decide +kernel
theorem dL_law_489 : decode cL_law 489 = .ok (.ireturn, 1) := by decide +kernel
theorem dL_law_490 : decode cL_law 490 = .ok (.aload_n 1, 1) := by decide +kernel
theorem dL_law_491 : decode cL_law 491 = .ok (.aload_n 0, 1) := by decide +kernel
theorem dL_law_492 : decode cL_law 492 = .ok (.iload_n 3, 1) := by decide +kernel
theorem dL_law_493 : decode cL_law 493 = .ok (.iconst 1, 1) := by decide +kernel
theorem dL_law_494 : decode cL_law 494 = .ok (.iadd, 1) := by decide +kernel
theorem dL_law_495 : decode cL_law 495 = .ok (.iaload, 1) := by decide +kernel
theorem dL_law_496 : decode cL_law 496 = .ok (.invokevirtual 65, 3) := by decide +kernel
theorem dL_law_499 : decode cL_law 499 = .ok (.aload_n 2, 1) := by decide +kernel
theorem dL_law_500 : decode cL_law 500 = .ok (.aload_n 0, 1) := by decide +kernel
theorem dL_law_501 : decode cL_law 501 = .ok (.iload_n 3, 1) := by decide +kernel
theorem dL_law_502 : decode cL_law 502 = .ok (.iconst 1, 1) := by decide +kernel
theorem dL_law_503 : decode cL_law 503 = .ok (.iadd, 1) := by decide +kernel
theorem dL_law_504 : decode cL_law 504 = .ok (.iaload, 1) := by decide +kernel
theorem dL_law_505 : decode cL_law 505 = .ok (.invokevirtual 68, 3) := by decide +kernel
theorem dL_law_508 : decode cL_law 508 = .ok (.if_icmp .eq 394, 3) := by decide +kernel
theorem dL_law_511 : decode cL_law 511 = .ok (.iconst 0, 1) := by decide +kernel
theorem dL_law_512 : decode cL_law 512 = .ok (.ireturn, 1) := by decide +kernel
theorem dL_law_513 : decode cL_law 513 = .ok (.aload_n 1, 1) := by decide +kernel
theorem dL_law_514 : decode cL_law 514 = .ok (.invokevirtual 69, 3) := by decide +kernel
theorem dL_law_517 : decode cL_law 517 = .ok (.aload_n 2, 1) := by decide +kernel
theorem dL_law_518 : decode cL_law 518 = .ok (.invokevirtual 72, 3) := by decide +kernel
theorem dL_law_521 : decode cL_law 521 = .ok (.if_icmp .eq 381, 3) := by decide +kernel
theorem dL_law_524 : decode cL_law 524 = .ok (.iconst 0, 1) := by decide +kernel
theorem dL_law_525 : decode cL_law 525 = .ok (.ireturn, 1) := by decide +kernel
theorem dL_law_526 : decode cL_law 526 = .ok (.aload_n 1, 1) := by decide +kernel
theorem dL_law_527 : decode cL_law 527 = .ok (.aload_n 0, 1) := by decide +kernel
theorem dL_law_528 : decode cL_law 528 = .ok (.iload_n 3, 1) := by decide +kernel
theorem dL_law_529 : decode cL_law 529 = .ok (.iconst 1, 1) := by decide +kernel
theorem dL_law_530 : decode cL_law 530 = .ok (.iadd, 1) := by decide +kernel
theorem dL_law_531 : decode cL_law 531 = .ok (.iaload, 1) := by decide +kernel
theorem dL_law_532 : decode cL_law 532 = .ok (.aload_n 0, 1) := by decide +kernel
theorem dL_law_533 : decode cL_law 533 = .ok (.iload_n 3, 1) := by decide +kernel
theorem dL_law_534 : decode cL_law 534 = .ok (.iconst 2, 1) := by decide +kernel
theorem dL_law_535 : decode cL_law 535 = .ok (.iadd, 1) := by decide +kernel
theorem dL_law_536 : decode cL_law 536 = .ok (.iaload, 1) := by decide +kernel
theorem dL_law_537 : decode cL_law 537 = .ok (.invokevirtual 73, 3) := by decide +kernel
theorem dL_law_540 : decode cL_law 540 = .ok (.aload_n 2, 1) := by decide +kernel
theorem dL_law_541 : decode cL_law 541 = .ok (.aload_n 0, 1) := by decide +kernel
theorem dL_law_542 : decode cL_law 542 = .ok (.iload_n 3, 1) := by decide +kernel
theorem dL_law_543 : decode cL_law 543 = .ok (.iconst 1, 1) := by decide +kernel
theorem dL_law_544 : decode cL_law 544 = .ok (.iadd, 1) := by decide +kernel
theorem dL_law_545 : decode cL_law 545 = .ok (.iaload, 1) := by decide +kernel
theorem dL_law_546 : decode cL_law 546 = .ok (.aload_n 0, 1) := by decide +kernel
theorem dL_law_547 : decode cL_law 547 = .ok (.iload_n 3, 1) := by decide +kernel
theorem dL_law_548 : decode cL_law 548 = .ok (.iconst 2, 1) := by decide +kernel
theorem dL_law_549 : decode cL_law 549 = .ok (.iadd, 1) := by decide +kernel
theorem dL_law_550 : decode cL_law 550 = .ok (.iaload, 1) := by decide +kernel
theorem dL_law_551 : decode cL_law 551 = .ok (.invokevirtual 76, 3) := by decide +kernel
theorem dL_law_554 : decode cL_law 554 = .ok (.if_icmp .eq 348, 3) := by decide +kernel
theorem dL_law_557 : decode cL_law 557 = .ok (.iconst 0, 1) := by decide +kernel
theorem dL_law_558 : decode cL_law 558 = .ok (.ireturn, 1) := by decide +kernel
theorem dL_law_559 : decode cL_law 559 = .ok (.aload_n 1, 1) := by decide +kernel
theorem dL_law_560 : decode cL_law 560 = .ok (.aload_n 0, 1) := by decide +kernel
theorem dL_law_561 : decode cL_law 561 = .ok (.iload_n 3, 1) := by decide +kernel
theorem dL_law_562 : decode cL_law 562 = .ok (.iconst 1, 1) := by decide +kernel
theorem dL_law_563 : decode cL_law 563 = .ok (.iadd, 1) := by decide +kernel
theorem dL_law_564 : decode cL_law 564 = .ok (.iaload, 1) := by decide +kernel
theorem dL_law_565 : decode cL_law 565 = .ok (.aload_n 0, 1) := by decide +kernel
theorem dL_law_566 : decode cL_law 566 = .ok (.iload_n 3, 1) := by decide +kernel
theorem dL_law_567 : decode cL_law 567 = .ok (.iconst 2, 1) := by decide +kernel
theorem dL_law_568 : decode cL_law 568 = .ok (.iadd, 1) := by decide +kernel
theorem dL_law_569 : decode cL_law 569 = .ok (.iaload, 1) := by decide +kernel
theorem dL_law_570 : decode cL_law 570 = .ok (.invokevirtual 77, 3) := by decide +kernel
theorem dL_law_573 : decode cL_law 573 = .ok (.aload_n 2, 1) := by decide +kernel
theorem dL_law_574 : decode cL_law 574 = .ok (.aload_n 0, 1) := by decide +kernel
theorem dL_law_575 : decode cL_law 575 = .ok (.iload_n 3, 1) := by decide +kernel
theorem dL_law_576 : decode cL_law 576 = .ok (.iconst 1, 1) := by decide +kernel
theorem dL_law_577 : decode cL_law 577 = .ok (.iadd, 1) := by decide +kernel
theorem dL_law_578 : decode cL_law 578 = .ok (.iaload, 1) := by decide +kernel
theorem dL_law_579 : decode cL_law 579 = .ok (.aload_n 0, 1) := by decide +kernel
theorem dL_law_580 : decode cL_law 580 = .ok (.iload_n 3, 1) := by decide +kernel
theorem dL_law_581 : decode cL_law 581 = .ok (.iconst 2, 1) := by decide +kernel
theorem dL_law_582 : decode cL_law 582 = .ok (.iadd, 1) := by decide +kernel
theorem dL_law_583 : decode cL_law 583 = .ok (.iaload, 1) := by decide +kernel
theorem dL_law_584 : decode cL_law 584 = .ok (.invokevirtual 80, 3) := by decide +kernel
theorem dL_law_587 : decode cL_law 587 = .ok (.if_icmp .eq 315, 3) := by decide +kernel
theorem dL_law_590 : decode cL_law 590 = .ok (.iconst 0, 1) := by decide +kernel
theorem dL_law_591 : decode cL_law 591 = .ok (.ireturn, 1) := by decide +kernel
theorem dL_law_592 : decode cL_law 592 = .ok (.aload_n 1, 1) := by decide +kernel
theorem dL_law_593 : decode cL_law 593 = .ok (.aload_n 0, 1) := by decide +kernel
theorem dL_law_594 : decode cL_law 594 = .ok (.iload_n 3, 1) := by decide +kernel
theorem dL_law_595 : decode cL_law 595 = .ok (.iconst 1, 1) := by decide +kernel
theorem dL_law_596 : decode cL_law 596 = .ok (.iadd, 1) := by decide +kernel
theorem dL_law_597 : decode cL_law 597 = .ok (.iaload, 1) := by decide +kernel
theorem dL_law_598 : decode cL_law 598 = .ok (.invokevirtual 81, 3) := by decide +kernel
theorem dL_law_601 : decode cL_law 601 = .ok (.aload_n 2, 1) := by decide +kernel
theorem dL_law_602 : decode cL_law 602 = .ok (.aload_n 0, 1) := by decide +kernel
theorem dL_law_603 : decode cL_law 603 = .ok (.iload_n 3, 1) := by decide +kernel
theorem dL_law_604 : decode cL_law 604 = .ok (.iconst 1, 1) := by decide +kernel
theorem dL_law_605 : decode cL_law 605 = .ok (.iadd, 1) := by decide +kernel
theorem dL_law_606 : decode cL_law 606 = .ok (.iaload, 1) := by decide +kernel
theorem dL_law_607 : decode cL_law 607 = .ok (.invokevirtual 84, 3) := by decide +kernel
theorem dL_law_610 : decode cL_law 610 = .ok (.if_icmp .eq 292, 3) := by decide +kernel
theorem dL_law_613 : decode cL_law 613 = .ok (.iconst 0, 1) := by decide +kernel
theorem dL_law_614 : decode cL_law 614 = .ok (.ireturn, 1) := by decide +kernel
theorem dL_law_615 : decode cL_law 615 = .ok (.aload_n 1, 1) := by decide +kernel
theorem dL_law_616 : decode cL_law 616 = .ok (.aload_n 0, 1) := by decide +kernel
theorem dL_law_617 : decode cL_law 617 = .ok (.iload_n 3, 1) := by decide +kernel
theorem dL_law_618 : decode cL_law 618 = .ok (.iconst 1, 1) := by decide +kernel
theorem dL_law_619 : decode cL_law 619 = .ok (.iadd, 1) := by decide +kernel
theorem dL_law_620 : decode cL_law 620 = .ok (.iaload, 1) := by decide +kernel
theorem dL_law_621 : decode cL_law 621 = .ok (.invokevirtual 85, 3) := by decide +kernel
theorem dL_law_624 : decode cL_law 624 = .ok (.aload_n 2, 1) := by decide +kernel
theorem dL_law_625 : decode cL_law 625 = .ok (.aload_n 0, 1) := by decide +kernel
theorem dL_law_626 : decode cL_law 626 = .ok (.iload_n 3, 1) := by decide +kernel
theorem dL_law_627 : decode cL_law 627 = .ok (.iconst 1, 1) := by decide +kernel
theorem dL_law_628 : decode cL_law 628 = .ok (.iadd, 1) := by decide +kernel
theorem dL_law_629 : decode cL_law 629 = .ok (.iaload, 1) := by decide +kernel
theorem dL_law_630 : decode cL_law 630 = .ok (.invokevirtual 88, 3) := by decide +kernel
theorem dL_law_633 : decode cL_law 633 = .ok (.if_icmp .eq 269, 3) := by decide +kernel
theorem dL_law_636 : decode cL_law 636 = .ok (.iconst 0, 1) := by decide +kernel
theorem dL_law_637 : decode cL_law 637 = .ok (.ireturn, 1) := by decide +kernel
theorem dL_law_638 : decode cL_law 638 = .ok (.aload_n 1, 1) := by decide +kernel
theorem dL_law_639 : decode cL_law 639 = .ok (.invokevirtual 89, 3) := by decide +kernel
theorem dL_law_642 : decode cL_law 642 = .ok (.aload_n 2, 1) := by decide +kernel
theorem dL_law_643 : decode cL_law 643 = .ok (.invokevirtual 92, 3) := by decide +kernel
theorem dL_law_646 : decode cL_law 646 = .ok (.if_icmp .eq 256, 3) := by decide +kernel
theorem dL_law_649 : decode cL_law 649 = .ok (.iconst 0, 1) := by decide +kernel
theorem dL_law_650 : decode cL_law 650 = .ok (.ireturn, 1) := by decide +kernel
theorem dL_law_651 : decode cL_law 651 = .ok (.aload_n 1, 1) := by decide +kernel
theorem dL_law_652 : decode cL_law 652 = .ok (.aload_n 0, 1) := by decide +kernel
theorem dL_law_653 : decode cL_law 653 = .ok (.iload_n 3, 1) := by decide +kernel
theorem dL_law_654 : decode cL_law 654 = .ok (.iconst 1, 1) := by decide +kernel
theorem dL_law_655 : decode cL_law 655 = .ok (.iadd, 1) := by decide +kernel
theorem dL_law_656 : decode cL_law 656 = .ok (.iaload, 1) := by decide +kernel
theorem dL_law_657 : decode cL_law 657 = .ok (.invokevirtual 93, 3) := by decide +kernel
theorem dL_law_660 : decode cL_law 660 = .ok (.aload_n 2, 1) := by decide +kernel
theorem dL_law_661 : decode cL_law 661 = .ok (.aload_n 0, 1) := by decide +kernel
theorem dL_law_662 : decode cL_law 662 = .ok (.iload_n 3, 1) := by decide +kernel
theorem dL_law_663 : decode cL_law 663 = .ok (.iconst 1, 1) := by decide +kernel
theorem dL_law_664 : decode cL_law 664 = .ok (.iadd, 1) := by decide +kernel
theorem dL_law_665 : decode cL_law 665 = .ok (.iaload, 1) := by decide +kernel
theorem dL_law_666 : decode cL_law 666 = .ok (.invokevirtual 96, 3) := by decide +kernel
theorem dL_law_669 : decode cL_law 669 = .ok (.if_icmp .eq 233, 3) := by decide +kernel
theorem dL_law_672 : decode cL_law 672 = .ok (.iconst 0, 1) := by decide +kernel
theorem dL_law_673 : decode cL_law 673 = .ok (.ireturn, 1) := by decide +kernel
theorem dL_law_674 : decode cL_law 674 = .ok (.aload_n 1, 1) := by decide +kernel
theorem dL_law_675 : decode cL_law 675 = .ok (.aload_n 0, 1) := by decide +kernel
theorem dL_law_676 : decode cL_law 676 = .ok (.iload_n 3, 1) := by decide +kernel
theorem dL_law_677 : decode cL_law 677 = .ok (.iconst 1, 1) := by decide +kernel
theorem dL_law_678 : decode cL_law 678 = .ok (.iadd, 1) := by decide +kernel
theorem dL_law_679 : decode cL_law 679 = .ok (.iaload, 1) := by decide +kernel
theorem dL_law_680 : decode cL_law 680 = .ok (.aload_n 0, 1) := by decide +kernel
theorem dL_law_681 : decode cL_law 681 = .ok (.iload_n 3, 1) := by decide +kernel
theorem dL_law_682 : decode cL_law 682 = .ok (.iconst 2, 1) := by decide +kernel
theorem dL_law_683 : decode cL_law 683 = .ok (.iadd, 1) := by decide +kernel
theorem dL_law_684 : decode cL_law 684 = .ok (.iaload, 1) := by decide +kernel
theorem dL_law_685 : decode cL_law 685 = .ok (.aload_n 0, 1) := by decide +kernel
theorem dL_law_686 : decode cL_law 686 = .ok (.iload_n 3, 1) := by decide +kernel
theorem dL_law_687 : decode cL_law 687 = .ok (.iconst 3, 1) := by decide +kernel
theorem dL_law_688 : decode cL_law 688 = .ok (.iadd, 1) := by decide +kernel
theorem dL_law_689 : decode cL_law 689 = .ok (.iaload, 1) := by decide +kernel
theorem dL_law_690 : decode cL_law 690 = .ok (.invokevirtual 97, 3) := by decide +kernel
theorem dL_law_693 : decode cL_law 693 = .ok (.aload_n 2, 1) := by decide +kernel
theorem dL_law_694 : decode cL_law 694 = .ok (.aload_n 0, 1) := by decide +kernel
theorem dL_law_695 : decode cL_law 695 = .ok (.iload_n 3, 1) := by decide +kernel
theorem dL_law_696 : decode cL_law 696 = .ok (.iconst 1, 1) := by decide +kernel
theorem dL_law_697 : decode cL_law 697 = .ok (.iadd, 1) := by decide +kernel
theorem dL_law_698 : decode cL_law 698 = .ok (.iaload, 1) := by decide +kernel
theorem dL_law_699 : decode cL_law 699 = .ok (.aload_n 0, 1) := by decide +kernel
theorem dL_law_700 : decode cL_law 700 = .ok (.iload_n 3, 1) := by decide +kernel
theorem dL_law_701 : decode cL_law 701 = .ok (.iconst 2, 1) := by decide +kernel
theorem dL_law_702 : decode cL_law 702 = .ok (.iadd, 1) := by decide +kernel
theorem dL_law_703 : decode cL_law 703 = .ok (.iaload, 1) := by decide +kernel
theorem dL_law_704 : decode cL_law 704 = .ok (.aload_n 0, 1) := by decide +kernel
theorem dL_law_705 : decode cL_law 705 = .ok (.iload_n 3, 1) := by decide +kernel
theorem dL_law_706 : decode cL_law 706 = .ok (.iconst 3, 1) := by decide +kernel
theorem dL_law_707 : decode cL_law 707 = .ok (.iadd, 1) := by decide +kernel
theorem dL_law_708 : decode cL_law 708 = .ok (.iaload, 1) := by decide +kernel
theorem dL_law_709 : decode cL_law 709 = .ok (.invokevirtual 100, 3) := by decide +kernel
theorem dL_law_712 : decode cL_law 712 = .ok (.if_icmp .eq 190, 3) := by decide +kernel
theorem dL_law_715 : decode cL_law 715 = .ok (.iconst 0, 1) := by decide +kernel
theorem dL_law_716 : decode cL_law 716 = .ok (.ireturn, 1) := by decide +kernel
theorem dL_law_717 : decode cL_law 717 = .ok (.aload_n 1, 1) := by decide +kernel
theorem dL_law_718 : decode cL_law 718 = .ok (.aload_n 0, 1) := by decide +kernel
theorem dL_law_719 : decode cL_law 719 = .ok (.iload_n 3, 1) := by decide +kernel
theorem dL_law_720 : decode cL_law 720 = .ok (.iconst 1, 1) := by decide +kernel
theorem dL_law_721 : decode cL_law 721 = .ok (.iadd, 1) := by decide +kernel
theorem dL_law_722 : decode cL_law 722 = .ok (.iaload, 1) := by decide +kernel
theorem dL_law_723 : decode cL_law 723 = .ok (.aload_n 0, 1) := by decide +kernel
theorem dL_law_724 : decode cL_law 724 = .ok (.iload_n 3, 1) := by decide +kernel
theorem dL_law_725 : decode cL_law 725 = .ok (.iconst 2, 1) := by decide +kernel
theorem dL_law_726 : decode cL_law 726 = .ok (.iadd, 1) := by decide +kernel
theorem dL_law_727 : decode cL_law 727 = .ok (.iaload, 1) := by decide +kernel
theorem dL_law_728 : decode cL_law 728 = .ok (.aload_n 0, 1) := by decide +kernel
theorem dL_law_729 : decode cL_law 729 = .ok (.iload_n 3, 1) := by decide +kernel
theorem dL_law_730 : decode cL_law 730 = .ok (.iconst 3, 1) := by decide +kernel
theorem dL_law_731 : decode cL_law 731 = .ok (.iadd, 1) := by decide +kernel
theorem dL_law_732 : decode cL_law 732 = .ok (.iaload, 1) := by decide +kernel
theorem dL_law_733 : decode cL_law 733 = .ok (.invokevirtual 101, 3) := by decide +kernel
theorem dL_law_736 : decode cL_law 736 = .ok (.aload_n 2, 1) := by decide +kernel
theorem dL_law_737 : decode cL_law 737 = .ok (.aload_n 0, 1) := by decide +kernel
theorem dL_law_738 : decode cL_law 738 = .ok (.iload_n 3, 1) := by decide +kernel
theorem dL_law_739 : decode cL_law 739 = .ok (.iconst 1, 1) := by decide +kernel
theorem dL_law_740 : decode cL_law 740 = .ok (.iadd, 1) := by decide +kernel
theorem dL_law_741 : decode cL_law 741 = .ok (.iaload, 1) := by decide +kernel
theorem dL_law_742 : decode cL_law 742 = .ok (.aload_n 0, 1) := by decide +kernel
theorem dL_law_743 : decode cL_law 743 = .ok (.iload_n 3, 1) := by decide +kernel
theorem dL_law_744 : decode cL_law 744 = .ok (.iconst 2, 1) := by decide +kernel
theorem dL_law_745 : decode cL_law 745 = .ok (.iadd, 1) := by decide +kernel
theorem dL_law_746 : decode cL_law 746 = .ok (.iaload, 1) := by decide +kernel
theorem dL_law_747 : decode cL_law 747 = .ok (.aload_n 0, 1) := by decide +kernel
theorem dL_law_748 : decode cL_law 748 = .ok (.iload_n 3, 1) := by decide +kernel
theorem dL_law_749 : decode cL_law 749 = .ok (.iconst 3, 1) := by decide +kernel
theorem dL_law_750 : decode cL_law 750 = .ok (.iadd, 1) := by decide +kernel
theorem dL_law_751 : decode cL_law 751 = .ok (.iaload, 1) := by decide +kernel
theorem dL_law_752 : decode cL_law 752 = .ok (.invokevirtual 104, 3) := by decide +kernel
theorem dL_law_755 : decode cL_law 755 = .ok (.if_icmp .eq 147, 3) := by decide +kernel
theorem dL_law_758 : decode cL_law 758 = .ok (.iconst 0, 1) := by decide +kernel
theorem dL_law_759 : decode cL_law 759 = .ok (.ireturn, 1) := by decide +kernel
theorem dL_law_760 : decode cL_law 760 = .ok (.aload_n 1, 1) := by decide +kernel
theorem dL_law_761 : decode cL_law 761 = .ok (.invokevirtual 105, 3) := by decide +kernel
theorem dL_law_764 : decode cL_law 764 = .ok (.aload_n 2, 1) := by decide +kernel
theorem dL_law_765 : decode cL_law 765 = .ok (.invokevirtual 108, 3) := by decide +kernel
theorem dL_law_768 : decode cL_law 768 = .ok (.if_icmp .eq 134, 3) := by decide +kernel
theorem dL_law_771 : decode cL_law 771 = .ok (.iconst 0, 1) := by decide +kernel
theorem dL_law_772 : decode cL_law 772 = .ok (.ireturn, 1) := by decide +kernel
theorem dL_law_773 : decode cL_law 773 = .ok (.aload_n 1, 1) := by decide +kernel
theorem dL_law_774 : decode cL_law 774 = .ok (.aload_n 0, 1) := by decide +kernel
theorem dL_law_775 : decode cL_law 775 = .ok (.iload_n 3, 1) := by decide +kernel
theorem dL_law_776 : decode cL_law 776 = .ok (.iconst 1, 1) := by decide +kernel
theorem dL_law_777 : decode cL_law 777 = .ok (.iadd, 1) := by decide +kernel
theorem dL_law_778 : decode cL_law 778 = .ok (.iaload, 1) := by decide +kernel
theorem dL_law_779 : decode cL_law 779 = .ok (.invokevirtual 109, 3) := by decide +kernel
theorem dL_law_782 : decode cL_law 782 = .ok (.aload_n 2, 1) := by decide +kernel
theorem dL_law_783 : decode cL_law 783 = .ok (.aload_n 0, 1) := by decide +kernel
theorem dL_law_784 : decode cL_law 784 = .ok (.iload_n 3, 1) := by decide +kernel
theorem dL_law_785 : decode cL_law 785 = .ok (.iconst 1, 1) := by decide +kernel
theorem dL_law_786 : decode cL_law 786 = .ok (.iadd, 1) := by decide +kernel
theorem dL_law_787 : decode cL_law 787 = .ok (.iaload, 1) := by decide +kernel
theorem dL_law_788 : decode cL_law 788 = .ok (.invokevirtual 112, 3) := by decide +kernel
theorem dL_law_791 : decode cL_law 791 = .ok (.if_icmp .eq 111, 3) := by decide +kernel
theorem dL_law_794 : decode cL_law 794 = .ok (.iconst 0, 1) := by decide +kernel
theorem dL_law_795 : decode cL_law 795 = .ok (.ireturn, 1) := by decide +kernel
theorem dL_law_796 : decode cL_law 796 = .ok (.aload_n 1, 1) := by decide +kernel
theorem dL_law_797 : decode cL_law 797 = .ok (.aload_n 0, 1) := by decide +kernel
theorem dL_law_798 : decode cL_law 798 = .ok (.iload_n 3, 1) := by decide +kernel
theorem dL_law_799 : decode cL_law 799 = .ok (.iconst 1, 1) := by decide +kernel
theorem dL_law_800 : decode cL_law 800 = .ok (.iadd, 1) := by decide +kernel
theorem dL_law_801 : decode cL_law 801 = .ok (.iaload, 1) := by decide +kernel
theorem dL_law_802 : decode cL_law 802 = .ok (.aload_n 0, 1) := by decide +kernel
theorem dL_law_803 : decode cL_law 803 = .ok (.iload_n 3, 1) := by decide +kernel
theorem dL_law_804 : decode cL_law 804 = .ok (.iconst 2, 1) := by decide +kernel
theorem dL_law_805 : decode cL_law 805 = .ok (.iadd, 1) := by decide +kernel
theorem dL_law_806 : decode cL_law 806 = .ok (.iaload, 1) := by decide +kernel
theorem dL_law_807 : decode cL_law 807 = .ok (.aload_n 0, 1) := by decide +kernel
theorem dL_law_808 : decode cL_law 808 = .ok (.iload_n 3, 1) := by decide +kernel
theorem dL_law_809 : decode cL_law 809 = .ok (.iconst 3, 1) := by decide +kernel
theorem dL_law_810 : decode cL_law 810 = .ok (.iadd, 1) := by decide +kernel
theorem dL_law_811 : decode cL_law 811 = .ok (.iaload, 1) := by decide +kernel
theorem dL_law_812 : decode cL_law 812 = .ok (.invokevirtual 113, 3) := by decide +kernel
theorem dL_law_815 : decode cL_law 815 = .ok (.aload_n 2, 1) := by decide +kernel
theorem dL_law_816 : decode cL_law 816 = .ok (.aload_n 0, 1) := by decide +kernel
theorem dL_law_817 : decode cL_law 817 = .ok (.iload_n 3, 1) := by decide +kernel
theorem dL_law_818 : decode cL_law 818 = .ok (.iconst 1, 1) := by decide +kernel
theorem dL_law_819 : decode cL_law 819 = .ok (.iadd, 1) := by decide +kernel
theorem dL_law_820 : decode cL_law 820 = .ok (.iaload, 1) := by decide +kernel
theorem dL_law_821 : decode cL_law 821 = .ok (.aload_n 0, 1) := by decide +kernel
theorem dL_law_822 : decode cL_law 822 = .ok (.iload_n 3, 1) := by decide +kernel
theorem dL_law_823 : decode cL_law 823 = .ok (.iconst 2, 1) := by decide +kernel
theorem dL_law_824 : decode cL_law 824 = .ok (.iadd, 1) := by decide +kernel
theorem dL_law_825 : decode cL_law 825 = .ok (.iaload, 1) := by decide +kernel
theorem dL_law_826 : decode cL_law 826 = .ok (.aload_n 0, 1) := by decide +kernel
theorem dL_law_827 : decode cL_law 827 = .ok (.iload_n 3, 1) := by decide +kernel
theorem dL_law_828 : decode cL_law 828 = .ok (.iconst 3, 1) := by decide +kernel
theorem dL_law_829 : decode cL_law 829 = .ok (.iadd, 1) := by decide +kernel
theorem dL_law_830 : decode cL_law 830 = .ok (.iaload, 1) := by decide +kernel
theorem dL_law_831 : decode cL_law 831 = .ok (.invokevirtual 116, 3) := by decide +kernel
theorem dL_law_834 : decode cL_law 834 = .ok (.if_icmp .eq 68, 3) := by decide +kernel
theorem dL_law_837 : decode cL_law 837 = .ok (.iconst 0, 1) := by decide +kernel
theorem dL_law_838 : decode cL_law 838 = .ok (.ireturn, 1) := by decide +kernel
theorem dL_law_839 : decode cL_law 839 = .ok (.aload_n 1, 1) := by decide +kernel
theorem dL_law_840 : decode cL_law 840 = .ok (.invokevirtual 117, 3) := by decide +kernel
theorem dL_law_843 : decode cL_law 843 = .ok (.aload_n 2, 1) := by decide +kernel
theorem dL_law_844 : decode cL_law 844 = .ok (.invokevirtual 120, 3) := by decide +kernel
theorem dL_law_847 : decode cL_law 847 = .ok (.if_icmp .eq 55, 3) := by decide +kernel
theorem dL_law_850 : decode cL_law 850 = .ok (.iconst 0, 1) := by decide +kernel
theorem dL_law_851 : decode cL_law 851 = .ok (.ireturn, 1) := by decide +kernel
theorem dL_law_852 : decode cL_law 852 = .ok (.aload_n 1, 1) := by decide +kernel
theorem dL_law_853 : decode cL_law 853 = .ok (.invokevirtual 121, 3) := by decide +kernel
theorem dL_law_856 : decode cL_law 856 = .ok (.aload_n 2, 1) := by decide +kernel
theorem dL_law_857 : decode cL_law 857 = .ok (.invokevirtual 124, 3) := by decide +kernel
theorem dL_law_860 : decode cL_law 860 = .ok (.if_icmp .eq 42, 3) := by decide +kernel
theorem dL_law_863 : decode cL_law 863 = .ok (.iconst 0, 1) := by decide +kernel
theorem dL_law_864 : decode cL_law 864 = .ok (.ireturn, 1) := by decide +kernel
theorem dL_law_865 : decode cL_law 865 = .ok (.aload_n 1, 1) := by decide +kernel
theorem dL_law_866 : decode cL_law 866 = .ok (.aload_n 0, 1) := by decide +kernel
theorem dL_law_867 : decode cL_law 867 = .ok (.iload_n 3, 1) := by decide +kernel
theorem dL_law_868 : decode cL_law 868 = .ok (.iconst 1, 1) := by decide +kernel
theorem dL_law_869 : decode cL_law 869 = .ok (.iadd, 1) := by decide +kernel
theorem dL_law_870 : decode cL_law 870 = .ok (.iaload, 1) := by decide +kernel
theorem dL_law_871 : decode cL_law 871 = .ok (.invokevirtual 125, 3) := by decide +kernel
theorem dL_law_874 : decode cL_law 874 = .ok (.aload_n 2, 1) := by decide +kernel
theorem dL_law_875 : decode cL_law 875 = .ok (.aload_n 0, 1) := by decide +kernel
theorem dL_law_876 : decode cL_law 876 = .ok (.iload_n 3, 1) := by decide +kernel
theorem dL_law_877 : decode cL_law 877 = .ok (.iconst 1, 1) := by decide +kernel
theorem dL_law_878 : decode cL_law 878 = .ok (.iadd, 1) := by decide +kernel
theorem dL_law_879 : decode cL_law 879 = .ok (.iaload, 1) := by decide +kernel
theorem dL_law_880 : decode cL_law 880 = .ok (.invokevirtual 128, 3) := by decide +kernel
theorem dL_law_883 : decode cL_law 883 = .ok (.if_icmp .eq 19, 3) := by decide +kernel
theorem dL_law_886 : decode cL_law 886 = .ok (.iconst 0, 1) := by decide +kernel
theorem dL_law_887 : decode cL_law 887 = .ok (.ireturn, 1) := by decide +kernel
theorem dL_law_888 : decode cL_law 888 = .ok (.aload_n 1, 1) := by decide +kernel
theorem dL_law_889 : decode cL_law 889 = .ok (.invokevirtual 129, 3) := by decide +kernel
theorem dL_law_892 : decode cL_law 892 = .ok (.aload_n 2, 1) := by decide +kernel
theorem dL_law_893 : decode cL_law 893 = .ok (.invokevirtual 133, 3) := by decide +kernel
theorem dL_law_896 : decode cL_law 896 = .ok (.lcmp, 1) := by decide +kernel
theorem dL_law_897 : decode cL_law 897 = .ok (.ifCond .eq 5, 3) := by decide +kernel
theorem dL_law_900 : decode cL_law 900 = .ok (.iconst 0, 1) := by decide +kernel
theorem dL_law_901 : decode cL_law 901 = .ok (.ireturn, 1) := by decide +kernel
theorem dL_law_902 : decode cL_law 902 = .ok (.iinc 3 4, 3) := by decide +kernel
theorem dL_law_905 : decode cL_law 905 = .ok (.goto (-887), 3) := by decide +kernel
theorem dL_law_908 : decode cL_law 908 = .ok (.iconst 1, 1) := by decide +kernel
theorem dL_law_909 : decode cL_law 909 = .ok (.ireturn, 1) := by decide +kernel
end
section
/-! The worlds of this claim: all cells that the two constructors make stand side by side from the base on; nothing is made behind them. A memory: int at (cell, place), long at a cell. -/
abbrev Mm : Type := (Nat → Nat → Int32) × (Nat → Int64)
/-- classes and slots, base, array classes (0 int[], 1 Guest[], 2 int[][]), the address of SWAYS -/
abbrev Gm : Type := va_G × Nat × (Nat → ClassId) × Nat
abbrev Sh : Type := (Nat × List Nat) ⊕ (Nat ⊕ (Nat × List Nat))
def shpL : List Sh := [Sum.inl (8, [3, 5, 8, 20, 25, 29, 43, 0, 0]),
  Sum.inl (5, [4, 0]),
  Sum.inr (Sum.inl 22),
  Sum.inl (4, [6, 7, 0, 0]),
  Sum.inr (Sum.inl 6),
  Sum.inr (Sum.inl 6),
  Sum.inl (6, [9, 0]),
  Sum.inr (Sum.inr (1, [8, 10, 12, 14, 16])),
  Sum.inl (1, [11, 0, 0, 0]),
  Sum.inr (Sum.inl 6),
  Sum.inl (1, [13, 0, 0, 0]),
  Sum.inr (Sum.inl 6),
  Sum.inl (1, [15, 0, 0, 0]),
  Sum.inr (Sum.inl 6),
  Sum.inl (1, [17, 0, 0, 0]),
  Sum.inr (Sum.inl 6),
  Sum.inl (1, [19, 0, 0, 0]),
  Sum.inr (Sum.inl 6),
  Sum.inl (7, [5, 8, 21, 22, 23, 24, 0, 0, 0]),
  Sum.inr (Sum.inl 6),
  Sum.inr (Sum.inl 6),
  Sum.inr (Sum.inl 5),
  Sum.inr (Sum.inl 5),
  Sum.inl (3, [26, 27, 28, 0]),
  Sum.inr (Sum.inl 4),
  Sum.inr (Sum.inl 4),
  Sum.inr (Sum.inl 4),
  Sum.inl (0, [5, 8, 20, 38, 30, 31, 32, 0, 0, 1]),
  Sum.inr (Sum.inl 32),
  Sum.inr (Sum.inl 32),
  Sum.inr (Sum.inr (2, [31, 32, 33, 34, 35])),
  Sum.inr (Sum.inl 6),
  Sum.inr (Sum.inl 6),
  Sum.inr (Sum.inl 6),
  Sum.inr (Sum.inl 6),
  Sum.inr (Sum.inl 6),
  Sum.inl (7, [5, 8, 39, 40, 41, 42, 0, 0, 0]),
  Sum.inr (Sum.inl 6),
  Sum.inr (Sum.inl 6),
  Sum.inr (Sum.inl 5),
  Sum.inr (Sum.inl 5),
  Sum.inl (2, [51, 56, 44, 50, 0, 0]),
  Sum.inr (Sum.inr (2, [43, 44, 45, 46, 47])),
  Sum.inr (Sum.inl 6),
  Sum.inr (Sum.inl 6),
  Sum.inr (Sum.inl 6),
  Sum.inr (Sum.inl 6),
  Sum.inr (Sum.inl 6),
  Sum.inr (Sum.inl 5),
  Sum.inl (7, [5, 8, 52, 53, 54, 55, 0, 0, 0]),
  Sum.inr (Sum.inl 6),
  Sum.inr (Sum.inl 6),
  Sum.inr (Sum.inl 5),
  Sum.inr (Sum.inl 5),
  Sum.inl (3, [57, 58, 59, 0]),
  Sum.inr (Sum.inl 4),
  Sum.inr (Sum.inl 4),
  Sum.inr (Sum.inl 4),
  Sum.inl (9, [61, 0, 62, 63, 0, 0, 0, 0, 0, 0, 0, 0, 64, 65, 0, 66, 67, 68, 0, 0, 0, 69, 0, 0, 70, 0, 71, 0, 0, 0, 0, 0, 72, 73, 74, 75, 1]),
  Sum.inr (Sum.inl 22),
  Sum.inr (Sum.inl 6),
  Sum.inr (Sum.inl 6),
  Sum.inr (Sum.inl 6),
  Sum.inr (Sum.inl 6),
  Sum.inr (Sum.inl 10),
  Sum.inr (Sum.inl 30),
  Sum.inr (Sum.inl 5),
  Sum.inr (Sum.inl 5),
  Sum.inr (Sum.inl 12),
  Sum.inr (Sum.inl 30),
  Sum.inr (Sum.inl 30),
  Sum.inr (Sum.inl 10),
  Sum.inr (Sum.inl 5),
  Sum.inr (Sum.inl 12)]
/-- the words of the tables that are good everywhere -/
def TB : List Cond := lw_tbl.filter goodWord
theorem TB_good : GoodIn TB TB := fun w hw => ⟨hw, good_of_word (List.mem_filter.mp hw).2⟩
abbrev Md : Type := MethodName × ByteArray × Nat × Option FieldType
def rmD (n : Nat) : Room := { frames := n, cells := 0, slots := 0, locals := 128 * n }
abbrev rf (Γ : Gm) (a : Nat) : Value := .ref (Γ.2.1 + a)
def tysG (Γ : Gm) : List (ClassId × FieldType) := [(Γ.2.2.1 0, .int), (Γ.2.2.1 1, .object "OrdersInTurn$Guest"), (Γ.2.2.1 2, .array .int)]
def fval (Γ : Gm) (σ : Mm) (a k : Nat) : Nat → Value
  | 0 => .int (σ.1 a k)
  | 1 => .long (σ.2 a)
  | r + 2 => rf Γ r
def flds (Γ : Gm) (σ : Mm) (a : Nat) (tpl : List Nat) : List Value := tpl.mapIdx (fun k t => fval Γ σ a k t)
theorem flds_get {Γ : Gm} {σ : Mm} {a k t : Nat} {tpl : List Nat} (h : tpl[k]? = some t) : (flds Γ σ a tpl)[k]? = some (fval Γ σ a k t) := by
  simp [flds, List.getElem?_mapIdx, h]
theorem flds_len {Γ : Gm} {σ : Mm} {a : Nat} {tpl : List Nat} : (flds Γ σ a tpl).length = tpl.length := by simp [flds]
def entS (Γ : Gm) (σ : Mm) (a : Nat) : Sh → va_E
  | .inl (ci, tpl) => .inr (ci, flds Γ σ a tpl)
  | .inr (.inl n) => .inl (Γ.2.2.1 0, n, .inl (σ.1 a))
  | .inr (.inr (t, rs)) => .inl (Γ.2.2.1 t, rs.length, .inr (.inr (.inr (.inr (fun j => (rs[j]?).map (Γ.2.1 + ·))))))
def wl (Γ : Gm) (σ : Mm) : va_W := shpL.mapIdx (fun a h => (Γ.2.1 + a, entS Γ σ a h))
def AB (Γ : Gm) : Nat → Prop := fun q => Γ.2.1 ≤ q ∧ q < Γ.2.1 + 74
theorem shpL_len : shpL.length = 74 := by decide +kernel
theorem shp_lt {a : Nat} {h : Sh} (e : shpL[a]? = some h) : a < 74 := by
  have := (List.getElem?_eq_some_iff.mp e).1
  rw [shpL_len] at this
  exact this
theorem wl_get {Γ : Gm} {σ : Mm} {a : Nat} {h : Sh} (e : shpL[a]? = some h) : (wl Γ σ)[a]? = some (Γ.2.1 + a, entS Γ σ a h) := by
  simp [wl, List.getElem?_mapIdx, e]
theorem wl_D {Γ : Gm} {σ : Mm} : va_D (AB Γ) (wl Γ σ) := by
  have key : ∀ (i : Nat) (p : Nat × va_E), (wl Γ σ)[i]? = some p → p.1 = Γ.2.1 + i ∧ i < 74 := by
    intro i p h
    simp only [wl, List.getElem?_mapIdx] at h
    cases e : shpL[i]? with
    | none => rw [e] at h; cases h
    | some x => rw [e] at h; cases h; exact ⟨rfl, shp_lt e⟩
  refine ⟨fun i j p q hi hj hpq => ?_, fun k q hk => ?_⟩
  · have := (key i p hi).1
    have := (key j q hj).1
    omega
  · have h1 := (key k q hk).1
    have h2 := (key k q hk).2
    show Γ.2.1 ≤ q.1 ∧ q.1 < Γ.2.1 + 74
    omega
/-- stores -/
def stI (σ : Mm) (a k : Nat) (v : Int32) : Mm := (fun x y => if x = a ∧ y = k then v else σ.1 x y, σ.2)
def stL (σ : Mm) (a : Nat) (v : Int64) : Mm := (σ.1, fun x => if x = a then v else σ.2 x)
def stA (σ : Mm) (a : Nat) (f : Nat → Int32) : Mm := (fun x => if x = a then f else σ.1 x, σ.2)
theorem stI_at {σ : Mm} {a k : Nat} {v : Int32} : (stI σ a k v).1 a k = v := by simp [stI]
theorem stI_ne {σ : Mm} {a k x y : Nat} {v : Int32} (h : x ≠ a ∨ y ≠ k) : (stI σ a k v).1 x y = σ.1 x y := by
  have : ¬ (x = a ∧ y = k) := fun q => h.elim (fun z => z q.1) (fun z => z q.2)
  simp [stI, this]
theorem stI_2 {σ : Mm} {a k : Nat} {v : Int32} : (stI σ a k v).2 = σ.2 := rfl
theorem stL_1 {σ : Mm} {a : Nat} {v : Int64} : (stL σ a v).1 = σ.1 := rfl
theorem stL_at {σ : Mm} {a : Nat} {v : Int64} : (stL σ a v).2 a = v := by simp [stL]
theorem stA_at {σ : Mm} {a : Nat} {f : Nat → Int32} : (stA σ a f).1 a = f := by simp [stA]
theorem stA_ne {σ : Mm} {a x : Nat} {f : Nat → Int32} (h : x ≠ a) : (stA σ a f).1 x = σ.1 x := by simp [stA, h]
theorem stA_2 {σ : Mm} {a : Nat} {f : Nat → Int32} : (stA σ a f).2 = σ.2 := rfl
theorem wl_ext {Γ : Gm} {W W' : va_W} (hl : W.length = W'.length) (h : ∀ (i : Nat) (x y : Nat × va_E), W[i]? = some x → W'[i]? = some y → x = y) : W = W' := by
  apply List.ext_getElem? 
  intro i
  by_cases hi : i < W.length
  · rw [List.getElem?_eq_getElem hi, List.getElem?_eq_getElem (hl ▸ hi)]
    exact congrArg some (h i _ _ (List.getElem?_eq_getElem hi) (List.getElem?_eq_getElem (hl ▸ hi)))
  · rw [List.getElem?_eq_none (by omega), List.getElem?_eq_none (by omega)]
theorem wl_len {Γ : Gm} {σ : Mm} : (wl Γ σ).length = 74 := by simp [wl, shpL_len]
/-- a world with another entry at a is the world of another memory that is the same elsewhere -/
theorem wl_upd {Γ : Gm} {σ σ' : Mm} {a : Nat} {h : Sh} {e : va_E} (ha : shpL[a]? = some h) (he : entS Γ σ' a h = e) (ho : ∀ (x : Nat) (h' : Sh), x ≠ a → shpL[x]? = some h' → entS Γ σ' x h' = entS Γ σ x h') : (wl Γ σ).set a (Γ.2.1 + a, e) = wl Γ σ' := by
  refine wl_ext (Γ := Γ) (by rw [List.length_set, wl_len, wl_len]) fun i x y hx hy => ?_
  have hi : i < 74 := by have := (List.getElem?_eq_some_iff.mp hy).1; rw [wl_len] at this; exact this
  obtain ⟨h', e'⟩ : ∃ h', shpL[i]? = some h' := ⟨_, List.getElem?_eq_getElem (by rw [shpL_len]; exact hi)⟩
  rw [wl_get e'] at hy
  by_cases q : i = a
  · subst q
    rw [List.getElem?_set_self (by rw [wl_len]; exact hi)] at hx
    rw [ha] at e'
    cases e'
    cases hx
    cases hy
    rw [he]
  · rw [List.getElem?_set_ne (Ne.symm q), wl_get e'] at hx
    cases hx
    cases hy
    rw [ho i h' q e']
theorem entS_ext {Γ : Gm} {σ σ' : Mm} {a : Nat} {h : Sh} (h1 : σ'.1 a = σ.1 a) (h2 : σ'.2 a = σ.2 a) : entS Γ σ' a h = entS Γ σ a h := by
  rcases h with ⟨ci, tpl⟩ | n | ⟨t, rs⟩
  · have e : ∀ k t, fval Γ σ' a k t = fval Γ σ a k t := by
      intro k t
      match t with
      | 0 => simp [fval, h1]
      | 1 => simp [fval, h2]
      | r + 2 => rfl
    simp [entS, flds, e]
  · simp [entS, h1]
  · rfl
theorem wl_stI {Γ : Gm} {σ : Mm} {a k ci : Nat} {tpl : List Nat} {v : Int32} (ha : shpL[a]? = some (.inl (ci, tpl))) (hk : tpl[k]? = some 0) : (wl Γ σ).set a (Γ.2.1 + a, .inr (ci, (flds Γ σ a tpl).set k (.int v))) = wl Γ (stI σ a k v) := by
  refine wl_upd ha ?_ fun x h' q e => entS_ext (funext fun y => stI_ne (Or.inl q)) rfl
  show Sum.inr (ci, flds Γ (stI σ a k v) a tpl) = Sum.inr (ci, (flds Γ σ a tpl).set k (.int v))
  congr 2
  apply List.ext_getElem?
  intro i
  have hkl : k < (flds Γ σ a tpl).length := by rw [flds_len]; exact (List.getElem?_eq_some_iff.mp hk).1
  by_cases q : i = k
  · subst q
    rw [List.getElem?_set_self hkl, flds_get hk]
    simp [fval, stI]
  · rw [List.getElem?_set_ne (Ne.symm q)]
    simp only [flds, List.getElem?_mapIdx]
    cases tpl[i]? with
    | none => rfl
    | some t =>
      match t with
      | 0 => simp [fval, stI, q]
      | 1 => rfl
      | r + 2 => rfl
theorem wl_stL {Γ : Gm} {σ : Mm} {a k ci : Nat} {tpl : List Nat} {v : Int64} (ha : shpL[a]? = some (.inl (ci, tpl))) (hk : tpl[k]? = some 1) (hu : ∀ i, i ≠ k → tpl[i]? ≠ some 1) : (wl Γ σ).set a (Γ.2.1 + a, .inr (ci, (flds Γ σ a tpl).set k (.long v))) = wl Γ (stL σ a v) := by
  refine wl_upd ha ?_ fun x h' q e => entS_ext rfl (by simp [stL, q])
  show Sum.inr (ci, flds Γ (stL σ a v) a tpl) = Sum.inr (ci, (flds Γ σ a tpl).set k (.long v))
  congr 2
  apply List.ext_getElem?
  intro i
  have hkl : k < (flds Γ σ a tpl).length := by rw [flds_len]; exact (List.getElem?_eq_some_iff.mp hk).1
  by_cases q : i = k
  · subst q
    rw [List.getElem?_set_self hkl, flds_get hk]
    simp [fval, stL]
  · rw [List.getElem?_set_ne (Ne.symm q)]
    have h1 := hu i q
    simp only [flds, List.getElem?_mapIdx]
    cases e : tpl[i]? with
    | none => rfl
    | some t =>
      match t with
      | 0 => rfl
      | 1 => exact absurd e h1
      | r + 2 => rfl
theorem wl_stE {Γ : Gm} {σ : Mm} {a n i : Nat} {v : Int32} (ha : shpL[a]? = some (.inr (.inl n))) : (wl Γ σ).set a (Γ.2.1 + a, .inl (Γ.2.2.1 0, n, .inl (upd (σ.1 a) i v))) = wl Γ (stI σ a i v) := by
  refine wl_upd ha ?_ fun x h' q e => entS_ext (funext fun y => stI_ne (Or.inl q)) rfl
  have e : (stI σ a i v).1 a = upd (σ.1 a) i v := by funext j; simp [stI, upd]
  simp [entS, e]
theorem wl_stA {Γ : Gm} {σ : Mm} {a n : Nat} {f : Nat → Int32} (ha : shpL[a]? = some (.inr (.inl n))) : (wl Γ σ).set a (Γ.2.1 + a, .inl (Γ.2.2.1 0, n, .inl f)) = wl Γ (stA σ a f) := by
  refine wl_upd ha ?_ fun x h' q e => entS_ext (stA_ne q) rfl
  simp [entS, stA_at]
/-- locals by place -/
def cvL : Nat → List (Option Value) → List (Nat × Value)
  | _, [] => []
  | i, none :: r => cvL (i + 1) r
  | i, some v :: r => (i, v) :: cvL (i + 1) r
theorem cvL_mem : ∀ (L : List (Option Value)) (i : Nat) (q : Nat × Value), q ∈ cvL i L ↔ i ≤ q.1 ∧ L[q.1 - i]? = some (some q.2)
  | [], i, q => by simp [cvL]
  | none :: r, i, q => by
    rw [cvL, cvL_mem r (i + 1) q]
    constructor
    · rintro ⟨h1, h2⟩
      refine ⟨by omega, ?_⟩
      rw [show q.1 - i = (q.1 - (i + 1)) + 1 by omega, List.getElem?_cons_succ]
      exact h2
    · rintro ⟨h1, h2⟩
      by_cases e : q.1 = i
      · rw [e, Nat.sub_self] at h2
        simp at h2
      · rw [show q.1 - i = (q.1 - (i + 1)) + 1 by omega, List.getElem?_cons_succ] at h2
        exact ⟨by omega, h2⟩
  | some v :: r, i, q => by
    rw [cvL, List.mem_cons, cvL_mem r (i + 1) q]
    constructor
    · rintro (h | ⟨h1, h2⟩)
      · subst h; simp
      · refine ⟨by omega, ?_⟩
        rw [show q.1 - i = (q.1 - (i + 1)) + 1 by omega, List.getElem?_cons_succ]
        exact h2
    · rintro ⟨h1, h2⟩
      by_cases e : q.1 = i
      · rw [e, Nat.sub_self] at h2
        left
        obtain ⟨a, b⟩ := q
        simp at h2 e
        rw [e, h2]
      · rw [show q.1 - i = (q.1 - (i + 1)) + 1 by omega, List.getElem?_cons_succ] at h2
        exact Or.inr ⟨by omega, h2⟩
def LH (ls : Array Slot) (nL : Nat) (L : List (Option Value)) : Prop := lv_has ls nL (cvL 0 L)
theorem LH.at {ls : Array Slot} {nL : Nat} {L : List (Option Value)} (h : LH ls nL L) {i : Nat} {v : Value} (hk : L[i]? = some (some v)) : ls[i]? = some (.val v) := h.2.2 (i, v) ((cvL_mem L 0 (i, v)).mpr ⟨Nat.zero_le _, by simpa using hk⟩)
theorem LH.sub {ls : Array Slot} {nL : Nat} {L L' : List (Option Value)} (h : LH ls nL L) (hs : ∀ (i : Nat) (v : Value), L'[i]? = some (some v) → L[i]? = some (some v)) : LH ls nL L' :=
  ⟨h.1, h.2.1, fun q hq => h.2.2 q ((cvL_mem L 0 q).mpr ⟨Nat.zero_le _, hs _ _ ((cvL_mem L' 0 q).mp hq).2⟩)⟩
/-- forget some -/
def mskL : List Bool → List (Option Value) → List (Option Value)
  | true :: b, x :: r => x :: mskL b r
  | false :: b, _ :: r => none :: mskL b r
  | _, _ => []
theorem mskL_le : ∀ (b : List Bool) (L : List (Option Value)) (i : Nat) (v : Value), (mskL b L)[i]? = some (some v) → L[i]? = some (some v)
  | [], L, i, v => by simp [mskL]
  | b :: bs, [], i, v => by cases b <;> simp [mskL]
  | true :: bs, x :: r, 0, v => by simp [mskL]
  | false :: bs, x :: r, 0, v => by simp [mskL]
  | true :: bs, x :: r, i + 1, v => by simpa [mskL] using mskL_le bs r i v
  | false :: bs, x :: r, i + 1, v => by simpa [mskL] using mskL_le bs r i v
/-- the place below isn't one half of a long -/
def okS (L : List (Option Value)) : Nat → Bool
  | 0 => true
  | j + 1 => match L[j]? with
    | some (some v) => v.category == 1
    | _ => true
theorem LH.store1 {ls : Array Slot} {nL : Nat} {L : List (Option Value)} {i : Nat} {v : Value} (h : LH ls nL L) (hi : i < nL) (hc : v.category = 1) (ho : okS L i = true) : ∃ ls', storeLocals ls i v = some ls' ∧ LH ls' nL (L.set i (some v)) := by
  obtain ⟨ls', e, h'⟩ := lv_store1 (v := v) h hi hc
  refine ⟨ls', e, h'.1, h'.2.1, fun q hq => h'.2.2 q ?_⟩
  replace hq := ((cvL_mem _ 0 q).mp hq).2
  simp only [Nat.sub_zero] at hq
  by_cases e : q.1 = i
  · rw [e] at hq
    have hl : i < L.length := by
      have := (List.getElem?_eq_some_iff.mp hq).1
      simpa using this
    rw [List.getElem?_set_self hl] at hq
    have hv := Option.some.inj (Option.some.inj hq)
    exact List.mem_cons.mpr (Or.inl (Prod.ext e hv.symm))
  · rw [List.getElem?_set_ne (Ne.symm e)] at hq
    refine List.mem_cons.mpr (Or.inr (List.mem_filter.mpr ⟨(cvL_mem L 0 q).mpr ⟨Nat.zero_le _, by simpa using hq⟩, ?_⟩))
    have h1 : ¬ (q.1 + 1 = i ∧ q.2.category = 2) := by
      rintro ⟨h1, h2⟩
      subst h1
      simp only [okS] at ho
      split at ho
      · rename_i v9 hv9
        rw [hq] at hv9
        cases hv9
        rw [h2] at ho
        cases ho
      · rename_i hv9
        exact hv9 _ hq
    have h2 : ¬ q.1 + 1 = i ∨ ¬ q.2.category = 2 := by
      by_cases h3 : q.1 + 1 = i
      · exact Or.inr fun h4 => h1 ⟨h3, h4⟩
      · exact Or.inl h3
    simpa [e] using h2
theorem LH.store2 {ls : Array Slot} {nL : Nat} {L : List (Option Value)} {i : Nat} {v : Value} (h : LH ls nL L) (hi : i + 1 < nL) (hc : v.category = 2) (ho : okS L i = true) : ∃ ls', storeLocals ls i v = some ls' ∧ LH ls' nL ((L.set i (some v)).set (i + 1) none) := by
  obtain ⟨ls', e, h'⟩ := lv_store2 (v := v) h hi hc
  refine ⟨ls', e, h'.1, h'.2.1, fun q hq => h'.2.2 q ?_⟩
  replace hq := ((cvL_mem _ 0 q).mp hq).2
  simp only [Nat.sub_zero] at hq
  have e1 : q.1 ≠ i + 1 := by
    intro e1
    rw [e1] at hq
    have hl : i + 1 < (L.set i (some v)).length := by
      have := (List.getElem?_eq_some_iff.mp hq).1
      simpa using this
    rw [List.getElem?_set_self hl] at hq
    cases hq
  rw [List.getElem?_set_ne (Ne.symm e1)] at hq
  by_cases e : q.1 = i
  · rw [e] at hq
    have hl : i < L.length := by
      have := (List.getElem?_eq_some_iff.mp hq).1
      simpa using this
    rw [List.getElem?_set_self hl] at hq
    have hv := Option.some.inj (Option.some.inj hq)
    exact List.mem_cons.mpr (Or.inl (Prod.ext e hv.symm))
  · rw [List.getElem?_set_ne (Ne.symm e)] at hq
    refine List.mem_cons.mpr (Or.inr (List.mem_filter.mpr ⟨(cvL_mem L 0 q).mpr ⟨Nat.zero_le _, by simpa using hq⟩, ?_⟩))
    have h1 : ¬ (q.1 + 1 = i ∧ q.2.category = 2) := by
      rintro ⟨h1, h2⟩
      subst h1
      simp only [okS] at ho
      split at ho
      · rename_i v9 hv9
        rw [hq] at hv9
        cases hv9
        rw [h2] at ho
        cases ho
      · rename_i hv9
        exact hv9 _ hq
    have h2 : ¬ q.1 + 1 = i ∨ ¬ q.2.category = 2 := by
      by_cases h3 : q.1 + 1 = i
      · exact Or.inr fun h4 => h1 ⟨h3, h4⟩
      · exact Or.inl h3
    simpa [e, e1] using h2
/-- what else stands at every start: SWAYS -/
def swV (j : Nat) : Int32 := ([-1, 0, -2, 1, 2] : List Int32).getD j 0
def SWs (Γ : Gm) (U : State) : Prop := va_Z "OrdersInTurn" "SWAYS" "[I" (.ref Γ.2.2.2) (AB Γ) U U.heap ∧ va_T .int Γ.2.2.2 5 (fun j => .int (swV j)) (AB Γ) U U.heap ∧ va_Nw (.fieldLinkNest "OrdersInTurn$Guest" 22 "OrdersInTurn" "SWAYS" "[I" "OrdersInTurn") U
def Cx (Γ : Gm) (M : Md) (p : Program) (s : State) (m : MethodId) (args : Array Value) (meth : Method) (c : Code) : Prop :=
  p.tables.exec = Jvm.exec ∧ c.code = M.2.1 ∧ meth.sig.returnType = M.2.2.2 ∧ c.maxLocals = M.2.2.1 ∧ s.vm.findClass M.1.cls = some m.cls ∧ (∀ w ∈ TB, w.before args s = true) ∧ meth.locks = false ∧ va_K Γ.1 vwCl (tysG Γ) s ∧ SWs Γ s
def Wd (Γ : Gm) (σ : Mm) (U : State) : Prop := va_P Γ.1 vwCl (wl Γ σ) U.heap ∧ va_K Γ.1 vwCl (tysG Γ) U ∧ SWs Γ U
def Qo (Γ : Gm) (Q : Option Value → Mm → Prop) : Array Value → State → Outcome → State → Prop := fun _ st oc t => (∃ (v : Option Value) (σ' : Mm), oc = .returned v ∧ Q v σ' ∧ va_P Γ.1 vwCl (wl Γ σ') t.heap) ∧ va_F (AB Γ) st t
/-- from here the method comes to its end, with an answer and a memory that Q says -/
def Go (Γ : Gm) (n : Nat) (M : Md) (Q : Option Value → Mm → Prop) (pc : Nat) (L : List (Option Value)) (st : List Value) (σ : Mm) : Prop :=
  ∀ (p : Program) (l : Launch) (e : Env) (s : State) (m : MethodId) (args : Array Value) (below : List Frame) (meth : Method) (c : Code) (H : Heap) (locs : List Loc) (ls : Array Slot),
    Cx Γ M p s m args meth c → va_P Γ.1 vwCl (wl Γ σ) H → va_S (AB Γ) s.heap H locs → LH ls M.2.2.1 L →
    W p l e (rmD n) s m args below meth c H locs 0 0 (MQ below (Qo Γ Q) args s 0 0 (AB Γ)) (F0 m pc ls st)
/-- a method's contract -/
def Sp (Γ : Gm) (n : Nat) (M : Md) (av : List Value) (σ : Mm) (Q : Option Value → Mm → Prop) : Prop :=
  ∀ l : Launch, Met l M.1 (Cond.code M.1 M.2.1 M.2.2.1 M.2.2.2 :: TB) (rmD n) (va_Pc av (Wd Γ σ)) (Qo Γ Q) 0 0 (AB Γ)

section GO
variable {Γ : Gm} {n : Nat} {M : Md} {Q : Option Value → Mm → Prop} {pc : Nat} {L : List (Option Value)} {st : List Value} {σ : Mm}
theorem go_iconst {k : Int} {v : Int32} (d : decode M.2.1 pc = .ok (.iconst k, 1)) (hv : Int32.ofInt k = v) (k : Go Γ n M Q (pc + 1) L (.int v :: st) σ) : Go Γ n M Q pc L (st) σ := fun p l e s m args below meth c H locs ls C hP hS hl => lv_iconst C.1 C.2.1 d hv (k p l e s m args below meth c H locs ls C hP hS hl)
theorem go_bipush {k : Int} {v : Int32} (d : decode M.2.1 pc = .ok (.bipush k, 2)) (hv : (Int8.ofInt k).toInt32 = v) (k : Go Γ n M Q (pc + 2) L (.int v :: st) σ) : Go Γ n M Q pc L (st) σ := fun p l e s m args below meth c H locs ls C hP hS hl => lv_bipush C.1 C.2.1 d hv (k p l e s m args below meth c H locs ls C hP hS hl)
theorem go_sipush {k : Int} {v : Int32} (d : decode M.2.1 pc = .ok (.sipush k, 3)) (hv : (Int16.ofInt k).toInt32 = v) (k : Go Γ n M Q (pc + 3) L (.int v :: st) σ) : Go Γ n M Q pc L (st) σ := fun p l e s m args below meth c H locs ls C hP hS hl => lv_sipush C.1 C.2.1 d hv (k p l e s m args below meth c H locs ls C hP hS hl)
theorem go_lconst {k : Fin 2} {v : Int64} (d : decode M.2.1 pc = .ok (.lconst k, 1)) (hv : Int64.ofNat (k : Nat) = v) (k : Go Γ n M Q (pc + 1) L (.long v :: st) σ) : Go Γ n M Q pc L (st) σ := fun p l e s m args below meth c H locs ls C hP hS hl => lv_lconst C.1 C.2.1 d hv (k p l e s m args below meth c H locs ls C hP hS hl)
theorem go_ldc {i : Nat} {v : Int32} (d : decode M.2.1 pc = .ok (.ldc i, 2)) (hw : Cond.constant M.1.cls i v ∈ TB) (k : Go Γ n M Q (pc + 2) L (.int v :: st) σ) : Go Γ n M Q pc L (st) σ := fun p l e s m args below meth c H locs ls C hP hS hl => lv_ldc C.1 C.2.1 C.2.2.2.2.1 (C.2.2.2.2.2.1 _ hw) d (k p l e s m args below meth c H locs ls C hP hS hl)
theorem go_ldcw {i : Nat} {v : Int32} (d : decode M.2.1 pc = .ok (.ldc_w i, 3)) (hw : Cond.constant M.1.cls i v ∈ TB) (k : Go Γ n M Q (pc + 3) L (.int v :: st) σ) : Go Γ n M Q pc L (st) σ := fun p l e s m args below meth c H locs ls C hP hS hl => lv_ldcw C.1 C.2.1 C.2.2.2.2.1 (C.2.2.2.2.2.1 _ hw) d (k p l e s m args below meth c H locs ls C hP hS hl)
theorem go_ldc2 {i : Nat} {v : Int64} (d : decode M.2.1 pc = .ok (.ldc2_w i, 3)) (hw : Cond.constantLong M.1.cls i v ∈ TB) (k : Go Γ n M Q (pc + 3) L (.long v :: st) σ) : Go Γ n M Q pc L (st) σ := fun p l e s m args below meth c H locs ls C hP hS hl => lv_ldc2 C.1 C.2.1 C.2.2.2.2.1 (C.2.2.2.2.2.1 _ hw) d (k p l e s m args below meth c H locs ls C hP hS hl)
theorem go_iload_n {k : Fin 4} {i : Nat} {x : Int32} (d : decode M.2.1 pc = .ok (.iload_n k, 1)) (hi : (k : Nat) = i) (hx : L[i]? = some (some (.int x))) (k : Go Γ n M Q (pc + 1) L (.int x :: st) σ) : Go Γ n M Q pc L (st) σ := fun p l e s m args below meth c H locs ls C hP hS hl => lv_iload_n C.1 C.2.1 d hi (hl.at hx) (k p l e s m args below meth c H locs ls C hP hS hl)
theorem go_iload {i : Nat} {x : Int32} (d : decode M.2.1 pc = .ok (.iload i, 2)) (hx : L[i]? = some (some (.int x))) (k : Go Γ n M Q (pc + 2) L (.int x :: st) σ) : Go Γ n M Q pc L (st) σ := fun p l e s m args below meth c H locs ls C hP hS hl => lv_iload C.1 C.2.1 d (hl.at hx) (k p l e s m args below meth c H locs ls C hP hS hl)
theorem go_lload_n {k : Fin 4} {i : Nat} {x : Int64} (d : decode M.2.1 pc = .ok (.lload_n k, 1)) (hi : (k : Nat) = i) (hx : L[i]? = some (some (.long x))) (k : Go Γ n M Q (pc + 1) L (.long x :: st) σ) : Go Γ n M Q pc L (st) σ := fun p l e s m args below meth c H locs ls C hP hS hl => lv_lload_n C.1 C.2.1 d hi (hl.at hx) (k p l e s m args below meth c H locs ls C hP hS hl)
theorem go_lload {i : Nat} {x : Int64} (d : decode M.2.1 pc = .ok (.lload i, 2)) (hx : L[i]? = some (some (.long x))) (k : Go Γ n M Q (pc + 2) L (.long x :: st) σ) : Go Γ n M Q pc L (st) σ := fun p l e s m args below meth c H locs ls C hP hS hl => lv_lload C.1 C.2.1 d (hl.at hx) (k p l e s m args below meth c H locs ls C hP hS hl)
theorem go_aload_n {k : Fin 4} {i : Nat} {x : Nat} (d : decode M.2.1 pc = .ok (.aload_n k, 1)) (hi : (k : Nat) = i) (hx : L[i]? = some (some (.ref x))) (k : Go Γ n M Q (pc + 1) L (.ref x :: st) σ) : Go Γ n M Q pc L (st) σ := fun p l e s m args below meth c H locs ls C hP hS hl => lv_aload_n C.1 C.2.1 d hi (hl.at hx) (k p l e s m args below meth c H locs ls C hP hS hl)
theorem go_aload {i : Nat} {x : Nat} (d : decode M.2.1 pc = .ok (.aload i, 2)) (hx : L[i]? = some (some (.ref x))) (k : Go Γ n M Q (pc + 2) L (.ref x :: st) σ) : Go Γ n M Q pc L (st) σ := fun p l e s m args below meth c H locs ls C hP hS hl => lv_aload C.1 C.2.1 d (hl.at hx) (k p l e s m args below meth c H locs ls C hP hS hl)
theorem go_istore_n {k : Fin 4} {i : Nat} {x : Int32} {L' : List (Option Value)} (d : decode M.2.1 pc = .ok (.istore_n k, 1)) (hi : (k : Nat) = i) (hn : i < M.2.2.1) (ho : okS L i = true) (hL : L.set i (some (.int x)) = L') (k' : Go Γ n M Q (pc + 1) L' st σ) : Go Γ n M Q pc L (.int x :: st) σ := by
  intro p l e s m args below meth c H locs ls C hP hS hl
  subst hi
  obtain ⟨ls', e', h'⟩ := LH.store1 (v := .int x) hl hn rfl ho
  rw [hL] at h'
  intro T hT X
  obtain ⟨t, a, b⟩ := k' p l e s m args below meth c H locs ls' C hP hS h' T hT X
  refine ⟨t, ?_, b⟩
  have hexec := C.1
  have hb := C.2.1
  jvm_step X.here [X.here.top, ↓top_set X.here.top, hexec, hb, d, e']
  exact a
theorem go_istore {i : Nat} {x : Int32} {L' : List (Option Value)} (d : decode M.2.1 pc = .ok (.istore i, 2)) (hn : i < M.2.2.1) (ho : okS L i = true) (hL : L.set i (some (.int x)) = L') (k' : Go Γ n M Q (pc + 2) L' st σ) : Go Γ n M Q pc L (.int x :: st) σ := by
  intro p l e s m args below meth c H locs ls C hP hS hl
  obtain ⟨ls', e', h'⟩ := LH.store1 (v := .int x) hl hn rfl ho
  rw [hL] at h'
  intro T hT X
  obtain ⟨t, a, b⟩ := k' p l e s m args below meth c H locs ls' C hP hS h' T hT X
  refine ⟨t, ?_, b⟩
  have hexec := C.1
  have hb := C.2.1
  jvm_step X.here [X.here.top, ↓top_set X.here.top, hexec, hb, d, e']
  exact a
theorem go_astore_n {k : Fin 4} {i : Nat} {x : Nat} {L' : List (Option Value)} (d : decode M.2.1 pc = .ok (.astore_n k, 1)) (hi : (k : Nat) = i) (hn : i < M.2.2.1) (ho : okS L i = true) (hL : L.set i (some (.ref x)) = L') (k' : Go Γ n M Q (pc + 1) L' st σ) : Go Γ n M Q pc L (.ref x :: st) σ := by
  intro p l e s m args below meth c H locs ls C hP hS hl
  subst hi
  obtain ⟨ls', e', h'⟩ := LH.store1 (v := .ref x) hl hn rfl ho
  rw [hL] at h'
  intro T hT X
  obtain ⟨t, a, b⟩ := k' p l e s m args below meth c H locs ls' C hP hS h' T hT X
  refine ⟨t, ?_, b⟩
  have hexec := C.1
  have hb := C.2.1
  jvm_step X.here [X.here.top, ↓top_set X.here.top, hexec, hb, d, e']
  exact ⟨rfl, a⟩
theorem go_astore {i : Nat} {x : Nat} {L' : List (Option Value)} (d : decode M.2.1 pc = .ok (.astore i, 2)) (hn : i < M.2.2.1) (ho : okS L i = true) (hL : L.set i (some (.ref x)) = L') (k' : Go Γ n M Q (pc + 2) L' st σ) : Go Γ n M Q pc L (.ref x :: st) σ := by
  intro p l e s m args below meth c H locs ls C hP hS hl
  obtain ⟨ls', e', h'⟩ := LH.store1 (v := .ref x) hl hn rfl ho
  rw [hL] at h'
  intro T hT X
  obtain ⟨t, a, b⟩ := k' p l e s m args below meth c H locs ls' C hP hS h' T hT X
  refine ⟨t, ?_, b⟩
  have hexec := C.1
  have hb := C.2.1
  jvm_step X.here [X.here.top, ↓top_set X.here.top, hexec, hb, d, e']
  exact ⟨rfl, a⟩
theorem go_lstore_n {k : Fin 4} {i : Nat} {x : Int64} {L' : List (Option Value)} (d : decode M.2.1 pc = .ok (.lstore_n k, 1)) (hi : (k : Nat) = i) (hn : i + 1 < M.2.2.1) (ho : okS L i = true) (hL : (L.set i (some (.long x))).set (i + 1) none = L') (k' : Go Γ n M Q (pc + 1) L' st σ) : Go Γ n M Q pc L (.long x :: st) σ := by
  intro p l e s m args below meth c H locs ls C hP hS hl
  subst hi
  obtain ⟨ls', e', h'⟩ := LH.store2 (v := .long x) hl hn rfl ho
  rw [hL] at h'
  intro T hT X
  obtain ⟨t, a, b⟩ := k' p l e s m args below meth c H locs ls' C hP hS h' T hT X
  refine ⟨t, ?_, b⟩
  have hexec := C.1
  have hb := C.2.1
  jvm_step X.here [X.here.top, ↓top_set X.here.top, hexec, hb, d, e']
  exact a
theorem go_lstore {i : Nat} {x : Int64} {L' : List (Option Value)} (d : decode M.2.1 pc = .ok (.lstore i, 2)) (hn : i + 1 < M.2.2.1) (ho : okS L i = true) (hL : (L.set i (some (.long x))).set (i + 1) none = L') (k' : Go Γ n M Q (pc + 2) L' st σ) : Go Γ n M Q pc L (.long x :: st) σ := by
  intro p l e s m args below meth c H locs ls C hP hS hl
  obtain ⟨ls', e', h'⟩ := LH.store2 (v := .long x) hl hn rfl ho
  rw [hL] at h'
  intro T hT X
  obtain ⟨t, a, b⟩ := k' p l e s m args below meth c H locs ls' C hP hS h' T hT X
  refine ⟨t, ?_, b⟩
  have hexec := C.1
  have hb := C.2.1
  jvm_step X.here [X.here.top, ↓top_set X.here.top, hexec, hb, d, e']
  exact a
theorem go_iinc {i : Nat} {k : Int} {x v : Int32} {L' : List (Option Value)} (d : decode M.2.1 pc = .ok (.iinc i k, 3)) (hx : L[i]? = some (some (.int x))) (hv : x + Int32.ofInt k = v) (hn : i < M.2.2.1) (ho : okS L i = true) (hL : L.set i (some (.int v)) = L') (k' : Go Γ n M Q (pc + 3) L' st σ) : Go Γ n M Q pc L st σ := by
  intro p l e s m args below meth c H locs ls C hP hS hl
  subst hv
  have hg := hl.at hx
  obtain ⟨ls', e', h'⟩ := LH.store1 (v := .int (x + Int32.ofInt k)) hl hn rfl ho
  rw [hL] at h'
  intro T hT X
  obtain ⟨t, a, b⟩ := k' p l e s m args below meth c H locs ls' C hP hS h' T hT X
  refine ⟨t, ?_, b⟩
  have hexec := C.1
  have hb := C.2.1
  jvm_step X.here [X.here.top, ↓top_set X.here.top, hexec, hb, d, hg, e']
  exact a
theorem go_iadd {x y : Int32} (d : decode M.2.1 pc = .ok (.iadd, 1)) (k : Go Γ n M Q (pc + 1) L (.int (x + y) :: st) σ) : Go Γ n M Q pc L (.int y :: .int x :: st) σ := fun p l e s m args below meth c H locs ls C hP hS hl => lv_iadd C.1 C.2.1 d (k p l e s m args below meth c H locs ls C hP hS hl)
theorem go_isub {x y : Int32} (d : decode M.2.1 pc = .ok (.isub, 1)) (k : Go Γ n M Q (pc + 1) L (.int (x - y) :: st) σ) : Go Γ n M Q pc L (.int y :: .int x :: st) σ := fun p l e s m args below meth c H locs ls C hP hS hl => lv_isub C.1 C.2.1 d (k p l e s m args below meth c H locs ls C hP hS hl)
theorem go_imul {x y : Int32} (d : decode M.2.1 pc = .ok (.imul, 1)) (k : Go Γ n M Q (pc + 1) L (.int (x * y) :: st) σ) : Go Γ n M Q pc L (.int y :: .int x :: st) σ := fun p l e s m args below meth c H locs ls C hP hS hl => lv_imul C.1 C.2.1 d (k p l e s m args below meth c H locs ls C hP hS hl)
theorem go_iand {x y : Int32} (d : decode M.2.1 pc = .ok (.iand, 1)) (k : Go Γ n M Q (pc + 1) L (.int (x &&& y) :: st) σ) : Go Γ n M Q pc L (.int y :: .int x :: st) σ := fun p l e s m args below meth c H locs ls C hP hS hl => lv_iand C.1 C.2.1 d (k p l e s m args below meth c H locs ls C hP hS hl)
theorem go_ior {x y : Int32} (d : decode M.2.1 pc = .ok (.ior, 1)) (k : Go Γ n M Q (pc + 1) L (.int (x ||| y) :: st) σ) : Go Γ n M Q pc L (.int y :: .int x :: st) σ := fun p l e s m args below meth c H locs ls C hP hS hl => lv_ior C.1 C.2.1 d (k p l e s m args below meth c H locs ls C hP hS hl)
theorem go_ixor {x y : Int32} (d : decode M.2.1 pc = .ok (.ixor, 1)) (k : Go Γ n M Q (pc + 1) L (.int (x ^^^ y) :: st) σ) : Go Γ n M Q pc L (.int y :: .int x :: st) σ := fun p l e s m args below meth c H locs ls C hP hS hl => lv_ixor C.1 C.2.1 d (k p l e s m args below meth c H locs ls C hP hS hl)
theorem go_ishl {x y : Int32} (d : decode M.2.1 pc = .ok (.ishl, 1)) (k : Go Γ n M Q (pc + 1) L (.int (x <<< (y &&& 31)) :: st) σ) : Go Γ n M Q pc L (.int y :: .int x :: st) σ := fun p l e s m args below meth c H locs ls C hP hS hl => lv_ishl C.1 C.2.1 d (k p l e s m args below meth c H locs ls C hP hS hl)
theorem go_ishr {x y : Int32} (d : decode M.2.1 pc = .ok (.ishr, 1)) (k : Go Γ n M Q (pc + 1) L (.int (x >>> (y &&& 31)) :: st) σ) : Go Γ n M Q pc L (.int y :: .int x :: st) σ := fun p l e s m args below meth c H locs ls C hP hS hl => lv_ishr C.1 C.2.1 d (k p l e s m args below meth c H locs ls C hP hS hl)
theorem go_iushr {x y v : Int32} (d : decode M.2.1 pc = .ok (.iushr, 1)) (hv : (x.toUInt32 >>> (y.toUInt32 &&& Int32.toUInt32 31)).toInt32 = v) (k : Go Γ n M Q (pc + 1) L (.int v :: st) σ) : Go Γ n M Q pc L (.int y :: .int x :: st) σ := fun p l e s m args below meth c H locs ls C hP hS hl => lv_iushr C.1 C.2.1 d hv (k p l e s m args below meth c H locs ls C hP hS hl)
theorem go_idiv {x y : Int32} (d : decode M.2.1 pc = .ok (.idiv, 1)) (hne : ¬ y = 0) (k : Go Γ n M Q (pc + 1) L (.int (x / y) :: st) σ) : Go Γ n M Q pc L (.int y :: .int x :: st) σ := fun p l e s m args below meth c H locs ls C hP hS hl => lv_idiv C.1 C.2.1 d hne (k p l e s m args below meth c H locs ls C hP hS hl)
theorem go_irem {x y : Int32} (d : decode M.2.1 pc = .ok (.irem, 1)) (hne : ¬ y = 0) (k : Go Γ n M Q (pc + 1) L (.int (x - x / y * y) :: st) σ) : Go Γ n M Q pc L (.int y :: .int x :: st) σ := fun p l e s m args below meth c H locs ls C hP hS hl => lv_irem C.1 C.2.1 d hne (k p l e s m args below meth c H locs ls C hP hS hl)
theorem go_ineg {x : Int32} (d : decode M.2.1 pc = .ok (.ineg, 1)) (k : Go Γ n M Q (pc + 1) L (.int (-x) :: st) σ) : Go Γ n M Q pc L (.int x :: st) σ := fun p l e s m args below meth c H locs ls C hP hS hl => lv_ineg C.1 C.2.1 d (k p l e s m args below meth c H locs ls C hP hS hl)
theorem go_ladd {x y : Int64} (d : decode M.2.1 pc = .ok (.ladd, 1)) (k : Go Γ n M Q (pc + 1) L (.long (x + y) :: st) σ) : Go Γ n M Q pc L (.long y :: .long x :: st) σ := fun p l e s m args below meth c H locs ls C hP hS hl => lv_ladd C.1 C.2.1 d (k p l e s m args below meth c H locs ls C hP hS hl)
theorem go_lmul {x y : Int64} (d : decode M.2.1 pc = .ok (.lmul, 1)) (k : Go Γ n M Q (pc + 1) L (.long (x * y) :: st) σ) : Go Γ n M Q pc L (.long y :: .long x :: st) σ := fun p l e s m args below meth c H locs ls C hP hS hl => lv_lmul C.1 C.2.1 d (k p l e s m args below meth c H locs ls C hP hS hl)
theorem go_land {x y : Int64} (d : decode M.2.1 pc = .ok (.land, 1)) (k : Go Γ n M Q (pc + 1) L (.long (x &&& y) :: st) σ) : Go Γ n M Q pc L (.long y :: .long x :: st) σ := fun p l e s m args below meth c H locs ls C hP hS hl => lv_land C.1 C.2.1 d (k p l e s m args below meth c H locs ls C hP hS hl)
theorem go_ldiv {x y : Int64} (d : decode M.2.1 pc = .ok (.ldiv, 1)) (hne : ¬ y = 0) (k : Go Γ n M Q (pc + 1) L (.long (x / y) :: st) σ) : Go Γ n M Q pc L (.long y :: .long x :: st) σ := fun p l e s m args below meth c H locs ls C hP hS hl => lv_ldiv C.1 C.2.1 d hne (k p l e s m args below meth c H locs ls C hP hS hl)
theorem go_lrem {x y : Int64} (d : decode M.2.1 pc = .ok (.lrem, 1)) (hne : ¬ y = 0) (k : Go Γ n M Q (pc + 1) L (.long (x - x / y * y) :: st) σ) : Go Γ n M Q pc L (.long y :: .long x :: st) σ := fun p l e s m args below meth c H locs ls C hP hS hl => lv_lrem C.1 C.2.1 d hne (k p l e s m args below meth c H locs ls C hP hS hl)
theorem go_i2l {x : Int32} (d : decode M.2.1 pc = .ok (.i2l, 1)) (k : Go Γ n M Q (pc + 1) L (.long x.toInt64 :: st) σ) : Go Γ n M Q pc L (.int x :: st) σ := fun p l e s m args below meth c H locs ls C hP hS hl => lv_i2l C.1 C.2.1 d rfl (k p l e s m args below meth c H locs ls C hP hS hl)
theorem go_l2i {x : Int64} (d : decode M.2.1 pc = .ok (.l2i, 1)) (k : Go Γ n M Q (pc + 1) L (.int x.toInt32 :: st) σ) : Go Γ n M Q pc L (.long x :: st) σ := fun p l e s m args below meth c H locs ls C hP hS hl => lv_l2i C.1 C.2.1 d rfl (k p l e s m args below meth c H locs ls C hP hS hl)
theorem go_lcmp {x y : Int64} (d : decode M.2.1 pc = .ok (.lcmp, 1)) (k : Go Γ n M Q (pc + 1) L (.int (lg_cmp x y) :: st) σ) : Go Γ n M Q pc L (.long y :: .long x :: st) σ := fun p l e s m args below meth c H locs ls C hP hS hl => W.lcmp C.1 C.2.1 d (k p l e s m args below meth c H locs ls C hP hS hl)
theorem go_dup {x : Value} (d : decode M.2.1 pc = .ok (.dup, 1)) (hx : x.category = 1) (k : Go Γ n M Q (pc + 1) L (x :: x :: st) σ) : Go Γ n M Q pc L (x :: st) σ := fun p l e s m args below meth c H locs ls C hP hS hl => lv_dup C.1 C.2.1 d hx (k p l e s m args below meth c H locs ls C hP hS hl)
theorem go_dup2 {x y : Value} (d : decode M.2.1 pc = .ok (.dup2, 1)) (hx : x.category = 1) (hy : y.category = 1) (k : Go Γ n M Q (pc + 1) L (x :: y :: x :: y :: st) σ) : Go Γ n M Q pc L (x :: y :: st) σ := fun p l e s m args below meth c H locs ls C hP hS hl => lv_dup2_11 C.1 C.2.1 d hx hy (k p l e s m args below meth c H locs ls C hP hS hl)
theorem go_if_eq {x : Int32} {off : Int} {tgt : Nat} (d : decode M.2.1 pc = .ok (.ifCond .eq off, 3)) (ht : (pc : Int) + off = (tgt : Int)) (kt : x = 0 → Go Γ n M Q tgt L st σ) (kf : ¬ (x = 0) → Go Γ n M Q (pc + 3) L st σ) : Go Γ n M Q pc L (.int x :: st) σ := fun p l e s m args below meth c H locs ls C hP hS hl => lv_if_eq C.1 C.2.1 d ht (fun q => kt q p l e s m args below meth c H locs ls C hP hS hl) (fun q => kf q p l e s m args below meth c H locs ls C hP hS hl)
theorem go_if_ne {x : Int32} {off : Int} {tgt : Nat} (d : decode M.2.1 pc = .ok (.ifCond .ne off, 3)) (ht : (pc : Int) + off = (tgt : Int)) (kt : ¬ x = 0 → Go Γ n M Q tgt L st σ) (kf : x = 0 → Go Γ n M Q (pc + 3) L st σ) : Go Γ n M Q pc L (.int x :: st) σ := fun p l e s m args below meth c H locs ls C hP hS hl => lv_if_ne C.1 C.2.1 d ht (fun q => kt q p l e s m args below meth c H locs ls C hP hS hl) (fun q => kf q p l e s m args below meth c H locs ls C hP hS hl)
theorem go_if_lt {x : Int32} {off : Int} {tgt : Nat} (d : decode M.2.1 pc = .ok (.ifCond .lt off, 3)) (ht : (pc : Int) + off = (tgt : Int)) (kt : x < 0 → Go Γ n M Q tgt L st σ) (kf : ¬ (x < 0) → Go Γ n M Q (pc + 3) L st σ) : Go Γ n M Q pc L (.int x :: st) σ := fun p l e s m args below meth c H locs ls C hP hS hl => lv_if_lt C.1 C.2.1 d ht (fun q => kt q p l e s m args below meth c H locs ls C hP hS hl) (fun q => kf q p l e s m args below meth c H locs ls C hP hS hl)
theorem go_if_ge {x : Int32} {off : Int} {tgt : Nat} (d : decode M.2.1 pc = .ok (.ifCond .ge off, 3)) (ht : (pc : Int) + off = (tgt : Int)) (kt : 0 ≤ x → Go Γ n M Q tgt L st σ) (kf : ¬ (0 ≤ x) → Go Γ n M Q (pc + 3) L st σ) : Go Γ n M Q pc L (.int x :: st) σ := fun p l e s m args below meth c H locs ls C hP hS hl => lv_if_ge C.1 C.2.1 d ht (fun q => kt q p l e s m args below meth c H locs ls C hP hS hl) (fun q => kf q p l e s m args below meth c H locs ls C hP hS hl)
theorem go_if_gt {x : Int32} {off : Int} {tgt : Nat} (d : decode M.2.1 pc = .ok (.ifCond .gt off, 3)) (ht : (pc : Int) + off = (tgt : Int)) (kt : 0 < x → Go Γ n M Q tgt L st σ) (kf : ¬ (0 < x) → Go Γ n M Q (pc + 3) L st σ) : Go Γ n M Q pc L (.int x :: st) σ := fun p l e s m args below meth c H locs ls C hP hS hl => lv_if_gt C.1 C.2.1 d ht (fun q => kt q p l e s m args below meth c H locs ls C hP hS hl) (fun q => kf q p l e s m args below meth c H locs ls C hP hS hl)
theorem go_if_le {x : Int32} {off : Int} {tgt : Nat} (d : decode M.2.1 pc = .ok (.ifCond .le off, 3)) (ht : (pc : Int) + off = (tgt : Int)) (kt : x ≤ 0 → Go Γ n M Q tgt L st σ) (kf : ¬ (x ≤ 0) → Go Γ n M Q (pc + 3) L st σ) : Go Γ n M Q pc L (.int x :: st) σ := fun p l e s m args below meth c H locs ls C hP hS hl => lv_if_le C.1 C.2.1 d ht (fun q => kt q p l e s m args below meth c H locs ls C hP hS hl) (fun q => kf q p l e s m args below meth c H locs ls C hP hS hl)
theorem go_icmp_eq {x y : Int32} {off : Int} {tgt : Nat} (d : decode M.2.1 pc = .ok (.if_icmp .eq off, 3)) (ht : (pc : Int) + off = (tgt : Int)) (kt : x = y → Go Γ n M Q tgt L st σ) (kf : ¬ (x = y) → Go Γ n M Q (pc + 3) L st σ) : Go Γ n M Q pc L (.int y :: .int x :: st) σ := fun p l e s m args below meth c H locs ls C hP hS hl => lv_icmp_eq C.1 C.2.1 d ht (fun q => kt q p l e s m args below meth c H locs ls C hP hS hl) (fun q => kf q p l e s m args below meth c H locs ls C hP hS hl)
theorem go_icmp_ne {x y : Int32} {off : Int} {tgt : Nat} (d : decode M.2.1 pc = .ok (.if_icmp .ne off, 3)) (ht : (pc : Int) + off = (tgt : Int)) (kt : ¬ x = y → Go Γ n M Q tgt L st σ) (kf : x = y → Go Γ n M Q (pc + 3) L st σ) : Go Γ n M Q pc L (.int y :: .int x :: st) σ := fun p l e s m args below meth c H locs ls C hP hS hl => lv_icmp_ne C.1 C.2.1 d ht (fun q => kt q p l e s m args below meth c H locs ls C hP hS hl) (fun q => kf q p l e s m args below meth c H locs ls C hP hS hl)
theorem go_icmp_lt {x y : Int32} {off : Int} {tgt : Nat} (d : decode M.2.1 pc = .ok (.if_icmp .lt off, 3)) (ht : (pc : Int) + off = (tgt : Int)) (kt : x < y → Go Γ n M Q tgt L st σ) (kf : ¬ (x < y) → Go Γ n M Q (pc + 3) L st σ) : Go Γ n M Q pc L (.int y :: .int x :: st) σ := fun p l e s m args below meth c H locs ls C hP hS hl => lv_icmp_lt C.1 C.2.1 d ht (fun q => kt q p l e s m args below meth c H locs ls C hP hS hl) (fun q => kf q p l e s m args below meth c H locs ls C hP hS hl)
theorem go_icmp_ge {x y : Int32} {off : Int} {tgt : Nat} (d : decode M.2.1 pc = .ok (.if_icmp .ge off, 3)) (ht : (pc : Int) + off = (tgt : Int)) (kt : y ≤ x → Go Γ n M Q tgt L st σ) (kf : ¬ (y ≤ x) → Go Γ n M Q (pc + 3) L st σ) : Go Γ n M Q pc L (.int y :: .int x :: st) σ := fun p l e s m args below meth c H locs ls C hP hS hl => lv_icmp_ge C.1 C.2.1 d ht (fun q => kt q p l e s m args below meth c H locs ls C hP hS hl) (fun q => kf q p l e s m args below meth c H locs ls C hP hS hl)
theorem go_icmp_gt {x y : Int32} {off : Int} {tgt : Nat} (d : decode M.2.1 pc = .ok (.if_icmp .gt off, 3)) (ht : (pc : Int) + off = (tgt : Int)) (kt : y < x → Go Γ n M Q tgt L st σ) (kf : ¬ (y < x) → Go Γ n M Q (pc + 3) L st σ) : Go Γ n M Q pc L (.int y :: .int x :: st) σ := fun p l e s m args below meth c H locs ls C hP hS hl => lv_icmp_gt C.1 C.2.1 d ht (fun q => kt q p l e s m args below meth c H locs ls C hP hS hl) (fun q => kf q p l e s m args below meth c H locs ls C hP hS hl)
theorem go_icmp_le {x y : Int32} {off : Int} {tgt : Nat} (d : decode M.2.1 pc = .ok (.if_icmp .le off, 3)) (ht : (pc : Int) + off = (tgt : Int)) (kt : x ≤ y → Go Γ n M Q tgt L st σ) (kf : ¬ (x ≤ y) → Go Γ n M Q (pc + 3) L st σ) : Go Γ n M Q pc L (.int y :: .int x :: st) σ := fun p l e s m args below meth c H locs ls C hP hS hl => lv_icmp_le C.1 C.2.1 d ht (fun q => kt q p l e s m args below meth c H locs ls C hP hS hl) (fun q => kf q p l e s m args below meth c H locs ls C hP hS hl)
theorem go_goto {off : Int} {tgt : Nat} (d : decode M.2.1 pc = .ok (.goto off, 3)) (ht : (pc : Int) + off = (tgt : Int)) (k : Go Γ n M Q tgt L st σ) : Go Γ n M Q pc L st σ := fun p l e s m args below meth c H locs ls C hP hS hl => lv_goto C.1 C.2.1 d ht (k p l e s m args below meth c H locs ls C hP hS hl)
theorem go_tabOut {dflt lo hi : Int} {offs : Array Int} {len : Nat} {x : Int32} {tgt : Nat} (d : decode M.2.1 pc = .ok (.tableswitch dflt lo hi offs, len)) (h : x.toInt < lo ∨ hi < x.toInt) (ht : (pc : Int) + dflt = (tgt : Int)) (k : Go Γ n M Q tgt L st σ) : Go Γ n M Q pc L (.int x :: st) σ := fun p l e s m args below meth c H locs ls C hP hS hl => lv_tableOut C.1 C.2.1 d h ht (k p l e s m args below meth c H locs ls C hP hS hl)
theorem go_tabIn {dflt lo hi : Int} {offs : Array Int} {len : Nat} {x : Int32} {off : Int} {tgt : Nat} (d : decode M.2.1 pc = .ok (.tableswitch dflt lo hi offs, len)) (h1 : ¬ x.toInt < lo) (h2 : ¬ hi < x.toInt) (ho : offs[(x.toInt - lo).toNat]? = some off) (ht : (pc : Int) + off = (tgt : Int)) (k : Go Γ n M Q tgt L st σ) : Go Γ n M Q pc L (.int x :: st) σ := fun p l e s m args below meth c H locs ls C hP hS hl => lv_tableIn C.1 C.2.1 d h1 h2 ho ht (k p l e s m args below meth c H locs ls C hP hS hl)
theorem go_sub {L' : List (Option Value)} (b : List Bool) (h : mskL b L = L') (k : Go Γ n M Q pc L' st σ) : Go Γ n M Q pc L st σ := fun p l e s m args below meth c H locs ls C hP hS hl => k p l e s m args below meth c H locs ls C hP hS (hl.sub (fun i v q => mskL_le b L i v (by rw [h]; exact q)))
theorem go_mono {Q' : Option Value → Mm → Prop} (hQ : ∀ v σ', Q' v σ' → Q v σ') (k : Go Γ n M Q' pc L st σ) : Go Γ n M Q pc L st σ := by
  intro p l e s m args below meth c H locs ls C hP hS hl
  intro T hT X
  obtain ⟨t, a, o, b1, b2, ⟨⟨v, σ', c1, c2, c3⟩, c4⟩, b4⟩ := k p l e s m args below meth c H locs ls C hP hS hl T hT X
  exact ⟨t, a, o, b1, b2, ⟨⟨v, σ', c1, hQ v σ' c2, c3⟩, c4⟩, b4⟩
end GO
end
section
/-! rules for cells, calls, entry and end -/
def fsh (a k : Nat) : Option (Nat × Nat) := match shpL[a]? with
  | some (.inl (ci, tpl)) => (tpl[k]?).map (fun t => (ci, t))
  | _ => none
def ash (a : Nat) : Option Nat := match shpL[a]? with
  | some (.inr (.inl n)) => some n
  | _ => none
def rsh (a j : Nat) : Option Nat := match shpL[a]? with
  | some (.inr (.inr (_, rs))) => rs[j]?
  | _ => none
def osh (a : Nat) : Option Nat := match shpL[a]? with
  | some (.inl (ci, _)) => some ci
  | _ => none
theorem fsh_spec {a k ci t : Nat} (h : fsh a k = some (ci, t)) : ∃ tpl, shpL[a]? = some (.inl (ci, tpl)) ∧ tpl[k]? = some t := by
  unfold fsh at h
  split at h
  · rename_i c' tpl e
    cases hk : tpl[k]? with
    | none => rw [hk] at h; cases h
    | some t' => rw [hk] at h; cases h; exact ⟨tpl, e, hk⟩
  · cases h
theorem ash_spec {a n : Nat} (h : ash a = some n) : shpL[a]? = some (.inr (.inl n)) := by
  unfold ash at h
  split at h
  · rename_i n' e; cases h; exact e
  · cases h
theorem rsh_spec {a j r : Nat} (h : rsh a j = some r) : ∃ t rs, shpL[a]? = some (.inr (.inr (t, rs))) ∧ rs[j]? = some r := by
  unfold rsh at h
  split at h
  · rename_i t rs e; exact ⟨t, rs, e, h⟩
  · cases h
theorem osh_spec {a ci : Nat} (h : osh a = some ci) : ∃ tpl, shpL[a]? = some (.inl (ci, tpl)) := by
  unfold osh at h
  split at h
  · rename_i c' tpl e; cases h; exact ⟨tpl, e⟩
  · cases h
/-- what the tables say of a class, of a field's link, of a call -/
def CF (ci : Nat) (C : String) (T : u_T) (N : Nat) (ty : Nat → FieldType) : Prop := vwCl[ci]? = some (C, T, N) ∧ (∀ w ∈ u_ws C T N, w ∈ TB) ∧ (∀ k, k < N → parseFieldDescriptor (T k).2.2.1 = some (ty k)) ∧ (∀ a, a < N → ∀ b, b < N → a ≠ b → (T a).2.1 ≠ (T b).2.1)
def FL (own : String) (idx ci k : Nat) : Prop := ∃ (C : String) (T : u_T) (N : Nat) (ty : Nat → FieldType), CF ci C T N ty ∧ k < N ∧ Cond.fieldLink own idx (T k).1 (T k).2.1 (T k).2.2.1 ∈ TB
/-- a field that may be written -/
def FW (own : String) (idx ci k : Nat) (t : FieldType) : Prop := ∃ (C : String) (T : u_T) (N : Nat) (ty : Nat → FieldType), CF ci C T N ty ∧ k < N ∧ Cond.fieldLink own idx (T k).1 (T k).2.1 (T k).2.2.1 ∈ TB ∧ (T k).2.2.2 = false ∧ ty k = t
def CV (own : String) (idx : Nat) (M' : Md) (np ci : Nat) : Prop := (Cond.methodLink own idx M'.1 ∈ TB ∧ Cond.instanceMethod M'.1 ∈ TB ∧ Cond.selects M'.1.cls M'.1 M'.1 ∈ TB ∧ Cond.initialized M'.1.cls ∈ TB ∧ Cond.code M'.1 M'.2.1 M'.2.2.1 M'.2.2.2 ∈ TB) ∧ (vwCl[ci]?).map (fun q => q.1) = some M'.1.cls ∧ (M'.1.cls ≠ "java/lang/invoke/MethodHandle" ∧ M'.1.cls ≠ "java/lang/invoke/VarHandle" ∧ (parseMethodDescriptor M'.1.desc).map (fun d => d.parameters.length) = some np) ∧ M'.2.2.1 ≤ 100
def CS (own : String) (idx : Nat) (M' : Md) (np : Nat) : Prop := (Cond.methodLink own idx M'.1 ∈ TB ∧ Cond.static M'.1 ∈ TB ∧ Cond.initialized M'.1.cls ∈ TB ∧ Cond.code M'.1 M'.2.1 M'.2.2.1 M'.2.2.2 ∈ TB) ∧ (M'.1.cls ≠ "java/lang/invoke/MethodHandle" ∧ M'.1.cls ≠ "java/lang/invoke/VarHandle" ∧ (parseMethodDescriptor M'.1.desc).map (fun d => d.parameters.length) = some np) ∧ M'.2.2.1 ≤ 100
section GO2
variable {Γ : Gm} {n : Nat} {M : Md} {Q : Option Value → Mm → Prop} {pc : Nat} {L : List (Option Value)} {st : List Value} {σ : Mm}
theorem go_get {a k ci t idx : Nat} {v : Value} (f : FL M.1.cls idx ci k) (h : fsh a k = some (ci, t)) (hv : fval Γ σ a k t = v) (d : decode M.2.1 pc = .ok (.getfield idx, 3)) (kk : Go Γ n M Q (pc + 3) L (v :: st) σ) : Go Γ n M Q pc L (rf Γ a :: st) σ := by
  intro p l e s m args below meth c H locs ls C hP hS hl
  obtain ⟨Cn, T, N, ty, ⟨hc, hin, -, -⟩, hk, hlk⟩ := f
  obtain ⟨tpl, e1, e2⟩ := fsh_spec h
  exact va_get C.1 C.2.1 C.2.2.2.2.2.1 hin C.2.2.2.2.1 C.2.2.2.2.2.2.2.1 hP a (wl_get e1) hc k hk (C.2.2.2.2.2.1 _ hlk) (fun _ h => h) (by rw [← hv]; exact flds_get e2) d (kk p l e s m args below meth c H locs ls C hP hS hl)
theorem go_getI {a k ci idx : Nat} (f : FL M.1.cls idx ci k) (h : fsh a k = some (ci, 0)) (d : decode M.2.1 pc = .ok (.getfield idx, 3)) (kk : Go Γ n M Q (pc + 3) L (.int (σ.1 a k) :: st) σ) : Go Γ n M Q pc L (rf Γ a :: st) σ := go_get f h rfl d kk
theorem go_getL {a k ci idx : Nat} (f : FL M.1.cls idx ci k) (h : fsh a k = some (ci, 1)) (d : decode M.2.1 pc = .ok (.getfield idx, 3)) (kk : Go Γ n M Q (pc + 3) L (.long (σ.2 a) :: st) σ) : Go Γ n M Q pc L (rf Γ a :: st) σ := go_get f h rfl d kk
theorem go_getR {a k ci idx r : Nat} (f : FL M.1.cls idx ci k) (h : fsh a k = some (ci, r + 2)) (d : decode M.2.1 pc = .ok (.getfield idx, 3)) (kk : Go Γ n M Q (pc + 3) L (rf Γ r :: st) σ) : Go Γ n M Q pc L (rf Γ a :: st) σ := go_get f h rfl d kk
theorem go_putI {a k ci idx : Nat} {x : Int32} (f : FW M.1.cls idx ci k .int) (h : fsh a k = some (ci, 0)) (d : decode M.2.1 pc = .ok (.putfield idx, 3)) (kk : Go Γ n M Q (pc + 3) L st (stI σ a k x)) : Go Γ n M Q pc L (.int x :: rf Γ a :: st) σ := by
  intro p l e s m args below meth c H locs ls C hP hS hl
  obtain ⟨Cn, T, N, ty, ⟨hc, hin, hty, hnm⟩, hk, hlk, hw, ht⟩ := f
  obtain ⟨tpl, e1, e2⟩ := fsh_spec h
  refine va_put C.1 C.2.1 C.2.2.2.2.2.1 hin ty hty hnm C.2.2.2.2.1 C.2.2.2.2.2.2.2.1 hP wl_D hS a (wl_get e1) hc k hk (C.2.2.2.2.2.1 _ hlk) (fun _ h => h) hw (ht ▸ hty k hk) rfl rfl (by show k < (flds Γ σ a tpl).length; rw [flds_len]; exact (List.getElem?_eq_some_iff.mp e2).1) d (fun H1 locs1 h1 _ h3 => ?_)
  rw [wl_stI e1 e2] at h1
  exact kk p l e s m args below meth c H1 locs1 ls C h1 h3 hl
theorem go_putL {a k ci idx : Nat} {x : Int64} (f : FW M.1.cls idx ci k .long) (h : fsh a k = some (ci, 1)) (hu : ∀ i, i ≠ k → fsh a i ≠ some (ci, 1)) (d : decode M.2.1 pc = .ok (.putfield idx, 3)) (kk : Go Γ n M Q (pc + 3) L st (stL σ a x)) : Go Γ n M Q pc L (.long x :: rf Γ a :: st) σ := by
  intro p l e s m args below meth c H locs ls C hP hS hl
  obtain ⟨Cn, T, N, ty, ⟨hc, hin, hty, hnm⟩, hk, hlk, hw, ht⟩ := f
  obtain ⟨tpl, e1, e2⟩ := fsh_spec h
  refine va_put C.1 C.2.1 C.2.2.2.2.2.1 hin ty hty hnm C.2.2.2.2.1 C.2.2.2.2.2.2.2.1 hP wl_D hS a (wl_get e1) hc k hk (C.2.2.2.2.2.1 _ hlk) (fun _ h => h) hw (ht ▸ hty k hk) rfl rfl (by show k < (flds Γ σ a tpl).length; rw [flds_len]; exact (List.getElem?_eq_some_iff.mp e2).1) d (fun H1 locs1 h1 _ h3 => ?_)
  rw [wl_stL e1 e2 (fun i hi q => hu i hi (by simp [fsh, e1, q]))] at h1
  exact kk p l e s m args below meth c H1 locs1 ls C h1 h3 hl
theorem go_iald {a N : Nat} {i : Int32} (j : Nat) (hi : i = nI j) (ha : ash a = some N) (hj : j < N) (hN : N < 2 ^ 31) (d : decode M.2.1 pc = .ok (.iaload, 1)) (kk : Go Γ n M Q (pc + 1) L (.int (σ.1 a j) :: st) σ) : Go Γ n M Q pc L (.int i :: rf Γ a :: st) σ := by
  intro p l e s m args below meth c H locs ls C hP hS hl
  subst hi
  refine va_iald C.1 C.2.1 C.2.2.2.2.2.2.2.1 hP a 0 (wl_get (ash_spec ha)) rfl (vp_in_nI hj hN) d ?_
  rw [nI_clamp (by omega)]
  exact kk p l e s m args below meth c H locs ls C hP hS hl
theorem go_iast {a N : Nat} {i x : Int32} (j : Nat) (hi : i = nI j) (ha : ash a = some N) (hj : j < N) (hN : N < 2 ^ 31) (d : decode M.2.1 pc = .ok (.iastore, 1)) (kk : Go Γ n M Q (pc + 1) L st (stI σ a j x)) : Go Γ n M Q pc L (.int x :: .int i :: rf Γ a :: st) σ := by
  intro p l e s m args below meth c H locs ls C hP hS hl
  subst hi
  refine va_iast C.1 C.2.1 C.2.2.2.2.2.2.2.1 hP wl_D hS a 0 (wl_get (ash_spec ha)) rfl (vp_in_nI hj hN) d (fun H1 locs1 h1 _ h3 => ?_)
  rw [nI_clamp (by omega), wl_stE (ash_spec ha)] at h1
  exact kk p l e s m args below meth c H1 locs1 ls C h1 h3 hl
theorem go_alen {a N : Nat} {v : Int32} (ha : ash a = some N) (hv : nI N = v) (d : decode M.2.1 pc = .ok (.arraylength, 1)) (kk : Go Γ n M Q (pc + 1) L (.int v :: st) σ) : Go Γ n M Q pc L (rf Γ a :: st) σ := by
  intro p l e s m args below meth c H locs ls C hP hS hl
  exact va_alen C.1 C.2.1 C.2.2.2.2.2.2.2.1 hP a 0 (wl_get (ash_spec ha)) rfl hv d (kk p l e s m args below meth c H locs ls C hP hS hl)
theorem go_aald {a r : Nat} {i : Int32} (j : Nat) (hi : i = nI j) (hr : rsh a j = some r) (ht : ∀ t rs, shpL[a]? = some (.inr (.inr (t, rs))) → (t = 1 ∨ t = 2) ∧ rs.length < 2 ^ 31) (d : decode M.2.1 pc = .ok (.aaload, 1)) (kk : Go Γ n M Q (pc + 1) L (rf Γ r :: st) σ) : Go Γ n M Q pc L (.int i :: rf Γ a :: st) σ := by
  intro p l e s m args below meth c H locs ls C hP hS hl
  subst hi
  obtain ⟨t, rs, e1, e2⟩ := rsh_spec hr
  obtain ⟨htt, hlen⟩ := ht t rs e1
  have hj : j < rs.length := (List.getElem?_eq_some_iff.mp e2).1
  have hin : vp_in (nI j) rs.length := vp_in_nI hj hlen
  have hcell := hP a _ (wl_get e1)
  have hK := C.2.2.2.2.2.2.2.1
  have hread : (arrV (Γ.2.2.1 t) rs.length (fun j => va_rf ((rs[j]?).map (Γ.2.1 + ·)))).slots[(nI j).toNatClampNeg]? = some (rf Γ r) := by
    rw [nI_clamp (by omega), arrV_read _ _ hj]
    simp [e2, va_rf]
  have go : ∀ ty : FieldType, ty.isReference = true → ArrOfT s (Γ.2.2.1 t) ty → W p l e (rmD n) s m args below meth c H locs 0 0 (MQ below (Qo Γ Q) args s 0 0 (AB Γ)) (F0 m pc ls (.int (nI j) :: rf Γ a :: st)) := fun ty hty hA =>
    W.aald (v := rf Γ r) (ty := ty) C.1 C.2.1 hcell (hA rs.length (fun j => va_rf ((rs[j]?).map (Γ.2.1 + ·)))) hty (fun q => by cases q) (by show ¬ (nI j < 0 ∨ (arrV _ _ _).slots.size ≤ _); rw [arrV_size]; exact hin) hread rfl rfl d (kk p l e s m args below meth c H locs ls C hP hS hl)
  rcases htt with rfl | rfl
  · exact go (.object "OrdersInTurn$Guest") rfl (hK.2 1 (Γ.2.2.1 1, .object "OrdersInTurn$Guest") rfl).1
  · exact go (.array .int) rfl (hK.2 2 (Γ.2.2.1 2, .array .int) rfl).1
theorem go_sways (d : decode M.2.1 pc = .ok (.getstatic 22, 3)) (hM : M.1.cls = "OrdersInTurn$Guest") (kk : Go Γ n M Q (pc + 3) L (.ref Γ.2.2.2 :: st) σ) : Go Γ n M Q pc L st σ := by
  intro p l e s m args below meth c H locs ls C hP hS hl
  have hown := C.2.2.2.2.1
  rw [hM] at hown
  obtain ⟨hZ, -, hN⟩ := C.2.2.2.2.2.2.2.2
  exact va_getsN C.1 C.2.1 hZ hS hown (va_Nw.use rfl hN) (fun _ h => h) d (kk p l e s m args below meth c H locs ls C hP hS hl)
theorem go_swld {i : Int32} (j : Nat) (hi : i = nI j) (hj : j < 5) (d : decode M.2.1 pc = .ok (.iaload, 1)) (kk : Go Γ n M Q (pc + 1) L (.int (swV j) :: st) σ) : Go Γ n M Q pc L (.int i :: .ref Γ.2.2.2 :: st) σ := by
  intro p l e s m args below meth c H locs ls C hP hS hl
  subst hi
  obtain ⟨-, ⟨cell, h1, h2, h3, h4, h5, h6, h7⟩, -⟩ := C.2.2.2.2.2.2.2.2
  have hcell : H[Γ.2.2.2]? = some cell := by rw [hS.2.1 _ (Array.getElem?_eq_some_iff.mp h1).1 h7]; exact h1
  have hc : (nI j).toNatClampNeg = j := nI_clamp (by omega)
  refine W.iald (v := .int (swV j)) C.1 C.2.1 hcell h2 h3 ?_ (by rw [hc]; exact h6 j hj) rfl rfl d (kk p l e s m args below meth c H locs ls C hP hS hl)
  rw [hc]
  rintro (q | q)
  · exact nI_pos (by omega) q
  · omega
theorem Wd.blind {av : List Value} : FrameBlind (va_Pc av (Wd Γ σ)) := by
  intro a U g mk q
  obtain ⟨q0, q1, q2, q3, q4, q5⟩ := q
  exact ⟨q0, q1, va_K.moved (u := U) (U := U.calling g mk a) (Vm.Alike.refl U.vm) q2, va_Z.moved (u := U) (U := U.calling g mk a) (Vm.Alike.refl U.vm) q3, va_T.moved (u := U) (U := U.calling g mk a) (Vm.Alike.refl U.vm) q4, va_Nw.same rfl (u := U) (U := U.calling g mk a) rfl q5⟩
/-- the world at a callee's start -/
theorem Wd.at {p : Program} {s : State} {m : MethodId} {args : Array Value} {meth : Method} {c : Code} {H : Heap} {locs : List Loc} {U : State} (C : Cx Γ M p s m args meth c) (hP : va_P Γ.1 vwCl (wl Γ σ) H) (hS : va_S (AB Γ) s.heap H locs) (hU : U.heap = H) (hW : s.WarmedH U.vm) : Wd Γ σ U := by
  obtain ⟨-, -, -, -, -, -, -, hK, hZ, hT, hN⟩ := C
  subst hU
  exact ⟨hP, va_K.moved hW.alike hK, (hZ.kept hS.2.1).moved hW.alike, (hT.kept hS.2.1).moved hW.alike, va_Nw.warmF hW hN⟩
theorem run_next {p : Program} {l : Launch} {e : Env} {s : State} {m : MethodId} {args : Array Value} {below : List Frame} {meth : Method} {c : Code} {H : Heap} {locs : List Loc} {ls : Array Slot} {st0 rest : List Value} {a : Array Value} {Q' : Option Value → Mm → Prop}
    (hr : va_Run p l e (rmD n) s m args below meth c H locs 0 0 0 0 (F0 m pc ls st0) rest (Qo Γ Q' a) (AB Γ)) (C : Cx Γ M p s m args meth c) (hS : va_S (AB Γ) s.heap H locs) (hl : LH ls M.2.2.1 L)
    (kk : ∀ v σ', Q' v σ' → Go Γ n M Q (pc + 3) L (v.toList ++ rest) σ') : W p l e (rmD n) s m args below meth c H locs 0 0 (MQ below (Qo Γ Q) args s 0 0 (AB Γ)) (F0 m pc ls st0) := by
  intro T hT X
  obtain ⟨v, st₀, t, T', L', h0, X', hL, e1, e2, ⟨⟨v', σ', hv, hq, hp⟩, hz, hk⟩, stp⟩ := hr T hT X
  cases hv
  rw [h0] at hz hk
  obtain ⟨t2, a1, b1⟩ := kk v σ' hq p l e s m args below meth c T'.heap (locs ++ L') ls C (by rw [e1]; exact hp)
    ⟨Nat.le_trans hS.1 (by rw [e1]; exact hz), fun q h1 h2 => by rw [e1, hk q (Nat.lt_of_lt_of_le h1 hS.1) h2]; exact hS.2.1 q h1 h2, fun q hq => by
      rcases List.mem_append.mp hq with h | h
      · exact hS.2.2 q h
      · exact hL q h⟩ hl T' rfl X'
  exact ⟨t2, stp t2 a1, b1⟩
theorem rmD_le {n n' k : Nat} (h : n' + 1 ≤ n) (hk : k ≤ 100) : (rmD n').frames + 1 ≤ (rmD n).frames ∧ 8 + (k + 11) + (rmD n').locals ≤ (rmD n).locals := by
  simp only [rmD]
  omega
theorem good_cons {y : MethodName} {b : ByteArray} {k : Nat} {r : Option FieldType} (h : Cond.code y b k r ∈ TB) : GoodIn TB (Cond.code y b k r :: TB) := by
  intro w hw
  rcases List.mem_cons.mp hw with e | e
  · subst e; exact TB_good _ h
  · exact TB_good _ e
theorem go_callV {M' : Md} {As rest : List Value} {b idx ci np n' : Nat} {Q' : Option Value → Mm → Prop} (w : CV M.1.cls idx M' np ci) (hb : osh b = some ci) (sp : Sp Γ n' M' (rf Γ b :: As) σ Q') (hn : n' + 1 ≤ n) (hA : As.length = np) (hst : st = As.reverse ++ rf Γ b :: rest) (hr : (rest.map fun v => v.category).sum ≤ 8) (d : decode M.2.1 pc = .ok (.invokevirtual idx, 3))
    (kk : ∀ v σ', Q' v σ' → Go Γ n M Q (pc + 3) L (v.toList ++ rest) σ') : Go Γ n M Q pc L st σ := by
  intro p l e s m args below meth c H locs ls C hP hS hl
  obtain ⟨⟨w1, w2, w3, w4, w5⟩, w6, w7, w8⟩ := w
  obtain ⟨tpl, e1⟩ := osh_spec hb
  have hts := C.2.2.2.2.2.1
  cases hq : vwCl[ci]? with
  | none => rw [hq] at w6; cases w6
  | some q =>
    rw [hq] at w6
    have hqc : q.1 = M'.1.cls := Option.some.inj w6
    have hrecv := va_recv C.2.2.2.2.2.2.2.1 hP hq (wl_get e1)
    rw [hqc] at hrecv
    refine run_next (va_runV (As := As) (rest := rest) (C := M'.1.cls) ⟨C.1, C.2.1, C.2.2.2.1, C.2.2.2.2.1, hts⟩ (sp l) (bytes := M'.2.1) (maxL := M'.2.2.1) (ret := M'.2.2.2) ⟨callB_of np hts (good_cons w5) rfl rfl rfl (hts _ w4) (hts _ w1) w7 (rmD_le hn w8), hts _ w2, hts _ w3⟩ ⟨Wd.blind, hrecv, fun U hU hW => ⟨rfl, Wd.at C hP hS hU hW⟩⟩ rfl hA hl.1 hst (lv_room hr) d ⟨Nat.le_refl 0, Nat.le_refl 0⟩) C hS hl kk
theorem go_callS {M' : Md} {As rest : List Value} {idx np n' : Nat} {Q' : Option Value → Mm → Prop} (w : CS M.1.cls idx M' np) (sp : Sp Γ n' M' As σ Q') (hn : n' + 1 ≤ n) (hA : As.length = np) (hst : st = As.reverse ++ rest) (hr : (rest.map fun v => v.category).sum ≤ 8) (d : decode M.2.1 pc = .ok (.invokestatic idx, 3))
    (kk : ∀ v σ', Q' v σ' → Go Γ n M Q (pc + 3) L (v.toList ++ rest) σ') : Go Γ n M Q pc L st σ := by
  intro p l e s m args below meth c H locs ls C hP hS hl
  obtain ⟨⟨w1, w2, w4, w5⟩, w7, w8⟩ := w
  have hts := C.2.2.2.2.2.1
  exact run_next (va_runS (As := As) (rest := rest) ⟨C.1, C.2.1, C.2.2.2.1, C.2.2.2.2.1, hts⟩ (sp l) (bytes := M'.2.1) (maxL := M'.2.2.1) (ret := M'.2.2.2) ⟨callB_of np hts (good_cons w5) rfl rfl rfl (hts _ w4) (hts _ w1) w7 (rmD_le hn w8), hts _ w2⟩ ⟨Wd.blind, fun U hU hW => ⟨rfl, Wd.at C hP hS hU hW⟩⟩ rfl hA hl.1 hst (lv_room hr) d ⟨Nat.le_refl 0, Nat.le_refl 0⟩) C hS hl kk
/-- entry -/
theorem sp_intro {av : List Value} (hy : plainName M.1.cls = true) (hlen : (lg_sl av).length ≤ M.2.2.1) (hL : ∀ ls : Array Slot, lv_has ls M.2.2.1 (lv_args 0 av) → LH ls M.2.2.1 L) (k : Go Γ n M Q 0 L [] σ) : Sp Γ n M av σ Q := by
  intro l
  refine Met.ofW (cc := M.2.1) (maxL := M.2.2.1) (ret := M.2.2.2) hy rfl ?_
  intro p e s m args below meth c s₁ B hml hv
  obtain ⟨rfl, hP, hK, hZ⟩ := hv
  have hts := atoms_spec (ws := Cond.code M.1 M.2.1 M.2.2.1 M.2.2.2 :: TB) B.pre
  have hown : s.vm.findClass M.1.cls = some m.cls := findClass_of_methodNamed B.named
  have hl := lv_entry av (n := M.2.2.1) hlen
  rw [lg_entry_eq]
  generalize (lg_sl av ++ List.replicate (M.2.2.1 - (lg_sl av).length) Slot.unset).toArray = ls at hl ⊢
  exact k p l e s m av.toArray below meth c s.heap [] ls ⟨B.exec, B.bytes, B.returns, hml, hown, fun w h => hts w (List.mem_cons_of_mem _ h), B.notSynchronized, hK, hZ⟩ hP va_S.rf (hL ls hl)
theorem sp_mono {av : List Value} {Q' : Option Value → Mm → Prop} (h : Sp Γ n M av σ Q') (hQ : ∀ v σ', Q' v σ' → Q v σ') : Sp Γ n M av σ Q := by
  intro l p e ha hc hk s m args below hf happ hP hK
  obtain ⟨t, o, h1, h2, h3, ⟨⟨v, σ', c1, c2, c3⟩, c4⟩, h5⟩ := h l p e ha hc hk s m args below hf happ hP hK
  exact ⟨t, o, h1, h2, h3, ⟨⟨v, σ', c1, hQ v σ' c2, c3⟩, c4⟩, h5⟩
/-- ends -/
theorem go_iret {v : Int32} (hr : M.2.2.2 = some .int) (d : decode M.2.1 pc = .ok (.ireturn, 1)) (hq : Q (some (.int v)) σ) : Go Γ n M Q pc L [.int v] σ := by
  intro p l e s m args below meth c H locs ls C hP hS hl
  exact W.iret C.1 C.2.1 (C.2.2.1.trans hr) (fun t ht _ => ⟨⟨_, σ, rfl, hq, by rw [ht]; exact hP⟩, hS.F ht⟩) hS.2.2 d C.2.2.2.2.2.2.1
theorem go_zret {v : Int32} (hr : M.2.2.2 = some .boolean) (d : decode M.2.1 pc = .ok (.ireturn, 1)) (hv : v = 0 ∨ v = 1) (hq : Q (some (.int v)) σ) : Go Γ n M Q pc L [.int v] σ := by
  intro p l e s m args below meth c H locs ls C hP hS hl
  exact W.zret (ty := .boolean) C.1 C.2.1 (C.2.2.1.trans hr) (by rcases hv with rfl | rfl <;> rfl) (fun t ht _ => ⟨⟨_, σ, rfl, hq, by rw [ht]; exact hP⟩, hS.F ht⟩) hS.2.2 d C.2.2.2.2.2.2.1
theorem go_lret {v : Int64} (hr : M.2.2.2 = some .long) (d : decode M.2.1 pc = .ok (.lreturn, 1)) (hq : Q (some (.long v)) σ) : Go Γ n M Q pc L [.long v] σ := by
  intro p l e s m args below meth c H locs ls C hP hS hl
  exact W.lret C.1 C.2.1 (C.2.2.1.trans hr) (fun t ht _ => ⟨⟨_, σ, rfl, hq, by rw [ht]; exact hP⟩, hS.F ht⟩) hS.2.2 d C.2.2.2.2.2.2.1
theorem go_vret (hr : M.2.2.2 = none) (d : decode M.2.1 pc = .ok (.return_, 1)) (hq : Q none σ) : Go Γ n M Q pc L [] σ := by
  intro p l e s m args below meth c H locs ls C hP hS hl
  exact W.vret C.1 C.2.1 (C.2.2.1.trans hr) (fun t ht _ => ⟨⟨_, σ, rfl, hq, by rw [ht]; exact hP⟩, hS.F ht⟩) hS.2.2 d C.2.2.2.2.2.2.1
/-- System.arraycopy of a whole row of ints -/
theorem go_acopy {a b na nb k idx : Nat} {i0 i1 ik : Int32} (h0 : i0 = nI 0) (h1 : i1 = nI 0) (hk : ik = nI k) (ha : ash a = some na) (hb : ash b = some nb) (hka : k ≤ na) (hkb : k ≤ nb) (hn1 : 1 ≤ n) (hk31 : k < 2 ^ 31) (w : Cond.methodLink M.1.cls idx arraycopyName ∈ TB) (w1 : Cond.native arraycopyName ∈ TB) (w2 : Cond.static arraycopyName ∈ TB) (w3 : Cond.initialized "java/lang/System" ∈ TB)
    (hr : (st.map fun v => v.category).sum ≤ 8) (d : decode M.2.1 pc = .ok (.invokestatic idx, 3)) (kk : Go Γ n M Q (pc + 3) L st (stA σ b (va_cpy (σ.1 a) (σ.1 b) 0 0 k))) : Go Γ n M Q pc L (.int ik :: .int i1 :: rf Γ b :: .int i0 :: rf Γ a :: st) σ := by
  intro p l e s m args below meth c H locs ls C hP hS hl
  have hts := C.2.2.2.2.2.1
  subst h0; subst h1; subst hk
  have z : (nI 0).toNatClampNeg = 0 := nI_clamp (by omega)
  have zk : (nI k).toNatClampNeg = k := nI_clamp hk31
  refine va_copyi C.1 C.2.1 (C.2.2.2.1.trans hl.1.symm) C.2.2.2.2.1 (hts _ w) (hts _ w1) (hts _ w2) (hts _ w3) C.2.2.2.2.2.2.2.1 hP wl_D hS a b 0 0 (ty := .int) (wl_get (ash_spec ha)) (wl_get (ash_spec hb)) rfl rfl rfl (nI_pos (by omega)) (nI_pos (by omega)) (nI_pos hk31) (by rw [z, zk]; omega) (by rw [z, zk]; omega) (fun _ _ => rfl) hn1 ?_ d (fun H1 locs1 h1 _ h3 => ?_)
  · have e1 : nativeFrameWords "java/lang/System" "arraycopy" 5 + 11 ≤ 100 := by decide
    have e2 : (rmD n).locals = 128 * n := rfl
    omega
  · rw [z, zk, wl_stA (ash_spec hb)] at h1
    exact kk p l e s m args below meth c H1 locs1 ls C h1 h3 hl
end GO2
end
section
theorem inTB {w : Cond} (i : Nat) (h : lw_tbl[i]? = some w) (g : goodWord w = true) : w ∈ TB := List.mem_filter.mpr ⟨List.mem_of_getElem? h, g⟩
def wsOK (ws : List Cond) (is : List Nat) : Bool := (ws.length == is.length) && (ws.zip is).all (fun q => decide (lw_tbl[q.2]? = some q.1) && goodWord q.1)
theorem wsOK_spec : ∀ (ws : List Cond) (is : List Nat), wsOK ws is = true → ∀ w ∈ ws, w ∈ TB
  | [], _, _, w, hw => absurd hw List.not_mem_nil
  | a :: ws, [], h, w, hw => by simp [wsOK] at h
  | a :: ws, i :: is, h, w, hw => by
    simp only [wsOK, List.length_cons, List.zip_cons_cons, List.all_cons, Bool.and_eq_true, beq_iff_eq, decide_eq_true_eq] at h
    obtain ⟨h1, ⟨h2, h3⟩, h4⟩ := h
    rcases List.mem_cons.mp hw with e | e
    · subst e; exact inTB i h2 h3
    · exact wsOK_spec ws is (by simp only [wsOK, Bool.and_eq_true, beq_iff_eq]; exact ⟨by omega, h4⟩) w e
abbrev mJ6_bitCount_0f7a4 : Md := (yJ6_bitCount_0f7a4, cJ6_bitCount_0f7a4, 1, (some .int))
abbrev mJ9_max_7cf53 : Md := (yJ9_max_7cf53, cJ9_max_7cf53, 2, (some .int))
abbrev mJ9_min_7cf53 : Md := (yJ9_min_7cf53, cJ9_min_7cf53, 2, (some .int))
abbrev mX0_bestFirst : Md := (yX0_bestFirst, cX0_bestFirst, 6, (some .int))
abbrev mX0_dishInTurn : Md := (yX0_dishInTurn, cX0_dishInTurn, 3, (some .int))
abbrev mX0_draw : Md := (yX0_draw, cX0_draw, 2, (some .int))
abbrev mX0_fewestBits : Md := (yX0_fewestBits, cX0_fewestBits, 4, (some .int))
abbrev mX0_findJoyOfGroups : Md := (yX0_findJoyOfGroups, cX0_findJoyOfGroups, 7, none)
abbrev mX0_fittingLoaths : Md := (yX0_fittingLoaths, cX0_fittingLoaths, 4, (some .int))
abbrev mX0_goRound : Md := (yX0_goRound, cX0_goRound, 4, none)
abbrev mX0_init : Md := (yX0_init, cX0_init, 4, none)
abbrev mX0_joyFrom : Md := (yX0_joyFrom, cX0_joyFrom, 3, (some .int))
abbrev mX0_joyOfEvenings : Md := (yX0_joyOfEvenings, cX0_joyOfEvenings, 8, (some .int))
abbrev mX0_leastUrge : Md := (yX0_leastUrge, cX0_leastUrge, 5, (some .int))
abbrev mX0_mostGiven : Md := (yX0_mostGiven, cX0_mostGiven, 6, (some .int))
abbrev mX0_pleasesAll : Md := (yX0_pleasesAll, cX0_pleasesAll, 5, (some .boolean))
abbrev mX0_roundsTillSettled : Md := (yX0_roundsTillSettled, cX0_roundsTillSettled, 5, (some .int))
abbrev mX0_seatOnwards : Md := (yX0_seatOnwards, cX0_seatOnwards, 3, none)
abbrev mX0_seekContent : Md := (yX0_seekContent, cX0_seekContent, 1, none)
abbrev mX0_setUp : Md := (yX0_setUp, cX0_setUp, 1, none)
abbrev mX0_wouldFit : Md := (yX0_wouldFit, cX0_wouldFit, 4, (some .boolean))
abbrev mX1_init : Md := (yX1_init, cX1_init, 1, none)
abbrev mX1_isOfKind : Md := (yX1_isOfKind, cX1_isOfKind, 2, (some .boolean))
abbrev mX1_sitDown : Md := (yX1_sitDown, cX1_sitDown, 4, none)
abbrev mX2_init : Md := (yX2_init, cX2_init, 3, none)
abbrev mX2_putBack : Md := (yX2_putBack, cX2_putBack, 5, none)
abbrev mX2_take : Md := (yX2_take, cX2_take, 5, none)
abbrev mX3_add : Md := (yX3_add, cX3_add, 4, none)
abbrev mX3_copyFrom : Md := (yX3_copyFrom, cX3_copyFrom, 2, none)
abbrev mX3_init : Md := (yX3_init, cX3_init, 1, none)
abbrev mX4_init : Md := (yX4_init, cX4_init, 1, none)
abbrev mX4_read : Md := (yX4_read, cX4_read, 3, none)
abbrev mX5_firstFault : Md := (yX5_firstFault, cX5_firstFault, 2, (some .int))
abbrev mX5_init : Md := (yX5_init, cX5_init, 1, none)
abbrev mX5_isCard : Md := (yX5_isCard, cX5_isCard, 1, (some .boolean))
abbrev mX5_isGood : Md := (yX5_isGood, cX5_isGood, 4, (some .boolean))
abbrev mX6_behind : Md := (yX6_behind, cX6_behind, 4, (some .int))
abbrev mX6_init : Md := (yX6_init, cX6_init, 2, none)
abbrev mX6_loadWants : Md := (yX6_loadWants, cX6_loadWants, 3, none)
abbrev mX6_saveWants : Md := (yX6_saveWants, cX6_saveWants, 3, none)
abbrev mX7_allContent : Md := (yX7_allContent, cX7_allContent, 4, (some .boolean))
abbrev mX7_canHave : Md := (yX7_canHave, cX7_canHave, 3, (some .boolean))
abbrev mX7_changesMind : Md := (yX7_changesMind, cX7_changesMind, 4, (some .boolean))
abbrev mX7_choice : Md := (yX7_choice, cX7_choice, 6, (some .int))
abbrev mX7_copyFrom : Md := (yX7_copyFrom, cX7_copyFrom, 2, none)
abbrev mX7_give : Md := (yX7_give, cX7_give, 3, none)
abbrev mX7_giveBack : Md := (yX7_giveBack, cX7_giveBack, 3, none)
abbrev mX7_howManyOrdered : Md := (yX7_howManyOrdered, cX7_howManyOrdered, 3, (some .int))
abbrev mX7_init : Md := (yX7_init, cX7_init, 3, none)
abbrev mX7_joyOf : Md := (yX7_joyOf, cX7_joyOf, 2, (some .int))
abbrev mX7_joyOfAll : Md := (yX7_joyOfAll, cX7_joyOfAll, 3, (some .int))
abbrev mX7_press : Md := (yX7_press, cX7_press, 3, none)
abbrev mX7_value : Md := (yX7_value, cX7_value, 6, (some .int))
abbrev mX7_wipe : Md := (yX7_wipe, cX7_wipe, 2, none)
abbrev mX8_about : Md := (yX8_about, cX8_about, 3, (some .int))
abbrev mX8_as : Md := (yX8_as, cX8_as, 3, (some .int))
abbrev mX8_atOnce : Md := (yX8_atOnce, cX8_atOnce, 2, (some .int))
abbrev mX8_begin : Md := (yX8_begin, cX8_begin, 4, (some .int))
abbrev mX8_blank : Md := (yX8_blank, cX8_blank, 2, (some .int))
abbrev mX8_card : Md := (yX8_card, cX8_card, 1, (some .int))
abbrev mX8_clear : Md := (yX8_clear, cX8_clear, 2, (some .int))
abbrev mX8_count : Md := (yX8_count, cX8_count, 2, (some .int))
abbrev mX8_digest : Md := (yX8_digest, cX8_digest, 4, (some .long))
abbrev mX8_dish : Md := (yX8_dish, cX8_dish, 3, (some .int))
abbrev mX8_evening : Md := (yX8_evening, cX8_evening, 4, (some .int))
abbrev mX8_evenings : Md := (yX8_evenings, cX8_evenings, 5, (some .int))
abbrev mX8_fault : Md := (yX8_fault, cX8_fault, 1, (some .int))
abbrev mX8_fewest : Md := (yX8_fewest, cX8_fewest, 3, (some .int))
abbrev mX8_fits : Md := (yX8_fits, cX8_fits, 3, (some .int))
abbrev mX8_forget : Md := (yX8_forget, cX8_forget, 2, (some .int))
abbrev mX8_guest : Md := (yX8_guest, cX8_guest, 3, (some .int))
abbrev mX8_host : Md := (yX8_host, cX8_host, 1, (some .int))
abbrev mX8_image : Md := (yX8_image, cX8_image, 1, (some .int))
abbrev mX8_inTurn : Md := (yX8_inTurn, cX8_inTurn, 3, (some .int))
abbrev mX8_init : Md := (yX8_init, cX8_init, 1, none)
abbrev mX8_isOutside : Md := (yX8_isOutside, cX8_isOutside, 3, (some .boolean))
abbrev mX8_letter : Md := (yX8_letter, cX8_letter, 2, (some .int))
abbrev mX8_minds : Md := (yX8_minds, cX8_minds, 2, (some .int))
abbrev mX8_mixed : Md := (yX8_mixed, cX8_mixed, 4, (some .long))
abbrev mX8_mixedDishes : Md := (yX8_mixedDishes, cX8_mixedDishes, 7, (some .long))
abbrev mX8_mixedGuests : Md := (yX8_mixedGuests, cX8_mixedGuests, 7, (some .long))
abbrev mX8_noCard : Md := (yX8_noCard, cX8_noCard, 1, (some .boolean))
abbrev mX8_noDish : Md := (yX8_noDish, cX8_noDish, 2, (some .boolean))
abbrev mX8_noGuest : Md := (yX8_noGuest, cX8_noGuest, 2, (some .boolean))
abbrev mX8_onlyLoath : Md := (yX8_onlyLoath, cX8_onlyLoath, 2, (some .int))
abbrev mX8_order : Md := (yX8_order, cX8_order, 3, (some .int))
abbrev mX8_purse : Md := (yX8_purse, cX8_purse, 4, (some .int))
abbrev mX8_restore : Md := (yX8_restore, cX8_restore, 1, (some .int))
abbrev mX8_takes : Md := (yX8_takes, cX8_takes, 2, (some .int))
abbrev mX8_urge : Md := (yX8_urge, cX8_urge, 4, (some .int))
abbrev mX8_urges : Md := (yX8_urges, cX8_urges, 4, (some .int))
abbrev mX8_want : Md := (yX8_want, cX8_want, 5, (some .int))
abbrev mX9_about : Md := (yX9_about, cX9_about, 3, (some .int))
abbrev mX9_as : Md := (yX9_as, cX9_as, 5, (some .int))
abbrev mX9_asItIs : Md := (yX9_asItIs, cX9_asItIs, 1, none)
abbrev mX9_atOnce : Md := (yX9_atOnce, cX9_atOnce, 7, (some .int))
abbrev mX9_begin : Md := (yX9_begin, cX9_begin, 3, (some .int))
abbrev mX9_beginOf : Md := (yX9_beginOf, cX9_beginOf, 7, (some .int))
abbrev mX9_bestFor : Md := (yX9_bestFor, cX9_bestFor, 8, (some .int))
abbrev mX9_blank : Md := (yX9_blank, cX9_blank, 2, (some .int))
abbrev mX9_card : Md := (yX9_card, cX9_card, 2, (some .int))
abbrev mX9_clear : Md := (yX9_clear, cX9_clear, 3, (some .int))
abbrev mX9_copy : Md := (yX9_copy, cX9_copy, 3, none)
abbrev mX9_count : Md := (yX9_count, cX9_count, 2, (some .int))
abbrev mX9_countOf : Md := (yX9_countOf, cX9_countOf, 2, (some .int))
abbrev mX9_digest : Md := (yX9_digest, cX9_digest, 3, (some .long))
abbrev mX9_dish : Md := (yX9_dish, cX9_dish, 3, (some .int))
abbrev mX9_draw : Md := (yX9_draw, cX9_draw, 2, (some .int))
abbrev mX9_evening : Md := (yX9_evening, cX9_evening, 4, (some .int))
abbrev mX9_evenings : Md := (yX9_evenings, cX9_evenings, 9, (some .int))
abbrev mX9_fault : Md := (yX9_fault, cX9_fault, 1, (some .int))
abbrev mX9_faultOf : Md := (yX9_faultOf, cX9_faultOf, 2, (some .int))
abbrev mX9_fewest : Md := (yX9_fewest, cX9_fewest, 2, (some .int))
abbrev mX9_fewestOf : Md := (yX9_fewestOf, cX9_fewestOf, 8, (some .int))
abbrev mX9_fits : Md := (yX9_fits, cX9_fits, 4, (some .int))
abbrev mX9_fitsOf : Md := (yX9_fitsOf, cX9_fitsOf, 5, (some .int))
abbrev mX9_forget : Md := (yX9_forget, cX9_forget, 2, (some .int))
abbrev mX9_go : Md := (yX9_go, cX9_go, 4, (some .boolean))
abbrev mX9_guest : Md := (yX9_guest, cX9_guest, 4, (some .int))
abbrev mX9_haveOf : Md := (yX9_haveOf, cX9_haveOf, 5, (some .int))
abbrev mX9_host : Md := (yX9_host, cX9_host, 1, (some .int))
abbrev mX9_hostOf : Md := (yX9_hostOf, cX9_hostOf, 6, (some .int))
abbrev mX9_image : Md := (yX9_image, cX9_image, 1, (some .int))
abbrev mX9_in : Md := (yX9_in, cX9_in, 6, (some .boolean))
abbrev mX9_inTurn : Md := (yX9_inTurn, cX9_inTurn, 3, (some .int))
abbrev mX9_init : Md := (yX9_init, cX9_init, 1, none)
abbrev mX9_isAtOnce : Md := (yX9_isAtOnce, cX9_isAtOnce, 4, (some .boolean))
abbrev mX9_isDish : Md := (yX9_isDish, cX9_isDish, 2, (some .boolean))
abbrev mX9_isGuest : Md := (yX9_isGuest, cX9_isGuest, 2, (some .boolean))
abbrev mX9_joyAll : Md := (yX9_joyAll, cX9_joyAll, 4, (some .int))
abbrev mX9_joyOf : Md := (yX9_joyOf, cX9_joyOf, 3, (some .int))
abbrev mX9_lacks : Md := (yX9_lacks, cX9_lacks, 1, (some .boolean))
abbrev mX9_layInTurn : Md := (yX9_layInTurn, cX9_layInTurn, 4, none)
abbrev mX9_letter : Md := (yX9_letter, cX9_letter, 2, (some .int))
abbrev mX9_mayHave : Md := (yX9_mayHave, cX9_mayHave, 5, (some .boolean))
abbrev mX9_minds : Md := (yX9_minds, cX9_minds, 2, (some .int))
abbrev mX9_mindsOf : Md := (yX9_mindsOf, cX9_mindsOf, 8, (some .int))
abbrev mX9_ones : Md := (yX9_ones, cX9_ones, 3, (some .int))
abbrev mX9_order : Md := (yX9_order, cX9_order, 2, (some .int))
abbrev mX9_orderedMany : Md := (yX9_orderedMany, cX9_orderedMany, 3, (some .int))
abbrev mX9_power : Md := (yX9_power, cX9_power, 4, (some .int))
abbrev mX9_purse : Md := (yX9_purse, cX9_purse, 4, (some .int))
abbrev mX9_restore : Md := (yX9_restore, cX9_restore, 1, (some .int))
abbrev mX9_say : Md := (yX9_say, cX9_say, 3, none)
abbrev mX9_sayGuest : Md := (yX9_sayGuest, cX9_sayGuest, 3, none)
abbrev mX9_swayBy : Md := (yX9_swayBy, cX9_swayBy, 4, (some .int))
abbrev mX9_takes : Md := (yX9_takes, cX9_takes, 2, (some .int))
abbrev mX9_tell : Md := (yX9_tell, cX9_tell, 3, (some .int))
abbrev mX9_tellDish : Md := (yX9_tellDish, cX9_tellDish, 3, (some .int))
abbrev mX9_urge : Md := (yX9_urge, cX9_urge, 4, (some .int))
abbrev mX9_urges : Md := (yX9_urges, cX9_urges, 5, (some .int))
abbrev mX9_valueOf : Md := (yX9_valueOf, cX9_valueOf, 5, (some .int))
abbrev mX9_want : Md := (yX9_want, cX9_want, 5, (some .int))
set_option maxRecDepth 100000 in
theorem cfX0 : CF 0 RX0 TX0 10 tyX0 := ⟨rfl, wsOK_spec _ [255, 257, 259, 261, 263, 265, 267, 269, 271, 273] (by decide +kernel), tyX0_ok, nmX0⟩
set_option maxRecDepth 100000 in
theorem cfX1 : CF 1 RX1 TX1 4 tyX1 := ⟨rfl, wsOK_spec _ [138, 140, 142, 144] (by decide +kernel), tyX1_ok, nmX1⟩
set_option maxRecDepth 100000 in
theorem cfX2 : CF 2 RX2 TX2 6 tyX2 := ⟨rfl, wsOK_spec _ [294, 296, 298, 300, 302, 304] (by decide +kernel), tyX2_ok, nmX2⟩
set_option maxRecDepth 100000 in
theorem cfX3 : CF 3 RX3 TX3 4 tyX3 := ⟨rfl, wsOK_spec _ [223, 225, 227, 229] (by decide +kernel), tyX3_ok, nmX3⟩
set_option maxRecDepth 100000 in
theorem cfX4 : CF 4 RX4 TX4 4 tyX4 := ⟨rfl, wsOK_spec _ [101, 103, 105, 107] (by decide +kernel), tyX4_ok, nmX4⟩
set_option maxRecDepth 100000 in
theorem cfX5 : CF 5 RX5 TX5 2 tyX5 := ⟨rfl, wsOK_spec _ [75, 77] (by decide +kernel), tyX5_ok, nmX5⟩
set_option maxRecDepth 100000 in
theorem cfX6 : CF 6 RX6 TX6 2 tyX6 := ⟨rfl, wsOK_spec _ [157, 159] (by decide +kernel), tyX6_ok, nmX6⟩
set_option maxRecDepth 100000 in
theorem cfX7 : CF 7 RX7 TX7 9 tyX7 := ⟨rfl, wsOK_spec _ [189, 191, 193, 195, 197, 199, 201, 203, 205] (by decide +kernel), tyX7_ok, nmX7⟩
set_option maxRecDepth 100000 in
theorem cfX8 : CF 8 RX8 TX8 9 tyX8 := ⟨rfl, wsOK_spec _ [316, 318, 320, 322, 324, 326, 328, 330, 332] (by decide +kernel), tyX8_ok, nmX8⟩
set_option maxRecDepth 100000 in
theorem cfX9 : CF 9 RX9 TX9 37 tyX9 := ⟨rfl, wsOK_spec _ [745, 747, 749, 751, 753, 755, 757, 759, 761, 763, 765, 767, 769, 771, 773, 775, 777, 779, 781, 783, 785, 787, 789, 791, 793, 795, 797, 799, 801, 803, 805, 807, 809, 811, 813, 815, 817] (by decide +kernel), tyX9_ok, nmX9⟩
theorem iniJ6 : Cond.initialized RJ6 ∈ TB := inTB 53 (by decide +kernel) (by decide +kernel)
theorem iniJ9 : Cond.initialized RJ9 ∈ TB := inTB 52 (by decide +kernel) (by decide +kernel)
theorem iniX0 : Cond.initialized RX0 ∈ TB := inTB 49 (by decide +kernel) (by decide +kernel)
theorem iniX1 : Cond.initialized RX1 ∈ TB := inTB 46 (by decide +kernel) (by decide +kernel)
theorem iniX2 : Cond.initialized RX2 ∈ TB := inTB 50 (by decide +kernel) (by decide +kernel)
theorem iniX3 : Cond.initialized RX3 ∈ TB := inTB 48 (by decide +kernel) (by decide +kernel)
theorem iniX4 : Cond.initialized RX4 ∈ TB := inTB 44 (by decide +kernel) (by decide +kernel)
theorem iniX5 : Cond.initialized RX5 ∈ TB := inTB 43 (by decide +kernel) (by decide +kernel)
theorem iniX6 : Cond.initialized RX6 ∈ TB := inTB 45 (by decide +kernel) (by decide +kernel)
theorem iniX7 : Cond.initialized RX7 ∈ TB := inTB 47 (by decide +kernel) (by decide +kernel)
theorem iniX8 : Cond.initialized RX8 ∈ TB := inTB 42 (by decide +kernel) (by decide +kernel)
theorem iniX9 : Cond.initialized RX9 ∈ TB := inTB 51 (by decide +kernel) (by decide +kernel)
set_option maxRecDepth 100000 in
theorem cd_J6_bitCount_0f7a4 : Cond.code yJ6_bitCount_0f7a4 cJ6_bitCount_0f7a4 1 (some .int) ∈ TB := inTB 565 (by decide +kernel) (by decide +kernel)
set_option maxRecDepth 100000 in
theorem cs_J6_bitCount_0f7a4 {own : String} {idx : Nat} (h : Cond.methodLink own idx yJ6_bitCount_0f7a4 ∈ TB) : CS own idx mJ6_bitCount_0f7a4 1 := ⟨⟨h, inTB 564 (by decide +kernel) (by decide +kernel), iniJ6, cd_J6_bitCount_0f7a4⟩, by decide +kernel, by decide⟩
set_option maxRecDepth 100000 in
theorem cd_J9_max_7cf53 : Cond.code yJ9_max_7cf53 cJ9_max_7cf53 2 (some .int) ∈ TB := inTB 530 (by decide +kernel) (by decide +kernel)
set_option maxRecDepth 100000 in
theorem cs_J9_max_7cf53 {own : String} {idx : Nat} (h : Cond.methodLink own idx yJ9_max_7cf53 ∈ TB) : CS own idx mJ9_max_7cf53 2 := ⟨⟨h, inTB 529 (by decide +kernel) (by decide +kernel), iniJ9, cd_J9_max_7cf53⟩, by decide +kernel, by decide⟩
set_option maxRecDepth 100000 in
theorem cd_J9_min_7cf53 : Cond.code yJ9_min_7cf53 cJ9_min_7cf53 2 (some .int) ∈ TB := inTB 373 (by decide +kernel) (by decide +kernel)
set_option maxRecDepth 100000 in
theorem cs_J9_min_7cf53 {own : String} {idx : Nat} (h : Cond.methodLink own idx yJ9_min_7cf53 ∈ TB) : CS own idx mJ9_min_7cf53 2 := ⟨⟨h, inTB 372 (by decide +kernel) (by decide +kernel), iniJ9, cd_J9_min_7cf53⟩, by decide +kernel, by decide⟩
set_option maxRecDepth 100000 in
theorem cd_X0_bestFirst : Cond.code yX0_bestFirst cX0_bestFirst 6 (some .int) ∈ TB := inTB 500 (by decide +kernel) (by decide +kernel)
set_option maxRecDepth 100000 in
theorem cv_X0_bestFirst {own : String} {idx : Nat} (h : Cond.methodLink own idx yX0_bestFirst ∈ TB) : CV own idx mX0_bestFirst 1 0 := ⟨⟨h, inTB 498 (by decide +kernel) (by decide +kernel), inTB 499 (by decide +kernel) (by decide +kernel), iniX0, cd_X0_bestFirst⟩, rfl, by decide +kernel, by decide⟩
set_option maxRecDepth 100000 in
theorem cd_X0_dishInTurn : Cond.code yX0_dishInTurn cX0_dishInTurn 3 (some .int) ∈ TB := inTB 476 (by decide +kernel) (by decide +kernel)
set_option maxRecDepth 100000 in
theorem cv_X0_dishInTurn {own : String} {idx : Nat} (h : Cond.methodLink own idx yX0_dishInTurn ∈ TB) : CV own idx mX0_dishInTurn 2 0 := ⟨⟨h, inTB 474 (by decide +kernel) (by decide +kernel), inTB 475 (by decide +kernel) (by decide +kernel), iniX0, cd_X0_dishInTurn⟩, rfl, by decide +kernel, by decide⟩
set_option maxRecDepth 100000 in
theorem cd_X0_draw : Cond.code yX0_draw cX0_draw 2 (some .int) ∈ TB := inTB 635 (by decide +kernel) (by decide +kernel)
set_option maxRecDepth 100000 in
theorem cv_X0_draw {own : String} {idx : Nat} (h : Cond.methodLink own idx yX0_draw ∈ TB) : CV own idx mX0_draw 1 0 := ⟨⟨h, inTB 634 (by decide +kernel) (by decide +kernel), inTB 10 (by decide +kernel) (by decide +kernel), iniX0, cd_X0_draw⟩, rfl, by decide +kernel, by decide⟩
set_option maxRecDepth 100000 in
theorem cd_X0_fewestBits : Cond.code yX0_fewestBits cX0_fewestBits 4 (some .int) ∈ TB := inTB 576 (by decide +kernel) (by decide +kernel)
set_option maxRecDepth 100000 in
theorem cv_X0_fewestBits {own : String} {idx : Nat} (h : Cond.methodLink own idx yX0_fewestBits ∈ TB) : CV own idx mX0_fewestBits 0 0 := ⟨⟨h, inTB 574 (by decide +kernel) (by decide +kernel), inTB 575 (by decide +kernel) (by decide +kernel), iniX0, cd_X0_fewestBits⟩, rfl, by decide +kernel, by decide⟩
set_option maxRecDepth 100000 in
theorem cd_X0_findJoyOfGroups : Cond.code yX0_findJoyOfGroups cX0_findJoyOfGroups 7 none ∈ TB := inTB 562 (by decide +kernel) (by decide +kernel)
set_option maxRecDepth 100000 in
theorem cv_X0_findJoyOfGroups {own : String} {idx : Nat} (h : Cond.methodLink own idx yX0_findJoyOfGroups ∈ TB) : CV own idx mX0_findJoyOfGroups 1 0 := ⟨⟨h, inTB 561 (by decide +kernel) (by decide +kernel), inTB 7 (by decide +kernel) (by decide +kernel), iniX0, cd_X0_findJoyOfGroups⟩, rfl, by decide +kernel, by decide⟩
set_option maxRecDepth 100000 in
theorem cd_X0_fittingLoaths : Cond.code yX0_fittingLoaths cX0_fittingLoaths 4 (some .int) ∈ TB := inTB 609 (by decide +kernel) (by decide +kernel)
set_option maxRecDepth 100000 in
theorem cv_X0_fittingLoaths {own : String} {idx : Nat} (h : Cond.methodLink own idx yX0_fittingLoaths ∈ TB) : CV own idx mX0_fittingLoaths 1 0 := ⟨⟨h, inTB 607 (by decide +kernel) (by decide +kernel), inTB 608 (by decide +kernel) (by decide +kernel), iniX0, cd_X0_fittingLoaths⟩, rfl, by decide +kernel, by decide⟩
set_option maxRecDepth 100000 in
theorem cd_X0_goRound : Cond.code yX0_goRound cX0_goRound 4 none ∈ TB := inTB 486 (by decide +kernel) (by decide +kernel)
set_option maxRecDepth 100000 in
theorem cv_X0_goRound {own : String} {idx : Nat} (h : Cond.methodLink own idx yX0_goRound ∈ TB) : CV own idx mX0_goRound 1 0 := ⟨⟨h, inTB 485 (by decide +kernel) (by decide +kernel), inTB 5 (by decide +kernel) (by decide +kernel), iniX0, cd_X0_goRound⟩, rfl, by decide +kernel, by decide⟩
set_option maxRecDepth 100000 in
theorem cd_X0_joyFrom : Cond.code yX0_joyFrom cX0_joyFrom 3 (some .int) ∈ TB := inTB 504 (by decide +kernel) (by decide +kernel)
set_option maxRecDepth 100000 in
theorem cv_X0_joyFrom {own : String} {idx : Nat} (h : Cond.methodLink own idx yX0_joyFrom ∈ TB) : CV own idx mX0_joyFrom 2 0 := ⟨⟨h, inTB 502 (by decide +kernel) (by decide +kernel), inTB 503 (by decide +kernel) (by decide +kernel), iniX0, cd_X0_joyFrom⟩, rfl, by decide +kernel, by decide⟩
set_option maxRecDepth 100000 in
theorem cd_X0_joyOfEvenings : Cond.code yX0_joyOfEvenings cX0_joyOfEvenings 8 (some .int) ∈ TB := inTB 624 (by decide +kernel) (by decide +kernel)
set_option maxRecDepth 100000 in
theorem cv_X0_joyOfEvenings {own : String} {idx : Nat} (h : Cond.methodLink own idx yX0_joyOfEvenings ∈ TB) : CV own idx mX0_joyOfEvenings 2 0 := ⟨⟨h, inTB 622 (by decide +kernel) (by decide +kernel), inTB 623 (by decide +kernel) (by decide +kernel), iniX0, cd_X0_joyOfEvenings⟩, rfl, by decide +kernel, by decide⟩
set_option maxRecDepth 100000 in
theorem cd_X0_leastUrge : Cond.code yX0_leastUrge cX0_leastUrge 5 (some .int) ∈ TB := inTB 589 (by decide +kernel) (by decide +kernel)
set_option maxRecDepth 100000 in
theorem cv_X0_leastUrge {own : String} {idx : Nat} (h : Cond.methodLink own idx yX0_leastUrge ∈ TB) : CV own idx mX0_leastUrge 3 0 := ⟨⟨h, inTB 587 (by decide +kernel) (by decide +kernel), inTB 588 (by decide +kernel) (by decide +kernel), iniX0, cd_X0_leastUrge⟩, rfl, by decide +kernel, by decide⟩
set_option maxRecDepth 100000 in
theorem cd_X0_mostGiven : Cond.code yX0_mostGiven cX0_mostGiven 6 (some .int) ∈ TB := inTB 558 (by decide +kernel) (by decide +kernel)
set_option maxRecDepth 100000 in
theorem cv_X0_mostGiven {own : String} {idx : Nat} (h : Cond.methodLink own idx yX0_mostGiven ∈ TB) : CV own idx mX0_mostGiven 0 0 := ⟨⟨h, inTB 556 (by decide +kernel) (by decide +kernel), inTB 557 (by decide +kernel) (by decide +kernel), iniX0, cd_X0_mostGiven⟩, rfl, by decide +kernel, by decide⟩
set_option maxRecDepth 100000 in
theorem cd_X0_pleasesAll : Cond.code yX0_pleasesAll cX0_pleasesAll 5 (some .boolean) ∈ TB := inTB 580 (by decide +kernel) (by decide +kernel)
set_option maxRecDepth 100000 in
theorem cv_X0_pleasesAll {own : String} {idx : Nat} (h : Cond.methodLink own idx yX0_pleasesAll ∈ TB) : CV own idx mX0_pleasesAll 1 0 := ⟨⟨h, inTB 579 (by decide +kernel) (by decide +kernel), inTB 8 (by decide +kernel) (by decide +kernel), iniX0, cd_X0_pleasesAll⟩, rfl, by decide +kernel, by decide⟩
set_option maxRecDepth 100000 in
theorem cd_X0_roundsTillSettled : Cond.code yX0_roundsTillSettled cX0_roundsTillSettled 5 (some .int) ∈ TB := inTB 543 (by decide +kernel) (by decide +kernel)
set_option maxRecDepth 100000 in
theorem cv_X0_roundsTillSettled {own : String} {idx : Nat} (h : Cond.methodLink own idx yX0_roundsTillSettled ∈ TB) : CV own idx mX0_roundsTillSettled 1 0 := ⟨⟨h, inTB 541 (by decide +kernel) (by decide +kernel), inTB 542 (by decide +kernel) (by decide +kernel), iniX0, cd_X0_roundsTillSettled⟩, rfl, by decide +kernel, by decide⟩
set_option maxRecDepth 100000 in
theorem cd_X0_seatOnwards : Cond.code yX0_seatOnwards cX0_seatOnwards 3 none ∈ TB := inTB 523 (by decide +kernel) (by decide +kernel)
set_option maxRecDepth 100000 in
theorem cv_X0_seatOnwards {own : String} {idx : Nat} (h : Cond.methodLink own idx yX0_seatOnwards ∈ TB) : CV own idx mX0_seatOnwards 1 0 := ⟨⟨h, inTB 522 (by decide +kernel) (by decide +kernel), inTB 6 (by decide +kernel) (by decide +kernel), iniX0, cd_X0_seatOnwards⟩, rfl, by decide +kernel, by decide⟩
set_option maxRecDepth 100000 in
theorem cd_X0_seekContent : Cond.code yX0_seekContent cX0_seekContent 1 none ∈ TB := inTB 519 (by decide +kernel) (by decide +kernel)
set_option maxRecDepth 100000 in
theorem cv_X0_seekContent {own : String} {idx : Nat} (h : Cond.methodLink own idx yX0_seekContent ∈ TB) : CV own idx mX0_seekContent 0 0 := ⟨⟨h, inTB 517 (by decide +kernel) (by decide +kernel), inTB 518 (by decide +kernel) (by decide +kernel), iniX0, cd_X0_seekContent⟩, rfl, by decide +kernel, by decide⟩
set_option maxRecDepth 100000 in
theorem cd_X0_setUp : Cond.code yX0_setUp cX0_setUp 1 none ∈ TB := inTB 480 (by decide +kernel) (by decide +kernel)
set_option maxRecDepth 100000 in
theorem cv_X0_setUp {own : String} {idx : Nat} (h : Cond.methodLink own idx yX0_setUp ∈ TB) : CV own idx mX0_setUp 0 0 := ⟨⟨h, inTB 479 (by decide +kernel) (by decide +kernel), inTB 4 (by decide +kernel) (by decide +kernel), iniX0, cd_X0_setUp⟩, rfl, by decide +kernel, by decide⟩
set_option maxRecDepth 100000 in
theorem cd_X0_wouldFit : Cond.code yX0_wouldFit cX0_wouldFit 4 (some .boolean) ∈ TB := inTB 613 (by decide +kernel) (by decide +kernel)
set_option maxRecDepth 100000 in
theorem cv_X0_wouldFit {own : String} {idx : Nat} (h : Cond.methodLink own idx yX0_wouldFit ∈ TB) : CV own idx mX0_wouldFit 2 0 := ⟨⟨h, inTB 612 (by decide +kernel) (by decide +kernel), inTB 9 (by decide +kernel) (by decide +kernel), iniX0, cd_X0_wouldFit⟩, rfl, by decide +kernel, by decide⟩
set_option maxRecDepth 100000 in
theorem cd_X1_isOfKind : Cond.code yX1_isOfKind cX1_isOfKind 2 (some .boolean) ∈ TB := inTB 423 (by decide +kernel) (by decide +kernel)
set_option maxRecDepth 100000 in
theorem cv_X1_isOfKind {own : String} {idx : Nat} (h : Cond.methodLink own idx yX1_isOfKind ∈ TB) : CV own idx mX1_isOfKind 1 1 := ⟨⟨h, inTB 421 (by decide +kernel) (by decide +kernel), inTB 422 (by decide +kernel) (by decide +kernel), iniX1, cd_X1_isOfKind⟩, rfl, by decide +kernel, by decide⟩
set_option maxRecDepth 100000 in
theorem cd_X1_sitDown : Cond.code yX1_sitDown cX1_sitDown 4 none ∈ TB := inTB 401 (by decide +kernel) (by decide +kernel)
set_option maxRecDepth 100000 in
theorem cv_X1_sitDown {own : String} {idx : Nat} (h : Cond.methodLink own idx yX1_sitDown ∈ TB) : CV own idx mX1_sitDown 2 1 := ⟨⟨h, inTB 399 (by decide +kernel) (by decide +kernel), inTB 400 (by decide +kernel) (by decide +kernel), iniX1, cd_X1_sitDown⟩, rfl, by decide +kernel, by decide⟩
set_option maxRecDepth 100000 in
theorem cd_X2_putBack : Cond.code yX2_putBack cX2_putBack 5 none ∈ TB := inTB 670 (by decide +kernel) (by decide +kernel)
set_option maxRecDepth 100000 in
theorem cv_X2_putBack {own : String} {idx : Nat} (h : Cond.methodLink own idx yX2_putBack ∈ TB) : CV own idx mX2_putBack 3 2 := ⟨⟨h, inTB 668 (by decide +kernel) (by decide +kernel), inTB 669 (by decide +kernel) (by decide +kernel), iniX2, cd_X2_putBack⟩, rfl, by decide +kernel, by decide⟩
set_option maxRecDepth 100000 in
theorem cd_X2_take : Cond.code yX2_take cX2_take 5 none ∈ TB := inTB 651 (by decide +kernel) (by decide +kernel)
set_option maxRecDepth 100000 in
theorem cv_X2_take {own : String} {idx : Nat} (h : Cond.methodLink own idx yX2_take ∈ TB) : CV own idx mX2_take 3 2 := ⟨⟨h, inTB 649 (by decide +kernel) (by decide +kernel), inTB 650 (by decide +kernel) (by decide +kernel), iniX2, cd_X2_take⟩, rfl, by decide +kernel, by decide⟩
set_option maxRecDepth 100000 in
theorem cd_X3_add : Cond.code yX3_add cX3_add 4 none ∈ TB := inTB 597 (by decide +kernel) (by decide +kernel)
set_option maxRecDepth 100000 in
theorem cv_X3_add {own : String} {idx : Nat} (h : Cond.methodLink own idx yX3_add ∈ TB) : CV own idx mX3_add 3 3 := ⟨⟨h, inTB 595 (by decide +kernel) (by decide +kernel), inTB 596 (by decide +kernel) (by decide +kernel), iniX3, cd_X3_add⟩, rfl, by decide +kernel, by decide⟩
set_option maxRecDepth 100000 in
theorem cd_X3_copyFrom : Cond.code yX3_copyFrom cX3_copyFrom 2 none ∈ TB := inTB 660 (by decide +kernel) (by decide +kernel)
set_option maxRecDepth 100000 in
theorem cv_X3_copyFrom {own : String} {idx : Nat} (h : Cond.methodLink own idx yX3_copyFrom ∈ TB) : CV own idx mX3_copyFrom 1 3 := ⟨⟨h, inTB 658 (by decide +kernel) (by decide +kernel), inTB 659 (by decide +kernel) (by decide +kernel), iniX3, cd_X3_copyFrom⟩, rfl, by decide +kernel, by decide⟩
set_option maxRecDepth 100000 in
theorem cd_X4_read : Cond.code yX4_read cX4_read 3 none ∈ TB := inTB 370 (by decide +kernel) (by decide +kernel)
set_option maxRecDepth 100000 in
theorem cv_X4_read {own : String} {idx : Nat} (h : Cond.methodLink own idx yX4_read ∈ TB) : CV own idx mX4_read 1 4 := ⟨⟨h, inTB 368 (by decide +kernel) (by decide +kernel), inTB 369 (by decide +kernel) (by decide +kernel), iniX4, cd_X4_read⟩, rfl, by decide +kernel, by decide⟩
set_option maxRecDepth 100000 in
theorem cd_X5_firstFault : Cond.code yX5_firstFault cX5_firstFault 2 (some .int) ∈ TB := inTB 353 (by decide +kernel) (by decide +kernel)
set_option maxRecDepth 100000 in
theorem cv_X5_firstFault {own : String} {idx : Nat} (h : Cond.methodLink own idx yX5_firstFault ∈ TB) : CV own idx mX5_firstFault 0 5 := ⟨⟨h, inTB 351 (by decide +kernel) (by decide +kernel), inTB 352 (by decide +kernel) (by decide +kernel), iniX5, cd_X5_firstFault⟩, rfl, by decide +kernel, by decide⟩
set_option maxRecDepth 100000 in
theorem cd_X5_isCard : Cond.code yX5_isCard cX5_isCard 1 (some .boolean) ∈ TB := inTB 365 (by decide +kernel) (by decide +kernel)
set_option maxRecDepth 100000 in
theorem cv_X5_isCard {own : String} {idx : Nat} (h : Cond.methodLink own idx yX5_isCard ∈ TB) : CV own idx mX5_isCard 0 5 := ⟨⟨h, inTB 363 (by decide +kernel) (by decide +kernel), inTB 364 (by decide +kernel) (by decide +kernel), iniX5, cd_X5_isCard⟩, rfl, by decide +kernel, by decide⟩
set_option maxRecDepth 100000 in
theorem cd_X5_isGood : Cond.code yX5_isGood cX5_isGood 4 (some .boolean) ∈ TB := inTB 357 (by decide +kernel) (by decide +kernel)
set_option maxRecDepth 100000 in
theorem cv_X5_isGood {own : String} {idx : Nat} (h : Cond.methodLink own idx yX5_isGood ∈ TB) : CV own idx mX5_isGood 1 5 := ⟨⟨h, inTB 356 (by decide +kernel) (by decide +kernel), inTB 0 (by decide +kernel) (by decide +kernel), iniX5, cd_X5_isGood⟩, rfl, by decide +kernel, by decide⟩
set_option maxRecDepth 100000 in
theorem cd_X6_behind : Cond.code yX6_behind cX6_behind 4 (some .int) ∈ TB := inTB 490 (by decide +kernel) (by decide +kernel)
set_option maxRecDepth 100000 in
theorem cv_X6_behind {own : String} {idx : Nat} (h : Cond.methodLink own idx yX6_behind ∈ TB) : CV own idx mX6_behind 2 6 := ⟨⟨h, inTB 488 (by decide +kernel) (by decide +kernel), inTB 489 (by decide +kernel) (by decide +kernel), iniX6, cd_X6_behind⟩, rfl, by decide +kernel, by decide⟩
set_option maxRecDepth 100000 in
theorem cd_X6_loadWants : Cond.code yX6_loadWants cX6_loadWants 3 none ∈ TB := inTB 643 (by decide +kernel) (by decide +kernel)
set_option maxRecDepth 100000 in
theorem cv_X6_loadWants {own : String} {idx : Nat} (h : Cond.methodLink own idx yX6_loadWants ∈ TB) : CV own idx mX6_loadWants 1 6 := ⟨⟨h, inTB 641 (by decide +kernel) (by decide +kernel), inTB 642 (by decide +kernel) (by decide +kernel), iniX6, cd_X6_loadWants⟩, rfl, by decide +kernel, by decide⟩
set_option maxRecDepth 100000 in
theorem cd_X6_saveWants : Cond.code yX6_saveWants cX6_saveWants 3 none ∈ TB := inTB 628 (by decide +kernel) (by decide +kernel)
set_option maxRecDepth 100000 in
theorem cv_X6_saveWants {own : String} {idx : Nat} (h : Cond.methodLink own idx yX6_saveWants ∈ TB) : CV own idx mX6_saveWants 1 6 := ⟨⟨h, inTB 626 (by decide +kernel) (by decide +kernel), inTB 627 (by decide +kernel) (by decide +kernel), iniX6, cd_X6_saveWants⟩, rfl, by decide +kernel, by decide⟩
set_option maxRecDepth 100000 in
theorem cd_X7_allContent : Cond.code yX7_allContent cX7_allContent 4 (some .boolean) ∈ TB := inTB 527 (by decide +kernel) (by decide +kernel)
set_option maxRecDepth 100000 in
theorem cv_X7_allContent {own : String} {idx : Nat} (h : Cond.methodLink own idx yX7_allContent ∈ TB) : CV own idx mX7_allContent 0 7 := ⟨⟨h, inTB 525 (by decide +kernel) (by decide +kernel), inTB 526 (by decide +kernel) (by decide +kernel), iniX7, cd_X7_allContent⟩, rfl, by decide +kernel, by decide⟩
set_option maxRecDepth 100000 in
theorem cd_X7_canHave : Cond.code yX7_canHave cX7_canHave 3 (some .boolean) ∈ TB := inTB 447 (by decide +kernel) (by decide +kernel)
set_option maxRecDepth 100000 in
theorem cv_X7_canHave {own : String} {idx : Nat} (h : Cond.methodLink own idx yX7_canHave ∈ TB) : CV own idx mX7_canHave 2 7 := ⟨⟨h, inTB 445 (by decide +kernel) (by decide +kernel), inTB 446 (by decide +kernel) (by decide +kernel), iniX7, cd_X7_canHave⟩, rfl, by decide +kernel, by decide⟩
set_option maxRecDepth 100000 in
theorem cd_X7_changesMind : Cond.code yX7_changesMind cX7_changesMind 4 (some .boolean) ∈ TB := inTB 547 (by decide +kernel) (by decide +kernel)
set_option maxRecDepth 100000 in
theorem cv_X7_changesMind {own : String} {idx : Nat} (h : Cond.methodLink own idx yX7_changesMind ∈ TB) : CV own idx mX7_changesMind 1 7 := ⟨⟨h, inTB 545 (by decide +kernel) (by decide +kernel), inTB 546 (by decide +kernel) (by decide +kernel), iniX7, cd_X7_changesMind⟩, rfl, by decide +kernel, by decide⟩
set_option maxRecDepth 100000 in
theorem cd_X7_choice : Cond.code yX7_choice cX7_choice 6 (some .int) ∈ TB := inTB 443 (by decide +kernel) (by decide +kernel)
set_option maxRecDepth 100000 in
theorem cv_X7_choice {own : String} {idx : Nat} (h : Cond.methodLink own idx yX7_choice ∈ TB) : CV own idx mX7_choice 1 7 := ⟨⟨h, inTB 441 (by decide +kernel) (by decide +kernel), inTB 442 (by decide +kernel) (by decide +kernel), iniX7, cd_X7_choice⟩, rfl, by decide +kernel, by decide⟩
set_option maxRecDepth 100000 in
theorem cd_X7_copyFrom : Cond.code yX7_copyFrom cX7_copyFrom 2 none ∈ TB := inTB 655 (by decide +kernel) (by decide +kernel)
set_option maxRecDepth 100000 in
theorem cv_X7_copyFrom {own : String} {idx : Nat} (h : Cond.methodLink own idx yX7_copyFrom ∈ TB) : CV own idx mX7_copyFrom 1 7 := ⟨⟨h, inTB 653 (by decide +kernel) (by decide +kernel), inTB 654 (by decide +kernel) (by decide +kernel), iniX7, cd_X7_copyFrom⟩, rfl, by decide +kernel, by decide⟩
set_option maxRecDepth 100000 in
theorem cd_X7_give : Cond.code yX7_give cX7_give 3 none ∈ TB := inTB 460 (by decide +kernel) (by decide +kernel)
set_option maxRecDepth 100000 in
theorem cv_X7_give {own : String} {idx : Nat} (h : Cond.methodLink own idx yX7_give ∈ TB) : CV own idx mX7_give 2 7 := ⟨⟨h, inTB 458 (by decide +kernel) (by decide +kernel), inTB 459 (by decide +kernel) (by decide +kernel), iniX7, cd_X7_give⟩, rfl, by decide +kernel, by decide⟩
set_option maxRecDepth 100000 in
theorem cd_X7_giveBack : Cond.code yX7_giveBack cX7_giveBack 3 none ∈ TB := inTB 535 (by decide +kernel) (by decide +kernel)
set_option maxRecDepth 100000 in
theorem cv_X7_giveBack {own : String} {idx : Nat} (h : Cond.methodLink own idx yX7_giveBack ∈ TB) : CV own idx mX7_giveBack 1 7 := ⟨⟨h, inTB 533 (by decide +kernel) (by decide +kernel), inTB 534 (by decide +kernel) (by decide +kernel), iniX7, cd_X7_giveBack⟩, rfl, by decide +kernel, by decide⟩
set_option maxRecDepth 100000 in
theorem cd_X7_howManyOrdered : Cond.code yX7_howManyOrdered cX7_howManyOrdered 3 (some .int) ∈ TB := inTB 468 (by decide +kernel) (by decide +kernel)
set_option maxRecDepth 100000 in
theorem cv_X7_howManyOrdered {own : String} {idx : Nat} (h : Cond.methodLink own idx yX7_howManyOrdered ∈ TB) : CV own idx mX7_howManyOrdered 0 7 := ⟨⟨h, inTB 466 (by decide +kernel) (by decide +kernel), inTB 467 (by decide +kernel) (by decide +kernel), iniX7, cd_X7_howManyOrdered⟩, rfl, by decide +kernel, by decide⟩
set_option maxRecDepth 100000 in
theorem cd_X7_joyOf : Cond.code yX7_joyOf cX7_joyOf 2 (some .int) ∈ TB := inTB 415 (by decide +kernel) (by decide +kernel)
set_option maxRecDepth 100000 in
theorem cv_X7_joyOf {own : String} {idx : Nat} (h : Cond.methodLink own idx yX7_joyOf ∈ TB) : CV own idx mX7_joyOf 1 7 := ⟨⟨h, inTB 413 (by decide +kernel) (by decide +kernel), inTB 414 (by decide +kernel) (by decide +kernel), iniX7, cd_X7_joyOf⟩, rfl, by decide +kernel, by decide⟩
set_option maxRecDepth 100000 in
theorem cd_X7_joyOfAll : Cond.code yX7_joyOfAll cX7_joyOfAll 3 (some .int) ∈ TB := inTB 508 (by decide +kernel) (by decide +kernel)
set_option maxRecDepth 100000 in
theorem cv_X7_joyOfAll {own : String} {idx : Nat} (h : Cond.methodLink own idx yX7_joyOfAll ∈ TB) : CV own idx mX7_joyOfAll 0 7 := ⟨⟨h, inTB 506 (by decide +kernel) (by decide +kernel), inTB 507 (by decide +kernel) (by decide +kernel), iniX7, cd_X7_joyOfAll⟩, rfl, by decide +kernel, by decide⟩
set_option maxRecDepth 100000 in
theorem cd_X7_press : Cond.code yX7_press cX7_press 3 none ∈ TB := inTB 377 (by decide +kernel) (by decide +kernel)
set_option maxRecDepth 100000 in
theorem cv_X7_press {own : String} {idx : Nat} (h : Cond.methodLink own idx yX7_press ∈ TB) : CV own idx mX7_press 2 7 := ⟨⟨h, inTB 375 (by decide +kernel) (by decide +kernel), inTB 376 (by decide +kernel) (by decide +kernel), iniX7, cd_X7_press⟩, rfl, by decide +kernel, by decide⟩
set_option maxRecDepth 100000 in
theorem cd_X7_value : Cond.code yX7_value cX7_value 6 (some .int) ∈ TB := inTB 451 (by decide +kernel) (by decide +kernel)
set_option maxRecDepth 100000 in
theorem cv_X7_value {own : String} {idx : Nat} (h : Cond.methodLink own idx yX7_value ∈ TB) : CV own idx mX7_value 2 7 := ⟨⟨h, inTB 449 (by decide +kernel) (by decide +kernel), inTB 450 (by decide +kernel) (by decide +kernel), iniX7, cd_X7_value⟩, rfl, by decide +kernel, by decide⟩
set_option maxRecDepth 100000 in
theorem cd_X7_wipe : Cond.code yX7_wipe cX7_wipe 2 none ∈ TB := inTB 381 (by decide +kernel) (by decide +kernel)
set_option maxRecDepth 100000 in
theorem cv_X7_wipe {own : String} {idx : Nat} (h : Cond.methodLink own idx yX7_wipe ∈ TB) : CV own idx mX7_wipe 0 7 := ⟨⟨h, inTB 379 (by decide +kernel) (by decide +kernel), inTB 380 (by decide +kernel) (by decide +kernel), iniX7, cd_X7_wipe⟩, rfl, by decide +kernel, by decide⟩
set_option maxRecDepth 100000 in
theorem cd_X8_about : Cond.code yX8_about cX8_about 3 (some .int) ∈ TB := inTB 407 (by decide +kernel) (by decide +kernel)
set_option maxRecDepth 100000 in
theorem cv_X8_about {own : String} {idx : Nat} (h : Cond.methodLink own idx yX8_about ∈ TB) : CV own idx mX8_about 2 8 := ⟨⟨h, inTB 405 (by decide +kernel) (by decide +kernel), inTB 406 (by decide +kernel) (by decide +kernel), iniX8, cd_X8_about⟩, rfl, by decide +kernel, by decide⟩
set_option maxRecDepth 100000 in
theorem cd_X8_as : Cond.code yX8_as cX8_as 3 (some .int) ∈ TB := inTB 419 (by decide +kernel) (by decide +kernel)
set_option maxRecDepth 100000 in
theorem cv_X8_as {own : String} {idx : Nat} (h : Cond.methodLink own idx yX8_as ∈ TB) : CV own idx mX8_as 2 8 := ⟨⟨h, inTB 417 (by decide +kernel) (by decide +kernel), inTB 418 (by decide +kernel) (by decide +kernel), iniX8, cd_X8_as⟩, rfl, by decide +kernel, by decide⟩
set_option maxRecDepth 100000 in
theorem cd_X8_atOnce : Cond.code yX8_atOnce cX8_atOnce 2 (some .int) ∈ TB := inTB 515 (by decide +kernel) (by decide +kernel)
set_option maxRecDepth 100000 in
theorem cv_X8_atOnce {own : String} {idx : Nat} (h : Cond.methodLink own idx yX8_atOnce ∈ TB) : CV own idx mX8_atOnce 1 8 := ⟨⟨h, inTB 513 (by decide +kernel) (by decide +kernel), inTB 514 (by decide +kernel) (by decide +kernel), iniX8, cd_X8_atOnce⟩, rfl, by decide +kernel, by decide⟩
set_option maxRecDepth 100000 in
theorem cd_X8_begin : Cond.code yX8_begin cX8_begin 4 (some .int) ∈ TB := inTB 496 (by decide +kernel) (by decide +kernel)
set_option maxRecDepth 100000 in
theorem cv_X8_begin {own : String} {idx : Nat} (h : Cond.methodLink own idx yX8_begin ∈ TB) : CV own idx mX8_begin 2 8 := ⟨⟨h, inTB 494 (by decide +kernel) (by decide +kernel), inTB 495 (by decide +kernel) (by decide +kernel), iniX8, cd_X8_begin⟩, rfl, by decide +kernel, by decide⟩
set_option maxRecDepth 100000 in
theorem cd_X8_blank : Cond.code yX8_blank cX8_blank 2 (some .int) ∈ TB := inTB 345 (by decide +kernel) (by decide +kernel)
set_option maxRecDepth 100000 in
theorem cv_X8_blank {own : String} {idx : Nat} (h : Cond.methodLink own idx yX8_blank ∈ TB) : CV own idx mX8_blank 0 8 := ⟨⟨h, inTB 343 (by decide +kernel) (by decide +kernel), inTB 344 (by decide +kernel) (by decide +kernel), iniX8, cd_X8_blank⟩, rfl, by decide +kernel, by decide⟩
set_option maxRecDepth 100000 in
theorem cd_X8_card : Cond.code yX8_card cX8_card 1 (some .int) ∈ TB := inTB 361 (by decide +kernel) (by decide +kernel)
set_option maxRecDepth 100000 in
theorem cv_X8_card {own : String} {idx : Nat} (h : Cond.methodLink own idx yX8_card ∈ TB) : CV own idx mX8_card 0 8 := ⟨⟨h, inTB 359 (by decide +kernel) (by decide +kernel), inTB 360 (by decide +kernel) (by decide +kernel), iniX8, cd_X8_card⟩, rfl, by decide +kernel, by decide⟩
set_option maxRecDepth 100000 in
theorem cd_X8_clear : Cond.code yX8_clear cX8_clear 2 (some .int) ∈ TB := inTB 464 (by decide +kernel) (by decide +kernel)
set_option maxRecDepth 100000 in
theorem cv_X8_clear {own : String} {idx : Nat} (h : Cond.methodLink own idx yX8_clear ∈ TB) : CV own idx mX8_clear 0 8 := ⟨⟨h, inTB 462 (by decide +kernel) (by decide +kernel), inTB 463 (by decide +kernel) (by decide +kernel), iniX8, cd_X8_clear⟩, rfl, by decide +kernel, by decide⟩
set_option maxRecDepth 100000 in
theorem cd_X8_count : Cond.code yX8_count cX8_count 2 (some .int) ∈ TB := inTB 675 (by decide +kernel) (by decide +kernel)
set_option maxRecDepth 100000 in
theorem cv_X8_count {own : String} {idx : Nat} (h : Cond.methodLink own idx yX8_count ∈ TB) : CV own idx mX8_count 1 8 := ⟨⟨h, inTB 673 (by decide +kernel) (by decide +kernel), inTB 674 (by decide +kernel) (by decide +kernel), iniX8, cd_X8_count⟩, rfl, by decide +kernel, by decide⟩
set_option maxRecDepth 100000 in
theorem cd_X8_digest : Cond.code yX8_digest cX8_digest 4 (some .long) ∈ TB := inTB 680 (by decide +kernel) (by decide +kernel)
set_option maxRecDepth 100000 in
theorem cv_X8_digest {own : String} {idx : Nat} (h : Cond.methodLink own idx yX8_digest ∈ TB) : CV own idx mX8_digest 0 8 := ⟨⟨h, inTB 678 (by decide +kernel) (by decide +kernel), inTB 679 (by decide +kernel) (by decide +kernel), iniX8, cd_X8_digest⟩, rfl, by decide +kernel, by decide⟩
set_option maxRecDepth 100000 in
theorem cd_X8_dish : Cond.code yX8_dish cX8_dish 3 (some .int) ∈ TB := inTB 385 (by decide +kernel) (by decide +kernel)
set_option maxRecDepth 100000 in
theorem cv_X8_dish {own : String} {idx : Nat} (h : Cond.methodLink own idx yX8_dish ∈ TB) : CV own idx mX8_dish 2 8 := ⟨⟨h, inTB 383 (by decide +kernel) (by decide +kernel), inTB 384 (by decide +kernel) (by decide +kernel), iniX8, cd_X8_dish⟩, rfl, by decide +kernel, by decide⟩
set_option maxRecDepth 100000 in
theorem cd_X8_evening : Cond.code yX8_evening cX8_evening 4 (some .int) ∈ TB := inTB 593 (by decide +kernel) (by decide +kernel)
set_option maxRecDepth 100000 in
theorem cv_X8_evening {own : String} {idx : Nat} (h : Cond.methodLink own idx yX8_evening ∈ TB) : CV own idx mX8_evening 3 8 := ⟨⟨h, inTB 591 (by decide +kernel) (by decide +kernel), inTB 592 (by decide +kernel) (by decide +kernel), iniX8, cd_X8_evening⟩, rfl, by decide +kernel, by decide⟩
set_option maxRecDepth 100000 in
theorem cd_X8_evenings : Cond.code yX8_evenings cX8_evenings 5 (some .int) ∈ TB := inTB 620 (by decide +kernel) (by decide +kernel)
set_option maxRecDepth 100000 in
theorem cv_X8_evenings {own : String} {idx : Nat} (h : Cond.methodLink own idx yX8_evenings ∈ TB) : CV own idx mX8_evenings 3 8 := ⟨⟨h, inTB 618 (by decide +kernel) (by decide +kernel), inTB 619 (by decide +kernel) (by decide +kernel), iniX8, cd_X8_evenings⟩, rfl, by decide +kernel, by decide⟩
set_option maxRecDepth 100000 in
theorem cd_X8_fault : Cond.code yX8_fault cX8_fault 1 (some .int) ∈ TB := inTB 349 (by decide +kernel) (by decide +kernel)
set_option maxRecDepth 100000 in
theorem cv_X8_fault {own : String} {idx : Nat} (h : Cond.methodLink own idx yX8_fault ∈ TB) : CV own idx mX8_fault 0 8 := ⟨⟨h, inTB 347 (by decide +kernel) (by decide +kernel), inTB 348 (by decide +kernel) (by decide +kernel), iniX8, cd_X8_fault⟩, rfl, by decide +kernel, by decide⟩
set_option maxRecDepth 100000 in
theorem cd_X8_fewest : Cond.code yX8_fewest cX8_fewest 3 (some .int) ∈ TB := inTB 572 (by decide +kernel) (by decide +kernel)
set_option maxRecDepth 100000 in
theorem cv_X8_fewest {own : String} {idx : Nat} (h : Cond.methodLink own idx yX8_fewest ∈ TB) : CV own idx mX8_fewest 1 8 := ⟨⟨h, inTB 570 (by decide +kernel) (by decide +kernel), inTB 571 (by decide +kernel) (by decide +kernel), iniX8, cd_X8_fewest⟩, rfl, by decide +kernel, by decide⟩
set_option maxRecDepth 100000 in
theorem cd_X8_fits : Cond.code yX8_fits cX8_fits 3 (some .int) ∈ TB := inTB 605 (by decide +kernel) (by decide +kernel)
set_option maxRecDepth 100000 in
theorem cv_X8_fits {own : String} {idx : Nat} (h : Cond.methodLink own idx yX8_fits ∈ TB) : CV own idx mX8_fits 1 8 := ⟨⟨h, inTB 603 (by decide +kernel) (by decide +kernel), inTB 604 (by decide +kernel) (by decide +kernel), iniX8, cd_X8_fits⟩, rfl, by decide +kernel, by decide⟩
set_option maxRecDepth 100000 in
theorem cd_X8_forget : Cond.code yX8_forget cX8_forget 2 (some .int) ∈ TB := inTB 601 (by decide +kernel) (by decide +kernel)
set_option maxRecDepth 100000 in
theorem cv_X8_forget {own : String} {idx : Nat} (h : Cond.methodLink own idx yX8_forget ∈ TB) : CV own idx mX8_forget 0 8 := ⟨⟨h, inTB 599 (by decide +kernel) (by decide +kernel), inTB 600 (by decide +kernel) (by decide +kernel), iniX8, cd_X8_forget⟩, rfl, by decide +kernel, by decide⟩
set_option maxRecDepth 100000 in
theorem cd_X8_guest : Cond.code yX8_guest cX8_guest 3 (some .int) ∈ TB := inTB 393 (by decide +kernel) (by decide +kernel)
set_option maxRecDepth 100000 in
theorem cv_X8_guest {own : String} {idx : Nat} (h : Cond.methodLink own idx yX8_guest ∈ TB) : CV own idx mX8_guest 2 8 := ⟨⟨h, inTB 391 (by decide +kernel) (by decide +kernel), inTB 392 (by decide +kernel) (by decide +kernel), iniX8, cd_X8_guest⟩, rfl, by decide +kernel, by decide⟩
set_option maxRecDepth 100000 in
theorem cd_X8_host : Cond.code yX8_host cX8_host 1 (some .int) ∈ TB := inTB 554 (by decide +kernel) (by decide +kernel)
set_option maxRecDepth 100000 in
theorem cv_X8_host {own : String} {idx : Nat} (h : Cond.methodLink own idx yX8_host ∈ TB) : CV own idx mX8_host 0 8 := ⟨⟨h, inTB 552 (by decide +kernel) (by decide +kernel), inTB 553 (by decide +kernel) (by decide +kernel), iniX8, cd_X8_host⟩, rfl, by decide +kernel, by decide⟩
set_option maxRecDepth 100000 in
theorem cd_X8_image : Cond.code yX8_image cX8_image 1 (some .int) ∈ TB := inTB 647 (by decide +kernel) (by decide +kernel)
set_option maxRecDepth 100000 in
theorem cv_X8_image {own : String} {idx : Nat} (h : Cond.methodLink own idx yX8_image ∈ TB) : CV own idx mX8_image 0 8 := ⟨⟨h, inTB 645 (by decide +kernel) (by decide +kernel), inTB 646 (by decide +kernel) (by decide +kernel), iniX8, cd_X8_image⟩, rfl, by decide +kernel, by decide⟩
set_option maxRecDepth 100000 in
theorem cd_X8_inTurn : Cond.code yX8_inTurn cX8_inTurn 3 (some .int) ∈ TB := inTB 472 (by decide +kernel) (by decide +kernel)
set_option maxRecDepth 100000 in
theorem cv_X8_inTurn {own : String} {idx : Nat} (h : Cond.methodLink own idx yX8_inTurn ∈ TB) : CV own idx mX8_inTurn 2 8 := ⟨⟨h, inTB 470 (by decide +kernel) (by decide +kernel), inTB 471 (by decide +kernel) (by decide +kernel), iniX8, cd_X8_inTurn⟩, rfl, by decide +kernel, by decide⟩
set_option maxRecDepth 100000 in
theorem cd_X8_isOutside : Cond.code yX8_isOutside cX8_isOutside 3 (some .boolean) ∈ TB := inTB 341 (by decide +kernel) (by decide +kernel)
set_option maxRecDepth 100000 in
theorem cs_X8_isOutside {own : String} {idx : Nat} (h : Cond.methodLink own idx yX8_isOutside ∈ TB) : CS own idx mX8_isOutside 3 := ⟨⟨h, inTB 340 (by decide +kernel) (by decide +kernel), iniX8, cd_X8_isOutside⟩, by decide +kernel, by decide⟩
set_option maxRecDepth 100000 in
theorem cd_X8_letter : Cond.code yX8_letter cX8_letter 2 (some .int) ∈ TB := inTB 338 (by decide +kernel) (by decide +kernel)
set_option maxRecDepth 100000 in
theorem cv_X8_letter {own : String} {idx : Nat} (h : Cond.methodLink own idx yX8_letter ∈ TB) : CV own idx mX8_letter 1 8 := ⟨⟨h, inTB 336 (by decide +kernel) (by decide +kernel), inTB 337 (by decide +kernel) (by decide +kernel), iniX8, cd_X8_letter⟩, rfl, by decide +kernel, by decide⟩
set_option maxRecDepth 100000 in
theorem cd_X8_minds : Cond.code yX8_minds cX8_minds 2 (some .int) ∈ TB := inTB 539 (by decide +kernel) (by decide +kernel)
set_option maxRecDepth 100000 in
theorem cv_X8_minds {own : String} {idx : Nat} (h : Cond.methodLink own idx yX8_minds ∈ TB) : CV own idx mX8_minds 1 8 := ⟨⟨h, inTB 537 (by decide +kernel) (by decide +kernel), inTB 538 (by decide +kernel) (by decide +kernel), iniX8, cd_X8_minds⟩, rfl, by decide +kernel, by decide⟩
set_option maxRecDepth 100000 in
theorem cd_X8_mixed : Cond.code yX8_mixed cX8_mixed 4 (some .long) ∈ TB := inTB 689 (by decide +kernel) (by decide +kernel)
set_option maxRecDepth 100000 in
theorem cs_X8_mixed {own : String} {idx : Nat} (h : Cond.methodLink own idx yX8_mixed ∈ TB) : CS own idx mX8_mixed 2 := ⟨⟨h, inTB 688 (by decide +kernel) (by decide +kernel), iniX8, cd_X8_mixed⟩, by decide +kernel, by decide⟩
set_option maxRecDepth 100000 in
theorem cd_X8_mixedDishes : Cond.code yX8_mixedDishes cX8_mixedDishes 7 (some .long) ∈ TB := inTB 685 (by decide +kernel) (by decide +kernel)
set_option maxRecDepth 100000 in
theorem cv_X8_mixedDishes {own : String} {idx : Nat} (h : Cond.methodLink own idx yX8_mixedDishes ∈ TB) : CV own idx mX8_mixedDishes 1 8 := ⟨⟨h, inTB 684 (by decide +kernel) (by decide +kernel), inTB 11 (by decide +kernel) (by decide +kernel), iniX8, cd_X8_mixedDishes⟩, rfl, by decide +kernel, by decide⟩
set_option maxRecDepth 100000 in
theorem cd_X8_mixedGuests : Cond.code yX8_mixedGuests cX8_mixedGuests 7 (some .long) ∈ TB := inTB 694 (by decide +kernel) (by decide +kernel)
set_option maxRecDepth 100000 in
theorem cv_X8_mixedGuests {own : String} {idx : Nat} (h : Cond.methodLink own idx yX8_mixedGuests ∈ TB) : CV own idx mX8_mixedGuests 1 8 := ⟨⟨h, inTB 693 (by decide +kernel) (by decide +kernel), inTB 12 (by decide +kernel) (by decide +kernel), iniX8, cd_X8_mixedGuests⟩, rfl, by decide +kernel, by decide⟩
set_option maxRecDepth 100000 in
theorem cd_X8_noCard : Cond.code yX8_noCard cX8_noCard 1 (some .boolean) ∈ TB := inTB 397 (by decide +kernel) (by decide +kernel)
set_option maxRecDepth 100000 in
theorem cv_X8_noCard {own : String} {idx : Nat} (h : Cond.methodLink own idx yX8_noCard ∈ TB) : CV own idx mX8_noCard 0 8 := ⟨⟨h, inTB 396 (by decide +kernel) (by decide +kernel), inTB 2 (by decide +kernel) (by decide +kernel), iniX8, cd_X8_noCard⟩, rfl, by decide +kernel, by decide⟩
set_option maxRecDepth 100000 in
theorem cd_X8_noDish : Cond.code yX8_noDish cX8_noDish 2 (some .boolean) ∈ TB := inTB 389 (by decide +kernel) (by decide +kernel)
set_option maxRecDepth 100000 in
theorem cv_X8_noDish {own : String} {idx : Nat} (h : Cond.methodLink own idx yX8_noDish ∈ TB) : CV own idx mX8_noDish 1 8 := ⟨⟨h, inTB 388 (by decide +kernel) (by decide +kernel), inTB 1 (by decide +kernel) (by decide +kernel), iniX8, cd_X8_noDish⟩, rfl, by decide +kernel, by decide⟩
set_option maxRecDepth 100000 in
theorem cd_X8_noGuest : Cond.code yX8_noGuest cX8_noGuest 2 (some .boolean) ∈ TB := inTB 411 (by decide +kernel) (by decide +kernel)
set_option maxRecDepth 100000 in
theorem cv_X8_noGuest {own : String} {idx : Nat} (h : Cond.methodLink own idx yX8_noGuest ∈ TB) : CV own idx mX8_noGuest 1 8 := ⟨⟨h, inTB 410 (by decide +kernel) (by decide +kernel), inTB 3 (by decide +kernel) (by decide +kernel), iniX8, cd_X8_noGuest⟩, rfl, by decide +kernel, by decide⟩
set_option maxRecDepth 100000 in
theorem cd_X8_onlyLoath : Cond.code yX8_onlyLoath cX8_onlyLoath 2 (some .int) ∈ TB := inTB 616 (by decide +kernel) (by decide +kernel)
set_option maxRecDepth 100000 in
theorem cs_X8_onlyLoath {own : String} {idx : Nat} (h : Cond.methodLink own idx yX8_onlyLoath ∈ TB) : CS own idx mX8_onlyLoath 1 := ⟨⟨h, inTB 615 (by decide +kernel) (by decide +kernel), iniX8, cd_X8_onlyLoath⟩, by decide +kernel, by decide⟩
set_option maxRecDepth 100000 in
theorem cd_X8_order : Cond.code yX8_order cX8_order 3 (some .int) ∈ TB := inTB 455 (by decide +kernel) (by decide +kernel)
set_option maxRecDepth 100000 in
theorem cv_X8_order {own : String} {idx : Nat} (h : Cond.methodLink own idx yX8_order ∈ TB) : CV own idx mX8_order 1 8 := ⟨⟨h, inTB 453 (by decide +kernel) (by decide +kernel), inTB 454 (by decide +kernel) (by decide +kernel), iniX8, cd_X8_order⟩, rfl, by decide +kernel, by decide⟩
set_option maxRecDepth 100000 in
theorem cd_X8_purse : Cond.code yX8_purse cX8_purse 4 (some .int) ∈ TB := inTB 431 (by decide +kernel) (by decide +kernel)
set_option maxRecDepth 100000 in
theorem cv_X8_purse {own : String} {idx : Nat} (h : Cond.methodLink own idx yX8_purse ∈ TB) : CV own idx mX8_purse 2 8 := ⟨⟨h, inTB 429 (by decide +kernel) (by decide +kernel), inTB 430 (by decide +kernel) (by decide +kernel), iniX8, cd_X8_purse⟩, rfl, by decide +kernel, by decide⟩
set_option maxRecDepth 100000 in
theorem cd_X8_restore : Cond.code yX8_restore cX8_restore 1 (some .int) ∈ TB := inTB 666 (by decide +kernel) (by decide +kernel)
set_option maxRecDepth 100000 in
theorem cv_X8_restore {own : String} {idx : Nat} (h : Cond.methodLink own idx yX8_restore ∈ TB) : CV own idx mX8_restore 0 8 := ⟨⟨h, inTB 664 (by decide +kernel) (by decide +kernel), inTB 665 (by decide +kernel) (by decide +kernel), iniX8, cd_X8_restore⟩, rfl, by decide +kernel, by decide⟩
set_option maxRecDepth 100000 in
theorem cd_X8_takes : Cond.code yX8_takes cX8_takes 2 (some .int) ∈ TB := inTB 439 (by decide +kernel) (by decide +kernel)
set_option maxRecDepth 100000 in
theorem cv_X8_takes {own : String} {idx : Nat} (h : Cond.methodLink own idx yX8_takes ∈ TB) : CV own idx mX8_takes 1 8 := ⟨⟨h, inTB 437 (by decide +kernel) (by decide +kernel), inTB 438 (by decide +kernel) (by decide +kernel), iniX8, cd_X8_takes⟩, rfl, by decide +kernel, by decide⟩
set_option maxRecDepth 100000 in
theorem cd_X8_urge : Cond.code yX8_urge cX8_urge 4 (some .int) ∈ TB := inTB 435 (by decide +kernel) (by decide +kernel)
set_option maxRecDepth 100000 in
theorem cv_X8_urge {own : String} {idx : Nat} (h : Cond.methodLink own idx yX8_urge ∈ TB) : CV own idx mX8_urge 2 8 := ⟨⟨h, inTB 433 (by decide +kernel) (by decide +kernel), inTB 434 (by decide +kernel) (by decide +kernel), iniX8, cd_X8_urge⟩, rfl, by decide +kernel, by decide⟩
set_option maxRecDepth 100000 in
theorem cd_X8_urges : Cond.code yX8_urges cX8_urges 4 (some .int) ∈ TB := inTB 585 (by decide +kernel) (by decide +kernel)
set_option maxRecDepth 100000 in
theorem cv_X8_urges {own : String} {idx : Nat} (h : Cond.methodLink own idx yX8_urges ∈ TB) : CV own idx mX8_urges 3 8 := ⟨⟨h, inTB 583 (by decide +kernel) (by decide +kernel), inTB 584 (by decide +kernel) (by decide +kernel), iniX8, cd_X8_urges⟩, rfl, by decide +kernel, by decide⟩
set_option maxRecDepth 100000 in
theorem cd_X8_want : Cond.code yX8_want cX8_want 5 (some .int) ∈ TB := inTB 427 (by decide +kernel) (by decide +kernel)
set_option maxRecDepth 100000 in
theorem cv_X8_want {own : String} {idx : Nat} (h : Cond.methodLink own idx yX8_want ∈ TB) : CV own idx mX8_want 3 8 := ⟨⟨h, inTB 425 (by decide +kernel) (by decide +kernel), inTB 426 (by decide +kernel) (by decide +kernel), iniX8, cd_X8_want⟩, rfl, by decide +kernel, by decide⟩
set_option maxRecDepth 100000 in
theorem cd_X9_about : Cond.code yX9_about cX9_about 3 (some .int) ∈ TB := inTB 877 (by decide +kernel) (by decide +kernel)
set_option maxRecDepth 100000 in
theorem cv_X9_about {own : String} {idx : Nat} (h : Cond.methodLink own idx yX9_about ∈ TB) : CV own idx mX9_about 2 9 := ⟨⟨h, inTB 875 (by decide +kernel) (by decide +kernel), inTB 876 (by decide +kernel) (by decide +kernel), iniX9, cd_X9_about⟩, rfl, by decide +kernel, by decide⟩
set_option maxRecDepth 100000 in
theorem cd_X9_as : Cond.code yX9_as cX9_as 5 (some .int) ∈ TB := inTB 897 (by decide +kernel) (by decide +kernel)
set_option maxRecDepth 100000 in
theorem cv_X9_as {own : String} {idx : Nat} (h : Cond.methodLink own idx yX9_as ∈ TB) : CV own idx mX9_as 2 9 := ⟨⟨h, inTB 895 (by decide +kernel) (by decide +kernel), inTB 896 (by decide +kernel) (by decide +kernel), iniX9, cd_X9_as⟩, rfl, by decide +kernel, by decide⟩
set_option maxRecDepth 100000 in
theorem cd_X9_asItIs : Cond.code yX9_asItIs cX9_asItIs 1 none ∈ TB := inTB 918 (by decide +kernel) (by decide +kernel)
set_option maxRecDepth 100000 in
theorem cv_X9_asItIs {own : String} {idx : Nat} (h : Cond.methodLink own idx yX9_asItIs ∈ TB) : CV own idx mX9_asItIs 0 9 := ⟨⟨h, inTB 917 (by decide +kernel) (by decide +kernel), inTB 23 (by decide +kernel) (by decide +kernel), iniX9, cd_X9_asItIs⟩, rfl, by decide +kernel, by decide⟩
set_option maxRecDepth 100000 in
theorem cd_X9_atOnce : Cond.code yX9_atOnce cX9_atOnce 7 (some .int) ∈ TB := inTB 966 (by decide +kernel) (by decide +kernel)
set_option maxRecDepth 100000 in
theorem cv_X9_atOnce {own : String} {idx : Nat} (h : Cond.methodLink own idx yX9_atOnce ∈ TB) : CV own idx mX9_atOnce 1 9 := ⟨⟨h, inTB 964 (by decide +kernel) (by decide +kernel), inTB 965 (by decide +kernel) (by decide +kernel), iniX9, cd_X9_atOnce⟩, rfl, by decide +kernel, by decide⟩
set_option maxRecDepth 100000 in
theorem cd_X9_begin : Cond.code yX9_begin cX9_begin 3 (some .int) ∈ TB := inTB 954 (by decide +kernel) (by decide +kernel)
set_option maxRecDepth 100000 in
theorem cv_X9_begin {own : String} {idx : Nat} (h : Cond.methodLink own idx yX9_begin ∈ TB) : CV own idx mX9_begin 2 9 := ⟨⟨h, inTB 952 (by decide +kernel) (by decide +kernel), inTB 953 (by decide +kernel) (by decide +kernel), iniX9, cd_X9_begin⟩, rfl, by decide +kernel, by decide⟩
set_option maxRecDepth 100000 in
theorem cd_X9_beginOf : Cond.code yX9_beginOf cX9_beginOf 7 (some .int) ∈ TB := inTB 958 (by decide +kernel) (by decide +kernel)
set_option maxRecDepth 100000 in
theorem cv_X9_beginOf {own : String} {idx : Nat} (h : Cond.methodLink own idx yX9_beginOf ∈ TB) : CV own idx mX9_beginOf 2 9 := ⟨⟨h, inTB 957 (by decide +kernel) (by decide +kernel), inTB 29 (by decide +kernel) (by decide +kernel), iniX9, cd_X9_beginOf⟩, rfl, by decide +kernel, by decide⟩
set_option maxRecDepth 100000 in
theorem cd_X9_bestFor : Cond.code yX9_bestFor cX9_bestFor 8 (some .int) ∈ TB := inTB 922 (by decide +kernel) (by decide +kernel)
set_option maxRecDepth 100000 in
theorem cv_X9_bestFor {own : String} {idx : Nat} (h : Cond.methodLink own idx yX9_bestFor ∈ TB) : CV own idx mX9_bestFor 2 9 := ⟨⟨h, inTB 921 (by decide +kernel) (by decide +kernel), inTB 24 (by decide +kernel) (by decide +kernel), iniX9, cd_X9_bestFor⟩, rfl, by decide +kernel, by decide⟩
set_option maxRecDepth 100000 in
theorem cd_X9_blank : Cond.code yX9_blank cX9_blank 2 (some .int) ∈ TB := inTB 831 (by decide +kernel) (by decide +kernel)
set_option maxRecDepth 100000 in
theorem cv_X9_blank {own : String} {idx : Nat} (h : Cond.methodLink own idx yX9_blank ∈ TB) : CV own idx mX9_blank 0 9 := ⟨⟨h, inTB 829 (by decide +kernel) (by decide +kernel), inTB 830 (by decide +kernel) (by decide +kernel), iniX9, cd_X9_blank⟩, rfl, by decide +kernel, by decide⟩
set_option maxRecDepth 100000 in
theorem cd_X9_card : Cond.code yX9_card cX9_card 2 (some .int) ∈ TB := inTB 848 (by decide +kernel) (by decide +kernel)
set_option maxRecDepth 100000 in
theorem cv_X9_card {own : String} {idx : Nat} (h : Cond.methodLink own idx yX9_card ∈ TB) : CV own idx mX9_card 0 9 := ⟨⟨h, inTB 846 (by decide +kernel) (by decide +kernel), inTB 847 (by decide +kernel) (by decide +kernel), iniX9, cd_X9_card⟩, rfl, by decide +kernel, by decide⟩
set_option maxRecDepth 100000 in
theorem cd_X9_clear : Cond.code yX9_clear cX9_clear 3 (some .int) ∈ TB := inTB 938 (by decide +kernel) (by decide +kernel)
set_option maxRecDepth 100000 in
theorem cv_X9_clear {own : String} {idx : Nat} (h : Cond.methodLink own idx yX9_clear ∈ TB) : CV own idx mX9_clear 0 9 := ⟨⟨h, inTB 936 (by decide +kernel) (by decide +kernel), inTB 937 (by decide +kernel) (by decide +kernel), iniX9, cd_X9_clear⟩, rfl, by decide +kernel, by decide⟩
set_option maxRecDepth 100000 in
theorem cd_X9_copy : Cond.code yX9_copy cX9_copy 3 none ∈ TB := inTB 1030 (by decide +kernel) (by decide +kernel)
set_option maxRecDepth 100000 in
theorem cs_X9_copy {own : String} {idx : Nat} (h : Cond.methodLink own idx yX9_copy ∈ TB) : CS own idx mX9_copy 2 := ⟨⟨h, inTB 1029 (by decide +kernel) (by decide +kernel), iniX9, cd_X9_copy⟩, by decide +kernel, by decide⟩
set_option maxRecDepth 100000 in
theorem cd_X9_count : Cond.code yX9_count cX9_count 2 (some .int) ∈ TB := inTB 1050 (by decide +kernel) (by decide +kernel)
set_option maxRecDepth 100000 in
theorem cv_X9_count {own : String} {idx : Nat} (h : Cond.methodLink own idx yX9_count ∈ TB) : CV own idx mX9_count 1 9 := ⟨⟨h, inTB 1048 (by decide +kernel) (by decide +kernel), inTB 1049 (by decide +kernel) (by decide +kernel), iniX9, cd_X9_count⟩, rfl, by decide +kernel, by decide⟩
set_option maxRecDepth 100000 in
theorem cd_X9_countOf : Cond.code yX9_countOf cX9_countOf 2 (some .int) ∈ TB := inTB 1054 (by decide +kernel) (by decide +kernel)
set_option maxRecDepth 100000 in
theorem cv_X9_countOf {own : String} {idx : Nat} (h : Cond.methodLink own idx yX9_countOf ∈ TB) : CV own idx mX9_countOf 1 9 := ⟨⟨h, inTB 1053 (by decide +kernel) (by decide +kernel), inTB 38 (by decide +kernel) (by decide +kernel), iniX9, cd_X9_countOf⟩, rfl, by decide +kernel, by decide⟩
set_option maxRecDepth 100000 in
theorem cd_X9_digest : Cond.code yX9_digest cX9_digest 3 (some .long) ∈ TB := inTB 1058 (by decide +kernel) (by decide +kernel)
set_option maxRecDepth 100000 in
theorem cv_X9_digest {own : String} {idx : Nat} (h : Cond.methodLink own idx yX9_digest ∈ TB) : CV own idx mX9_digest 0 9 := ⟨⟨h, inTB 1056 (by decide +kernel) (by decide +kernel), inTB 1057 (by decide +kernel) (by decide +kernel), iniX9, cd_X9_digest⟩, rfl, by decide +kernel, by decide⟩
set_option maxRecDepth 100000 in
theorem cd_X9_dish : Cond.code yX9_dish cX9_dish 3 (some .int) ∈ TB := inTB 852 (by decide +kernel) (by decide +kernel)
set_option maxRecDepth 100000 in
theorem cv_X9_dish {own : String} {idx : Nat} (h : Cond.methodLink own idx yX9_dish ∈ TB) : CV own idx mX9_dish 2 9 := ⟨⟨h, inTB 850 (by decide +kernel) (by decide +kernel), inTB 851 (by decide +kernel) (by decide +kernel), iniX9, cd_X9_dish⟩, rfl, by decide +kernel, by decide⟩
set_option maxRecDepth 100000 in
theorem cd_X9_draw : Cond.code yX9_draw cX9_draw 2 (some .int) ∈ TB := inTB 1034 (by decide +kernel) (by decide +kernel)
set_option maxRecDepth 100000 in
theorem cv_X9_draw {own : String} {idx : Nat} (h : Cond.methodLink own idx yX9_draw ∈ TB) : CV own idx mX9_draw 1 9 := ⟨⟨h, inTB 1033 (by decide +kernel) (by decide +kernel), inTB 37 (by decide +kernel) (by decide +kernel), iniX9, cd_X9_draw⟩, rfl, by decide +kernel, by decide⟩
set_option maxRecDepth 100000 in
theorem cd_X9_evening : Cond.code yX9_evening cX9_evening 4 (some .int) ∈ TB := inTB 1010 (by decide +kernel) (by decide +kernel)
set_option maxRecDepth 100000 in
theorem cv_X9_evening {own : String} {idx : Nat} (h : Cond.methodLink own idx yX9_evening ∈ TB) : CV own idx mX9_evening 3 9 := ⟨⟨h, inTB 1008 (by decide +kernel) (by decide +kernel), inTB 1009 (by decide +kernel) (by decide +kernel), iniX9, cd_X9_evening⟩, rfl, by decide +kernel, by decide⟩
set_option maxRecDepth 100000 in
theorem cd_X9_evenings : Cond.code yX9_evenings cX9_evenings 9 (some .int) ∈ TB := inTB 1026 (by decide +kernel) (by decide +kernel)
set_option maxRecDepth 100000 in
theorem cv_X9_evenings {own : String} {idx : Nat} (h : Cond.methodLink own idx yX9_evenings ∈ TB) : CV own idx mX9_evenings 3 9 := ⟨⟨h, inTB 1024 (by decide +kernel) (by decide +kernel), inTB 1025 (by decide +kernel) (by decide +kernel), iniX9, cd_X9_evenings⟩, rfl, by decide +kernel, by decide⟩
set_option maxRecDepth 100000 in
theorem cd_X9_fault : Cond.code yX9_fault cX9_fault 1 (some .int) ∈ TB := inTB 835 (by decide +kernel) (by decide +kernel)
set_option maxRecDepth 100000 in
theorem cv_X9_fault {own : String} {idx : Nat} (h : Cond.methodLink own idx yX9_fault ∈ TB) : CV own idx mX9_fault 0 9 := ⟨⟨h, inTB 833 (by decide +kernel) (by decide +kernel), inTB 834 (by decide +kernel) (by decide +kernel), iniX9, cd_X9_fault⟩, rfl, by decide +kernel, by decide⟩
set_option maxRecDepth 100000 in
theorem cd_X9_faultOf : Cond.code yX9_faultOf cX9_faultOf 2 (some .int) ∈ TB := inTB 839 (by decide +kernel) (by decide +kernel)
set_option maxRecDepth 100000 in
theorem cv_X9_faultOf {own : String} {idx : Nat} (h : Cond.methodLink own idx yX9_faultOf ∈ TB) : CV own idx mX9_faultOf 0 9 := ⟨⟨h, inTB 838 (by decide +kernel) (by decide +kernel), inTB 13 (by decide +kernel) (by decide +kernel), iniX9, cd_X9_faultOf⟩, rfl, by decide +kernel, by decide⟩
set_option maxRecDepth 100000 in
theorem cd_X9_fewest : Cond.code yX9_fewest cX9_fewest 2 (some .int) ∈ TB := inTB 994 (by decide +kernel) (by decide +kernel)
set_option maxRecDepth 100000 in
theorem cv_X9_fewest {own : String} {idx : Nat} (h : Cond.methodLink own idx yX9_fewest ∈ TB) : CV own idx mX9_fewest 1 9 := ⟨⟨h, inTB 992 (by decide +kernel) (by decide +kernel), inTB 993 (by decide +kernel) (by decide +kernel), iniX9, cd_X9_fewest⟩, rfl, by decide +kernel, by decide⟩
set_option maxRecDepth 100000 in
theorem cd_X9_fewestOf : Cond.code yX9_fewestOf cX9_fewestOf 8 (some .int) ∈ TB := inTB 998 (by decide +kernel) (by decide +kernel)
set_option maxRecDepth 100000 in
theorem cv_X9_fewestOf {own : String} {idx : Nat} (h : Cond.methodLink own idx yX9_fewestOf ∈ TB) : CV own idx mX9_fewestOf 1 9 := ⟨⟨h, inTB 997 (by decide +kernel) (by decide +kernel), inTB 35 (by decide +kernel) (by decide +kernel), iniX9, cd_X9_fewestOf⟩, rfl, by decide +kernel, by decide⟩
set_option maxRecDepth 100000 in
theorem cd_X9_fits : Cond.code yX9_fits cX9_fits 4 (some .int) ∈ TB := inTB 1018 (by decide +kernel) (by decide +kernel)
set_option maxRecDepth 100000 in
theorem cv_X9_fits {own : String} {idx : Nat} (h : Cond.methodLink own idx yX9_fits ∈ TB) : CV own idx mX9_fits 1 9 := ⟨⟨h, inTB 1016 (by decide +kernel) (by decide +kernel), inTB 1017 (by decide +kernel) (by decide +kernel), iniX9, cd_X9_fits⟩, rfl, by decide +kernel, by decide⟩
set_option maxRecDepth 100000 in
theorem cd_X9_fitsOf : Cond.code yX9_fitsOf cX9_fitsOf 5 (some .int) ∈ TB := inTB 1022 (by decide +kernel) (by decide +kernel)
set_option maxRecDepth 100000 in
theorem cv_X9_fitsOf {own : String} {idx : Nat} (h : Cond.methodLink own idx yX9_fitsOf ∈ TB) : CV own idx mX9_fitsOf 0 9 := ⟨⟨h, inTB 1021 (by decide +kernel) (by decide +kernel), inTB 36 (by decide +kernel) (by decide +kernel), iniX9, cd_X9_fitsOf⟩, rfl, by decide +kernel, by decide⟩
set_option maxRecDepth 100000 in
theorem cd_X9_forget : Cond.code yX9_forget cX9_forget 2 (some .int) ∈ TB := inTB 1014 (by decide +kernel) (by decide +kernel)
set_option maxRecDepth 100000 in
theorem cv_X9_forget {own : String} {idx : Nat} (h : Cond.methodLink own idx yX9_forget ∈ TB) : CV own idx mX9_forget 0 9 := ⟨⟨h, inTB 1012 (by decide +kernel) (by decide +kernel), inTB 1013 (by decide +kernel) (by decide +kernel), iniX9, cd_X9_forget⟩, rfl, by decide +kernel, by decide⟩
set_option maxRecDepth 100000 in
theorem cd_X9_go : Cond.code yX9_go cX9_go 4 (some .boolean) ∈ TB := inTB 843 (by decide +kernel) (by decide +kernel)
set_option maxRecDepth 100000 in
theorem cv_X9_go {own : String} {idx : Nat} (h : Cond.methodLink own idx yX9_go ∈ TB) : CV own idx mX9_go 1 9 := ⟨⟨h, inTB 842 (by decide +kernel) (by decide +kernel), inTB 14 (by decide +kernel) (by decide +kernel), iniX9, cd_X9_go⟩, rfl, by decide +kernel, by decide⟩
set_option maxRecDepth 100000 in
theorem cd_X9_guest : Cond.code yX9_guest cX9_guest 4 (some .int) ∈ TB := inTB 868 (by decide +kernel) (by decide +kernel)
set_option maxRecDepth 100000 in
theorem cv_X9_guest {own : String} {idx : Nat} (h : Cond.methodLink own idx yX9_guest ∈ TB) : CV own idx mX9_guest 2 9 := ⟨⟨h, inTB 866 (by decide +kernel) (by decide +kernel), inTB 867 (by decide +kernel) (by decide +kernel), iniX9, cd_X9_guest⟩, rfl, by decide +kernel, by decide⟩
set_option maxRecDepth 100000 in
theorem cd_X9_haveOf : Cond.code yX9_haveOf cX9_haveOf 5 (some .int) ∈ TB := inTB 864 (by decide +kernel) (by decide +kernel)
set_option maxRecDepth 100000 in
theorem cv_X9_haveOf {own : String} {idx : Nat} (h : Cond.methodLink own idx yX9_haveOf ∈ TB) : CV own idx mX9_haveOf 2 9 := ⟨⟨h, inTB 863 (by decide +kernel) (by decide +kernel), inTB 17 (by decide +kernel) (by decide +kernel), iniX9, cd_X9_haveOf⟩, rfl, by decide +kernel, by decide⟩
set_option maxRecDepth 100000 in
theorem cd_X9_host : Cond.code yX9_host cX9_host 1 (some .int) ∈ TB := inTB 986 (by decide +kernel) (by decide +kernel)
set_option maxRecDepth 100000 in
theorem cv_X9_host {own : String} {idx : Nat} (h : Cond.methodLink own idx yX9_host ∈ TB) : CV own idx mX9_host 0 9 := ⟨⟨h, inTB 984 (by decide +kernel) (by decide +kernel), inTB 985 (by decide +kernel) (by decide +kernel), iniX9, cd_X9_host⟩, rfl, by decide +kernel, by decide⟩
set_option maxRecDepth 100000 in
theorem cd_X9_hostOf : Cond.code yX9_hostOf cX9_hostOf 6 (some .int) ∈ TB := inTB 990 (by decide +kernel) (by decide +kernel)
set_option maxRecDepth 100000 in
theorem cv_X9_hostOf {own : String} {idx : Nat} (h : Cond.methodLink own idx yX9_hostOf ∈ TB) : CV own idx mX9_hostOf 0 9 := ⟨⟨h, inTB 989 (by decide +kernel) (by decide +kernel), inTB 34 (by decide +kernel) (by decide +kernel), iniX9, cd_X9_hostOf⟩, rfl, by decide +kernel, by decide⟩
set_option maxRecDepth 100000 in
theorem cd_X9_image : Cond.code yX9_image cX9_image 1 (some .int) ∈ TB := inTB 1042 (by decide +kernel) (by decide +kernel)
set_option maxRecDepth 100000 in
theorem cv_X9_image {own : String} {idx : Nat} (h : Cond.methodLink own idx yX9_image ∈ TB) : CV own idx mX9_image 0 9 := ⟨⟨h, inTB 1040 (by decide +kernel) (by decide +kernel), inTB 1041 (by decide +kernel) (by decide +kernel), iniX9, cd_X9_image⟩, rfl, by decide +kernel, by decide⟩
set_option maxRecDepth 100000 in
theorem cd_X9_in : Cond.code yX9_in cX9_in 6 (some .boolean) ∈ TB := inTB 827 (by decide +kernel) (by decide +kernel)
set_option maxRecDepth 100000 in
theorem cs_X9_in {own : String} {idx : Nat} (h : Cond.methodLink own idx yX9_in ∈ TB) : CS own idx mX9_in 3 := ⟨⟨h, inTB 826 (by decide +kernel) (by decide +kernel), iniX9, cd_X9_in⟩, by decide +kernel, by decide⟩
set_option maxRecDepth 100000 in
theorem cd_X9_inTurn : Cond.code yX9_inTurn cX9_inTurn 3 (some .int) ∈ TB := inTB 946 (by decide +kernel) (by decide +kernel)
set_option maxRecDepth 100000 in
theorem cv_X9_inTurn {own : String} {idx : Nat} (h : Cond.methodLink own idx yX9_inTurn ∈ TB) : CV own idx mX9_inTurn 2 9 := ⟨⟨h, inTB 944 (by decide +kernel) (by decide +kernel), inTB 945 (by decide +kernel) (by decide +kernel), iniX9, cd_X9_inTurn⟩, rfl, by decide +kernel, by decide⟩
set_option maxRecDepth 100000 in
theorem cd_X9_isAtOnce : Cond.code yX9_isAtOnce cX9_isAtOnce 4 (some .boolean) ∈ TB := inTB 974 (by decide +kernel) (by decide +kernel)
set_option maxRecDepth 100000 in
theorem cv_X9_isAtOnce {own : String} {idx : Nat} (h : Cond.methodLink own idx yX9_isAtOnce ∈ TB) : CV own idx mX9_isAtOnce 0 9 := ⟨⟨h, inTB 973 (by decide +kernel) (by decide +kernel), inTB 32 (by decide +kernel) (by decide +kernel), iniX9, cd_X9_isAtOnce⟩, rfl, by decide +kernel, by decide⟩
set_option maxRecDepth 100000 in
theorem cd_X9_isDish : Cond.code yX9_isDish cX9_isDish 2 (some .boolean) ∈ TB := inTB 856 (by decide +kernel) (by decide +kernel)
set_option maxRecDepth 100000 in
theorem cv_X9_isDish {own : String} {idx : Nat} (h : Cond.methodLink own idx yX9_isDish ∈ TB) : CV own idx mX9_isDish 1 9 := ⟨⟨h, inTB 855 (by decide +kernel) (by decide +kernel), inTB 15 (by decide +kernel) (by decide +kernel), iniX9, cd_X9_isDish⟩, rfl, by decide +kernel, by decide⟩
set_option maxRecDepth 100000 in
theorem cd_X9_isGuest : Cond.code yX9_isGuest cX9_isGuest 2 (some .boolean) ∈ TB := inTB 881 (by decide +kernel) (by decide +kernel)
set_option maxRecDepth 100000 in
theorem cv_X9_isGuest {own : String} {idx : Nat} (h : Cond.methodLink own idx yX9_isGuest ∈ TB) : CV own idx mX9_isGuest 1 9 := ⟨⟨h, inTB 880 (by decide +kernel) (by decide +kernel), inTB 19 (by decide +kernel) (by decide +kernel), iniX9, cd_X9_isGuest⟩, rfl, by decide +kernel, by decide⟩
set_option maxRecDepth 100000 in
theorem cd_X9_joyAll : Cond.code yX9_joyAll cX9_joyAll 4 (some .int) ∈ TB := inTB 962 (by decide +kernel) (by decide +kernel)
set_option maxRecDepth 100000 in
theorem cv_X9_joyAll {own : String} {idx : Nat} (h : Cond.methodLink own idx yX9_joyAll ∈ TB) : CV own idx mX9_joyAll 1 9 := ⟨⟨h, inTB 961 (by decide +kernel) (by decide +kernel), inTB 30 (by decide +kernel) (by decide +kernel), iniX9, cd_X9_joyAll⟩, rfl, by decide +kernel, by decide⟩
set_option maxRecDepth 100000 in
theorem cd_X9_joyOf : Cond.code yX9_joyOf cX9_joyOf 3 (some .int) ∈ TB := inTB 893 (by decide +kernel) (by decide +kernel)
set_option maxRecDepth 100000 in
theorem cv_X9_joyOf {own : String} {idx : Nat} (h : Cond.methodLink own idx yX9_joyOf ∈ TB) : CV own idx mX9_joyOf 2 9 := ⟨⟨h, inTB 892 (by decide +kernel) (by decide +kernel), inTB 22 (by decide +kernel) (by decide +kernel), iniX9, cd_X9_joyOf⟩, rfl, by decide +kernel, by decide⟩
set_option maxRecDepth 100000 in
theorem cd_X9_lacks : Cond.code yX9_lacks cX9_lacks 1 (some .boolean) ∈ TB := inTB 873 (by decide +kernel) (by decide +kernel)
set_option maxRecDepth 100000 in
theorem cv_X9_lacks {own : String} {idx : Nat} (h : Cond.methodLink own idx yX9_lacks ∈ TB) : CV own idx mX9_lacks 0 9 := ⟨⟨h, inTB 872 (by decide +kernel) (by decide +kernel), inTB 18 (by decide +kernel) (by decide +kernel), iniX9, cd_X9_lacks⟩, rfl, by decide +kernel, by decide⟩
set_option maxRecDepth 100000 in
theorem cd_X9_layInTurn : Cond.code yX9_layInTurn cX9_layInTurn 4 none ∈ TB := inTB 950 (by decide +kernel) (by decide +kernel)
set_option maxRecDepth 100000 in
theorem cv_X9_layInTurn {own : String} {idx : Nat} (h : Cond.methodLink own idx yX9_layInTurn ∈ TB) : CV own idx mX9_layInTurn 1 9 := ⟨⟨h, inTB 949 (by decide +kernel) (by decide +kernel), inTB 28 (by decide +kernel) (by decide +kernel), iniX9, cd_X9_layInTurn⟩, rfl, by decide +kernel, by decide⟩
set_option maxRecDepth 100000 in
theorem cd_X9_letter : Cond.code yX9_letter cX9_letter 2 (some .int) ∈ TB := inTB 823 (by decide +kernel) (by decide +kernel)
set_option maxRecDepth 100000 in
theorem cv_X9_letter {own : String} {idx : Nat} (h : Cond.methodLink own idx yX9_letter ∈ TB) : CV own idx mX9_letter 1 9 := ⟨⟨h, inTB 821 (by decide +kernel) (by decide +kernel), inTB 822 (by decide +kernel) (by decide +kernel), iniX9, cd_X9_letter⟩, rfl, by decide +kernel, by decide⟩
set_option maxRecDepth 100000 in
theorem cd_X9_mayHave : Cond.code yX9_mayHave cX9_mayHave 5 (some .boolean) ∈ TB := inTB 926 (by decide +kernel) (by decide +kernel)
set_option maxRecDepth 100000 in
theorem cv_X9_mayHave {own : String} {idx : Nat} (h : Cond.methodLink own idx yX9_mayHave ∈ TB) : CV own idx mX9_mayHave 3 9 := ⟨⟨h, inTB 925 (by decide +kernel) (by decide +kernel), inTB 25 (by decide +kernel) (by decide +kernel), iniX9, cd_X9_mayHave⟩, rfl, by decide +kernel, by decide⟩
set_option maxRecDepth 100000 in
theorem cd_X9_minds : Cond.code yX9_minds cX9_minds 2 (some .int) ∈ TB := inTB 978 (by decide +kernel) (by decide +kernel)
set_option maxRecDepth 100000 in
theorem cv_X9_minds {own : String} {idx : Nat} (h : Cond.methodLink own idx yX9_minds ∈ TB) : CV own idx mX9_minds 1 9 := ⟨⟨h, inTB 976 (by decide +kernel) (by decide +kernel), inTB 977 (by decide +kernel) (by decide +kernel), iniX9, cd_X9_minds⟩, rfl, by decide +kernel, by decide⟩
set_option maxRecDepth 100000 in
theorem cd_X9_mindsOf : Cond.code yX9_mindsOf cX9_mindsOf 8 (some .int) ∈ TB := inTB 982 (by decide +kernel) (by decide +kernel)
set_option maxRecDepth 100000 in
theorem cv_X9_mindsOf {own : String} {idx : Nat} (h : Cond.methodLink own idx yX9_mindsOf ∈ TB) : CV own idx mX9_mindsOf 1 9 := ⟨⟨h, inTB 981 (by decide +kernel) (by decide +kernel), inTB 33 (by decide +kernel) (by decide +kernel), iniX9, cd_X9_mindsOf⟩, rfl, by decide +kernel, by decide⟩
set_option maxRecDepth 100000 in
theorem cd_X9_ones : Cond.code yX9_ones cX9_ones 3 (some .int) ∈ TB := inTB 1001 (by decide +kernel) (by decide +kernel)
set_option maxRecDepth 100000 in
theorem cs_X9_ones {own : String} {idx : Nat} (h : Cond.methodLink own idx yX9_ones ∈ TB) : CS own idx mX9_ones 1 := ⟨⟨h, inTB 1000 (by decide +kernel) (by decide +kernel), iniX9, cd_X9_ones⟩, by decide +kernel, by decide⟩
set_option maxRecDepth 100000 in
theorem cd_X9_order : Cond.code yX9_order cX9_order 2 (some .int) ∈ TB := inTB 934 (by decide +kernel) (by decide +kernel)
set_option maxRecDepth 100000 in
theorem cv_X9_order {own : String} {idx : Nat} (h : Cond.methodLink own idx yX9_order ∈ TB) : CV own idx mX9_order 1 9 := ⟨⟨h, inTB 932 (by decide +kernel) (by decide +kernel), inTB 933 (by decide +kernel) (by decide +kernel), iniX9, cd_X9_order⟩, rfl, by decide +kernel, by decide⟩
set_option maxRecDepth 100000 in
theorem cd_X9_orderedMany : Cond.code yX9_orderedMany cX9_orderedMany 3 (some .int) ∈ TB := inTB 942 (by decide +kernel) (by decide +kernel)
set_option maxRecDepth 100000 in
theorem cv_X9_orderedMany {own : String} {idx : Nat} (h : Cond.methodLink own idx yX9_orderedMany ∈ TB) : CV own idx mX9_orderedMany 0 9 := ⟨⟨h, inTB 941 (by decide +kernel) (by decide +kernel), inTB 27 (by decide +kernel) (by decide +kernel), iniX9, cd_X9_orderedMany⟩, rfl, by decide +kernel, by decide⟩
set_option maxRecDepth 100000 in
theorem cd_X9_power : Cond.code yX9_power cX9_power 4 (some .int) ∈ TB := inTB 970 (by decide +kernel) (by decide +kernel)
set_option maxRecDepth 100000 in
theorem cv_X9_power {own : String} {idx : Nat} (h : Cond.methodLink own idx yX9_power ∈ TB) : CV own idx mX9_power 1 9 := ⟨⟨h, inTB 969 (by decide +kernel) (by decide +kernel), inTB 31 (by decide +kernel) (by decide +kernel), iniX9, cd_X9_power⟩, rfl, by decide +kernel, by decide⟩
set_option maxRecDepth 100000 in
theorem cd_X9_purse : Cond.code yX9_purse cX9_purse 4 (some .int) ∈ TB := inTB 905 (by decide +kernel) (by decide +kernel)
set_option maxRecDepth 100000 in
theorem cv_X9_purse {own : String} {idx : Nat} (h : Cond.methodLink own idx yX9_purse ∈ TB) : CV own idx mX9_purse 2 9 := ⟨⟨h, inTB 903 (by decide +kernel) (by decide +kernel), inTB 904 (by decide +kernel) (by decide +kernel), iniX9, cd_X9_purse⟩, rfl, by decide +kernel, by decide⟩
set_option maxRecDepth 100000 in
theorem cd_X9_restore : Cond.code yX9_restore cX9_restore 1 (some .int) ∈ TB := inTB 1046 (by decide +kernel) (by decide +kernel)
set_option maxRecDepth 100000 in
theorem cv_X9_restore {own : String} {idx : Nat} (h : Cond.methodLink own idx yX9_restore ∈ TB) : CV own idx mX9_restore 0 9 := ⟨⟨h, inTB 1044 (by decide +kernel) (by decide +kernel), inTB 1045 (by decide +kernel) (by decide +kernel), iniX9, cd_X9_restore⟩, rfl, by decide +kernel, by decide⟩
set_option maxRecDepth 100000 in
theorem cd_X9_say : Cond.code yX9_say cX9_say 3 none ∈ TB := inTB 1063 (by decide +kernel) (by decide +kernel)
set_option maxRecDepth 100000 in
theorem cv_X9_say {own : String} {idx : Nat} (h : Cond.methodLink own idx yX9_say ∈ TB) : CV own idx mX9_say 1 9 := ⟨⟨h, inTB 1062 (by decide +kernel) (by decide +kernel), inTB 39 (by decide +kernel) (by decide +kernel), iniX9, cd_X9_say⟩, rfl, by decide +kernel, by decide⟩
set_option maxRecDepth 100000 in
theorem cd_X9_sayGuest : Cond.code yX9_sayGuest cX9_sayGuest 3 none ∈ TB := inTB 1068 (by decide +kernel) (by decide +kernel)
set_option maxRecDepth 100000 in
theorem cv_X9_sayGuest {own : String} {idx : Nat} (h : Cond.methodLink own idx yX9_sayGuest ∈ TB) : CV own idx mX9_sayGuest 1 9 := ⟨⟨h, inTB 1067 (by decide +kernel) (by decide +kernel), inTB 40 (by decide +kernel) (by decide +kernel), iniX9, cd_X9_sayGuest⟩, rfl, by decide +kernel, by decide⟩
set_option maxRecDepth 100000 in
theorem cd_X9_swayBy : Cond.code yX9_swayBy cX9_swayBy 4 (some .int) ∈ TB := inTB 889 (by decide +kernel) (by decide +kernel)
set_option maxRecDepth 100000 in
theorem cv_X9_swayBy {own : String} {idx : Nat} (h : Cond.methodLink own idx yX9_swayBy ∈ TB) : CV own idx mX9_swayBy 2 9 := ⟨⟨h, inTB 888 (by decide +kernel) (by decide +kernel), inTB 21 (by decide +kernel) (by decide +kernel), iniX9, cd_X9_swayBy⟩, rfl, by decide +kernel, by decide⟩
set_option maxRecDepth 100000 in
theorem cd_X9_takes : Cond.code yX9_takes cX9_takes 2 (some .int) ∈ TB := inTB 914 (by decide +kernel) (by decide +kernel)
set_option maxRecDepth 100000 in
theorem cv_X9_takes {own : String} {idx : Nat} (h : Cond.methodLink own idx yX9_takes ∈ TB) : CV own idx mX9_takes 1 9 := ⟨⟨h, inTB 912 (by decide +kernel) (by decide +kernel), inTB 913 (by decide +kernel) (by decide +kernel), iniX9, cd_X9_takes⟩, rfl, by decide +kernel, by decide⟩
set_option maxRecDepth 100000 in
theorem cd_X9_tell : Cond.code yX9_tell cX9_tell 3 (some .int) ∈ TB := inTB 885 (by decide +kernel) (by decide +kernel)
set_option maxRecDepth 100000 in
theorem cv_X9_tell {own : String} {idx : Nat} (h : Cond.methodLink own idx yX9_tell ∈ TB) : CV own idx mX9_tell 2 9 := ⟨⟨h, inTB 884 (by decide +kernel) (by decide +kernel), inTB 20 (by decide +kernel) (by decide +kernel), iniX9, cd_X9_tell⟩, rfl, by decide +kernel, by decide⟩
set_option maxRecDepth 100000 in
theorem cd_X9_tellDish : Cond.code yX9_tellDish cX9_tellDish 3 (some .int) ∈ TB := inTB 860 (by decide +kernel) (by decide +kernel)
set_option maxRecDepth 100000 in
theorem cv_X9_tellDish {own : String} {idx : Nat} (h : Cond.methodLink own idx yX9_tellDish ∈ TB) : CV own idx mX9_tellDish 2 9 := ⟨⟨h, inTB 859 (by decide +kernel) (by decide +kernel), inTB 16 (by decide +kernel) (by decide +kernel), iniX9, cd_X9_tellDish⟩, rfl, by decide +kernel, by decide⟩
set_option maxRecDepth 100000 in
theorem cd_X9_urge : Cond.code yX9_urge cX9_urge 4 (some .int) ∈ TB := inTB 909 (by decide +kernel) (by decide +kernel)
set_option maxRecDepth 100000 in
theorem cv_X9_urge {own : String} {idx : Nat} (h : Cond.methodLink own idx yX9_urge ∈ TB) : CV own idx mX9_urge 2 9 := ⟨⟨h, inTB 907 (by decide +kernel) (by decide +kernel), inTB 908 (by decide +kernel) (by decide +kernel), iniX9, cd_X9_urge⟩, rfl, by decide +kernel, by decide⟩
set_option maxRecDepth 100000 in
theorem cd_X9_urges : Cond.code yX9_urges cX9_urges 5 (some .int) ∈ TB := inTB 1005 (by decide +kernel) (by decide +kernel)
set_option maxRecDepth 100000 in
theorem cv_X9_urges {own : String} {idx : Nat} (h : Cond.methodLink own idx yX9_urges ∈ TB) : CV own idx mX9_urges 3 9 := ⟨⟨h, inTB 1003 (by decide +kernel) (by decide +kernel), inTB 1004 (by decide +kernel) (by decide +kernel), iniX9, cd_X9_urges⟩, rfl, by decide +kernel, by decide⟩
set_option maxRecDepth 100000 in
theorem cd_X9_valueOf : Cond.code yX9_valueOf cX9_valueOf 5 (some .int) ∈ TB := inTB 930 (by decide +kernel) (by decide +kernel)
set_option maxRecDepth 100000 in
theorem cv_X9_valueOf {own : String} {idx : Nat} (h : Cond.methodLink own idx yX9_valueOf ∈ TB) : CV own idx mX9_valueOf 3 9 := ⟨⟨h, inTB 929 (by decide +kernel) (by decide +kernel), inTB 26 (by decide +kernel) (by decide +kernel), iniX9, cd_X9_valueOf⟩, rfl, by decide +kernel, by decide⟩
set_option maxRecDepth 100000 in
theorem cd_X9_want : Cond.code yX9_want cX9_want 5 (some .int) ∈ TB := inTB 901 (by decide +kernel) (by decide +kernel)
set_option maxRecDepth 100000 in
theorem cv_X9_want {own : String} {idx : Nat} (h : Cond.methodLink own idx yX9_want ∈ TB) : CV own idx mX9_want 3 9 := ⟨⟨h, inTB 899 (by decide +kernel) (by decide +kernel), inTB 900 (by decide +kernel) (by decide +kernel), iniX9, cd_X9_want⟩, rfl, by decide +kernel, by decide⟩
theorem kiJ6_265 : Cond.constant RJ6 265 1431655765 ∈ TB := inTB 566 (by decide +kernel) (by decide +kernel)
theorem kiJ6_266 : Cond.constant RJ6 266 858993459 ∈ TB := inTB 567 (by decide +kernel) (by decide +kernel)
theorem kiJ6_267 : Cond.constant RJ6 267 252645135 ∈ TB := inTB 568 (by decide +kernel) (by decide +kernel)
set_option maxRecDepth 100000 in
theorem cvL_13 : CV RL 13 mX8_letter 1 8 := cv_X8_letter (own := RL) (idx := 13) (inTB 335 (by decide +kernel) (by decide +kernel))
set_option maxRecDepth 100000 in
theorem cvL_17 : CV RL 17 mX9_letter 1 9 := cv_X9_letter (own := RL) (idx := 17) (inTB 820 (by decide +kernel) (by decide +kernel))
set_option maxRecDepth 100000 in
theorem cvL_18 : CV RL 18 mX8_blank 0 8 := cv_X8_blank (own := RL) (idx := 18) (inTB 342 (by decide +kernel) (by decide +kernel))
set_option maxRecDepth 100000 in
theorem cvL_22 : CV RL 22 mX9_blank 0 9 := cv_X9_blank (own := RL) (idx := 22) (inTB 828 (by decide +kernel) (by decide +kernel))
set_option maxRecDepth 100000 in
theorem cvL_23 : CV RL 23 mX8_fault 0 8 := cv_X8_fault (own := RL) (idx := 23) (inTB 346 (by decide +kernel) (by decide +kernel))
set_option maxRecDepth 100000 in
theorem cvL_26 : CV RL 26 mX9_fault 0 9 := cv_X9_fault (own := RL) (idx := 26) (inTB 832 (by decide +kernel) (by decide +kernel))
set_option maxRecDepth 100000 in
theorem cvL_27 : CV RL 27 mX8_card 0 8 := cv_X8_card (own := RL) (idx := 27) (inTB 358 (by decide +kernel) (by decide +kernel))
set_option maxRecDepth 100000 in
theorem cvL_30 : CV RL 30 mX9_card 0 9 := cv_X9_card (own := RL) (idx := 30) (inTB 845 (by decide +kernel) (by decide +kernel))
set_option maxRecDepth 100000 in
theorem cvL_31 : CV RL 31 mX8_dish 2 8 := cv_X8_dish (own := RL) (idx := 31) (inTB 382 (by decide +kernel) (by decide +kernel))
set_option maxRecDepth 100000 in
theorem cvL_35 : CV RL 35 mX9_dish 2 9 := cv_X9_dish (own := RL) (idx := 35) (inTB 849 (by decide +kernel) (by decide +kernel))
set_option maxRecDepth 100000 in
theorem cvL_36 : CV RL 36 mX8_guest 2 8 := cv_X8_guest (own := RL) (idx := 36) (inTB 390 (by decide +kernel) (by decide +kernel))
set_option maxRecDepth 100000 in
theorem cvL_39 : CV RL 39 mX9_guest 2 9 := cv_X9_guest (own := RL) (idx := 39) (inTB 865 (by decide +kernel) (by decide +kernel))
set_option maxRecDepth 100000 in
theorem cvL_40 : CV RL 40 mX8_about 2 8 := cv_X8_about (own := RL) (idx := 40) (inTB 404 (by decide +kernel) (by decide +kernel))
set_option maxRecDepth 100000 in
theorem cvL_43 : CV RL 43 mX9_about 2 9 := cv_X9_about (own := RL) (idx := 43) (inTB 874 (by decide +kernel) (by decide +kernel))
set_option maxRecDepth 100000 in
theorem cvL_44 : CV RL 44 mX8_as 2 8 := cv_X8_as (own := RL) (idx := 44) (inTB 416 (by decide +kernel) (by decide +kernel))
set_option maxRecDepth 100000 in
theorem cvL_47 : CV RL 47 mX9_as 2 9 := cv_X9_as (own := RL) (idx := 47) (inTB 894 (by decide +kernel) (by decide +kernel))
set_option maxRecDepth 100000 in
theorem cvL_48 : CV RL 48 mX8_want 3 8 := cv_X8_want (own := RL) (idx := 48) (inTB 424 (by decide +kernel) (by decide +kernel))
set_option maxRecDepth 100000 in
theorem cvL_52 : CV RL 52 mX9_want 3 9 := cv_X9_want (own := RL) (idx := 52) (inTB 898 (by decide +kernel) (by decide +kernel))
set_option maxRecDepth 100000 in
theorem cvL_53 : CV RL 53 mX8_purse 2 8 := cv_X8_purse (own := RL) (idx := 53) (inTB 428 (by decide +kernel) (by decide +kernel))
set_option maxRecDepth 100000 in
theorem cvL_56 : CV RL 56 mX9_purse 2 9 := cv_X9_purse (own := RL) (idx := 56) (inTB 902 (by decide +kernel) (by decide +kernel))
set_option maxRecDepth 100000 in
theorem cvL_57 : CV RL 57 mX8_urge 2 8 := cv_X8_urge (own := RL) (idx := 57) (inTB 432 (by decide +kernel) (by decide +kernel))
set_option maxRecDepth 100000 in
theorem cvL_60 : CV RL 60 mX9_urge 2 9 := cv_X9_urge (own := RL) (idx := 60) (inTB 906 (by decide +kernel) (by decide +kernel))
set_option maxRecDepth 100000 in
theorem cvL_61 : CV RL 61 mX8_takes 1 8 := cv_X8_takes (own := RL) (idx := 61) (inTB 436 (by decide +kernel) (by decide +kernel))
set_option maxRecDepth 100000 in
theorem cvL_64 : CV RL 64 mX9_takes 1 9 := cv_X9_takes (own := RL) (idx := 64) (inTB 911 (by decide +kernel) (by decide +kernel))
set_option maxRecDepth 100000 in
theorem cvL_65 : CV RL 65 mX8_order 1 8 := cv_X8_order (own := RL) (idx := 65) (inTB 452 (by decide +kernel) (by decide +kernel))
set_option maxRecDepth 100000 in
theorem cvL_68 : CV RL 68 mX9_order 1 9 := cv_X9_order (own := RL) (idx := 68) (inTB 931 (by decide +kernel) (by decide +kernel))
set_option maxRecDepth 100000 in
theorem cvL_69 : CV RL 69 mX8_clear 0 8 := cv_X8_clear (own := RL) (idx := 69) (inTB 461 (by decide +kernel) (by decide +kernel))
set_option maxRecDepth 100000 in
theorem cvL_72 : CV RL 72 mX9_clear 0 9 := cv_X9_clear (own := RL) (idx := 72) (inTB 935 (by decide +kernel) (by decide +kernel))
set_option maxRecDepth 100000 in
theorem cvL_73 : CV RL 73 mX8_inTurn 2 8 := cv_X8_inTurn (own := RL) (idx := 73) (inTB 469 (by decide +kernel) (by decide +kernel))
set_option maxRecDepth 100000 in
theorem cvL_76 : CV RL 76 mX9_inTurn 2 9 := cv_X9_inTurn (own := RL) (idx := 76) (inTB 943 (by decide +kernel) (by decide +kernel))
set_option maxRecDepth 100000 in
theorem cvL_77 : CV RL 77 mX8_begin 2 8 := cv_X8_begin (own := RL) (idx := 77) (inTB 493 (by decide +kernel) (by decide +kernel))
set_option maxRecDepth 100000 in
theorem cvL_80 : CV RL 80 mX9_begin 2 9 := cv_X9_begin (own := RL) (idx := 80) (inTB 951 (by decide +kernel) (by decide +kernel))
set_option maxRecDepth 100000 in
theorem cvL_81 : CV RL 81 mX8_atOnce 1 8 := cv_X8_atOnce (own := RL) (idx := 81) (inTB 512 (by decide +kernel) (by decide +kernel))
set_option maxRecDepth 100000 in
theorem cvL_84 : CV RL 84 mX9_atOnce 1 9 := cv_X9_atOnce (own := RL) (idx := 84) (inTB 963 (by decide +kernel) (by decide +kernel))
set_option maxRecDepth 100000 in
theorem cvL_85 : CV RL 85 mX8_minds 1 8 := cv_X8_minds (own := RL) (idx := 85) (inTB 536 (by decide +kernel) (by decide +kernel))
set_option maxRecDepth 100000 in
theorem cvL_88 : CV RL 88 mX9_minds 1 9 := cv_X9_minds (own := RL) (idx := 88) (inTB 975 (by decide +kernel) (by decide +kernel))
set_option maxRecDepth 100000 in
theorem cvL_89 : CV RL 89 mX8_host 0 8 := cv_X8_host (own := RL) (idx := 89) (inTB 551 (by decide +kernel) (by decide +kernel))
set_option maxRecDepth 100000 in
theorem cvL_92 : CV RL 92 mX9_host 0 9 := cv_X9_host (own := RL) (idx := 92) (inTB 983 (by decide +kernel) (by decide +kernel))
set_option maxRecDepth 100000 in
theorem cvL_93 : CV RL 93 mX8_fewest 1 8 := cv_X8_fewest (own := RL) (idx := 93) (inTB 569 (by decide +kernel) (by decide +kernel))
set_option maxRecDepth 100000 in
theorem cvL_96 : CV RL 96 mX9_fewest 1 9 := cv_X9_fewest (own := RL) (idx := 96) (inTB 991 (by decide +kernel) (by decide +kernel))
set_option maxRecDepth 100000 in
theorem cvL_97 : CV RL 97 mX8_urges 3 8 := cv_X8_urges (own := RL) (idx := 97) (inTB 582 (by decide +kernel) (by decide +kernel))
set_option maxRecDepth 100000 in
theorem cvL_100 : CV RL 100 mX9_urges 3 9 := cv_X9_urges (own := RL) (idx := 100) (inTB 1002 (by decide +kernel) (by decide +kernel))
set_option maxRecDepth 100000 in
theorem cvL_101 : CV RL 101 mX8_evening 3 8 := cv_X8_evening (own := RL) (idx := 101) (inTB 590 (by decide +kernel) (by decide +kernel))
set_option maxRecDepth 100000 in
theorem cvL_104 : CV RL 104 mX9_evening 3 9 := cv_X9_evening (own := RL) (idx := 104) (inTB 1007 (by decide +kernel) (by decide +kernel))
set_option maxRecDepth 100000 in
theorem cvL_105 : CV RL 105 mX8_forget 0 8 := cv_X8_forget (own := RL) (idx := 105) (inTB 598 (by decide +kernel) (by decide +kernel))
set_option maxRecDepth 100000 in
theorem cvL_108 : CV RL 108 mX9_forget 0 9 := cv_X9_forget (own := RL) (idx := 108) (inTB 1011 (by decide +kernel) (by decide +kernel))
set_option maxRecDepth 100000 in
theorem cvL_109 : CV RL 109 mX8_fits 1 8 := cv_X8_fits (own := RL) (idx := 109) (inTB 602 (by decide +kernel) (by decide +kernel))
set_option maxRecDepth 100000 in
theorem cvL_112 : CV RL 112 mX9_fits 1 9 := cv_X9_fits (own := RL) (idx := 112) (inTB 1015 (by decide +kernel) (by decide +kernel))
set_option maxRecDepth 100000 in
theorem cvL_113 : CV RL 113 mX8_evenings 3 8 := cv_X8_evenings (own := RL) (idx := 113) (inTB 617 (by decide +kernel) (by decide +kernel))
set_option maxRecDepth 100000 in
theorem cvL_116 : CV RL 116 mX9_evenings 3 9 := cv_X9_evenings (own := RL) (idx := 116) (inTB 1023 (by decide +kernel) (by decide +kernel))
set_option maxRecDepth 100000 in
theorem cvL_117 : CV RL 117 mX8_image 0 8 := cv_X8_image (own := RL) (idx := 117) (inTB 644 (by decide +kernel) (by decide +kernel))
set_option maxRecDepth 100000 in
theorem cvL_120 : CV RL 120 mX9_image 0 9 := cv_X9_image (own := RL) (idx := 120) (inTB 1039 (by decide +kernel) (by decide +kernel))
set_option maxRecDepth 100000 in
theorem cvL_121 : CV RL 121 mX8_restore 0 8 := cv_X8_restore (own := RL) (idx := 121) (inTB 663 (by decide +kernel) (by decide +kernel))
set_option maxRecDepth 100000 in
theorem cvL_124 : CV RL 124 mX9_restore 0 9 := cv_X9_restore (own := RL) (idx := 124) (inTB 1043 (by decide +kernel) (by decide +kernel))
set_option maxRecDepth 100000 in
theorem cvL_125 : CV RL 125 mX8_count 1 8 := cv_X8_count (own := RL) (idx := 125) (inTB 672 (by decide +kernel) (by decide +kernel))
set_option maxRecDepth 100000 in
theorem cvL_128 : CV RL 128 mX9_count 1 9 := cv_X9_count (own := RL) (idx := 128) (inTB 1047 (by decide +kernel) (by decide +kernel))
set_option maxRecDepth 100000 in
theorem cvL_129 : CV RL 129 mX8_digest 0 8 := cv_X8_digest (own := RL) (idx := 129) (inTB 677 (by decide +kernel) (by decide +kernel))
set_option maxRecDepth 100000 in
theorem cvL_133 : CV RL 133 mX9_digest 0 9 := cv_X9_digest (own := RL) (idx := 133) (inTB 1055 (by decide +kernel) (by decide +kernel))
set_option maxRecDepth 100000 in
theorem flX0_11 : FL RX0 11 0 4 := ⟨_, _, _, _, cfX0, by decide, inTB 246 (by decide +kernel) (by decide +kernel)⟩
set_option maxRecDepth 100000 in
theorem flX0_15 : FL RX0 15 0 5 := ⟨_, _, _, _, cfX0, by decide, inTB 247 (by decide +kernel) (by decide +kernel)⟩
set_option maxRecDepth 100000 in
theorem flX0_20 : FL RX0 20 0 6 := ⟨_, _, _, _, cfX0, by decide, inTB 248 (by decide +kernel) (by decide +kernel)⟩
set_option maxRecDepth 100000 in
theorem flX0_23 : FL RX0 23 0 0 := ⟨_, _, _, _, cfX0, by decide, inTB 242 (by decide +kernel) (by decide +kernel)⟩
set_option maxRecDepth 100000 in
theorem flX0_27 : FL RX0 27 0 1 := ⟨_, _, _, _, cfX0, by decide, inTB 243 (by decide +kernel) (by decide +kernel)⟩
set_option maxRecDepth 100000 in
theorem flX0_31 : FL RX0 31 0 2 := ⟨_, _, _, _, cfX0, by decide, inTB 244 (by decide +kernel) (by decide +kernel)⟩
set_option maxRecDepth 100000 in
theorem flX0_40 : FL RX0 40 0 3 := ⟨_, _, _, _, cfX0, by decide, inTB 245 (by decide +kernel) (by decide +kernel)⟩
set_option maxRecDepth 100000 in
theorem flX0_46 : FL RX0 46 4 3 := ⟨_, _, _, _, cfX4, by decide, inTB 98 (by decide +kernel) (by decide +kernel)⟩
set_option maxRecDepth 100000 in
theorem flX0_53 : FL RX0 53 7 6 := ⟨_, _, _, _, cfX7, by decide, inTB 181 (by decide +kernel) (by decide +kernel)⟩
set_option maxRecDepth 100000 in
theorem flX0_56 : FL RX0 56 7 7 := ⟨_, _, _, _, cfX7, by decide, inTB 183 (by decide +kernel) (by decide +kernel)⟩
set_option maxRecDepth 100000 in
theorem flX0_63 : FL RX0 63 6 1 := ⟨_, _, _, _, cfX6, by decide, inTB 154 (by decide +kernel) (by decide +kernel)⟩
set_option maxRecDepth 100000 in
theorem flX0_86 : FL RX0 86 7 4 := ⟨_, _, _, _, cfX7, by decide, inTB 176 (by decide +kernel) (by decide +kernel)⟩
set_option maxRecDepth 100000 in
theorem flX0_99 : FL RX0 99 0 7 := ⟨_, _, _, _, cfX0, by decide, inTB 249 (by decide +kernel) (by decide +kernel)⟩
set_option maxRecDepth 100000 in
theorem flX0_102 : FL RX0 102 0 8 := ⟨_, _, _, _, cfX0, by decide, inTB 251 (by decide +kernel) (by decide +kernel)⟩
set_option maxRecDepth 100000 in
theorem flX0_117 : FL RX0 117 4 2 := ⟨_, _, _, _, cfX4, by decide, inTB 97 (by decide +kernel) (by decide +kernel)⟩
set_option maxRecDepth 100000 in
theorem flX0_134 : FL RX0 134 6 0 := ⟨_, _, _, _, cfX6, by decide, inTB 151 (by decide +kernel) (by decide +kernel)⟩
set_option maxRecDepth 100000 in
theorem flX0_138 : FL RX0 138 4 1 := ⟨_, _, _, _, cfX4, by decide, inTB 93 (by decide +kernel) (by decide +kernel)⟩
set_option maxRecDepth 100000 in
theorem flX0_141 : FL RX0 141 1 2 := ⟨_, _, _, _, cfX1, by decide, inTB 134 (by decide +kernel) (by decide +kernel)⟩
set_option maxRecDepth 100000 in
theorem flX0_151 : FL RX0 151 4 0 := ⟨_, _, _, _, cfX4, by decide, inTB 89 (by decide +kernel) (by decide +kernel)⟩
set_option maxRecDepth 100000 in
theorem flX0_154 : FL RX0 154 1 0 := ⟨_, _, _, _, cfX1, by decide, inTB 127 (by decide +kernel) (by decide +kernel)⟩
set_option maxRecDepth 100000 in
theorem flX0_160 : FL RX0 160 7 3 := ⟨_, _, _, _, cfX7, by decide, inTB 174 (by decide +kernel) (by decide +kernel)⟩
set_option maxRecDepth 100000 in
theorem flX0_167 : FL RX0 167 3 3 := ⟨_, _, _, _, cfX3, by decide, inTB 222 (by decide +kernel) (by decide +kernel)⟩
set_option maxRecDepth 100000 in
theorem flX0_170 : FL RX0 170 3 0 := ⟨_, _, _, _, cfX3, by decide, inTB 215 (by decide +kernel) (by decide +kernel)⟩
set_option maxRecDepth 100000 in
theorem flX0_173 : FL RX0 173 3 1 := ⟨_, _, _, _, cfX3, by decide, inTB 217 (by decide +kernel) (by decide +kernel)⟩
set_option maxRecDepth 100000 in
theorem flX0_176 : FL RX0 176 3 2 := ⟨_, _, _, _, cfX3, by decide, inTB 219 (by decide +kernel) (by decide +kernel)⟩
set_option maxRecDepth 100000 in
theorem flX0_179 : FL RX0 179 0 9 := ⟨_, _, _, _, cfX0, by decide, inTB 253 (by decide +kernel) (by decide +kernel)⟩
set_option maxRecDepth 100000 in
theorem csX0_112 : CS RX0 112 mJ9_max_7cf53 2 := cs_J9_max_7cf53 (own := RX0) (idx := 112) (inTB 528 (by decide +kernel) (by decide +kernel))
set_option maxRecDepth 100000 in
theorem csX0_146 : CS RX0 146 mJ6_bitCount_0f7a4 1 := cs_J6_bitCount_0f7a4 (own := RX0) (idx := 146) (inTB 563 (by decide +kernel) (by decide +kernel))
set_option maxRecDepth 100000 in
theorem cvX0_43 : CV RX0 43 mX7_wipe 0 7 := cv_X7_wipe (own := RX0) (idx := 43) (inTB 481 (by decide +kernel) (by decide +kernel))
set_option maxRecDepth 100000 in
theorem cvX0_59 : CV RX0 59 mX7_press 2 7 := cv_X7_press (own := RX0) (idx := 59) (inTB 482 (by decide +kernel) (by decide +kernel))
set_option maxRecDepth 100000 in
theorem cvX0_68 : CV RX0 68 mX6_behind 2 6 := cv_X6_behind (own := RX0) (idx := 68) (inTB 487 (by decide +kernel) (by decide +kernel))
set_option maxRecDepth 100000 in
theorem cvX0_72 : CV RX0 72 mX7_choice 1 7 := cv_X7_choice (own := RX0) (idx := 72) (inTB 491 (by decide +kernel) (by decide +kernel))
set_option maxRecDepth 100000 in
theorem cvX0_76 : CV RX0 76 mX7_give 2 7 := cv_X7_give (own := RX0) (idx := 76) (inTB 492 (by decide +kernel) (by decide +kernel))
set_option maxRecDepth 100000 in
theorem cvX0_79 : CV RX0 79 mX0_setUp 0 0 := cv_X0_setUp (own := RX0) (idx := 79) (inTB 477 (by decide +kernel) (by decide +kernel))
set_option maxRecDepth 100000 in
theorem cvX0_82 : CV RX0 82 mX0_goRound 1 0 := cv_X0_goRound (own := RX0) (idx := 82) (inTB 483 (by decide +kernel) (by decide +kernel))
set_option maxRecDepth 100000 in
theorem cvX0_89 : CV RX0 89 mX7_joyOfAll 0 7 := cv_X7_joyOfAll (own := RX0) (idx := 89) (inTB 505 (by decide +kernel) (by decide +kernel))
set_option maxRecDepth 100000 in
theorem cvX0_93 : CV RX0 93 mX7_joyOf 1 7 := cv_X7_joyOf (own := RX0) (idx := 93) (inTB 510 (by decide +kernel) (by decide +kernel))
set_option maxRecDepth 100000 in
theorem cvX0_96 : CV RX0 96 mX0_joyFrom 2 0 := cv_X0_joyFrom (own := RX0) (idx := 96) (inTB 501 (by decide +kernel) (by decide +kernel))
set_option maxRecDepth 100000 in
theorem cvX0_105 : CV RX0 105 mX0_seatOnwards 1 0 := cv_X0_seatOnwards (own := RX0) (idx := 105) (inTB 520 (by decide +kernel) (by decide +kernel))
set_option maxRecDepth 100000 in
theorem cvX0_108 : CV RX0 108 mX7_allContent 0 7 := cv_X7_allContent (own := RX0) (idx := 108) (inTB 524 (by decide +kernel) (by decide +kernel))
set_option maxRecDepth 100000 in
theorem cvX0_120 : CV RX0 120 mX7_canHave 2 7 := cv_X7_canHave (own := RX0) (idx := 120) (inTB 531 (by decide +kernel) (by decide +kernel))
set_option maxRecDepth 100000 in
theorem cvX0_124 : CV RX0 124 mX7_giveBack 1 7 := cv_X7_giveBack (own := RX0) (idx := 124) (inTB 532 (by decide +kernel) (by decide +kernel))
set_option maxRecDepth 100000 in
theorem cvX0_127 : CV RX0 127 mX7_changesMind 1 7 := cv_X7_changesMind (own := RX0) (idx := 127) (inTB 544 (by decide +kernel) (by decide +kernel))
set_option maxRecDepth 100000 in
theorem cvX0_131 : CV RX0 131 mX0_findJoyOfGroups 1 0 := cv_X0_findJoyOfGroups (own := RX0) (idx := 131) (inTB 559 (by decide +kernel) (by decide +kernel))
set_option maxRecDepth 100000 in
theorem cvX0_157 : CV RX0 157 mX0_pleasesAll 1 0 := cv_X0_pleasesAll (own := RX0) (idx := 157) (inTB 577 (by decide +kernel) (by decide +kernel))
set_option maxRecDepth 100000 in
theorem cvX0_163 : CV RX0 163 mX0_wouldFit 2 0 := cv_X0_wouldFit (own := RX0) (idx := 163) (inTB 610 (by decide +kernel) (by decide +kernel))
set_option maxRecDepth 100000 in
theorem cvX0_183 : CV RX0 183 mX6_saveWants 1 6 := cv_X6_saveWants (own := RX0) (idx := 183) (inTB 625 (by decide +kernel) (by decide +kernel))
set_option maxRecDepth 100000 in
theorem cvX0_187 : CV RX0 187 mX0_draw 1 0 := cv_X0_draw (own := RX0) (idx := 187) (inTB 632 (by decide +kernel) (by decide +kernel))
set_option maxRecDepth 100000 in
theorem cvX0_190 : CV RX0 190 mX6_loadWants 1 6 := cv_X6_loadWants (own := RX0) (idx := 190) (inTB 640 (by decide +kernel) (by decide +kernel))
theorem klX0_193 : Cond.constantLong RX0 193 1103515245 ∈ TB := inTB 636 (by decide +kernel) (by decide +kernel)
theorem klX0_195 : Cond.constantLong RX0 195 12345 ∈ TB := inTB 637 (by decide +kernel) (by decide +kernel)
theorem klX0_197 : Cond.constantLong RX0 197 2147483648 ∈ TB := inTB 638 (by decide +kernel) (by decide +kernel)
theorem klX0_199 : Cond.constantLong RX0 199 65536 ∈ TB := inTB 639 (by decide +kernel) (by decide +kernel)
set_option maxRecDepth 100000 in
theorem fwX0_52 : FW RX0 52 7 8 .int := ⟨_, _, _, _, cfX7, by decide, inTB 186 (by decide +kernel) (by decide +kernel), rfl, rfl⟩
set_option maxRecDepth 100000 in
theorem fwX0_99 : FW RX0 99 0 7 .int := ⟨_, _, _, _, cfX0, by decide, inTB 249 (by decide +kernel) (by decide +kernel), rfl, rfl⟩
set_option maxRecDepth 100000 in
theorem fwX0_102 : FW RX0 102 0 8 .int := ⟨_, _, _, _, cfX0, by decide, inTB 251 (by decide +kernel) (by decide +kernel), rfl, rfl⟩
set_option maxRecDepth 100000 in
theorem fwX0_179 : FW RX0 179 0 9 .long := ⟨_, _, _, _, cfX0, by decide, inTB 253 (by decide +kernel) (by decide +kernel), rfl, rfl⟩
set_option maxRecDepth 100000 in
theorem flX1_9 : FL RX1 9 1 0 := ⟨_, _, _, _, cfX1, by decide, inTB 123 (by decide +kernel) (by decide +kernel)⟩
set_option maxRecDepth 100000 in
theorem flX1_15 : FL RX1 15 1 1 := ⟨_, _, _, _, cfX1, by decide, inTB 128 (by decide +kernel) (by decide +kernel)⟩
set_option maxRecDepth 100000 in
theorem fwX1_15 : FW RX1 15 1 1 .int := ⟨_, _, _, _, cfX1, by decide, inTB 128 (by decide +kernel) (by decide +kernel), rfl, rfl⟩
set_option maxRecDepth 100000 in
theorem fwX1_19 : FW RX1 19 1 2 .int := ⟨_, _, _, _, cfX1, by decide, inTB 130 (by decide +kernel) (by decide +kernel), rfl, rfl⟩
set_option maxRecDepth 100000 in
theorem fwX1_25 : FW RX1 25 1 3 .int := ⟨_, _, _, _, cfX1, by decide, inTB 135 (by decide +kernel) (by decide +kernel), rfl, rfl⟩
set_option maxRecDepth 100000 in
theorem flX2_11 : FL RX2 11 2 2 := ⟨_, _, _, _, cfX2, by decide, inTB 289 (by decide +kernel) (by decide +kernel)⟩
set_option maxRecDepth 100000 in
theorem flX2_16 : FL RX2 16 2 3 := ⟨_, _, _, _, cfX2, by decide, inTB 290 (by decide +kernel) (by decide +kernel)⟩
set_option maxRecDepth 100000 in
theorem flX2_25 : FL RX2 25 2 0 := ⟨_, _, _, _, cfX2, by decide, inTB 287 (by decide +kernel) (by decide +kernel)⟩
set_option maxRecDepth 100000 in
theorem flX2_32 : FL RX2 32 2 1 := ⟨_, _, _, _, cfX2, by decide, inTB 288 (by decide +kernel) (by decide +kernel)⟩
set_option maxRecDepth 100000 in
theorem flX2_43 : FL RX2 43 6 1 := ⟨_, _, _, _, cfX6, by decide, inTB 153 (by decide +kernel) (by decide +kernel)⟩
set_option maxRecDepth 100000 in
theorem flX2_56 : FL RX2 56 6 0 := ⟨_, _, _, _, cfX6, by decide, inTB 148 (by decide +kernel) (by decide +kernel)⟩
set_option maxRecDepth 100000 in
theorem flX2_60 : FL RX2 60 1 2 := ⟨_, _, _, _, cfX1, by decide, inTB 131 (by decide +kernel) (by decide +kernel)⟩
set_option maxRecDepth 100000 in
theorem cvX2_36 : CV RX2 36 mX7_copyFrom 1 7 := cv_X7_copyFrom (own := RX2) (idx := 36) (inTB 652 (by decide +kernel) (by decide +kernel))
set_option maxRecDepth 100000 in
theorem cvX2_40 : CV RX2 40 mX3_copyFrom 1 3 := cv_X3_copyFrom (own := RX2) (idx := 40) (inTB 657 (by decide +kernel) (by decide +kernel))
set_option maxRecDepth 100000 in
theorem cvX2_52 : CV RX2 52 mX6_saveWants 1 6 := cv_X6_saveWants (own := RX2) (idx := 52) (inTB 662 (by decide +kernel) (by decide +kernel))
set_option maxRecDepth 100000 in
theorem cvX2_65 : CV RX2 65 mX6_loadWants 1 6 := cv_X6_loadWants (own := RX2) (idx := 65) (inTB 671 (by decide +kernel) (by decide +kernel))
set_option maxRecDepth 100000 in
theorem fwX2_49 : FW RX2 49 2 4 .int := ⟨_, _, _, _, cfX2, by decide, inTB 291 (by decide +kernel) (by decide +kernel), rfl, rfl⟩
set_option maxRecDepth 100000 in
theorem fwX2_60 : FW RX2 60 1 2 .int := ⟨_, _, _, _, cfX1, by decide, inTB 131 (by decide +kernel) (by decide +kernel), rfl, rfl⟩
set_option maxRecDepth 100000 in
theorem flX3_9 : FL RX3 9 3 0 := ⟨_, _, _, _, cfX3, by decide, inTB 214 (by decide +kernel) (by decide +kernel)⟩
set_option maxRecDepth 100000 in
theorem flX3_15 : FL RX3 15 3 1 := ⟨_, _, _, _, cfX3, by decide, inTB 216 (by decide +kernel) (by decide +kernel)⟩
set_option maxRecDepth 100000 in
theorem flX3_18 : FL RX3 18 3 2 := ⟨_, _, _, _, cfX3, by decide, inTB 218 (by decide +kernel) (by decide +kernel)⟩
set_option maxRecDepth 100000 in
theorem flX3_21 : FL RX3 21 3 3 := ⟨_, _, _, _, cfX3, by decide, inTB 220 (by decide +kernel) (by decide +kernel)⟩
set_option maxRecDepth 100000 in
theorem acX3_25 : Cond.methodLink RX3 25 arraycopyName ∈ TB := inTB 661 (by decide +kernel) (by decide +kernel)
set_option maxRecDepth 100000 in
theorem fwX3_21 : FW RX3 21 3 3 .int := ⟨_, _, _, _, cfX3, by decide, inTB 220 (by decide +kernel) (by decide +kernel), rfl, rfl⟩
set_option maxRecDepth 100000 in
theorem flX4_9 : FL RX4 9 4 0 := ⟨_, _, _, _, cfX4, by decide, inTB 87 (by decide +kernel) (by decide +kernel)⟩
set_option maxRecDepth 100000 in
theorem flX4_15 : FL RX4 15 4 1 := ⟨_, _, _, _, cfX4, by decide, inTB 90 (by decide +kernel) (by decide +kernel)⟩
set_option maxRecDepth 100000 in
theorem flX4_18 : FL RX4 18 5 1 := ⟨_, _, _, _, cfX5, by decide, inTB 72 (by decide +kernel) (by decide +kernel)⟩
set_option maxRecDepth 100000 in
theorem flX4_30 : FL RX4 30 4 2 := ⟨_, _, _, _, cfX4, by decide, inTB 94 (by decide +kernel) (by decide +kernel)⟩
set_option maxRecDepth 100000 in
theorem flX4_33 : FL RX4 33 5 0 := ⟨_, _, _, _, cfX5, by decide, inTB 70 (by decide +kernel) (by decide +kernel)⟩
set_option maxRecDepth 100000 in
theorem csX4_24 : CS RX4 24 mJ9_min_7cf53 2 := cs_J9_min_7cf53 (own := RX4) (idx := 24) (inTB 371 (by decide +kernel) (by decide +kernel))
set_option maxRecDepth 100000 in
theorem fwX4_30 : FW RX4 30 4 2 .int := ⟨_, _, _, _, cfX4, by decide, inTB 94 (by decide +kernel) (by decide +kernel), rfl, rfl⟩
set_option maxRecDepth 100000 in
theorem fwX4_36 : FW RX4 36 4 3 .int := ⟨_, _, _, _, cfX4, by decide, inTB 99 (by decide +kernel) (by decide +kernel), rfl, rfl⟩
set_option maxRecDepth 100000 in
theorem flX5_9 : FL RX5 9 5 0 := ⟨_, _, _, _, cfX5, by decide, inTB 69 (by decide +kernel) (by decide +kernel)⟩
set_option maxRecDepth 100000 in
theorem flX5_15 : FL RX5 15 5 1 := ⟨_, _, _, _, cfX5, by decide, inTB 73 (by decide +kernel) (by decide +kernel)⟩
set_option maxRecDepth 100000 in
theorem cvX5_19 : CV RX5 19 mX5_isGood 1 5 := cv_X5_isGood (own := RX5) (idx := 19) (inTB 354 (by decide +kernel) (by decide +kernel))
set_option maxRecDepth 100000 in
theorem cvX5_23 : CV RX5 23 mX5_firstFault 0 5 := cv_X5_firstFault (own := RX5) (idx := 23) (inTB 366 (by decide +kernel) (by decide +kernel))
set_option maxRecDepth 100000 in
theorem flX6_11 : FL RX6 11 6 0 := ⟨_, _, _, _, cfX6, by decide, inTB 147 (by decide +kernel) (by decide +kernel)⟩
set_option maxRecDepth 100000 in
theorem flX6_18 : FL RX6 18 6 1 := ⟨_, _, _, _, cfX6, by decide, inTB 152 (by decide +kernel) (by decide +kernel)⟩
set_option maxRecDepth 100000 in
theorem flX6_22 : FL RX6 22 1 0 := ⟨_, _, _, _, cfX1, by decide, inTB 124 (by decide +kernel) (by decide +kernel)⟩
set_option maxRecDepth 100000 in
theorem acX6_26 : Cond.methodLink RX6 26 arraycopyName ∈ TB := inTB 629 (by decide +kernel) (by decide +kernel)
set_option maxRecDepth 100000 in
theorem flX7_9 : FL RX7 9 7 2 := ⟨_, _, _, _, cfX7, by decide, inTB 170 (by decide +kernel) (by decide +kernel)⟩
set_option maxRecDepth 100000 in
theorem flX7_15 : FL RX7 15 7 3 := ⟨_, _, _, _, cfX7, by decide, inTB 172 (by decide +kernel) (by decide +kernel)⟩
set_option maxRecDepth 100000 in
theorem flX7_18 : FL RX7 18 7 4 := ⟨_, _, _, _, cfX7, by decide, inTB 175 (by decide +kernel) (by decide +kernel)⟩
set_option maxRecDepth 100000 in
theorem flX7_21 : FL RX7 21 7 5 := ⟨_, _, _, _, cfX7, by decide, inTB 178 (by decide +kernel) (by decide +kernel)⟩
set_option maxRecDepth 100000 in
theorem flX7_24 : FL RX7 24 7 6 := ⟨_, _, _, _, cfX7, by decide, inTB 180 (by decide +kernel) (by decide +kernel)⟩
set_option maxRecDepth 100000 in
theorem flX7_28 : FL RX7 28 7 0 := ⟨_, _, _, _, cfX7, by decide, inTB 168 (by decide +kernel) (by decide +kernel)⟩
set_option maxRecDepth 100000 in
theorem flX7_32 : FL RX7 32 7 1 := ⟨_, _, _, _, cfX7, by decide, inTB 169 (by decide +kernel) (by decide +kernel)⟩
set_option maxRecDepth 100000 in
theorem flX7_36 : FL RX7 36 4 0 := ⟨_, _, _, _, cfX4, by decide, inTB 88 (by decide +kernel) (by decide +kernel)⟩
set_option maxRecDepth 100000 in
theorem flX7_41 : FL RX7 41 7 7 := ⟨_, _, _, _, cfX7, by decide, inTB 184 (by decide +kernel) (by decide +kernel)⟩
set_option maxRecDepth 100000 in
theorem flX7_44 : FL RX7 44 4 1 := ⟨_, _, _, _, cfX4, by decide, inTB 91 (by decide +kernel) (by decide +kernel)⟩
set_option maxRecDepth 100000 in
theorem flX7_47 : FL RX7 47 6 0 := ⟨_, _, _, _, cfX6, by decide, inTB 149 (by decide +kernel) (by decide +kernel)⟩
set_option maxRecDepth 100000 in
theorem flX7_53 : FL RX7 53 1 2 := ⟨_, _, _, _, cfX1, by decide, inTB 132 (by decide +kernel) (by decide +kernel)⟩
set_option maxRecDepth 100000 in
theorem flX7_58 : FL RX7 58 1 0 := ⟨_, _, _, _, cfX1, by decide, inTB 125 (by decide +kernel) (by decide +kernel)⟩
set_option maxRecDepth 100000 in
theorem flX7_61 : FL RX7 61 1 3 := ⟨_, _, _, _, cfX1, by decide, inTB 136 (by decide +kernel) (by decide +kernel)⟩
set_option maxRecDepth 100000 in
theorem flX7_64 : FL RX7 64 7 8 := ⟨_, _, _, _, cfX7, by decide, inTB 188 (by decide +kernel) (by decide +kernel)⟩
set_option maxRecDepth 100000 in
theorem flX7_67 : FL RX7 67 4 2 := ⟨_, _, _, _, cfX4, by decide, inTB 96 (by decide +kernel) (by decide +kernel)⟩
set_option maxRecDepth 100000 in
theorem flX7_90 : FL RX7 90 6 1 := ⟨_, _, _, _, cfX6, by decide, inTB 156 (by decide +kernel) (by decide +kernel)⟩
set_option maxRecDepth 100000 in
theorem acX7_96 : Cond.methodLink RX7 96 arraycopyName ∈ TB := inTB 656 (by decide +kernel) (by decide +kernel)
set_option maxRecDepth 100000 in
theorem cvX7_70 : CV RX7 70 mX7_canHave 2 7 := cv_X7_canHave (own := RX7) (idx := 70) (inTB 444 (by decide +kernel) (by decide +kernel))
set_option maxRecDepth 100000 in
theorem cvX7_74 : CV RX7 74 mX7_value 2 7 := cv_X7_value (own := RX7) (idx := 74) (inTB 448 (by decide +kernel) (by decide +kernel))
set_option maxRecDepth 100000 in
theorem cvX7_78 : CV RX7 78 mX7_giveBack 1 7 := cv_X7_giveBack (own := RX7) (idx := 78) (inTB 548 (by decide +kernel) (by decide +kernel))
set_option maxRecDepth 100000 in
theorem cvX7_82 : CV RX7 82 mX7_choice 1 7 := cv_X7_choice (own := RX7) (idx := 82) (inTB 549 (by decide +kernel) (by decide +kernel))
set_option maxRecDepth 100000 in
theorem cvX7_86 : CV RX7 86 mX7_give 2 7 := cv_X7_give (own := RX7) (idx := 86) (inTB 550 (by decide +kernel) (by decide +kernel))
set_option maxRecDepth 100000 in
theorem cvX7_93 : CV RX7 93 mX7_joyOf 1 7 := cv_X7_joyOf (own := RX7) (idx := 93) (inTB 509 (by decide +kernel) (by decide +kernel))
set_option maxRecDepth 100000 in
theorem fwX7_24 : FW RX7 24 7 6 .int := ⟨_, _, _, _, cfX7, by decide, inTB 180 (by decide +kernel) (by decide +kernel), rfl, rfl⟩
set_option maxRecDepth 100000 in
theorem fwX7_41 : FW RX7 41 7 7 .int := ⟨_, _, _, _, cfX7, by decide, inTB 184 (by decide +kernel) (by decide +kernel), rfl, rfl⟩
set_option maxRecDepth 100000 in
theorem fwX7_64 : FW RX7 64 7 8 .int := ⟨_, _, _, _, cfX7, by decide, inTB 188 (by decide +kernel) (by decide +kernel), rfl, rfl⟩
set_option maxRecDepth 100000 in
theorem flX8_10 : FL RX8 10 8 0 := ⟨_, _, _, _, cfX8, by decide, inTB 307 (by decide +kernel) (by decide +kernel)⟩
set_option maxRecDepth 100000 in
theorem flX8_19 : FL RX8 19 8 1 := ⟨_, _, _, _, cfX8, by decide, inTB 308 (by decide +kernel) (by decide +kernel)⟩
set_option maxRecDepth 100000 in
theorem flX8_26 : FL RX8 26 8 2 := ⟨_, _, _, _, cfX8, by decide, inTB 309 (by decide +kernel) (by decide +kernel)⟩
set_option maxRecDepth 100000 in
theorem flX8_35 : FL RX8 35 8 3 := ⟨_, _, _, _, cfX8, by decide, inTB 310 (by decide +kernel) (by decide +kernel)⟩
set_option maxRecDepth 100000 in
theorem flX8_42 : FL RX8 42 8 4 := ⟨_, _, _, _, cfX8, by decide, inTB 311 (by decide +kernel) (by decide +kernel)⟩
set_option maxRecDepth 100000 in
theorem flX8_51 : FL RX8 51 8 5 := ⟨_, _, _, _, cfX8, by decide, inTB 312 (by decide +kernel) (by decide +kernel)⟩
set_option maxRecDepth 100000 in
theorem flX8_58 : FL RX8 58 8 6 := ⟨_, _, _, _, cfX8, by decide, inTB 313 (by decide +kernel) (by decide +kernel)⟩
set_option maxRecDepth 100000 in
theorem flX8_66 : FL RX8 66 5 1 := ⟨_, _, _, _, cfX5, by decide, inTB 74 (by decide +kernel) (by decide +kernel)⟩
set_option maxRecDepth 100000 in
theorem flX8_70 : FL RX8 70 5 0 := ⟨_, _, _, _, cfX5, by decide, inTB 71 (by decide +kernel) (by decide +kernel)⟩
set_option maxRecDepth 100000 in
theorem flX8_86 : FL RX8 86 6 1 := ⟨_, _, _, _, cfX6, by decide, inTB 155 (by decide +kernel) (by decide +kernel)⟩
set_option maxRecDepth 100000 in
theorem flX8_87 : FL RX8 87 3 3 := ⟨_, _, _, _, cfX3, by decide, inTB 221 (by decide +kernel) (by decide +kernel)⟩
set_option maxRecDepth 100000 in
theorem flX8_88 : FL RX8 88 4 3 := ⟨_, _, _, _, cfX4, by decide, inTB 100 (by decide +kernel) (by decide +kernel)⟩
set_option maxRecDepth 100000 in
theorem flX8_99 : FL RX8 99 8 7 := ⟨_, _, _, _, cfX8, by decide, inTB 314 (by decide +kernel) (by decide +kernel)⟩
set_option maxRecDepth 100000 in
theorem flX8_102 : FL RX8 102 4 2 := ⟨_, _, _, _, cfX4, by decide, inTB 95 (by decide +kernel) (by decide +kernel)⟩
set_option maxRecDepth 100000 in
theorem flX8_109 : FL RX8 109 7 2 := ⟨_, _, _, _, cfX7, by decide, inTB 171 (by decide +kernel) (by decide +kernel)⟩
set_option maxRecDepth 100000 in
theorem flX8_112 : FL RX8 112 4 1 := ⟨_, _, _, _, cfX4, by decide, inTB 92 (by decide +kernel) (by decide +kernel)⟩
set_option maxRecDepth 100000 in
theorem flX8_115 : FL RX8 115 7 3 := ⟨_, _, _, _, cfX7, by decide, inTB 173 (by decide +kernel) (by decide +kernel)⟩
set_option maxRecDepth 100000 in
theorem flX8_118 : FL RX8 118 7 6 := ⟨_, _, _, _, cfX7, by decide, inTB 182 (by decide +kernel) (by decide +kernel)⟩
set_option maxRecDepth 100000 in
theorem flX8_121 : FL RX8 121 7 7 := ⟨_, _, _, _, cfX7, by decide, inTB 185 (by decide +kernel) (by decide +kernel)⟩
set_option maxRecDepth 100000 in
theorem flX8_127 : FL RX8 127 6 0 := ⟨_, _, _, _, cfX6, by decide, inTB 150 (by decide +kernel) (by decide +kernel)⟩
set_option maxRecDepth 100000 in
theorem flX8_139 : FL RX8 139 1 1 := ⟨_, _, _, _, cfX1, by decide, inTB 129 (by decide +kernel) (by decide +kernel)⟩
set_option maxRecDepth 100000 in
theorem flX8_142 : FL RX8 142 1 2 := ⟨_, _, _, _, cfX1, by decide, inTB 133 (by decide +kernel) (by decide +kernel)⟩
set_option maxRecDepth 100000 in
theorem flX8_145 : FL RX8 145 7 4 := ⟨_, _, _, _, cfX7, by decide, inTB 177 (by decide +kernel) (by decide +kernel)⟩
set_option maxRecDepth 100000 in
theorem flX8_148 : FL RX8 148 7 5 := ⟨_, _, _, _, cfX7, by decide, inTB 179 (by decide +kernel) (by decide +kernel)⟩
set_option maxRecDepth 100000 in
theorem flX8_151 : FL RX8 151 1 3 := ⟨_, _, _, _, cfX1, by decide, inTB 137 (by decide +kernel) (by decide +kernel)⟩
set_option maxRecDepth 100000 in
theorem flX8_161 : FL RX8 161 1 0 := ⟨_, _, _, _, cfX1, by decide, inTB 126 (by decide +kernel) (by decide +kernel)⟩
set_option maxRecDepth 100000 in
theorem flX8_186 : FL RX8 186 8 8 := ⟨_, _, _, _, cfX8, by decide, inTB 315 (by decide +kernel) (by decide +kernel)⟩
set_option maxRecDepth 100000 in
theorem flX8_192 : FL RX8 192 0 7 := ⟨_, _, _, _, cfX0, by decide, inTB 250 (by decide +kernel) (by decide +kernel)⟩
set_option maxRecDepth 100000 in
theorem flX8_195 : FL RX8 195 0 8 := ⟨_, _, _, _, cfX0, by decide, inTB 252 (by decide +kernel) (by decide +kernel)⟩
set_option maxRecDepth 100000 in
theorem flX8_230 : FL RX8 230 0 9 := ⟨_, _, _, _, cfX0, by decide, inTB 254 (by decide +kernel) (by decide +kernel)⟩
set_option maxRecDepth 100000 in
theorem flX8_238 : FL RX8 238 2 5 := ⟨_, _, _, _, cfX2, by decide, inTB 293 (by decide +kernel) (by decide +kernel)⟩
set_option maxRecDepth 100000 in
theorem flX8_241 : FL RX8 241 2 4 := ⟨_, _, _, _, cfX2, by decide, inTB 292 (by decide +kernel) (by decide +kernel)⟩
set_option maxRecDepth 100000 in
theorem csX8_62 : CS RX8 62 mX8_isOutside 3 := cs_X8_isOutside (own := RX8) (idx := 62) (inTB 339 (by decide +kernel) (by decide +kernel))
set_option maxRecDepth 100000 in
theorem csX8_207 : CS RX8 207 mJ6_bitCount_0f7a4 1 := cs_J6_bitCount_0f7a4 (own := RX8) (idx := 207) (inTB 581 (by decide +kernel) (by decide +kernel))
set_option maxRecDepth 100000 in
theorem csX8_224 : CS RX8 224 mX8_onlyLoath 1 := cs_X8_onlyLoath (own := RX8) (idx := 224) (inTB 614 (by decide +kernel) (by decide +kernel))
set_option maxRecDepth 100000 in
theorem csX8_262 : CS RX8 262 mX8_mixed 2 := cs_X8_mixed (own := RX8) (idx := 262) (inTB 687 (by decide +kernel) (by decide +kernel))
set_option maxRecDepth 100000 in
theorem cvX8_74 : CV RX8 74 mX5_firstFault 0 5 := cv_X5_firstFault (own := RX8) (idx := 74) (inTB 350 (by decide +kernel) (by decide +kernel))
set_option maxRecDepth 100000 in
theorem cvX8_78 : CV RX8 78 mX5_isCard 0 5 := cv_X5_isCard (own := RX8) (idx := 78) (inTB 362 (by decide +kernel) (by decide +kernel))
set_option maxRecDepth 100000 in
theorem cvX8_82 : CV RX8 82 mX4_read 1 4 := cv_X4_read (own := RX8) (idx := 82) (inTB 367 (by decide +kernel) (by decide +kernel))
set_option maxRecDepth 100000 in
theorem cvX8_92 : CV RX8 92 mX7_press 2 7 := cv_X7_press (own := RX8) (idx := 92) (inTB 374 (by decide +kernel) (by decide +kernel))
set_option maxRecDepth 100000 in
theorem cvX8_96 : CV RX8 96 mX7_wipe 0 7 := cv_X7_wipe (own := RX8) (idx := 96) (inTB 378 (by decide +kernel) (by decide +kernel))
set_option maxRecDepth 100000 in
theorem cvX8_105 : CV RX8 105 mX8_noDish 1 8 := cv_X8_noDish (own := RX8) (idx := 105) (inTB 386 (by decide +kernel) (by decide +kernel))
set_option maxRecDepth 100000 in
theorem cvX8_124 : CV RX8 124 mX8_noCard 0 8 := cv_X8_noCard (own := RX8) (idx := 124) (inTB 394 (by decide +kernel) (by decide +kernel))
set_option maxRecDepth 100000 in
theorem cvX8_131 : CV RX8 131 mX1_sitDown 2 1 := cv_X1_sitDown (own := RX8) (idx := 131) (inTB 398 (by decide +kernel) (by decide +kernel))
set_option maxRecDepth 100000 in
theorem cvX8_136 : CV RX8 136 mX8_noGuest 1 8 := cv_X8_noGuest (own := RX8) (idx := 136) (inTB 408 (by decide +kernel) (by decide +kernel))
set_option maxRecDepth 100000 in
theorem cvX8_154 : CV RX8 154 mX7_joyOf 1 7 := cv_X7_joyOf (own := RX8) (idx := 154) (inTB 412 (by decide +kernel) (by decide +kernel))
set_option maxRecDepth 100000 in
theorem cvX8_158 : CV RX8 158 mX1_isOfKind 1 1 := cv_X1_isOfKind (own := RX8) (idx := 158) (inTB 420 (by decide +kernel) (by decide +kernel))
set_option maxRecDepth 100000 in
theorem cvX8_164 : CV RX8 164 mX7_choice 1 7 := cv_X7_choice (own := RX8) (idx := 164) (inTB 440 (by decide +kernel) (by decide +kernel))
set_option maxRecDepth 100000 in
theorem cvX8_167 : CV RX8 167 mX8_takes 1 8 := cv_X8_takes (own := RX8) (idx := 167) (inTB 456 (by decide +kernel) (by decide +kernel))
set_option maxRecDepth 100000 in
theorem cvX8_170 : CV RX8 170 mX7_give 2 7 := cv_X7_give (own := RX8) (idx := 170) (inTB 457 (by decide +kernel) (by decide +kernel))
set_option maxRecDepth 100000 in
theorem cvX8_173 : CV RX8 173 mX7_howManyOrdered 0 7 := cv_X7_howManyOrdered (own := RX8) (idx := 173) (inTB 465 (by decide +kernel) (by decide +kernel))
set_option maxRecDepth 100000 in
theorem cvX8_176 : CV RX8 176 mX0_dishInTurn 2 0 := cv_X0_dishInTurn (own := RX8) (idx := 176) (inTB 473 (by decide +kernel) (by decide +kernel))
set_option maxRecDepth 100000 in
theorem cvX8_180 : CV RX8 180 mX0_bestFirst 1 0 := cv_X0_bestFirst (own := RX8) (idx := 180) (inTB 497 (by decide +kernel) (by decide +kernel))
set_option maxRecDepth 100000 in
theorem cvX8_183 : CV RX8 183 mX0_joyFrom 2 0 := cv_X0_joyFrom (own := RX8) (idx := 183) (inTB 511 (by decide +kernel) (by decide +kernel))
set_option maxRecDepth 100000 in
theorem cvX8_189 : CV RX8 189 mX0_seekContent 0 0 := cv_X0_seekContent (own := RX8) (idx := 189) (inTB 516 (by decide +kernel) (by decide +kernel))
set_option maxRecDepth 100000 in
theorem cvX8_198 : CV RX8 198 mX0_roundsTillSettled 1 0 := cv_X0_roundsTillSettled (own := RX8) (idx := 198) (inTB 540 (by decide +kernel) (by decide +kernel))
set_option maxRecDepth 100000 in
theorem cvX8_201 : CV RX8 201 mX0_mostGiven 0 0 := cv_X0_mostGiven (own := RX8) (idx := 201) (inTB 555 (by decide +kernel) (by decide +kernel))
set_option maxRecDepth 100000 in
theorem cvX8_204 : CV RX8 204 mX0_fewestBits 0 0 := cv_X0_fewestBits (own := RX8) (idx := 204) (inTB 573 (by decide +kernel) (by decide +kernel))
set_option maxRecDepth 100000 in
theorem cvX8_212 : CV RX8 212 mX0_leastUrge 3 0 := cv_X0_leastUrge (own := RX8) (idx := 212) (inTB 586 (by decide +kernel) (by decide +kernel))
set_option maxRecDepth 100000 in
theorem cvX8_216 : CV RX8 216 mX3_add 3 3 := cv_X3_add (own := RX8) (idx := 216) (inTB 594 (by decide +kernel) (by decide +kernel))
set_option maxRecDepth 100000 in
theorem cvX8_220 : CV RX8 220 mX0_fittingLoaths 1 0 := cv_X0_fittingLoaths (own := RX8) (idx := 220) (inTB 606 (by decide +kernel) (by decide +kernel))
set_option maxRecDepth 100000 in
theorem cvX8_227 : CV RX8 227 mX0_joyOfEvenings 2 0 := cv_X0_joyOfEvenings (own := RX8) (idx := 227) (inTB 621 (by decide +kernel) (by decide +kernel))
set_option maxRecDepth 100000 in
theorem cvX8_234 : CV RX8 234 mX2_take 3 2 := cv_X2_take (own := RX8) (idx := 234) (inTB 648 (by decide +kernel) (by decide +kernel))
set_option maxRecDepth 100000 in
theorem cvX8_244 : CV RX8 244 mX2_putBack 3 2 := cv_X2_putBack (own := RX8) (idx := 244) (inTB 667 (by decide +kernel) (by decide +kernel))
set_option maxRecDepth 100000 in
theorem cvX8_247 : CV RX8 247 mX7_joyOfAll 0 7 := cv_X7_joyOfAll (own := RX8) (idx := 247) (inTB 676 (by decide +kernel) (by decide +kernel))
set_option maxRecDepth 100000 in
theorem cvX8_252 : CV RX8 252 mX8_mixedDishes 1 8 := cv_X8_mixedDishes (own := RX8) (idx := 252) (inTB 682 (by decide +kernel) (by decide +kernel))
set_option maxRecDepth 100000 in
theorem cvX8_256 : CV RX8 256 mX8_mixedGuests 1 8 := cv_X8_mixedGuests (own := RX8) (idx := 256) (inTB 691 (by decide +kernel) (by decide +kernel))
set_option maxRecDepth 100000 in
theorem cvX8_259 : CV RX8 259 mX8_host 0 8 := cv_X8_host (own := RX8) (idx := 259) (inTB 697 (by decide +kernel) (by decide +kernel))
set_option maxRecDepth 100000 in
theorem cvX8_266 : CV RX8 266 mX8_fewest 1 8 := cv_X8_fewest (own := RX8) (idx := 266) (inTB 698 (by decide +kernel) (by decide +kernel))
set_option maxRecDepth 100000 in
theorem cvX8_269 : CV RX8 269 mX8_fits 1 8 := cv_X8_fits (own := RX8) (idx := 269) (inTB 699 (by decide +kernel) (by decide +kernel))
set_option maxRecDepth 100000 in
theorem cvX8_272 : CV RX8 272 mX8_begin 2 8 := cv_X8_begin (own := RX8) (idx := 272) (inTB 700 (by decide +kernel) (by decide +kernel))
set_option maxRecDepth 100000 in
theorem cvX8_275 : CV RX8 275 mX8_count 1 8 := cv_X8_count (own := RX8) (idx := 275) (inTB 701 (by decide +kernel) (by decide +kernel))
set_option maxRecDepth 100000 in
theorem cvX8_278 : CV RX8 278 mX8_dish 2 8 := cv_X8_dish (own := RX8) (idx := 278) (inTB 686 (by decide +kernel) (by decide +kernel))
set_option maxRecDepth 100000 in
theorem cvX8_281 : CV RX8 281 mX8_about 2 8 := cv_X8_about (own := RX8) (idx := 281) (inTB 695 (by decide +kernel) (by decide +kernel))
set_option maxRecDepth 100000 in
theorem cvX8_284 : CV RX8 284 mX8_minds 1 8 := cv_X8_minds (own := RX8) (idx := 284) (inTB 696 (by decide +kernel) (by decide +kernel))
theorem klX8_250 : Cond.constantLong RX8 250 757 ∈ TB := inTB 681 (by decide +kernel) (by decide +kernel)
theorem klX8_287 : Cond.constantLong RX8 287 31 ∈ TB := inTB 690 (by decide +kernel) (by decide +kernel)
set_option maxRecDepth 100000 in
theorem fwX8_66 : FW RX8 66 5 1 .int := ⟨_, _, _, _, cfX5, by decide, inTB 74 (by decide +kernel) (by decide +kernel), rfl, rfl⟩
set_option maxRecDepth 100000 in
theorem fwX8_86 : FW RX8 86 6 1 .int := ⟨_, _, _, _, cfX6, by decide, inTB 155 (by decide +kernel) (by decide +kernel), rfl, rfl⟩
set_option maxRecDepth 100000 in
theorem fwX8_87 : FW RX8 87 3 3 .int := ⟨_, _, _, _, cfX3, by decide, inTB 221 (by decide +kernel) (by decide +kernel), rfl, rfl⟩
set_option maxRecDepth 100000 in
theorem fwX8_91 : FW RX8 91 7 8 .int := ⟨_, _, _, _, cfX7, by decide, inTB 187 (by decide +kernel) (by decide +kernel), rfl, rfl⟩
set_option maxRecDepth 100000 in
theorem fwX8_99 : FW RX8 99 8 7 .int := ⟨_, _, _, _, cfX8, by decide, inTB 314 (by decide +kernel) (by decide +kernel), rfl, rfl⟩
set_option maxRecDepth 100000 in
theorem fwX8_142 : FW RX8 142 1 2 .int := ⟨_, _, _, _, cfX1, by decide, inTB 133 (by decide +kernel) (by decide +kernel), rfl, rfl⟩
set_option maxRecDepth 100000 in
theorem fwX8_186 : FW RX8 186 8 8 .int := ⟨_, _, _, _, cfX8, by decide, inTB 315 (by decide +kernel) (by decide +kernel), rfl, rfl⟩
set_option maxRecDepth 100000 in
theorem fwX8_238 : FW RX8 238 2 5 .int := ⟨_, _, _, _, cfX2, by decide, inTB 293 (by decide +kernel) (by decide +kernel), rfl, rfl⟩
set_option maxRecDepth 100000 in
theorem flX9_7 : FL RX9 7 9 0 := ⟨_, _, _, _, cfX9, by decide, inTB 708 (by decide +kernel) (by decide +kernel)⟩
set_option maxRecDepth 100000 in
theorem flX9_13 : FL RX9 13 9 2 := ⟨_, _, _, _, cfX9, by decide, inTB 710 (by decide +kernel) (by decide +kernel)⟩
set_option maxRecDepth 100000 in
theorem flX9_16 : FL RX9 16 9 3 := ⟨_, _, _, _, cfX9, by decide, inTB 711 (by decide +kernel) (by decide +kernel)⟩
set_option maxRecDepth 100000 in
theorem flX9_19 : FL RX9 19 9 12 := ⟨_, _, _, _, cfX9, by decide, inTB 720 (by decide +kernel) (by decide +kernel)⟩
set_option maxRecDepth 100000 in
theorem flX9_22 : FL RX9 22 9 13 := ⟨_, _, _, _, cfX9, by decide, inTB 721 (by decide +kernel) (by decide +kernel)⟩
set_option maxRecDepth 100000 in
theorem flX9_25 : FL RX9 25 9 15 := ⟨_, _, _, _, cfX9, by decide, inTB 723 (by decide +kernel) (by decide +kernel)⟩
set_option maxRecDepth 100000 in
theorem flX9_28 : FL RX9 28 9 16 := ⟨_, _, _, _, cfX9, by decide, inTB 724 (by decide +kernel) (by decide +kernel)⟩
set_option maxRecDepth 100000 in
theorem flX9_31 : FL RX9 31 9 17 := ⟨_, _, _, _, cfX9, by decide, inTB 725 (by decide +kernel) (by decide +kernel)⟩
set_option maxRecDepth 100000 in
theorem flX9_34 : FL RX9 34 9 21 := ⟨_, _, _, _, cfX9, by decide, inTB 729 (by decide +kernel) (by decide +kernel)⟩
set_option maxRecDepth 100000 in
theorem flX9_37 : FL RX9 37 9 24 := ⟨_, _, _, _, cfX9, by decide, inTB 732 (by decide +kernel) (by decide +kernel)⟩
set_option maxRecDepth 100000 in
theorem flX9_40 : FL RX9 40 9 26 := ⟨_, _, _, _, cfX9, by decide, inTB 734 (by decide +kernel) (by decide +kernel)⟩
set_option maxRecDepth 100000 in
theorem flX9_43 : FL RX9 43 9 32 := ⟨_, _, _, _, cfX9, by decide, inTB 740 (by decide +kernel) (by decide +kernel)⟩
set_option maxRecDepth 100000 in
theorem flX9_46 : FL RX9 46 9 33 := ⟨_, _, _, _, cfX9, by decide, inTB 741 (by decide +kernel) (by decide +kernel)⟩
set_option maxRecDepth 100000 in
theorem flX9_49 : FL RX9 49 9 34 := ⟨_, _, _, _, cfX9, by decide, inTB 742 (by decide +kernel) (by decide +kernel)⟩
set_option maxRecDepth 100000 in
theorem flX9_52 : FL RX9 52 9 35 := ⟨_, _, _, _, cfX9, by decide, inTB 743 (by decide +kernel) (by decide +kernel)⟩
set_option maxRecDepth 100000 in
theorem flX9_55 : FL RX9 55 9 27 := ⟨_, _, _, _, cfX9, by decide, inTB 735 (by decide +kernel) (by decide +kernel)⟩
set_option maxRecDepth 100000 in
theorem flX9_59 : FL RX9 59 9 10 := ⟨_, _, _, _, cfX9, by decide, inTB 718 (by decide +kernel) (by decide +kernel)⟩
set_option maxRecDepth 100000 in
theorem flX9_68 : FL RX9 68 9 1 := ⟨_, _, _, _, cfX9, by decide, inTB 709 (by decide +kernel) (by decide +kernel)⟩
set_option maxRecDepth 100000 in
theorem flX9_71 : FL RX9 71 9 6 := ⟨_, _, _, _, cfX9, by decide, inTB 714 (by decide +kernel) (by decide +kernel)⟩
set_option maxRecDepth 100000 in
theorem flX9_74 : FL RX9 74 9 4 := ⟨_, _, _, _, cfX9, by decide, inTB 712 (by decide +kernel) (by decide +kernel)⟩
set_option maxRecDepth 100000 in
theorem flX9_79 : FL RX9 79 9 5 := ⟨_, _, _, _, cfX9, by decide, inTB 713 (by decide +kernel) (by decide +kernel)⟩
set_option maxRecDepth 100000 in
theorem flX9_90 : FL RX9 90 9 7 := ⟨_, _, _, _, cfX9, by decide, inTB 715 (by decide +kernel) (by decide +kernel)⟩
set_option maxRecDepth 100000 in
theorem flX9_93 : FL RX9 93 9 8 := ⟨_, _, _, _, cfX9, by decide, inTB 716 (by decide +kernel) (by decide +kernel)⟩
set_option maxRecDepth 100000 in
theorem flX9_96 : FL RX9 96 9 14 := ⟨_, _, _, _, cfX9, by decide, inTB 722 (by decide +kernel) (by decide +kernel)⟩
set_option maxRecDepth 100000 in
theorem flX9_99 : FL RX9 99 9 23 := ⟨_, _, _, _, cfX9, by decide, inTB 731 (by decide +kernel) (by decide +kernel)⟩
set_option maxRecDepth 100000 in
theorem flX9_102 : FL RX9 102 9 11 := ⟨_, _, _, _, cfX9, by decide, inTB 719 (by decide +kernel) (by decide +kernel)⟩
set_option maxRecDepth 100000 in
theorem flX9_105 : FL RX9 105 9 9 := ⟨_, _, _, _, cfX9, by decide, inTB 717 (by decide +kernel) (by decide +kernel)⟩
set_option maxRecDepth 100000 in
theorem flX9_139 : FL RX9 139 9 18 := ⟨_, _, _, _, cfX9, by decide, inTB 726 (by decide +kernel) (by decide +kernel)⟩
set_option maxRecDepth 100000 in
theorem flX9_142 : FL RX9 142 9 19 := ⟨_, _, _, _, cfX9, by decide, inTB 727 (by decide +kernel) (by decide +kernel)⟩
set_option maxRecDepth 100000 in
theorem flX9_145 : FL RX9 145 9 20 := ⟨_, _, _, _, cfX9, by decide, inTB 728 (by decide +kernel) (by decide +kernel)⟩
set_option maxRecDepth 100000 in
theorem flX9_176 : FL RX9 176 9 22 := ⟨_, _, _, _, cfX9, by decide, inTB 730 (by decide +kernel) (by decide +kernel)⟩
set_option maxRecDepth 100000 in
theorem flX9_205 : FL RX9 205 9 25 := ⟨_, _, _, _, cfX9, by decide, inTB 733 (by decide +kernel) (by decide +kernel)⟩
set_option maxRecDepth 100000 in
theorem flX9_222 : FL RX9 222 9 28 := ⟨_, _, _, _, cfX9, by decide, inTB 736 (by decide +kernel) (by decide +kernel)⟩
set_option maxRecDepth 100000 in
theorem flX9_225 : FL RX9 225 9 29 := ⟨_, _, _, _, cfX9, by decide, inTB 737 (by decide +kernel) (by decide +kernel)⟩
set_option maxRecDepth 100000 in
theorem flX9_228 : FL RX9 228 9 30 := ⟨_, _, _, _, cfX9, by decide, inTB 738 (by decide +kernel) (by decide +kernel)⟩
set_option maxRecDepth 100000 in
theorem flX9_231 : FL RX9 231 9 31 := ⟨_, _, _, _, cfX9, by decide, inTB 739 (by decide +kernel) (by decide +kernel)⟩
set_option maxRecDepth 100000 in
theorem flX9_239 : FL RX9 239 9 36 := ⟨_, _, _, _, cfX9, by decide, inTB 744 (by decide +kernel) (by decide +kernel)⟩
set_option maxRecDepth 100000 in
theorem csX9_64 : CS RX9 64 mX9_in 3 := cs_X9_in (own := RX9) (idx := 64) (inTB 825 (by decide +kernel) (by decide +kernel))
set_option maxRecDepth 100000 in
theorem csX9_192 : CS RX9 192 mX9_ones 1 := cs_X9_ones (own := RX9) (idx := 192) (inTB 999 (by decide +kernel) (by decide +kernel))
set_option maxRecDepth 100000 in
theorem csX9_215 : CS RX9 215 mX9_copy 2 := cs_X9_copy (own := RX9) (idx := 215) (inTB 1028 (by decide +kernel) (by decide +kernel))
set_option maxRecDepth 100000 in
theorem cvX9_82 : CV RX9 82 mX9_go 1 9 := cv_X9_go (own := RX9) (idx := 82) (inTB 840 (by decide +kernel) (by decide +kernel))
set_option maxRecDepth 100000 in
theorem cvX9_86 : CV RX9 86 mX9_faultOf 0 9 := cv_X9_faultOf (own := RX9) (idx := 86) (inTB 836 (by decide +kernel) (by decide +kernel))
set_option maxRecDepth 100000 in
theorem cvX9_108 : CV RX9 108 mX9_haveOf 2 9 := cv_X9_haveOf (own := RX9) (idx := 108) (inTB 861 (by decide +kernel) (by decide +kernel))
set_option maxRecDepth 100000 in
theorem cvX9_112 : CV RX9 112 mX9_isDish 1 9 := cv_X9_isDish (own := RX9) (idx := 112) (inTB 853 (by decide +kernel) (by decide +kernel))
set_option maxRecDepth 100000 in
theorem cvX9_115 : CV RX9 115 mX9_tellDish 2 9 := cv_X9_tellDish (own := RX9) (idx := 115) (inTB 857 (by decide +kernel) (by decide +kernel))
set_option maxRecDepth 100000 in
theorem cvX9_121 : CV RX9 121 mX9_lacks 0 9 := cv_X9_lacks (own := RX9) (idx := 121) (inTB 870 (by decide +kernel) (by decide +kernel))
set_option maxRecDepth 100000 in
theorem cvX9_125 : CV RX9 125 mX9_swayBy 2 9 := cv_X9_swayBy (own := RX9) (idx := 125) (inTB 886 (by decide +kernel) (by decide +kernel))
set_option maxRecDepth 100000 in
theorem cvX9_128 : CV RX9 128 mX9_joyOf 2 9 := cv_X9_joyOf (own := RX9) (idx := 128) (inTB 890 (by decide +kernel) (by decide +kernel))
set_option maxRecDepth 100000 in
theorem cvX9_131 : CV RX9 131 mX9_isGuest 1 9 := cv_X9_isGuest (own := RX9) (idx := 131) (inTB 878 (by decide +kernel) (by decide +kernel))
set_option maxRecDepth 100000 in
theorem cvX9_134 : CV RX9 134 mX9_tell 2 9 := cv_X9_tell (own := RX9) (idx := 134) (inTB 882 (by decide +kernel) (by decide +kernel))
set_option maxRecDepth 100000 in
theorem cvX9_148 : CV RX9 148 mX9_mayHave 3 9 := cv_X9_mayHave (own := RX9) (idx := 148) (inTB 923 (by decide +kernel) (by decide +kernel))
set_option maxRecDepth 100000 in
theorem cvX9_152 : CV RX9 152 mX9_valueOf 3 9 := cv_X9_valueOf (own := RX9) (idx := 152) (inTB 927 (by decide +kernel) (by decide +kernel))
set_option maxRecDepth 100000 in
theorem cvX9_156 : CV RX9 156 mX9_asItIs 0 9 := cv_X9_asItIs (own := RX9) (idx := 156) (inTB 915 (by decide +kernel) (by decide +kernel))
set_option maxRecDepth 100000 in
theorem cvX9_159 : CV RX9 159 mX9_bestFor 2 9 := cv_X9_bestFor (own := RX9) (idx := 159) (inTB 919 (by decide +kernel) (by decide +kernel))
set_option maxRecDepth 100000 in
theorem cvX9_162 : CV RX9 162 mX9_orderedMany 0 9 := cv_X9_orderedMany (own := RX9) (idx := 162) (inTB 939 (by decide +kernel) (by decide +kernel))
set_option maxRecDepth 100000 in
theorem cvX9_165 : CV RX9 165 mX9_layInTurn 1 9 := cv_X9_layInTurn (own := RX9) (idx := 165) (inTB 947 (by decide +kernel) (by decide +kernel))
set_option maxRecDepth 100000 in
theorem cvX9_169 : CV RX9 169 mX9_joyAll 1 9 := cv_X9_joyAll (own := RX9) (idx := 169) (inTB 959 (by decide +kernel) (by decide +kernel))
set_option maxRecDepth 100000 in
theorem cvX9_173 : CV RX9 173 mX9_beginOf 2 9 := cv_X9_beginOf (own := RX9) (idx := 173) (inTB 955 (by decide +kernel) (by decide +kernel))
set_option maxRecDepth 100000 in
theorem cvX9_179 : CV RX9 179 mX9_power 1 9 := cv_X9_power (own := RX9) (idx := 179) (inTB 967 (by decide +kernel) (by decide +kernel))
set_option maxRecDepth 100000 in
theorem cvX9_183 : CV RX9 183 mX9_isAtOnce 0 9 := cv_X9_isAtOnce (own := RX9) (idx := 183) (inTB 971 (by decide +kernel) (by decide +kernel))
set_option maxRecDepth 100000 in
theorem cvX9_186 : CV RX9 186 mX9_mindsOf 1 9 := cv_X9_mindsOf (own := RX9) (idx := 186) (inTB 979 (by decide +kernel) (by decide +kernel))
set_option maxRecDepth 100000 in
theorem cvX9_189 : CV RX9 189 mX9_hostOf 0 9 := cv_X9_hostOf (own := RX9) (idx := 189) (inTB 987 (by decide +kernel) (by decide +kernel))
set_option maxRecDepth 100000 in
theorem cvX9_195 : CV RX9 195 mX9_fewestOf 1 9 := cv_X9_fewestOf (own := RX9) (idx := 195) (inTB 995 (by decide +kernel) (by decide +kernel))
set_option maxRecDepth 100000 in
theorem cvX9_200 : CV RX9 200 mX9_fitsOf 0 9 := cv_X9_fitsOf (own := RX9) (idx := 200) (inTB 1019 (by decide +kernel) (by decide +kernel))
set_option maxRecDepth 100000 in
theorem cvX9_219 : CV RX9 219 mX9_draw 1 9 := cv_X9_draw (own := RX9) (idx := 219) (inTB 1031 (by decide +kernel) (by decide +kernel))
set_option maxRecDepth 100000 in
theorem cvX9_234 : CV RX9 234 mX9_countOf 1 9 := cv_X9_countOf (own := RX9) (idx := 234) (inTB 1051 (by decide +kernel) (by decide +kernel))
set_option maxRecDepth 100000 in
theorem cvX9_243 : CV RX9 243 mX9_say 1 9 := cv_X9_say (own := RX9) (idx := 243) (inTB 1060 (by decide +kernel) (by decide +kernel))
set_option maxRecDepth 100000 in
theorem cvX9_249 : CV RX9 249 mX9_sayGuest 1 9 := cv_X9_sayGuest (own := RX9) (idx := 249) (inTB 1065 (by decide +kernel) (by decide +kernel))
theorem kiX9_212 : Cond.constant RX9 212 65536 ∈ TB := inTB 1038 (by decide +kernel) (by decide +kernel)
theorem klX9_62 : Cond.constantLong RX9 62 126 ∈ TB := inTB 824 (by decide +kernel) (by decide +kernel)
theorem klX9_77 : Cond.constantLong RX9 77 9 ∈ TB := inTB 844 (by decide +kernel) (by decide +kernel)
theorem klX9_119 : Cond.constantLong RX9 119 4 ∈ TB := inTB 869 (by decide +kernel) (by decide +kernel)
theorem klX9_137 : Cond.constantLong RX9 137 20 ∈ TB := inTB 910 (by decide +kernel) (by decide +kernel)
theorem klX9_198 : Cond.constantLong RX9 198 5 ∈ TB := inTB 1006 (by decide +kernel) (by decide +kernel)
theorem klX9_203 : Cond.constantLong RX9 203 1103515245 ∈ TB := inTB 1035 (by decide +kernel) (by decide +kernel)
theorem klX9_208 : Cond.constantLong RX9 208 12345 ∈ TB := inTB 1036 (by decide +kernel) (by decide +kernel)
theorem klX9_210 : Cond.constantLong RX9 210 2147483647 ∈ TB := inTB 1037 (by decide +kernel) (by decide +kernel)
theorem klX9_213 : Cond.constantLong RX9 213 60 ∈ TB := inTB 1027 (by decide +kernel) (by decide +kernel)
theorem klX9_237 : Cond.constantLong RX9 237 31 ∈ TB := inTB 1064 (by decide +kernel) (by decide +kernel)
theorem klX9_247 : Cond.constantLong RX9 247 757 ∈ TB := inTB 1059 (by decide +kernel) (by decide +kernel)
set_option maxRecDepth 100000 in
theorem fwX9_55 : FW RX9 55 9 27 .int := ⟨_, _, _, _, cfX9, by decide, inTB 735 (by decide +kernel) (by decide +kernel), rfl, rfl⟩
set_option maxRecDepth 100000 in
theorem fwX9_59 : FW RX9 59 9 10 .int := ⟨_, _, _, _, cfX9, by decide, inTB 718 (by decide +kernel) (by decide +kernel), rfl, rfl⟩
set_option maxRecDepth 100000 in
theorem fwX9_68 : FW RX9 68 9 1 .int := ⟨_, _, _, _, cfX9, by decide, inTB 709 (by decide +kernel) (by decide +kernel), rfl, rfl⟩
set_option maxRecDepth 100000 in
theorem fwX9_71 : FW RX9 71 9 6 .int := ⟨_, _, _, _, cfX9, by decide, inTB 714 (by decide +kernel) (by decide +kernel), rfl, rfl⟩
set_option maxRecDepth 100000 in
theorem fwX9_74 : FW RX9 74 9 4 .int := ⟨_, _, _, _, cfX9, by decide, inTB 712 (by decide +kernel) (by decide +kernel), rfl, rfl⟩
set_option maxRecDepth 100000 in
theorem fwX9_79 : FW RX9 79 9 5 .int := ⟨_, _, _, _, cfX9, by decide, inTB 713 (by decide +kernel) (by decide +kernel), rfl, rfl⟩
set_option maxRecDepth 100000 in
theorem fwX9_90 : FW RX9 90 9 7 .int := ⟨_, _, _, _, cfX9, by decide, inTB 715 (by decide +kernel) (by decide +kernel), rfl, rfl⟩
set_option maxRecDepth 100000 in
theorem fwX9_93 : FW RX9 93 9 8 .int := ⟨_, _, _, _, cfX9, by decide, inTB 716 (by decide +kernel) (by decide +kernel), rfl, rfl⟩
set_option maxRecDepth 100000 in
theorem fwX9_96 : FW RX9 96 9 14 .int := ⟨_, _, _, _, cfX9, by decide, inTB 722 (by decide +kernel) (by decide +kernel), rfl, rfl⟩
set_option maxRecDepth 100000 in
theorem fwX9_99 : FW RX9 99 9 23 .int := ⟨_, _, _, _, cfX9, by decide, inTB 731 (by decide +kernel) (by decide +kernel), rfl, rfl⟩
set_option maxRecDepth 100000 in
theorem fwX9_102 : FW RX9 102 9 11 .int := ⟨_, _, _, _, cfX9, by decide, inTB 719 (by decide +kernel) (by decide +kernel), rfl, rfl⟩
set_option maxRecDepth 100000 in
theorem fwX9_105 : FW RX9 105 9 9 .int := ⟨_, _, _, _, cfX9, by decide, inTB 717 (by decide +kernel) (by decide +kernel), rfl, rfl⟩
set_option maxRecDepth 100000 in
theorem fwX9_139 : FW RX9 139 9 18 .int := ⟨_, _, _, _, cfX9, by decide, inTB 726 (by decide +kernel) (by decide +kernel), rfl, rfl⟩
set_option maxRecDepth 100000 in
theorem fwX9_142 : FW RX9 142 9 19 .int := ⟨_, _, _, _, cfX9, by decide, inTB 727 (by decide +kernel) (by decide +kernel), rfl, rfl⟩
set_option maxRecDepth 100000 in
theorem fwX9_145 : FW RX9 145 9 20 .int := ⟨_, _, _, _, cfX9, by decide, inTB 728 (by decide +kernel) (by decide +kernel), rfl, rfl⟩
set_option maxRecDepth 100000 in
theorem fwX9_176 : FW RX9 176 9 22 .int := ⟨_, _, _, _, cfX9, by decide, inTB 730 (by decide +kernel) (by decide +kernel), rfl, rfl⟩
set_option maxRecDepth 100000 in
theorem fwX9_205 : FW RX9 205 9 25 .int := ⟨_, _, _, _, cfX9, by decide, inTB 733 (by decide +kernel) (by decide +kernel), rfl, rfl⟩
set_option maxRecDepth 100000 in
theorem fwX9_222 : FW RX9 222 9 28 .int := ⟨_, _, _, _, cfX9, by decide, inTB 736 (by decide +kernel) (by decide +kernel), rfl, rfl⟩
set_option maxRecDepth 100000 in
theorem fwX9_225 : FW RX9 225 9 29 .int := ⟨_, _, _, _, cfX9, by decide, inTB 737 (by decide +kernel) (by decide +kernel), rfl, rfl⟩
set_option maxRecDepth 100000 in
theorem fwX9_228 : FW RX9 228 9 30 .int := ⟨_, _, _, _, cfX9, by decide, inTB 738 (by decide +kernel) (by decide +kernel), rfl, rfl⟩
set_option maxRecDepth 100000 in
theorem fwX9_231 : FW RX9 231 9 31 .int := ⟨_, _, _, _, cfX9, by decide, inTB 739 (by decide +kernel) (by decide +kernel), rfl, rfl⟩
set_option maxRecDepth 100000 in
theorem fwX9_239 : FW RX9 239 9 36 .long := ⟨_, _, _, _, cfX9, by decide, inTB 744 (by decide +kernel) (by decide +kernel), rfl, rfl⟩
theorem ac_nat : Cond.native arraycopyName ∈ TB := inTB 631 (by decide +kernel) (by decide +kernel)
theorem ac_sta : Cond.static arraycopyName ∈ TB := inTB 630 (by decide +kernel) (by decide +kernel)
theorem ac_ini : Cond.initialized "java/lang/System" ∈ TB := inTB 54 (by decide +kernel) (by decide +kernel)
end
section
theorem os_0 : osh 0 = some 8 := by decide
theorem fs_0_0 : fsh 0 0 = some (8, 1 + 2) := by decide
theorem fs_0_1 : fsh 0 1 = some (8, 3 + 2) := by decide
theorem fs_0_2 : fsh 0 2 = some (8, 6 + 2) := by decide
theorem fs_0_3 : fsh 0 3 = some (8, 18 + 2) := by decide
theorem fs_0_4 : fsh 0 4 = some (8, 23 + 2) := by decide
theorem fs_0_5 : fsh 0 5 = some (8, 27 + 2) := by decide
theorem fs_0_6 : fsh 0 6 = some (8, 41 + 2) := by decide
theorem fs_0_7 : fsh 0 7 = some (8, 0) := by decide
theorem fs_0_8 : fsh 0 8 = some (8, 0) := by decide
theorem os_1 : osh 1 = some 5 := by decide
theorem fs_1_0 : fsh 1 0 = some (5, 2 + 2) := by decide
theorem fs_1_1 : fsh 1 1 = some (5, 0) := by decide
theorem as_2 : ash 2 = some 22 := by decide
theorem os_3 : osh 3 = some 4 := by decide
theorem fs_3_0 : fsh 3 0 = some (4, 4 + 2) := by decide
theorem fs_3_1 : fsh 3 1 = some (4, 5 + 2) := by decide
theorem fs_3_2 : fsh 3 2 = some (4, 0) := by decide
theorem fs_3_3 : fsh 3 3 = some (4, 0) := by decide
theorem as_4 : ash 4 = some 6 := by decide
theorem as_5 : ash 5 = some 6 := by decide
theorem os_6 : osh 6 = some 6 := by decide
theorem fs_6_0 : fsh 6 0 = some (6, 7 + 2) := by decide
theorem fs_6_1 : fsh 6 1 = some (6, 0) := by decide
theorem rt_7 : ∀ t rs, shpL[7]? = some (Sum.inr (Sum.inr (t, rs))) → (t = 1 ∨ t = 2) ∧ rs.length < 2 ^ 31 := by
  intro t rs h
  rw [show shpL[7]? = some (Sum.inr (Sum.inr (1, [8, 10, 12, 14, 16]))) by decide] at h
  cases h
  exact ⟨by decide, by decide⟩
theorem os_8 : osh 8 = some 1 := by decide
theorem fs_8_0 : fsh 8 0 = some (1, 9 + 2) := by decide
theorem fs_8_1 : fsh 8 1 = some (1, 0) := by decide
theorem fs_8_2 : fsh 8 2 = some (1, 0) := by decide
theorem fs_8_3 : fsh 8 3 = some (1, 0) := by decide
theorem as_9 : ash 9 = some 6 := by decide
theorem os_10 : osh 10 = some 1 := by decide
theorem fs_10_0 : fsh 10 0 = some (1, 11 + 2) := by decide
theorem fs_10_1 : fsh 10 1 = some (1, 0) := by decide
theorem fs_10_2 : fsh 10 2 = some (1, 0) := by decide
theorem fs_10_3 : fsh 10 3 = some (1, 0) := by decide
theorem as_11 : ash 11 = some 6 := by decide
theorem os_12 : osh 12 = some 1 := by decide
theorem fs_12_0 : fsh 12 0 = some (1, 13 + 2) := by decide
theorem fs_12_1 : fsh 12 1 = some (1, 0) := by decide
theorem fs_12_2 : fsh 12 2 = some (1, 0) := by decide
theorem fs_12_3 : fsh 12 3 = some (1, 0) := by decide
theorem as_13 : ash 13 = some 6 := by decide
theorem os_14 : osh 14 = some 1 := by decide
theorem fs_14_0 : fsh 14 0 = some (1, 15 + 2) := by decide
theorem fs_14_1 : fsh 14 1 = some (1, 0) := by decide
theorem fs_14_2 : fsh 14 2 = some (1, 0) := by decide
theorem fs_14_3 : fsh 14 3 = some (1, 0) := by decide
theorem as_15 : ash 15 = some 6 := by decide
theorem os_16 : osh 16 = some 1 := by decide
theorem fs_16_0 : fsh 16 0 = some (1, 17 + 2) := by decide
theorem fs_16_1 : fsh 16 1 = some (1, 0) := by decide
theorem fs_16_2 : fsh 16 2 = some (1, 0) := by decide
theorem fs_16_3 : fsh 16 3 = some (1, 0) := by decide
theorem as_17 : ash 17 = some 6 := by decide
theorem os_18 : osh 18 = some 7 := by decide
theorem fs_18_0 : fsh 18 0 = some (7, 3 + 2) := by decide
theorem fs_18_1 : fsh 18 1 = some (7, 6 + 2) := by decide
theorem fs_18_2 : fsh 18 2 = some (7, 19 + 2) := by decide
theorem fs_18_3 : fsh 18 3 = some (7, 20 + 2) := by decide
theorem fs_18_4 : fsh 18 4 = some (7, 21 + 2) := by decide
theorem fs_18_5 : fsh 18 5 = some (7, 22 + 2) := by decide
theorem fs_18_6 : fsh 18 6 = some (7, 0) := by decide
theorem fs_18_7 : fsh 18 7 = some (7, 0) := by decide
theorem fs_18_8 : fsh 18 8 = some (7, 0) := by decide
theorem as_19 : ash 19 = some 6 := by decide
theorem as_20 : ash 20 = some 6 := by decide
theorem as_21 : ash 21 = some 5 := by decide
theorem as_22 : ash 22 = some 5 := by decide
theorem os_23 : osh 23 = some 3 := by decide
theorem fs_23_0 : fsh 23 0 = some (3, 24 + 2) := by decide
theorem fs_23_1 : fsh 23 1 = some (3, 25 + 2) := by decide
theorem fs_23_2 : fsh 23 2 = some (3, 26 + 2) := by decide
theorem fs_23_3 : fsh 23 3 = some (3, 0) := by decide
theorem as_24 : ash 24 = some 4 := by decide
theorem as_25 : ash 25 = some 4 := by decide
theorem as_26 : ash 26 = some 4 := by decide
theorem os_27 : osh 27 = some 0 := by decide
theorem fs_27_0 : fsh 27 0 = some (0, 3 + 2) := by decide
theorem fs_27_1 : fsh 27 1 = some (0, 6 + 2) := by decide
theorem fs_27_2 : fsh 27 2 = some (0, 18 + 2) := by decide
theorem fs_27_3 : fsh 27 3 = some (0, 36 + 2) := by decide
theorem fs_27_4 : fsh 27 4 = some (0, 28 + 2) := by decide
theorem fs_27_5 : fsh 27 5 = some (0, 29 + 2) := by decide
theorem fs_27_6 : fsh 27 6 = some (0, 30 + 2) := by decide
theorem fs_27_7 : fsh 27 7 = some (0, 0) := by decide
theorem fs_27_8 : fsh 27 8 = some (0, 0) := by decide
theorem fs_27_9 : fsh 27 9 = some (0, 1) := by decide
theorem as_28 : ash 28 = some 32 := by decide
theorem as_29 : ash 29 = some 32 := by decide
theorem rt_30 : ∀ t rs, shpL[30]? = some (Sum.inr (Sum.inr (t, rs))) → (t = 1 ∨ t = 2) ∧ rs.length < 2 ^ 31 := by
  intro t rs h
  rw [show shpL[30]? = some (Sum.inr (Sum.inr (2, [31, 32, 33, 34, 35]))) by decide] at h
  cases h
  exact ⟨by decide, by decide⟩
theorem as_31 : ash 31 = some 6 := by decide
theorem as_32 : ash 32 = some 6 := by decide
theorem as_33 : ash 33 = some 6 := by decide
theorem as_34 : ash 34 = some 6 := by decide
theorem as_35 : ash 35 = some 6 := by decide
theorem os_36 : osh 36 = some 7 := by decide
theorem fs_36_0 : fsh 36 0 = some (7, 3 + 2) := by decide
theorem fs_36_1 : fsh 36 1 = some (7, 6 + 2) := by decide
theorem fs_36_2 : fsh 36 2 = some (7, 37 + 2) := by decide
theorem fs_36_3 : fsh 36 3 = some (7, 38 + 2) := by decide
theorem fs_36_4 : fsh 36 4 = some (7, 39 + 2) := by decide
theorem fs_36_5 : fsh 36 5 = some (7, 40 + 2) := by decide
theorem fs_36_6 : fsh 36 6 = some (7, 0) := by decide
theorem fs_36_7 : fsh 36 7 = some (7, 0) := by decide
theorem fs_36_8 : fsh 36 8 = some (7, 0) := by decide
theorem as_37 : ash 37 = some 6 := by decide
theorem as_38 : ash 38 = some 6 := by decide
theorem as_39 : ash 39 = some 5 := by decide
theorem as_40 : ash 40 = some 5 := by decide
theorem os_41 : osh 41 = some 2 := by decide
theorem fs_41_0 : fsh 41 0 = some (2, 49 + 2) := by decide
theorem fs_41_1 : fsh 41 1 = some (2, 54 + 2) := by decide
theorem fs_41_2 : fsh 41 2 = some (2, 42 + 2) := by decide
theorem fs_41_3 : fsh 41 3 = some (2, 48 + 2) := by decide
theorem fs_41_4 : fsh 41 4 = some (2, 0) := by decide
theorem fs_41_5 : fsh 41 5 = some (2, 0) := by decide
theorem rt_42 : ∀ t rs, shpL[42]? = some (Sum.inr (Sum.inr (t, rs))) → (t = 1 ∨ t = 2) ∧ rs.length < 2 ^ 31 := by
  intro t rs h
  rw [show shpL[42]? = some (Sum.inr (Sum.inr (2, [43, 44, 45, 46, 47]))) by decide] at h
  cases h
  exact ⟨by decide, by decide⟩
theorem as_43 : ash 43 = some 6 := by decide
theorem as_44 : ash 44 = some 6 := by decide
theorem as_45 : ash 45 = some 6 := by decide
theorem as_46 : ash 46 = some 6 := by decide
theorem as_47 : ash 47 = some 6 := by decide
theorem as_48 : ash 48 = some 5 := by decide
theorem os_49 : osh 49 = some 7 := by decide
theorem fs_49_0 : fsh 49 0 = some (7, 3 + 2) := by decide
theorem fs_49_1 : fsh 49 1 = some (7, 6 + 2) := by decide
theorem fs_49_2 : fsh 49 2 = some (7, 50 + 2) := by decide
theorem fs_49_3 : fsh 49 3 = some (7, 51 + 2) := by decide
theorem fs_49_4 : fsh 49 4 = some (7, 52 + 2) := by decide
theorem fs_49_5 : fsh 49 5 = some (7, 53 + 2) := by decide
theorem fs_49_6 : fsh 49 6 = some (7, 0) := by decide
theorem fs_49_7 : fsh 49 7 = some (7, 0) := by decide
theorem fs_49_8 : fsh 49 8 = some (7, 0) := by decide
theorem as_50 : ash 50 = some 6 := by decide
theorem as_51 : ash 51 = some 6 := by decide
theorem as_52 : ash 52 = some 5 := by decide
theorem as_53 : ash 53 = some 5 := by decide
theorem os_54 : osh 54 = some 3 := by decide
theorem fs_54_0 : fsh 54 0 = some (3, 55 + 2) := by decide
theorem fs_54_1 : fsh 54 1 = some (3, 56 + 2) := by decide
theorem fs_54_2 : fsh 54 2 = some (3, 57 + 2) := by decide
theorem fs_54_3 : fsh 54 3 = some (3, 0) := by decide
theorem as_55 : ash 55 = some 4 := by decide
theorem as_56 : ash 56 = some 4 := by decide
theorem as_57 : ash 57 = some 4 := by decide
theorem os_58 : osh 58 = some 9 := by decide
theorem fs_58_0 : fsh 58 0 = some (9, 59 + 2) := by decide
theorem fs_58_1 : fsh 58 1 = some (9, 0) := by decide
theorem fs_58_2 : fsh 58 2 = some (9, 60 + 2) := by decide
theorem fs_58_3 : fsh 58 3 = some (9, 61 + 2) := by decide
theorem fs_58_4 : fsh 58 4 = some (9, 0) := by decide
theorem fs_58_5 : fsh 58 5 = some (9, 0) := by decide
theorem fs_58_6 : fsh 58 6 = some (9, 0) := by decide
theorem fs_58_7 : fsh 58 7 = some (9, 0) := by decide
theorem fs_58_8 : fsh 58 8 = some (9, 0) := by decide
theorem fs_58_9 : fsh 58 9 = some (9, 0) := by decide
theorem fs_58_10 : fsh 58 10 = some (9, 0) := by decide
theorem fs_58_11 : fsh 58 11 = some (9, 0) := by decide
theorem fs_58_12 : fsh 58 12 = some (9, 62 + 2) := by decide
theorem fs_58_13 : fsh 58 13 = some (9, 63 + 2) := by decide
theorem fs_58_14 : fsh 58 14 = some (9, 0) := by decide
theorem fs_58_15 : fsh 58 15 = some (9, 64 + 2) := by decide
theorem fs_58_16 : fsh 58 16 = some (9, 65 + 2) := by decide
theorem fs_58_17 : fsh 58 17 = some (9, 66 + 2) := by decide
theorem fs_58_18 : fsh 58 18 = some (9, 0) := by decide
theorem fs_58_19 : fsh 58 19 = some (9, 0) := by decide
theorem fs_58_20 : fsh 58 20 = some (9, 0) := by decide
theorem fs_58_21 : fsh 58 21 = some (9, 67 + 2) := by decide
theorem fs_58_22 : fsh 58 22 = some (9, 0) := by decide
theorem fs_58_23 : fsh 58 23 = some (9, 0) := by decide
theorem fs_58_24 : fsh 58 24 = some (9, 68 + 2) := by decide
theorem fs_58_25 : fsh 58 25 = some (9, 0) := by decide
theorem fs_58_26 : fsh 58 26 = some (9, 69 + 2) := by decide
theorem fs_58_27 : fsh 58 27 = some (9, 0) := by decide
theorem fs_58_28 : fsh 58 28 = some (9, 0) := by decide
theorem fs_58_29 : fsh 58 29 = some (9, 0) := by decide
theorem fs_58_30 : fsh 58 30 = some (9, 0) := by decide
theorem fs_58_31 : fsh 58 31 = some (9, 0) := by decide
theorem fs_58_32 : fsh 58 32 = some (9, 70 + 2) := by decide
theorem fs_58_33 : fsh 58 33 = some (9, 71 + 2) := by decide
theorem fs_58_34 : fsh 58 34 = some (9, 72 + 2) := by decide
theorem fs_58_35 : fsh 58 35 = some (9, 73 + 2) := by decide
theorem fs_58_36 : fsh 58 36 = some (9, 1) := by decide
theorem as_59 : ash 59 = some 22 := by decide
theorem as_60 : ash 60 = some 6 := by decide
theorem as_61 : ash 61 = some 6 := by decide
theorem as_62 : ash 62 = some 6 := by decide
theorem as_63 : ash 63 = some 6 := by decide
theorem as_64 : ash 64 = some 10 := by decide
theorem as_65 : ash 65 = some 30 := by decide
theorem as_66 : ash 66 = some 5 := by decide
theorem as_67 : ash 67 = some 5 := by decide
theorem as_68 : ash 68 = some 12 := by decide
theorem as_69 : ash 69 = some 30 := by decide
theorem as_70 : ash 70 = some 30 := by decide
theorem as_71 : ash 71 = some 10 := by decide
theorem as_72 : ash 72 = some 5 := by decide
theorem as_73 : ash 73 = some 12 := by decide
def isT (t : Nat) : Prop := t = 18 ∨ t = 36 ∨ t = 49
def isG (l : Nat) : Prop := l = 23 ∨ l = 54
theorem co5 {P : Nat → Prop} (h0 : P 0) (h1 : P 1) (h2 : P 2) (h3 : P 3) (h4 : P 4) {i : Nat} (hi : i < 5) : P i := by
  match i, hi with
  | 0, _ => exact h0
  | 1, _ => exact h1
  | 2, _ => exact h2
  | 3, _ => exact h3
  | 4, _ => exact h4
theorem osT {t : Nat} (h : isT t) : osh t = some 7 := by rcases h with rfl | rfl | rfl <;> decide
theorem fT_0 {t : Nat} (h : isT t) : fsh t 0 = some (7, 3 + 2) := by rcases h with rfl | rfl | rfl <;> decide
theorem fT_1 {t : Nat} (h : isT t) : fsh t 1 = some (7, 6 + 2) := by rcases h with rfl | rfl | rfl <;> decide
theorem fT_2 {t : Nat} (h : isT t) : fsh t 2 = some (7, t + 1 + 2) := by rcases h with rfl | rfl | rfl <;> decide
theorem fT_3 {t : Nat} (h : isT t) : fsh t 3 = some (7, t + 2 + 2) := by rcases h with rfl | rfl | rfl <;> decide
theorem fT_4 {t : Nat} (h : isT t) : fsh t 4 = some (7, t + 3 + 2) := by rcases h with rfl | rfl | rfl <;> decide
theorem fT_5 {t : Nat} (h : isT t) : fsh t 5 = some (7, t + 4 + 2) := by rcases h with rfl | rfl | rfl <;> decide
theorem fT_6 {t : Nat} (h : isT t) : fsh t 6 = some (7, 0) := by rcases h with rfl | rfl | rfl <;> decide
theorem fT_7 {t : Nat} (h : isT t) : fsh t 7 = some (7, 0) := by rcases h with rfl | rfl | rfl <;> decide
theorem fT_8 {t : Nat} (h : isT t) : fsh t 8 = some (7, 0) := by rcases h with rfl | rfl | rfl <;> decide
theorem aT_1 {t : Nat} (h : isT t) : ash (t + 1) = some 6 := by rcases h with rfl | rfl | rfl <;> decide
theorem aT_2 {t : Nat} (h : isT t) : ash (t + 2) = some 6 := by rcases h with rfl | rfl | rfl <;> decide
theorem aT_3 {t : Nat} (h : isT t) : ash (t + 3) = some 5 := by rcases h with rfl | rfl | rfl <;> decide
theorem aT_4 {t : Nat} (h : isT t) : ash (t + 4) = some 5 := by rcases h with rfl | rfl | rfl <;> decide
theorem osL {l : Nat} (h : isG l) : osh l = some 3 := by rcases h with rfl | rfl <;> decide
theorem fL_0 {l : Nat} (h : isG l) : fsh l 0 = some (3, l + 1 + 2) := by rcases h with rfl | rfl <;> decide
theorem fL_1 {l : Nat} (h : isG l) : fsh l 1 = some (3, l + 2 + 2) := by rcases h with rfl | rfl <;> decide
theorem fL_2 {l : Nat} (h : isG l) : fsh l 2 = some (3, l + 3 + 2) := by rcases h with rfl | rfl <;> decide
theorem fL_3 {l : Nat} (h : isG l) : fsh l 3 = some (3, 0) := by rcases h with rfl | rfl <;> decide
theorem aL_1 {l : Nat} (h : isG l) : ash (l + 1) = some 4 := by rcases h with rfl | rfl <;> decide
theorem aL_2 {l : Nat} (h : isG l) : ash (l + 2) = some 4 := by rcases h with rfl | rfl <;> decide
theorem aL_3 {l : Nat} (h : isG l) : ash (l + 3) = some 4 := by rcases h with rfl | rfl <;> decide
theorem osG {g : Nat} (h : g < 5) : osh (8 + 2 * g) = some 1 := co5 (P := fun g => osh (8 + 2 * g) = some 1) (by decide) (by decide) (by decide) (by decide) (by decide) h
theorem fG_0 {g : Nat} (h : g < 5) : fsh (8 + 2 * g) 0 = some (1, 9 + 2 * g + 2) := co5 (P := fun g => fsh (8 + 2 * g) 0 = some (1, 9 + 2 * g + 2)) (by decide) (by decide) (by decide) (by decide) (by decide) h
theorem fG_1 {g : Nat} (h : g < 5) : fsh (8 + 2 * g) 1 = some (1, 0) := co5 (P := fun g => fsh (8 + 2 * g) 1 = some (1, 0)) (by decide) (by decide) (by decide) (by decide) (by decide) h
theorem fG_2 {g : Nat} (h : g < 5) : fsh (8 + 2 * g) 2 = some (1, 0) := co5 (P := fun g => fsh (8 + 2 * g) 2 = some (1, 0)) (by decide) (by decide) (by decide) (by decide) (by decide) h
theorem fG_3 {g : Nat} (h : g < 5) : fsh (8 + 2 * g) 3 = some (1, 0) := co5 (P := fun g => fsh (8 + 2 * g) 3 = some (1, 0)) (by decide) (by decide) (by decide) (by decide) (by decide) h
theorem aW {g : Nat} (h : g < 5) : ash (9 + 2 * g) = some 6 := co5 (P := fun g => ash (9 + 2 * g) = some 6) (by decide) (by decide) (by decide) (by decide) (by decide) h
theorem rG {g : Nat} (h : g < 5) : rsh 7 g = some (8 + 2 * g) := co5 (P := fun g => rsh 7 g = some (8 + 2 * g)) (by decide) (by decide) (by decide) (by decide) (by decide) h
theorem rK {g : Nat} (h : g < 5) : rsh 30 g = some (31 + g) := co5 (P := fun g => rsh 30 g = some (31 + g)) (by decide) (by decide) (by decide) (by decide) (by decide) h
theorem aK {g : Nat} (h : g < 5) : ash (31 + g) = some 6 := co5 (P := fun g => ash (31 + g) = some 6) (by decide) (by decide) (by decide) (by decide) (by decide) h
theorem rIm {g : Nat} (h : g < 5) : rsh 42 g = some (43 + g) := co5 (P := fun g => rsh 42 g = some (43 + g)) (by decide) (by decide) (by decide) (by decide) (by decide) h
theorem aIm {g : Nat} (h : g < 5) : ash (43 + g) = some 6 := co5 (P := fun g => ash (43 + g) = some 6) (by decide) (by decide) (by decide) (by decide) (by decide) h
abbrev aI (r : Int32) (P : Mm → Prop) : Option Value → Mm → Prop := fun v σ' => v = some (.int r) ∧ P σ'
abbrev aP (r : Int32) (σ : Mm) : Option Value → Mm → Prop := fun v σ' => v = some (.int r) ∧ σ' = σ
abbrev aV (P : Mm → Prop) : Option Value → Mm → Prop := fun v σ' => v = none ∧ P σ'
abbrev aJ (r : Int64) (P : Mm → Prop) : Option Value → Mm → Prop := fun v σ' => v = some (.long r) ∧ P σ'
def bI (b : Bool) : Int32 := if b = true then 1 else 0
theorem bI_01 (b : Bool) : bI b = 0 ∨ bI b = 1 := by cases b <;> simp [bI]
theorem bI_eq0 {b : Bool} : bI b = 0 ↔ b = false := by cases b <;> simp [bI]
theorem bI_ne0 {b : Bool} : ¬ bI b = 0 ↔ b = true := by cases b <;> simp [bI]
section GO3
variable {Γ : Gm} {n : Nat} {M : Md} {Q : Option Value → Mm → Prop} {pc : Nat} {L : List (Option Value)} {st : List Value} {σ : Mm}
theorem go_callVi {M' : Md} {As rest : List Value} {b idx ci np n' : Nat} (w : CV M.1.cls idx M' np ci) (hb : osh b = some ci) {r : Int32} {P : Mm → Prop} (sp : Sp Γ n' M' (rf Γ b :: As) σ (aI r P)) (hn : n' + 1 ≤ n) (hA : As.length = np) (hst : st = As.reverse ++ rf Γ b :: rest) (hr : (rest.map fun v => v.category).sum ≤ 8) (d : decode M.2.1 pc = .ok (.invokevirtual idx, 3)) (kk : ∀ σ', P σ' → Go Γ n M Q (pc + 3) L (.int r :: rest) σ') : Go Γ n M Q pc L st σ := go_callV w hb sp hn hA hst hr d (fun v σ' h => by obtain ⟨h1, h2⟩ := h; subst h1; exact kk σ' h2)
theorem go_callVp {M' : Md} {As rest : List Value} {b idx ci np n' : Nat} (w : CV M.1.cls idx M' np ci) (hb : osh b = some ci) {r : Int32} (sp : Sp Γ n' M' (rf Γ b :: As) σ (aP r σ)) (hn : n' + 1 ≤ n) (hA : As.length = np) (hst : st = As.reverse ++ rf Γ b :: rest) (hr : (rest.map fun v => v.category).sum ≤ 8) (d : decode M.2.1 pc = .ok (.invokevirtual idx, 3)) (kk : Go Γ n M Q (pc + 3) L (.int r :: rest) σ) : Go Γ n M Q pc L st σ := go_callV w hb sp hn hA hst hr d (fun v σ' h => by obtain ⟨h1, h2⟩ := h; subst h1; subst h2; exact kk)
theorem go_callVv {M' : Md} {As rest : List Value} {b idx ci np n' : Nat} (w : CV M.1.cls idx M' np ci) (hb : osh b = some ci) {P : Mm → Prop} (sp : Sp Γ n' M' (rf Γ b :: As) σ (aV P)) (hn : n' + 1 ≤ n) (hA : As.length = np) (hst : st = As.reverse ++ rf Γ b :: rest) (hr : (rest.map fun v => v.category).sum ≤ 8) (d : decode M.2.1 pc = .ok (.invokevirtual idx, 3)) (kk : ∀ σ', P σ' → Go Γ n M Q (pc + 3) L rest σ') : Go Γ n M Q pc L st σ := go_callV w hb sp hn hA hst hr d (fun v σ' h => by obtain ⟨h1, h2⟩ := h; subst h1; exact kk σ' h2)
theorem go_callVj {M' : Md} {As rest : List Value} {b idx ci np n' : Nat} (w : CV M.1.cls idx M' np ci) (hb : osh b = some ci) {r : Int64} {P : Mm → Prop} (sp : Sp Γ n' M' (rf Γ b :: As) σ (aJ r P)) (hn : n' + 1 ≤ n) (hA : As.length = np) (hst : st = As.reverse ++ rf Γ b :: rest) (hr : (rest.map fun v => v.category).sum ≤ 8) (d : decode M.2.1 pc = .ok (.invokevirtual idx, 3)) (kk : ∀ σ', P σ' → Go Γ n M Q (pc + 3) L (.long r :: rest) σ') : Go Γ n M Q pc L st σ := go_callV w hb sp hn hA hst hr d (fun v σ' h => by obtain ⟨h1, h2⟩ := h; subst h1; exact kk σ' h2)
theorem go_callSi {M' : Md} {As rest : List Value} {idx np n' : Nat} (w : CS M.1.cls idx M' np) {r : Int32} {P : Mm → Prop} (sp : Sp Γ n' M' (As) σ (aI r P)) (hn : n' + 1 ≤ n) (hA : As.length = np) (hst : st = As.reverse ++ rest) (hr : (rest.map fun v => v.category).sum ≤ 8) (d : decode M.2.1 pc = .ok (.invokestatic idx, 3)) (kk : ∀ σ', P σ' → Go Γ n M Q (pc + 3) L (.int r :: rest) σ') : Go Γ n M Q pc L st σ := go_callS w sp hn hA hst hr d (fun v σ' h => by obtain ⟨h1, h2⟩ := h; subst h1; exact kk σ' h2)
theorem go_callSp {M' : Md} {As rest : List Value} {idx np n' : Nat} (w : CS M.1.cls idx M' np) {r : Int32} (sp : Sp Γ n' M' (As) σ (aP r σ)) (hn : n' + 1 ≤ n) (hA : As.length = np) (hst : st = As.reverse ++ rest) (hr : (rest.map fun v => v.category).sum ≤ 8) (d : decode M.2.1 pc = .ok (.invokestatic idx, 3)) (kk : Go Γ n M Q (pc + 3) L (.int r :: rest) σ) : Go Γ n M Q pc L st σ := go_callS w sp hn hA hst hr d (fun v σ' h => by obtain ⟨h1, h2⟩ := h; subst h1; subst h2; exact kk)
theorem go_callSv {M' : Md} {As rest : List Value} {idx np n' : Nat} (w : CS M.1.cls idx M' np) {P : Mm → Prop} (sp : Sp Γ n' M' (As) σ (aV P)) (hn : n' + 1 ≤ n) (hA : As.length = np) (hst : st = As.reverse ++ rest) (hr : (rest.map fun v => v.category).sum ≤ 8) (d : decode M.2.1 pc = .ok (.invokestatic idx, 3)) (kk : ∀ σ', P σ' → Go Γ n M Q (pc + 3) L rest σ') : Go Γ n M Q pc L st σ := go_callS w sp hn hA hst hr d (fun v σ' h => by obtain ⟨h1, h2⟩ := h; subst h1; exact kk σ' h2)
theorem go_callSj {M' : Md} {As rest : List Value} {idx np n' : Nat} (w : CS M.1.cls idx M' np) {r : Int64} {P : Mm → Prop} (sp : Sp Γ n' M' (As) σ (aJ r P)) (hn : n' + 1 ≤ n) (hA : As.length = np) (hst : st = As.reverse ++ rest) (hr : (rest.map fun v => v.category).sum ≤ 8) (d : decode M.2.1 pc = .ok (.invokestatic idx, 3)) (kk : ∀ σ', P σ' → Go Γ n M Q (pc + 3) L (.long r :: rest) σ') : Go Γ n M Q pc L st σ := go_callS w sp hn hA hst hr d (fun v σ' h => by obtain ⟨h1, h2⟩ := h; subst h1; exact kk σ' h2)
end GO3
/-- the locals at the entry, by place -/
def argL : List Value → Nat → List (Option Value)
  | [], n => List.replicate n none
  | v :: vs, n => if v.category = 2 then some v :: none :: argL vs (n - 2) else some v :: argL vs (n - 1)
theorem sp_in {Γ : Gm} {n : Nat} {M : Md} {Q : Option Value → Mm → Prop} {L : List (Option Value)} {σ : Mm} {av : List Value} (hy : plainName M.1.cls = true) (hlen : (lg_sl av).length ≤ M.2.2.1) (hL : cvL 0 L = lv_args 0 av) (k : Go Γ n M Q 0 L [] σ) : Sp Γ n M av σ Q := sp_intro hy hlen (fun ls h => by unfold LH; rw [hL]; exact h) k
end
section
/-! what is spoken of: a table's data (dishes, guests, loath, urged, how much, left on the card, prices, purses, kinds, wants) and a row: what each guest has (-2 waits, -1 nothing, else a dish) -/
abbrev Pb : Type := Nat × Nat × Int32 × Int32 × Int32 × (Nat → Int32) × (Nat → Int32) × (Nat → Int32) × (Nat → Int32) × (Nat → Nat → Int32)
def pD (P : Pb) : Nat := P.1
def pG (P : Pb) : Nat := P.2.1
def pLo (P : Pb) : Int32 := P.2.2.1
def pUr (P : Pb) : Int32 := P.2.2.2.1
def pMu (P : Pb) : Int32 := P.2.2.2.2.1
def pSt (P : Pb) : Nat → Int32 := P.2.2.2.2.2.1
def pPr (P : Pb) : Nat → Int32 := P.2.2.2.2.2.2.1
def pPu (P : Pb) : Nat → Int32 := P.2.2.2.2.2.2.2.1
def pKi (P : Pb) : Nat → Int32 := P.2.2.2.2.2.2.2.2.1
def pWa (P : Pb) : Nat → Nat → Int32 := P.2.2.2.2.2.2.2.2.2
/-- how many of the first n have d -/
def cnt (h : Nat → Int32) (d : Int32) : Nat → Nat
  | 0 => 0
  | n + 1 => cnt h d n + (if h n = d then 1 else 0)
theorem cnt_le (h : Nat → Int32) (d : Int32) : ∀ n, cnt h d n ≤ n
  | 0 => Nat.le_refl 0
  | n + 1 => by
    have := cnt_le h d n
    unfold cnt
    split <;> omega
def swK (k : Int32) : Int32 := if k = 0 then -1 else if k = 1 then 0 else if k = 2 then -2 else if k = 3 then 1 else 2
def hC (x : Int32) : Int32 := if x = -2 then -1 else x
def hO (x : Int32) : Int32 := if x = -2 then 0 else 1
/-- how many others have it -/
def oth (P : Pb) (h : Nat → Int32) (g d : Nat) : Int32 := nI (cnt h (nI d) (pG P)) - (if h g = nI d then 1 else 0)
def valM (P : Pb) (h : Nat → Int32) (g d : Nat) : Int32 := pWa P g d + swK (pKi P g) * pLo P * oth P h g d + (if nI d = pUr P then pMu P else 0)
def mayM (P : Pb) (h : Nat → Int32) (g d : Nat) : Bool := decide (pPr P d ≤ pPu P g) && decide (oth P h g d < pSt P d)
/-- the first of most value among those that may be: it and its value -/
def fB (may : Nat → Bool) (val : Nat → Int32) : Nat → Int32 × Int32
  | 0 => (-1, 0)
  | d + 1 => if may d = true then (if (fB may val d).1 = -1 ∨ (fB may val d).2 < val d then (nI d, val d) else fB may val d) else fB may val d
theorem fB_congr {m m' : Nat → Bool} {v v' : Nat → Int32} : ∀ (n : Nat), (∀ d, d < n → m d = m' d ∧ (m d = true → v d = v' d)) → fB m v n = fB m' v' n
  | 0, _ => rfl
  | n + 1, h => by
    have ih := fB_congr n (fun d hd => h d (by omega))
    obtain ⟨h1, h2⟩ := h n (by omega)
    unfold fB
    rw [ih, ← h1]
    by_cases hm : m n = true
    · rw [if_pos hm, if_pos hm, h2 hm]
    · rw [if_neg hm, if_neg hm]
theorem fB_range {m : Nat → Bool} {v : Nat → Int32} : ∀ n : Nat, (fB m v n).1 = -1 ∨ ∃ d, d < n ∧ m d = true ∧ (fB m v n).1 = nI d ∧ (fB m v n).2 = v d
  | 0 => Or.inl rfl
  | n + 1 => by
    unfold fB
    by_cases hm : m n = true
    · rw [if_pos hm]
      split
      · exact Or.inr ⟨n, by omega, hm, rfl, rfl⟩
      · rcases fB_range (m := m) (v := v) n with h | ⟨d, h1, h2⟩
        · exact Or.inl h
        · exact Or.inr ⟨d, by omega, h2⟩
    · rw [if_neg hm]
      rcases fB_range (m := m) (v := v) n with h | ⟨d, h1, h2⟩
      · exact Or.inl h
      · exact Or.inr ⟨d, by omega, h2⟩
def bestM (P : Pb) (h : Nat → Int32) (g : Nat) : Int32 := (fB (mayM P h g) (valM P h g) (pD P)).1
/-- the class's menu and party hold P -/
def PI (σ : Mm) (P : Pb) : Prop :=
  (σ.1 3 2 = nI (pD P) ∧ pD P ≤ 6) ∧ (σ.1 6 1 = nI (pG P) ∧ pG P ≤ 5) ∧ (∀ d, d < pD P → σ.1 4 d = pSt P d ∧ σ.1 5 d = pPr P d) ∧
  (∀ g, g < pG P → σ.1 (8 + 2 * g) 2 = pPu P g ∧ σ.1 (8 + 2 * g) 3 = swK (pKi P g) ∧ ∀ d, d < pD P → σ.1 (9 + 2 * g) d = pWa P g d)
/-- what holds of the data -/
def Pok (P : Pb) : Prop := ∀ d, d < pD P → ∃ k, pSt P d = nI k ∧ 1 ≤ k ∧ k ≤ 9
/-- a table of the class holds P's urge and loath, and the row h -/
def TI (σ : Mm) (t : Nat) (P : Pb) (h : Nat → Int32) : Prop :=
  (σ.1 t 6 = pUr P ∧ σ.1 t 7 = pMu P ∧ σ.1 t 8 = pLo P) ∧ (∀ d, d < pD P → σ.1 (t + 1) d = pSt P d - nI (cnt h (nI d) (pG P)) ∧ σ.1 (t + 2) d = nI (cnt h (nI d) (pG P))) ∧
  (∀ g, g < 5 → σ.1 (t + 3) g = hC (h g) ∧ σ.1 (t + 4) g = hO (h g))
/-- a row: waits, nothing or a dish, and who isn't there waits -/
def Rok (P : Pb) (h : Nat → Int32) : Prop := (∀ g, g < 5 → h g = -2 ∨ h g = -1 ∨ ∃ d, d < pD P ∧ h g = nI d) ∧ ∀ g, pG P ≤ g → h g = -2
theorem nI_neg1 {d : Nat} (h : d < 2 ^ 31) : nI d ≠ -1 := by
  intro q
  have h1 := nI_toInt h
  rw [q] at h1
  have : ((-1 : Int32)).toInt = -1 := by decide
  omega
theorem nI_neg2 {d : Nat} (h : d < 2 ^ 31) : nI d ≠ -2 := by
  intro q
  have h1 := nI_toInt h
  rw [q] at h1
  have : ((-2 : Int32)).toInt = -2 := by decide
  omega
theorem hC_eq {x : Int32} {d : Nat} (h : d < 2 ^ 31) : hC x = nI d ↔ x = nI d := by
  unfold hC
  split
  · rename_i e
    subst e
    exact ⟨fun q => absurd q.symm (nI_neg1 h), fun q => absurd q.symm (nI_neg2 h)⟩
  · exact Iff.rfl
theorem cnt_upd (h : Nat → Int32) (g : Nat) (x y : Int32) : ∀ n : Nat, cnt (upd h g x) y n + (if g < n ∧ h g = y then 1 else 0) = cnt h y n + (if g < n ∧ x = y then 1 else 0)
  | 0 => by simp [cnt]
  | n + 1 => by
    have ih := cnt_upd h g x y n
    unfold cnt
    by_cases e : n = g
    · subst e
      simp [upd] at ih ⊢
      omega
    · have e1 : (g < n + 1) ↔ (g < n) := by omega
      have e2 : upd h g x n = h n := by simp [upd, e]
      simp only [e1, e2]
      omega
theorem cnt_give {h : Nat → Int32} {g n : Nat} {x y : Int32} (hg : g < n) (hw : h g ≠ y) : cnt (upd h g x) y n = cnt h y n + (if x = y then 1 else 0) := by
  have := cnt_upd h g x y n
  simpa [hg, hw] using this
theorem cnt_back {h : Nat → Int32} {g n : Nat} {x y : Int32} (hg : g < n) (hx : x ≠ y) : cnt (upd h g x) y n + (if h g = y then 1 else 0) = cnt h y n := by
  have := cnt_upd h g x y n
  simpa [hg, hx] using this
/-- only the cells of one table are new -/
def OT (t : Nat) (σ σ' : Mm) : Prop := (∀ a, a < t ∨ t + 4 < a → σ'.1 a = σ.1 a) ∧ σ'.2 = σ.2
theorem OT.rf {t : Nat} {σ : Mm} : OT t σ σ := ⟨fun _ _ => rfl, rfl⟩
theorem OT.trans {t : Nat} {σ σ1 σ2 : Mm} (h : OT t σ σ1) (h2 : OT t σ1 σ2) : OT t σ σ2 := ⟨fun a q => (h2.1 a q).trans (h.1 a q), h2.2.trans h.2⟩
theorem OT.st {t a k : Nat} {v : Int32} {σ σ' : Mm} (h : OT t σ σ') (h1 : t ≤ a) (h2 : a ≤ t + 4) : OT t σ (stI σ' a k v) := ⟨fun x q => (funext fun y => stI_ne (Or.inl (by omega))).trans (h.1 x q), h.2⟩
theorem PI.ot {t : Nat} {σ σ' : Mm} {P : Pb} (ht : isT t) (h : OT t σ σ') (hP : PI σ P) : PI σ' P := by
  have ht : 18 ≤ t := by rcases ht with rfl | rfl | rfl <;> omega
  obtain ⟨⟨a1, a2⟩, ⟨b1, b2⟩, c, d⟩ := hP
  refine ⟨⟨by rw [h.1 3 (by omega)]; exact a1, a2⟩, ⟨by rw [h.1 6 (by omega)]; exact b1, b2⟩, fun k hk => ?_, fun g hg => ?_⟩
  · rw [h.1 4 (by omega), h.1 5 (by omega)]; exact c k hk
  · rw [h.1 (8 + 2 * g) (by omega), h.1 (9 + 2 * g) (by omega)]; exact d g hg
/-- what each has of joy -/
def joyM (P : Pb) (h : Nat → Int32) (g : Nat) : Int32 := if h g < 0 then 0 else pWa P g (h g).toNatClampNeg
def sumN (f : Nat → Int32) : Nat → Int32
  | 0 => 0
  | n + 1 => sumN f n + f n
theorem sumN_congr {f f' : Nat → Int32} : ∀ n : Nat, (∀ k, k < n → f k = f' k) → sumN f n = sumN f' n
  | 0, _ => rfl
  | n + 1, h => by unfold sumN; rw [sumN_congr n (fun k hk => h k (by omega)), h n (by omega)]
def joyA (P : Pb) (h : Nat → Int32) : Int32 := sumN (joyM P h) (pG P)
def ordN (P : Pb) (h : Nat → Int32) : Int32 := sumN (fun g => hO (h g)) (pG P)
theorem nI_lt0 {d : Nat} (h : d < 2 ^ 31) : ¬ nI d < 0 := nI_pos h
theorem m1_lt0 : (-1 : Int32) < 0 := by decide
theorem m2_lt0 : (-2 : Int32) < 0 := by decide
end
section
/-! the class's Table: what each method does to the memory -/
set_option maxHeartbeats 1000000 in
theorem sp_canHave {Γ : Gm} {σ : Mm} {t g d : Nat} (ht : isT t) (hg : g < 5) (hd : d < 6) : Sp Γ 1 mX7_canHave [rf Γ t, .int (nI g), .int (nI d)] σ (aP (bI (decide (0 < σ.1 (t + 1) d) && decide (σ.1 5 d ≤ σ.1 (8 + 2 * g) 2))) σ) := by
  refine sp_in (L := [some (rf Γ t), some (.int (nI g)), some (.int (nI d))]) rfl (Nat.le_of_ble_eq_true rfl) rfl ?_
  refine go_aload_n dX7_canHave_0 rfl rfl ?_
  refine go_getR flX7_9 (fT_2 ht) dX7_canHave_1 ?_
  refine go_iload_n dX7_canHave_4 rfl rfl ?_
  refine go_iald (d) rfl (aT_1 ht) (by omega) (by decide) dX7_canHave_5 ?_
  refine go_if_le (tgt := 37) dX7_canHave_6 (by decide) (fun c6 => ?_) (fun c6 => ?_)
  · refine go_iconst (v := nI 0) dX7_canHave_37 rfl ?_
    refine go_zret rfl dX7_canHave_38 (by first | exact Or.inl rfl | exact Or.inr rfl | exact bI_01 _) ?_
    exact ⟨congrArg (fun z => some (Value.int z)) (by have : ¬ (0 < σ.1 (t + 1) d) := Int32.not_lt.mpr c6; simp [bI, this, nI]), rfl⟩
  · refine go_aload_n dX7_canHave_9 rfl rfl ?_
    refine go_getR flX7_28 (fT_0 ht) dX7_canHave_10 ?_
    refine go_getR flX7_44 fs_3_1 dX7_canHave_13 ?_
    refine go_iload_n dX7_canHave_16 rfl rfl ?_
    refine go_iald (d) rfl as_5 (by omega) (by decide) dX7_canHave_17 ?_
    refine go_aload_n dX7_canHave_18 rfl rfl ?_
    refine go_getR flX7_32 (fT_1 ht) dX7_canHave_19 ?_
    refine go_getR flX7_47 fs_6_0 dX7_canHave_22 ?_
    refine go_iload_n dX7_canHave_25 rfl rfl ?_
    refine go_aald (g) rfl (rG hg) rt_7 dX7_canHave_26 ?_
    refine go_getI flX7_53 (fG_2 hg) dX7_canHave_27 ?_
    refine go_icmp_gt (tgt := 37) dX7_canHave_30 (by decide) (fun c30 => ?_) (fun c30 => ?_)
    · refine go_iconst (v := nI 0) dX7_canHave_37 rfl ?_
      refine go_zret rfl dX7_canHave_38 (by first | exact Or.inl rfl | exact Or.inr rfl | exact bI_01 _) ?_
      exact ⟨congrArg (fun z => some (Value.int z)) (by have : ¬ (σ.1 5 d ≤ σ.1 (8 + 2 * g) 2) := Int32.not_le.mpr c30; simp [bI, this, nI]), rfl⟩
    · refine go_iconst (v := nI 1) dX7_canHave_33 rfl ?_
      refine go_goto (tgt := 38) dX7_canHave_34 (by decide) ?_
      refine go_zret rfl dX7_canHave_38 (by first | exact Or.inl rfl | exact Or.inr rfl | exact bI_01 _) ?_
      exact ⟨congrArg (fun z => some (Value.int z)) (by have h1 : 0 < σ.1 (t + 1) d := Int32.not_le.mp c6; have h2 : σ.1 5 d ≤ σ.1 (8 + 2 * g) 2 := Int32.not_lt.mp c30; simp [bI, h1, h2, nI]), rfl⟩
/-- a dish's value by what the table holds -/
def valC (σ : Mm) (t g d : Nat) : Int32 := σ.1 (9 + 2 * g) d + σ.1 (8 + 2 * g) 3 * σ.1 t 8 * (if σ.1 (t + 3) g = nI d then σ.1 (t + 2) d - 1 else σ.1 (t + 2) d) + (if nI d = σ.1 t 6 then σ.1 t 7 else 0)
set_option maxHeartbeats 1000000 in
theorem sp_value {Γ : Gm} {σ : Mm} {t g d : Nat} (ht : isT t) (hg : g < 5) (hd : d < 6) : Sp Γ 1 mX7_value [rf Γ t, .int (nI g), .int (nI d)] σ (aP (valC σ t g d) σ) := by
  refine sp_in (L := [some (rf Γ t), some (.int (nI g)), some (.int (nI d)), none, none, none]) rfl (Nat.le_of_ble_eq_true rfl) rfl ?_
  refine go_aload_n dX7_value_0 rfl rfl ?_
  refine go_getR flX7_32 (fT_1 ht) dX7_value_1 ?_
  refine go_getR flX7_47 fs_6_0 dX7_value_4 ?_
  refine go_iload_n dX7_value_7 rfl rfl ?_
  refine go_aald (g) rfl (rG hg) rt_7 dX7_value_8 ?_
  refine go_astore_n (L' := [_, _, _, _, _, _]) dX7_value_9 rfl (by decide) rfl rfl ?_
  refine go_aload_n dX7_value_10 rfl rfl ?_
  refine go_getR flX7_18 (fT_4 ht) dX7_value_11 ?_
  refine go_iload_n dX7_value_14 rfl rfl ?_
  refine go_iald (g) rfl (aT_3 ht) (by omega) (by decide) dX7_value_15 ?_
  refine go_iload_n dX7_value_16 rfl rfl ?_
  refine go_icmp_ne (tgt := 31) dX7_value_17 (by decide) (fun c17 => ?_) (fun c17 => ?_)
  · refine go_aload_n dX7_value_31 rfl rfl ?_
    refine go_getR flX7_15 (fT_3 ht) dX7_value_32 ?_
    refine go_iload_n dX7_value_35 rfl rfl ?_
    refine go_iald (d) rfl (aT_2 ht) (by omega) (by decide) dX7_value_36 ?_
    refine go_istore (L' := [_, _, _, _, _, _]) dX7_value_37 (by decide) rfl rfl ?_
    refine go_iload_n dX7_value_39 rfl rfl ?_
    refine go_aload_n dX7_value_40 rfl rfl ?_
    refine go_getI flX7_24 (fT_6 ht) dX7_value_41 ?_
    refine go_icmp_ne (tgt := 54) dX7_value_44 (by decide) (fun c44 => ?_) (fun c44 => ?_)
    · refine go_iconst (v := nI 0) dX7_value_54 rfl ?_
      refine go_istore (L' := [_, _, _, _, _, _]) dX7_value_55 (by decide) rfl rfl ?_
      refine go_aload_n dX7_value_57 rfl rfl ?_
      refine go_getR flX7_58 (fG_0 hg) dX7_value_58 ?_
      refine go_iload_n dX7_value_61 rfl rfl ?_
      refine go_iald (d) rfl (aW hg) (by omega) (by decide) dX7_value_62 ?_
      refine go_aload_n dX7_value_63 rfl rfl ?_
      refine go_getI flX7_61 (fG_3 hg) dX7_value_64 ?_
      refine go_aload_n dX7_value_67 rfl rfl ?_
      refine go_getI flX7_64 (fT_8 ht) dX7_value_68 ?_
      refine go_imul dX7_value_71 ?_
      refine go_iload dX7_value_72 rfl ?_
      refine go_imul dX7_value_74 ?_
      refine go_iadd dX7_value_75 ?_
      refine go_iload dX7_value_76 rfl ?_
      refine go_iadd dX7_value_78 ?_
      refine go_iret rfl dX7_value_79 ?_
      exact ⟨by unfold valC; simp only [if_neg c17, if_neg c44]; rfl, rfl⟩
    · refine go_aload_n dX7_value_47 rfl rfl ?_
      refine go_getI flX7_41 (fT_7 ht) dX7_value_48 ?_
      refine go_goto (tgt := 55) dX7_value_51 (by decide) ?_
      refine go_istore (L' := [_, _, _, _, _, _]) dX7_value_55 (by decide) rfl rfl ?_
      refine go_aload_n dX7_value_57 rfl rfl ?_
      refine go_getR flX7_58 (fG_0 hg) dX7_value_58 ?_
      refine go_iload_n dX7_value_61 rfl rfl ?_
      refine go_iald (d) rfl (aW hg) (by omega) (by decide) dX7_value_62 ?_
      refine go_aload_n dX7_value_63 rfl rfl ?_
      refine go_getI flX7_61 (fG_3 hg) dX7_value_64 ?_
      refine go_aload_n dX7_value_67 rfl rfl ?_
      refine go_getI flX7_64 (fT_8 ht) dX7_value_68 ?_
      refine go_imul dX7_value_71 ?_
      refine go_iload dX7_value_72 rfl ?_
      refine go_imul dX7_value_74 ?_
      refine go_iadd dX7_value_75 ?_
      refine go_iload dX7_value_76 rfl ?_
      refine go_iadd dX7_value_78 ?_
      refine go_iret rfl dX7_value_79 ?_
      exact ⟨by unfold valC; simp only [if_neg c17, if_pos c44], rfl⟩
  · refine go_aload_n dX7_value_20 rfl rfl ?_
    refine go_getR flX7_15 (fT_3 ht) dX7_value_21 ?_
    refine go_iload_n dX7_value_24 rfl rfl ?_
    refine go_iald (d) rfl (aT_2 ht) (by omega) (by decide) dX7_value_25 ?_
    refine go_iconst (v := nI 1) dX7_value_26 rfl ?_
    refine go_isub dX7_value_27 ?_
    refine go_goto (tgt := 37) dX7_value_28 (by decide) ?_
    refine go_istore (L' := [_, _, _, _, _, _]) dX7_value_37 (by decide) rfl rfl ?_
    refine go_iload_n dX7_value_39 rfl rfl ?_
    refine go_aload_n dX7_value_40 rfl rfl ?_
    refine go_getI flX7_24 (fT_6 ht) dX7_value_41 ?_
    refine go_icmp_ne (tgt := 54) dX7_value_44 (by decide) (fun c44 => ?_) (fun c44 => ?_)
    · refine go_iconst (v := nI 0) dX7_value_54 rfl ?_
      refine go_istore (L' := [_, _, _, _, _, _]) dX7_value_55 (by decide) rfl rfl ?_
      refine go_aload_n dX7_value_57 rfl rfl ?_
      refine go_getR flX7_58 (fG_0 hg) dX7_value_58 ?_
      refine go_iload_n dX7_value_61 rfl rfl ?_
      refine go_iald (d) rfl (aW hg) (by omega) (by decide) dX7_value_62 ?_
      refine go_aload_n dX7_value_63 rfl rfl ?_
      refine go_getI flX7_61 (fG_3 hg) dX7_value_64 ?_
      refine go_aload_n dX7_value_67 rfl rfl ?_
      refine go_getI flX7_64 (fT_8 ht) dX7_value_68 ?_
      refine go_imul dX7_value_71 ?_
      refine go_iload dX7_value_72 rfl ?_
      refine go_imul dX7_value_74 ?_
      refine go_iadd dX7_value_75 ?_
      refine go_iload dX7_value_76 rfl ?_
      refine go_iadd dX7_value_78 ?_
      refine go_iret rfl dX7_value_79 ?_
      exact ⟨by unfold valC; simp only [if_pos c17, if_neg c44]; rfl, rfl⟩
    · refine go_aload_n dX7_value_47 rfl rfl ?_
      refine go_getI flX7_41 (fT_7 ht) dX7_value_48 ?_
      refine go_goto (tgt := 55) dX7_value_51 (by decide) ?_
      refine go_istore (L' := [_, _, _, _, _, _]) dX7_value_55 (by decide) rfl rfl ?_
      refine go_aload_n dX7_value_57 rfl rfl ?_
      refine go_getR flX7_58 (fG_0 hg) dX7_value_58 ?_
      refine go_iload_n dX7_value_61 rfl rfl ?_
      refine go_iald (d) rfl (aW hg) (by omega) (by decide) dX7_value_62 ?_
      refine go_aload_n dX7_value_63 rfl rfl ?_
      refine go_getI flX7_61 (fG_3 hg) dX7_value_64 ?_
      refine go_aload_n dX7_value_67 rfl rfl ?_
      refine go_getI flX7_64 (fT_8 ht) dX7_value_68 ?_
      refine go_imul dX7_value_71 ?_
      refine go_iload dX7_value_72 rfl ?_
      refine go_imul dX7_value_74 ?_
      refine go_iadd dX7_value_75 ?_
      refine go_iload dX7_value_76 rfl ?_
      refine go_iadd dX7_value_78 ?_
      refine go_iret rfl dX7_value_79 ?_
      exact ⟨by unfold valC; simp only [if_pos c17, if_pos c44]; rfl, rfl⟩
theorem canHave_may {σ : Mm} {t g d : Nat} {P : Pb} {h : Nat → Int32} (hP : PI σ P) (hT : TI σ t P h) (hk : Pok P) (hg : g < pG P) (hd : d < pD P) (hn : h g ≠ nI d) : (decide (0 < σ.1 (t + 1) d) && decide (σ.1 5 d ≤ σ.1 (8 + 2 * g) 2)) = mayM P h g d := by
  obtain ⟨-, ⟨-, hG⟩, h3, h4⟩ := hP
  obtain ⟨k, e, h1, h2⟩ := hk d hd
  have hc := cnt_le h (nI d) (pG P)
  rw [(hT.2.1 d hd).1, (h3 d hd).2, (h4 g hg).1]
  unfold mayM oth
  rw [if_neg hn, Bool.and_comm]
  congr 1
  rw [e, Int32.sub_zero]
  rw [decide_eq_decide, nI_ltI (by omega) (by omega)]
  by_cases q : cnt h (nI d) (pG P) < k
  · rw [pk_sub (by omega)]
    constructor
    · intro _; exact q
    · intro _; exact nI_lt (a := 0) (by omega) (by omega)
  · constructor
    · intro z
      exfalso
      by_cases q2 : cnt h (nI d) (pG P) = k
      · rw [q2, Int32.sub_self] at z; exact absurd z (by decide)
      · exact absurd (pk_sneg (a := k) (b := cnt h (nI d) (pG P)) (by omega) (by omega)) (Int32.not_lt.mpr (Int32.le_of_lt z))
    · intro z; exact absurd z q
theorem valC_val {σ : Mm} {t g d : Nat} {P : Pb} {h : Nat → Int32} (hP : PI σ P) (hT : TI σ t P h) (hg : g < pG P) (hd : d < pD P) : valC σ t g d = valM P h g d := by
  obtain ⟨⟨-, hD⟩, ⟨-, hG⟩, h3, h4⟩ := hP
  obtain ⟨⟨u1, u2, u3⟩, h5, h6⟩ := hT
  unfold valC valM oth
  rw [(h4 g hg).2.1, (h4 g hg).2.2 d hd, u1, u2, u3, (h6 g (by omega)).1, (h5 d hd).2]
  by_cases q : h g = nI d
  · rw [if_pos ((hC_eq (by omega)).mpr q), if_pos q]
  · rw [if_neg (fun z => q ((hC_eq (by omega)).mp z)), if_neg q, Int32.sub_zero]
set_option maxHeartbeats 1000000 in
theorem lp_choice {Γ : Gm} {σ : Mm} {t g : Nat} {P : Pb} {h : Nat → Int32} (ht : isT t) (hg : g < pG P) (hP : PI σ P) (hT : TI σ t P h) (hk : Pok P) (hw : h g = -2) : ∀ (m d : Nat), pD P - d = m → d ≤ pD P → Go Γ 2 mX7_choice (aP (bestM P h g) σ) 7 [some (rf Γ t), some (.int (nI g)), some (.int (fB (mayM P h g) (valM P h g) d).1), some (.int (fB (mayM P h g) (valM P h g) d).2), some (.int (nI d)), none] [] σ := by
  have hD := hP.1.2
  have hG := hP.2.1.2
  have hg5 : g < 5 := by omega
  intro m
  induction m with
  | zero =>
    intro d hm hd
    have e : d = pD P := by omega
    subst e
    refine go_iload dX7_choice_7 rfl ?_
    refine go_aload_n dX7_choice_9 rfl rfl ?_
    refine go_getR flX7_28 (fT_0 ht) dX7_choice_10 ?_
    refine go_getI flX7_67 fs_3_2 dX7_choice_13 ?_
    rw [hP.1.1]
    refine go_icmp_ge (tgt := 61) dX7_choice_16 (by decide) (fun c16 => ?_) (fun c16 => ?_)
    · refine go_iload_n dX7_choice_61 rfl rfl ?_
      refine go_iret rfl dX7_choice_62 ?_
      exact ⟨rfl, rfl⟩
    · exact absurd (Int32.le_refl _) c16
  | succ m ih =>
    intro d hm hd
    have hd1 : d < pD P := by omega
    have hne : h g ≠ nI d := by rw [hw]; exact (nI_neg2 (by omega)).symm
    have e0 := canHave_may hP hT hk hg hd1 hne
    have e1 := valC_val hP hT hg hd1
    have stp : ∀ d', d' = d + 1 → Go Γ 2 mX7_choice (aP (bestM P h g) σ) 7 [some (rf Γ t), some (.int (nI g)), some (.int (fB (mayM P h g) (valM P h g) (d + 1)).1), some (.int (fB (mayM P h g) (valM P h g) (d + 1)).2), some (.int (nI d')), none] [] σ := fun d' e => e ▸ ih (d + 1) (by omega) (by omega)
    refine go_iload dX7_choice_7 rfl ?_
    refine go_aload_n dX7_choice_9 rfl rfl ?_
    refine go_getR flX7_28 (fT_0 ht) dX7_choice_10 ?_
    refine go_getI flX7_67 fs_3_2 dX7_choice_13 ?_
    rw [hP.1.1]
    refine go_icmp_ge (tgt := 61) dX7_choice_16 (by decide) (fun c16 => ?_) (fun c16 => ?_)
    · exact absurd c16 (nI_ge (by omega) (by omega))
    · refine go_aload_n dX7_choice_19 rfl rfl ?_
      refine go_iload_n dX7_choice_20 rfl rfl ?_
      refine go_iload dX7_choice_21 rfl ?_
      refine go_callVp cvX7_70 (osT ht) (sp_canHave ht hg5 (by omega)) (by omega) rfl rfl (Nat.le_of_ble_eq_true rfl) dX7_choice_23 ?_
      rw [e0]
      refine go_if_eq (tgt := 55) dX7_choice_26 (by decide) (fun c26 => ?_) (fun c26 => ?_)
      · refine go_iinc (v := nI (d + 1)) (L' := [_, _, _, _, _, _]) dX7_choice_55 rfl (nI_1 _) (by decide) rfl rfl ?_
        refine go_goto (tgt := 7) dX7_choice_58 (by decide) ?_
        have e2 : fB (mayM P h g) (valM P h g) (d + 1) = fB (mayM P h g) (valM P h g) d := by conv => lhs; unfold fB; rw [if_neg (by rw [bI_eq0.mp c26]; decide)]
        rw [e2] at stp
        exact stp _ rfl
      · refine go_aload_n dX7_choice_29 rfl rfl ?_
        refine go_iload_n dX7_choice_30 rfl rfl ?_
        refine go_iload dX7_choice_31 rfl ?_
        refine go_callVp cvX7_74 (osT ht) (sp_value ht hg5 (by omega)) (by omega) rfl rfl (Nat.le_of_ble_eq_true rfl) dX7_choice_33 ?_
        rw [e1]
        refine go_istore (L' := [_, _, _, _, _, _]) dX7_choice_36 (by decide) rfl rfl ?_
        refine go_iload_n dX7_choice_38 rfl rfl ?_
        refine go_iconst (v := (-1)) dX7_choice_39 rfl ?_
        refine go_icmp_eq (tgt := 49) dX7_choice_40 (by decide) (fun c40 => ?_) (fun c40 => ?_)
        · refine go_iload dX7_choice_49 rfl ?_
          refine go_istore_n (L' := [_, _, _, _, _, _]) dX7_choice_51 rfl (by decide) rfl rfl ?_
          refine go_iload dX7_choice_52 rfl ?_
          refine go_istore_n (L' := [_, _, _, _, _, _]) dX7_choice_54 rfl (by decide) rfl rfl ?_
          refine go_iinc (v := nI (d + 1)) (L' := [_, _, _, _, _, _]) dX7_choice_55 rfl (nI_1 _) (by decide) rfl rfl ?_
          refine go_goto (tgt := 7) dX7_choice_58 (by decide) ?_
          have e2 : fB (mayM P h g) (valM P h g) (d + 1) = (nI d, valM P h g d) := by conv => lhs; unfold fB; rw [if_pos (bI_ne0.mp c26), if_pos (Or.inl c40)]
          rw [e2] at stp
          exact go_sub [true, true, true, true, true, false] rfl (stp _ rfl)
        · refine go_iload dX7_choice_43 rfl ?_
          refine go_iload_n dX7_choice_45 rfl rfl ?_
          refine go_icmp_le (tgt := 55) dX7_choice_46 (by decide) (fun c46 => ?_) (fun c46 => ?_)
          · refine go_iinc (v := nI (d + 1)) (L' := [_, _, _, _, _, _]) dX7_choice_55 rfl (nI_1 _) (by decide) rfl rfl ?_
            refine go_goto (tgt := 7) dX7_choice_58 (by decide) ?_
            have e2 : fB (mayM P h g) (valM P h g) (d + 1) = fB (mayM P h g) (valM P h g) d := by conv => lhs; unfold fB; rw [if_pos (bI_ne0.mp c26), if_neg (fun z => z.elim c40 (fun z => Int32.not_lt.mpr c46 z))]
            rw [e2] at stp
            exact go_sub [true, true, true, true, true, false] rfl (stp _ rfl)
          · refine go_iload dX7_choice_49 rfl ?_
            refine go_istore_n (L' := [_, _, _, _, _, _]) dX7_choice_51 rfl (by decide) rfl rfl ?_
            refine go_iload dX7_choice_52 rfl ?_
            refine go_istore_n (L' := [_, _, _, _, _, _]) dX7_choice_54 rfl (by decide) rfl rfl ?_
            refine go_iinc (v := nI (d + 1)) (L' := [_, _, _, _, _, _]) dX7_choice_55 rfl (nI_1 _) (by decide) rfl rfl ?_
            refine go_goto (tgt := 7) dX7_choice_58 (by decide) ?_
            have e2 : fB (mayM P h g) (valM P h g) (d + 1) = (nI d, valM P h g d) := by conv => lhs; unfold fB; rw [if_pos (bI_ne0.mp c26), if_pos (Or.inr (Int32.not_le.mp c46))]
            rw [e2] at stp
            exact go_sub [true, true, true, true, true, false] rfl (stp _ rfl)
set_option maxHeartbeats 1000000 in
theorem sp_choice {Γ : Gm} {σ : Mm} {t g : Nat} {P : Pb} {h : Nat → Int32} (ht : isT t) (hg : g < pG P) (hP : PI σ P) (hT : TI σ t P h) (hk : Pok P) (hw : h g = -2) : Sp Γ 2 mX7_choice [rf Γ t, .int (nI g)] σ (aP (bestM P h g) σ) := by
  refine sp_in (L := [some (rf Γ t), some (.int (nI g)), none, none, none, none]) rfl (Nat.le_of_ble_eq_true rfl) rfl ?_
  refine go_iconst (v := (-1)) dX7_choice_0 rfl ?_
  refine go_istore_n (L' := [_, _, _, _, _, _]) dX7_choice_1 rfl (by decide) rfl rfl ?_
  refine go_iconst (v := nI 0) dX7_choice_2 rfl ?_
  refine go_istore_n (L' := [_, _, _, _, _, _]) dX7_choice_3 rfl (by decide) rfl rfl ?_
  refine go_iconst (v := nI 0) dX7_choice_4 rfl ?_
  refine go_istore (L' := [_, _, _, _, _, _]) dX7_choice_5 (by decide) rfl rfl ?_
  exact lp_choice ht hg hP hT hk hw (pD P) 0 rfl (Nat.zero_le _)

theorem hC_nI {d : Nat} (h : d < 2 ^ 31) : hC (nI d) = nI d := (hC_eq h).mpr rfl
theorem hO_nI {d : Nat} (h : d < 2 ^ 31) : hO (nI d) = nI 1 := by unfold hO; rw [if_neg (nI_neg2 h)]; rfl
theorem hC_row {P : Pb} {h : Nat → Int32} {g : Nat} (hD : pD P ≤ 6) (hr : Rok P h) (hg : g < 5) : (hC (h g) = -1 ∧ h g < 0) ∨ ∃ d, d < pD P ∧ h g = nI d ∧ hC (h g) = nI d := by
  rcases hr.1 g hg with e | e | ⟨d, hd, e⟩
  · exact Or.inl ⟨by rw [e]; decide, by rw [e]; decide⟩
  · exact Or.inl ⟨by rw [e]; decide, by rw [e]; decide⟩
  · exact Or.inr ⟨d, hd, e, by rw [e]; exact hC_nI (by omega)⟩
end
section
theorem TI.upd_none {σ σ' : Mm} {t g : Nat} {P : Pb} {h : Nat → Int32} {x : Int32} (hT : TI σ t P h) (hg : g < pG P) (hG : pG P ≤ 5) (hD : pD P ≤ 6) (hx : x = -1 ∨ x = -2) (hw : h g = -1 ∨ h g = -2)
    (e0 : ∀ k, k = 6 ∨ k = 7 ∨ k = 8 → σ'.1 t k = σ.1 t k) (e1 : ∀ d, d < pD P → σ'.1 (t + 1) d = σ.1 (t + 1) d ∧ σ'.1 (t + 2) d = σ.1 (t + 2) d)
    (e3 : ∀ k, k < 5 → k ≠ g → σ'.1 (t + 3) k = σ.1 (t + 3) k ∧ σ'.1 (t + 4) k = σ.1 (t + 4) k) (e4 : σ'.1 (t + 3) g = hC x) (e5 : σ'.1 (t + 4) g = hO x) : TI σ' t P (upd h g x) := by
  obtain ⟨⟨u1, u2, u3⟩, h5, h6⟩ := hT
  refine ⟨⟨by rw [e0 6 (by omega)]; exact u1, by rw [e0 7 (by omega)]; exact u2, by rw [e0 8 (by omega)]; exact u3⟩, fun d hd => ?_, fun k hk => ?_⟩
  · have n1 : x ≠ nI d := by rcases hx with rfl | rfl; exact (nI_neg1 (by omega)).symm; exact (nI_neg2 (by omega)).symm
    have n2 : h g ≠ nI d := by rcases hw with e | e <;> rw [e]; exact (nI_neg1 (by omega)).symm; exact (nI_neg2 (by omega)).symm
    rw [cnt_give hg n2, if_neg n1, (e1 d hd).1, (e1 d hd).2]
    exact h5 d hd
  · by_cases q : k = g
    · subst q
      rw [e4, e5]
      simp [upd]
    · rw [(e3 k hk q).1, (e3 k hk q).2]
      simp only [upd, if_neg q]
      exact h6 k hk
set_option maxHeartbeats 1000000 in
theorem sp_give {Γ : Gm} {σ : Mm} {t g : Nat} {P : Pb} {h : Nat → Int32} {x : Int32} (ht : isT t) (hg : g < pG P) (hG : pG P ≤ 5) (hD : pD P ≤ 6) (hT : TI σ t P h) (hw : h g = -2) (hx : x = -1 ∨ ∃ d, d < pD P ∧ x = nI d) : Sp Γ 1 mX7_give [rf Γ t, .int (nI g), .int x] σ (aV (fun σ' => TI σ' t P (upd h g x) ∧ OT t σ σ')) := by
  have hg5 : g < 5 := by omega
  refine sp_in (L := [some (rf Γ t), some (.int (nI g)), some (.int x)]) rfl (Nat.le_of_ble_eq_true rfl) rfl ?_
  refine go_aload_n dX7_give_0 rfl rfl ?_
  refine go_getR flX7_18 (fT_4 ht) dX7_give_1 ?_
  refine go_iload_n dX7_give_4 rfl rfl ?_
  refine go_iload_n dX7_give_5 rfl rfl ?_
  refine go_iast (g) rfl (aT_3 ht) (by omega) (by decide) dX7_give_6 ?_
  refine go_aload_n dX7_give_7 rfl rfl ?_
  refine go_getR flX7_21 (fT_5 ht) dX7_give_8 ?_
  refine go_iload_n dX7_give_11 rfl rfl ?_
  refine go_iconst (v := nI 1) dX7_give_12 rfl ?_
  refine go_iast (g) rfl (aT_4 ht) (by omega) (by decide) dX7_give_13 ?_
  refine go_iload_n dX7_give_14 rfl rfl ?_
  refine go_iconst (v := (-1)) dX7_give_15 rfl ?_
  refine go_icmp_eq (tgt := 39) dX7_give_16 (by decide) (fun c16 => ?_) (fun c16 => ?_)
  · refine go_vret rfl dX7_give_39 ?_
    refine ⟨rfl, ?_, ((OT.rf.st (by omega) (by omega)).st (by omega) (by omega))⟩
    refine hT.upd_none hg hG hD (Or.inl c16) (Or.inr hw) (fun k hk => ?_) (fun d hd => ?_) (fun k h1 h2 => ?_) ?_ ?_
    · rcases hk with rfl | rfl | rfl <;> simp (disch := omega) only [stI_ne]
    · exact ⟨by simp (disch := omega) only [stI_ne], by simp (disch := omega) only [stI_ne]⟩
    · exact ⟨by simp (disch := omega) only [stI_ne], by simp (disch := omega) only [stI_ne]⟩
    · rw [stI_ne (by omega), stI_at, c16]; decide
    · rw [stI_at, c16]; decide
  · obtain ⟨d, hd, e⟩ : ∃ d, d < pD P ∧ x = nI d := hx.resolve_left c16
    refine go_aload_n dX7_give_19 rfl rfl ?_
    refine go_getR flX7_9 (fT_2 ht) dX7_give_20 ?_
    refine go_iload_n dX7_give_23 rfl rfl ?_
    refine go_dup2 dX7_give_24 rfl rfl ?_
    refine go_iald d e (aT_1 ht) (by omega) (by decide) dX7_give_25 ?_
    refine go_iconst (v := nI 1) dX7_give_26 rfl ?_
    refine go_isub dX7_give_27 ?_
    refine go_iast d e (aT_1 ht) (by omega) (by decide) dX7_give_28 ?_
    refine go_aload_n dX7_give_29 rfl rfl ?_
    refine go_getR flX7_15 (fT_3 ht) dX7_give_30 ?_
    refine go_iload_n dX7_give_33 rfl rfl ?_
    refine go_dup2 dX7_give_34 rfl rfl ?_
    refine go_iald d e (aT_2 ht) (by omega) (by decide) dX7_give_35 ?_
    refine go_iconst (v := nI 1) dX7_give_36 rfl ?_
    refine go_iadd dX7_give_37 ?_
    refine go_iast d e (aT_2 ht) (by omega) (by decide) dX7_give_38 ?_
    refine go_vret rfl dX7_give_39 ?_
    refine ⟨rfl, ?_, ((((OT.rf.st (by omega) (by omega)).st (by omega) (by omega)).st (by omega) (by omega)).st (by omega) (by omega))⟩
    subst e
    obtain ⟨⟨u1, u2, u3⟩, h5, h6⟩ := hT
    refine ⟨⟨?_, ?_, ?_⟩, fun d' hd' => ?_, fun k hk => ?_⟩
    · simp (disch := omega) only [stI_ne]; exact u1
    · simp (disch := omega) only [stI_ne]; exact u2
    · simp (disch := omega) only [stI_ne]; exact u3
    · have n2 : h g ≠ nI d' := by rw [hw]; exact (nI_neg2 (by omega)).symm
      obtain ⟨q1, q2⟩ := h5 d' hd'
      rw [cnt_give hg n2]
      by_cases q : d' = d
      · subst q
        rw [if_pos rfl]
        constructor
        · simp (disch := omega) only [stI_at, stI_ne]
          rw [q1, ← nI_add]
          grind
        · simp (disch := omega) only [stI_at, stI_ne]
          rw [q2, nI_add]
      · have n3 : ¬ nI d = nI d' := fun z => q ((nI_eq (by omega) (by omega)).mp z).symm
        rw [if_neg n3]
        constructor
        · simp (disch := omega) only [stI_ne]; exact q1
        · simp (disch := omega) only [stI_ne]; exact q2
    · by_cases q : k = g
      · subst q
        simp (disch := omega) only [stI_at, stI_ne]
        simp only [upd, if_pos rfl]
        exact ⟨(hC_nI (by omega)).symm, (hO_nI (by omega)).symm⟩
      · simp (disch := omega) only [stI_at, stI_ne]
        simp only [upd, if_neg q]
        exact h6 k hk
set_option maxHeartbeats 1000000 in
theorem sp_giveBack {Γ : Gm} {σ : Mm} {t g : Nat} {P : Pb} {h : Nat → Int32} (ht : isT t) (hg : g < pG P) (hG : pG P ≤ 5) (hD : pD P ≤ 6) (hT : TI σ t P h) (hr : Rok P h) : Sp Γ 1 mX7_giveBack [rf Γ t, .int (nI g)] σ (aV (fun σ' => TI σ' t P (upd h g (-2)) ∧ OT t σ σ')) := by
  have hg5 : g < 5 := by omega
  refine sp_in (L := [some (rf Γ t), some (.int (nI g)), none]) rfl (Nat.le_of_ble_eq_true rfl) rfl ?_
  have hrow := (hT.2.2 g hg5).1
  have hcase := hC_row hD hr hg5
  refine go_aload_n dX7_giveBack_0 rfl rfl ?_
  refine go_getR flX7_18 (fT_4 ht) dX7_giveBack_1 ?_
  refine go_iload_n dX7_giveBack_4 rfl rfl ?_
  refine go_iald (g) rfl (aT_3 ht) (by omega) (by decide) dX7_giveBack_5 ?_
  rw [hrow]
  refine go_istore_n (L' := [_, _, _]) dX7_giveBack_6 rfl (by decide) rfl rfl ?_
  refine go_aload_n dX7_giveBack_7 rfl rfl ?_
  refine go_getR flX7_18 (fT_4 ht) dX7_giveBack_8 ?_
  refine go_iload_n dX7_giveBack_11 rfl rfl ?_
  refine go_iconst (v := (-1)) dX7_giveBack_12 rfl ?_
  refine go_iast (g) rfl (aT_3 ht) (by omega) (by decide) dX7_giveBack_13 ?_
  refine go_aload_n dX7_giveBack_14 rfl rfl ?_
  refine go_getR flX7_21 (fT_5 ht) dX7_giveBack_15 ?_
  refine go_iload_n dX7_giveBack_18 rfl rfl ?_
  refine go_iconst (v := nI 0) dX7_giveBack_19 rfl ?_
  refine go_iast (g) rfl (aT_4 ht) (by omega) (by decide) dX7_giveBack_20 ?_
  refine go_iload_n dX7_giveBack_21 rfl rfl ?_
  refine go_iconst (v := (-1)) dX7_giveBack_22 rfl ?_
  refine go_icmp_eq (tgt := 46) dX7_giveBack_23 (by decide) (fun c23 => ?_) (fun c23 => ?_)
  · refine go_vret rfl dX7_giveBack_46 ?_
    have hw : h g = -1 ∨ h g = -2 := by
      rcases hr.1 g hg5 with e | e | ⟨d, hd, e⟩
      · exact Or.inr e
      · exact Or.inl e
      · rw [e, hC_nI (by omega)] at c23; exact absurd c23 (nI_neg1 (by omega))
    refine ⟨rfl, ?_, ((OT.rf.st (by omega) (by omega)).st (by omega) (by omega))⟩
    refine hT.upd_none hg hG hD (Or.inr rfl) hw (fun k hk => ?_) (fun d hd => ?_) (fun k h1 h2 => ?_) ?_ ?_
    · rcases hk with rfl | rfl | rfl <;> simp (disch := omega) only [stI_ne]
    · exact ⟨by simp (disch := omega) only [stI_ne], by simp (disch := omega) only [stI_ne]⟩
    · exact ⟨by simp (disch := omega) only [stI_ne], by simp (disch := omega) only [stI_ne]⟩
    · rw [stI_ne (by omega), stI_at]; decide
    · rw [stI_at]; decide
  · obtain ⟨d, hd, e, e2⟩ : ∃ d, d < pD P ∧ h g = nI d ∧ hC (h g) = nI d := hcase.resolve_left (fun z => c23 z.1)
    refine go_aload_n dX7_giveBack_26 rfl rfl ?_
    refine go_getR flX7_9 (fT_2 ht) dX7_giveBack_27 ?_
    refine go_iload_n dX7_giveBack_30 rfl rfl ?_
    refine go_dup2 dX7_giveBack_31 rfl rfl ?_
    refine go_iald d e2 (aT_1 ht) (by omega) (by decide) dX7_giveBack_32 ?_
    refine go_iconst (v := nI 1) dX7_giveBack_33 rfl ?_
    refine go_iadd dX7_giveBack_34 ?_
    refine go_iast d e2 (aT_1 ht) (by omega) (by decide) dX7_giveBack_35 ?_
    refine go_aload_n dX7_giveBack_36 rfl rfl ?_
    refine go_getR flX7_15 (fT_3 ht) dX7_giveBack_37 ?_
    refine go_iload_n dX7_giveBack_40 rfl rfl ?_
    refine go_dup2 dX7_giveBack_41 rfl rfl ?_
    refine go_iald d e2 (aT_2 ht) (by omega) (by decide) dX7_giveBack_42 ?_
    refine go_iconst (v := nI 1) dX7_giveBack_43 rfl ?_
    refine go_isub dX7_giveBack_44 ?_
    refine go_iast d e2 (aT_2 ht) (by omega) (by decide) dX7_giveBack_45 ?_
    refine go_vret rfl dX7_giveBack_46 ?_
    refine ⟨rfl, ?_, ((((OT.rf.st (by omega) (by omega)).st (by omega) (by omega)).st (by omega) (by omega)).st (by omega) (by omega))⟩
    obtain ⟨⟨u1, u2, u3⟩, h5, h6⟩ := hT
    refine ⟨⟨?_, ?_, ?_⟩, fun d' hd' => ?_, fun k hk => ?_⟩
    · simp (disch := omega) only [stI_ne]; exact u1
    · simp (disch := omega) only [stI_ne]; exact u2
    · simp (disch := omega) only [stI_ne]; exact u3
    · obtain ⟨q1, q2⟩ := h5 d' hd'
      have hb := cnt_back (h := h) (x := -2) (y := nI d') hg (nI_neg2 (by omega)).symm
      by_cases q : d' = d
      · subst q
        rw [if_pos e] at hb
        rw [← hb] at q1 q2
        constructor
        · simp (disch := omega) only [stI_at, stI_ne]
          rw [q1, ← nI_add]
          grind
        · simp (disch := omega) only [stI_at, stI_ne]
          rw [q2, ← nI_add]
          grind
      · have n3 : ¬ h g = nI d' := fun z => q ((nI_eq (by omega) (by omega)).mp (e.symm.trans z)).symm
        rw [if_neg n3, Nat.add_zero] at hb
        rw [hb]
        constructor
        · simp (disch := omega) only [stI_ne]; exact q1
        · simp (disch := omega) only [stI_ne]; exact q2
    · by_cases q : k = g
      · subst q
        simp (disch := omega) only [stI_at, stI_ne]
        rw [show upd h k (-2) k = -2 by simp [upd]]
        exact ⟨by decide, by decide⟩
      · simp (disch := omega) only [stI_at, stI_ne]
        simp only [upd, if_neg q]
        exact h6 k hk
set_option maxHeartbeats 1000000 in
theorem sp_joyOf {Γ : Gm} {σ : Mm} {t g : Nat} {P : Pb} {h : Nat → Int32} (ht : isT t) (hg : g < pG P) (hP : PI σ P) (hT : TI σ t P h) (hr : Rok P h) : Sp Γ 1 mX7_joyOf [rf Γ t, .int (nI g)] σ (aP (joyM P h g) σ) := by
  have hD := hP.1.2
  have hG := hP.2.1.2
  have hg5 : g < 5 := by omega
  refine sp_in (L := [some (rf Γ t), some (.int (nI g))]) rfl (Nat.le_of_ble_eq_true rfl) rfl ?_
  have hrow := (hT.2.2 g hg5).1
  have hcase := hC_row hD hr hg5
  refine go_aload_n dX7_joyOf_0 rfl rfl ?_
  refine go_getR flX7_18 (fT_4 ht) dX7_joyOf_1 ?_
  refine go_iload_n dX7_joyOf_4 rfl rfl ?_
  refine go_iald (g) rfl (aT_3 ht) (by omega) (by decide) dX7_joyOf_5 ?_
  rw [hrow]
  refine go_iconst (v := (-1)) dX7_joyOf_6 rfl ?_
  refine go_icmp_ne (tgt := 14) dX7_joyOf_7 (by decide) (fun c7 => ?_) (fun c7 => ?_)
  · obtain ⟨d, hd, e, e2⟩ : ∃ d, d < pD P ∧ h g = nI d ∧ hC (h g) = nI d := hcase.resolve_left (fun z => c7 z.1)
    refine go_aload_n dX7_joyOf_14 rfl rfl ?_
    refine go_getR flX7_32 (fT_1 ht) dX7_joyOf_15 ?_
    refine go_getR flX7_47 fs_6_0 dX7_joyOf_18 ?_
    refine go_iload_n dX7_joyOf_21 rfl rfl ?_
    refine go_aald (g) rfl (rG hg5) rt_7 dX7_joyOf_22 ?_
    refine go_getR flX7_58 (fG_0 hg5) dX7_joyOf_23 ?_
    refine go_aload_n dX7_joyOf_26 rfl rfl ?_
    refine go_getR flX7_18 (fT_4 ht) dX7_joyOf_27 ?_
    refine go_iload_n dX7_joyOf_30 rfl rfl ?_
    refine go_iald (g) rfl (aT_3 ht) (by omega) (by decide) dX7_joyOf_31 ?_
    rw [hrow]
    refine go_iald d e2 (aW hg5) (by omega) (by decide) dX7_joyOf_32 ?_
    refine go_iret rfl dX7_joyOf_33 ?_
    refine ⟨?_, rfl⟩
    rw [(hP.2.2.2 g hg).2.2 d hd]
    unfold joyM
    rw [e, if_neg (nI_pos (by omega)), nI_clamp (by omega)]
  · refine go_iconst (v := nI 0) dX7_joyOf_10 rfl ?_
    refine go_goto (tgt := 33) dX7_joyOf_11 (by decide) ?_
    refine go_iret rfl dX7_joyOf_33 ?_
    refine ⟨?_, rfl⟩
    have hl : h g < 0 := by
      rcases hcase with z | ⟨d, hd, e, e2⟩
      · exact z.2
      · rw [e2] at c7; exact absurd c7 (nI_neg1 (by omega))
    unfold joyM
    rw [if_pos hl]
    rfl
set_option maxHeartbeats 1000000 in
theorem lp_joyOfAll {Γ : Gm} {σ : Mm} {t : Nat} {P : Pb} {h : Nat → Int32} (ht : isT t) (hP : PI σ P) (hT : TI σ t P h) (hr : Rok P h) : ∀ (m g : Nat), pG P - g = m → g ≤ pG P → Go Γ 2 mX7_joyOfAll (aP (joyA P h) σ) 4 [some (rf Γ t), some (.int (sumN (joyM P h) g)), some (.int (nI g))] [] σ := by
  have hG := hP.2.1.2
  intro m
  induction m with
  | zero =>
    intro g hm hg
    have e : g = pG P := by omega
    subst e
    refine go_iload_n dX7_joyOfAll_4 rfl rfl ?_
    refine go_aload_n dX7_joyOfAll_5 rfl rfl ?_
    refine go_getR flX7_32 (fT_1 ht) dX7_joyOfAll_6 ?_
    refine go_getI flX7_90 fs_6_1 dX7_joyOfAll_9 ?_
    rw [hP.2.1.1]
    refine go_icmp_ge (tgt := 29) dX7_joyOfAll_12 (by decide) (fun c12 => ?_) (fun c12 => ?_)
    · refine go_iload_n dX7_joyOfAll_29 rfl rfl ?_
      refine go_iret rfl dX7_joyOfAll_30 ?_
      exact ⟨rfl, rfl⟩
    · exact absurd (Int32.le_refl _) c12
  | succ m ih =>
    intro g hm hg
    have hg1 : g < pG P := by omega
    refine go_iload_n dX7_joyOfAll_4 rfl rfl ?_
    refine go_aload_n dX7_joyOfAll_5 rfl rfl ?_
    refine go_getR flX7_32 (fT_1 ht) dX7_joyOfAll_6 ?_
    refine go_getI flX7_90 fs_6_1 dX7_joyOfAll_9 ?_
    rw [hP.2.1.1]
    refine go_icmp_ge (tgt := 29) dX7_joyOfAll_12 (by decide) (fun c12 => ?_) (fun c12 => ?_)
    · exact absurd c12 (nI_ge (by omega) (by omega))
    · refine go_iload_n dX7_joyOfAll_15 rfl rfl ?_
      refine go_aload_n dX7_joyOfAll_16 rfl rfl ?_
      refine go_iload_n dX7_joyOfAll_17 rfl rfl ?_
      refine go_callVp cvX7_93 (osT ht) (sp_joyOf ht hg1 hP hT hr) (by omega) rfl rfl (Nat.le_of_ble_eq_true rfl) dX7_joyOfAll_18 ?_
      refine go_iadd dX7_joyOfAll_21 ?_
      refine go_istore_n (L' := [_, _, _]) dX7_joyOfAll_22 rfl (by decide) rfl rfl ?_
      refine go_iinc (v := nI (g + 1)) (L' := [_, _, _]) dX7_joyOfAll_23 rfl (nI_1 _) (by decide) rfl rfl ?_
      refine go_goto (tgt := 4) dX7_joyOfAll_26 (by decide) ?_
      exact ih (g + 1) (by omega) (by omega)
set_option maxHeartbeats 1000000 in
theorem sp_joyOfAll {Γ : Gm} {σ : Mm} {t : Nat} {P : Pb} {h : Nat → Int32} (ht : isT t) (hP : PI σ P) (hT : TI σ t P h) (hr : Rok P h) : Sp Γ 2 mX7_joyOfAll [rf Γ t] σ (aP (joyA P h) σ) := by
  refine sp_in (L := [some (rf Γ t), none, none]) rfl (Nat.le_of_ble_eq_true rfl) rfl ?_
  refine go_iconst (v := nI 0) dX7_joyOfAll_0 rfl ?_
  refine go_istore_n (L' := [_, _, _]) dX7_joyOfAll_1 rfl (by decide) rfl rfl ?_
  refine go_iconst (v := nI 0) dX7_joyOfAll_2 rfl ?_
  refine go_istore_n (L' := [_, _, _]) dX7_joyOfAll_3 rfl (by decide) rfl rfl ?_
  exact lp_joyOfAll ht hP hT hr (pG P) 0 rfl (Nat.zero_le _)
set_option maxHeartbeats 1000000 in
theorem lp_howMany {Γ : Gm} {σ : Mm} {t : Nat} {P : Pb} {h : Nat → Int32} (ht : isT t) (hP : PI σ P) (hT : TI σ t P h) : ∀ (m g : Nat), pG P - g = m → g ≤ pG P → Go Γ 1 mX7_howManyOrdered (aP (ordN P h) σ) 4 [some (rf Γ t), some (.int (sumN (fun g => hO (h g)) g)), some (.int (nI g))] [] σ := by
  have hG := hP.2.1.2
  intro m
  induction m with
  | zero =>
    intro g hm hg
    have e : g = pG P := by omega
    subst e
    refine go_iload_n dX7_howManyOrdered_4 rfl rfl ?_
    refine go_aload_n dX7_howManyOrdered_5 rfl rfl ?_
    refine go_getR flX7_32 (fT_1 ht) dX7_howManyOrdered_6 ?_
    refine go_getI flX7_90 fs_6_1 dX7_howManyOrdered_9 ?_
    rw [hP.2.1.1]
    refine go_icmp_ge (tgt := 30) dX7_howManyOrdered_12 (by decide) (fun c12 => ?_) (fun c12 => ?_)
    · refine go_iload_n dX7_howManyOrdered_30 rfl rfl ?_
      refine go_iret rfl dX7_howManyOrdered_31 ?_
      exact ⟨rfl, rfl⟩
    · exact absurd (Int32.le_refl _) c12
  | succ m ih =>
    intro g hm hg
    have hg1 : g < pG P := by omega
    refine go_iload_n dX7_howManyOrdered_4 rfl rfl ?_
    refine go_aload_n dX7_howManyOrdered_5 rfl rfl ?_
    refine go_getR flX7_32 (fT_1 ht) dX7_howManyOrdered_6 ?_
    refine go_getI flX7_90 fs_6_1 dX7_howManyOrdered_9 ?_
    rw [hP.2.1.1]
    refine go_icmp_ge (tgt := 30) dX7_howManyOrdered_12 (by decide) (fun c12 => ?_) (fun c12 => ?_)
    · exact absurd c12 (nI_ge (by omega) (by omega))
    · refine go_iload_n dX7_howManyOrdered_15 rfl rfl ?_
      refine go_aload_n dX7_howManyOrdered_16 rfl rfl ?_
      refine go_getR flX7_21 (fT_5 ht) dX7_howManyOrdered_17 ?_
      refine go_iload_n dX7_howManyOrdered_20 rfl rfl ?_
      refine go_iald (g) rfl (aT_4 ht) (by omega) (by decide) dX7_howManyOrdered_21 ?_
      rw [(hT.2.2 g (by omega)).2]
      refine go_iadd dX7_howManyOrdered_22 ?_
      refine go_istore_n (L' := [_, _, _]) dX7_howManyOrdered_23 rfl (by decide) rfl rfl ?_
      refine go_iinc (v := nI (g + 1)) (L' := [_, _, _]) dX7_howManyOrdered_24 rfl (nI_1 _) (by decide) rfl rfl ?_
      refine go_goto (tgt := 4) dX7_howManyOrdered_27 (by decide) ?_
      exact ih (g + 1) (by omega) (by omega)
set_option maxHeartbeats 1000000 in
theorem sp_howMany {Γ : Gm} {σ : Mm} {t : Nat} {P : Pb} {h : Nat → Int32} (ht : isT t) (hP : PI σ P) (hT : TI σ t P h) : Sp Γ 1 mX7_howManyOrdered [rf Γ t] σ (aP (ordN P h) σ) := by
  refine sp_in (L := [some (rf Γ t), none, none]) rfl (Nat.le_of_ble_eq_true rfl) rfl ?_
  refine go_iconst (v := nI 0) dX7_howManyOrdered_0 rfl ?_
  refine go_istore_n (L' := [_, _, _]) dX7_howManyOrdered_1 rfl (by decide) rfl rfl ?_
  refine go_iconst (v := nI 0) dX7_howManyOrdered_2 rfl ?_
  refine go_istore_n (L' := [_, _, _]) dX7_howManyOrdered_3 rfl (by decide) rfl rfl ?_
  exact lp_howMany ht hP hT (pG P) 0 rfl (Nat.zero_le _)
set_option maxHeartbeats 1000000 in
theorem sp_press {Γ : Gm} {σ : Mm} {t : Nat} {x y : Int32} (ht : isT t) : Sp Γ 1 mX7_press [rf Γ t, .int x, .int y] σ (aV (fun σ' => σ' = stI (stI σ t 6 (if y = 0 then -1 else x)) t 7 y)) := by
  refine sp_in (L := [some (rf Γ t), some (.int x), some (.int y)]) rfl (Nat.le_of_ble_eq_true rfl) rfl ?_
  refine go_aload_n dX7_press_0 rfl rfl ?_
  refine go_iload_n dX7_press_1 rfl rfl ?_
  refine go_if_ne (tgt := 9) dX7_press_2 (by decide) (fun c2 => ?_) (fun c2 => ?_)
  · refine go_iload_n dX7_press_9 rfl rfl ?_
    refine go_putI fwX7_24 (fT_6 ht) dX7_press_10 ?_
    refine go_aload_n dX7_press_13 rfl rfl ?_
    refine go_iload_n dX7_press_14 rfl rfl ?_
    refine go_putI fwX7_41 (fT_7 ht) dX7_press_15 ?_
    refine go_vret rfl dX7_press_18 ?_
    exact ⟨rfl, by rw [if_neg c2]⟩
  · refine go_iconst (v := (-1)) dX7_press_5 rfl ?_
    refine go_goto (tgt := 10) dX7_press_6 (by decide) ?_
    refine go_putI fwX7_24 (fT_6 ht) dX7_press_10 ?_
    refine go_aload_n dX7_press_13 rfl rfl ?_
    refine go_iload_n dX7_press_14 rfl rfl ?_
    refine go_putI fwX7_41 (fT_7 ht) dX7_press_15 ?_
    refine go_vret rfl dX7_press_18 ?_
    exact ⟨rfl, by rw [if_pos c2]⟩
/-- a wiped table -/
def Wiped (t : Nat) (σ σ' : Mm) : Prop := (∀ d, d < 6 → σ'.1 (t + 1) d = σ.1 4 d ∧ σ'.1 (t + 2) d = 0) ∧ (∀ g, g < 5 → σ'.1 (t + 3) g = -1 ∧ σ'.1 (t + 4) g = 0) ∧ (∀ k, σ'.1 t k = σ.1 t k) ∧ OT t σ σ'
set_option maxHeartbeats 1000000 in
theorem lp_wipe2 {Γ : Gm} {σ : Mm} {t : Nat} (ht : isT t) : ∀ (m g : Nat) (σ' : Mm), 5 - g = m → g ≤ 5 → (∀ d, d < 6 → σ'.1 (t + 1) d = σ.1 4 d ∧ σ'.1 (t + 2) d = 0) → (∀ k, k < g → σ'.1 (t + 3) k = -1 ∧ σ'.1 (t + 4) k = 0) → (∀ k, σ'.1 t k = σ.1 t k) → OT t σ σ' → Go Γ 1 mX7_wipe (aV (Wiped t σ)) 38 [some (rf Γ t), some (.int (nI g))] [] σ' := by
  intro m
  induction m with
  | zero =>
    intro g σ' hm hg h1 h2 h3 h4
    have e : g = 5 := by omega
    subst e
    refine go_iload_n dX7_wipe_38 rfl rfl ?_
    refine go_iconst (v := nI 5) dX7_wipe_39 rfl ?_
    refine go_icmp_ge (tgt := 63) dX7_wipe_40 (by decide) (fun c40 => ?_) (fun c40 => ?_)
    · refine go_vret rfl dX7_wipe_63 ?_
      exact ⟨rfl, h1, h2, h3, h4⟩
    · exact absurd (Int32.le_refl _) c40
  | succ m ih =>
    intro g σ' hm hg h1 h2 h3 h4
    have hg1 : g < 5 := by omega
    refine go_iload_n dX7_wipe_38 rfl rfl ?_
    refine go_iconst (v := nI 5) dX7_wipe_39 rfl ?_
    refine go_icmp_ge (tgt := 63) dX7_wipe_40 (by decide) (fun c40 => ?_) (fun c40 => ?_)
    · exact absurd c40 (nI_ge (by omega) (by omega))
    · refine go_aload_n dX7_wipe_43 rfl rfl ?_
      refine go_getR flX7_18 (fT_4 ht) dX7_wipe_44 ?_
      refine go_iload_n dX7_wipe_47 rfl rfl ?_
      refine go_iconst (v := (-1)) dX7_wipe_48 rfl ?_
      refine go_iast (g) rfl (aT_3 ht) (by omega) (by decide) dX7_wipe_49 ?_
      refine go_aload_n dX7_wipe_50 rfl rfl ?_
      refine go_getR flX7_21 (fT_5 ht) dX7_wipe_51 ?_
      refine go_iload_n dX7_wipe_54 rfl rfl ?_
      refine go_iconst (v := nI 0) dX7_wipe_55 rfl ?_
      refine go_iast (g) rfl (aT_4 ht) (by omega) (by decide) dX7_wipe_56 ?_
      refine go_iinc (v := nI (g + 1)) (L' := [_, _]) dX7_wipe_57 rfl (nI_1 _) (by decide) rfl rfl ?_
      refine go_goto (tgt := 38) dX7_wipe_60 (by decide) ?_
      refine ih (g + 1) _ (by omega) (by omega) (fun d hd => ?_) (fun k hk => ?_) (fun k => ?_) ((h4.st (by omega) (by omega)).st (by omega) (by omega))
      · simp (disch := omega) only [stI_ne]; exact h1 d hd
      · by_cases q : k = g
        · subst q; simp (disch := omega) only [stI_at, stI_ne]; exact ⟨trivial, rfl⟩
        · simp (disch := omega) only [stI_ne]; exact h2 k (by omega)
      · simp (disch := omega) only [stI_ne]; exact h3 k
set_option maxHeartbeats 1000000 in
theorem lp_wipe1 {Γ : Gm} {σ : Mm} {t : Nat} (ht : isT t) : ∀ (m d : Nat) (σ' : Mm), 6 - d = m → d ≤ 6 → (∀ k, k < d → σ'.1 (t + 1) k = σ.1 4 k ∧ σ'.1 (t + 2) k = 0) → (∀ k, σ'.1 t k = σ.1 t k) → OT t σ σ' → Go Γ 1 mX7_wipe (aV (Wiped t σ)) 2 [some (rf Γ t), some (.int (nI d))] [] σ' := by
  have ht18 : 18 ≤ t := by rcases ht with rfl | rfl | rfl <;> omega
  intro m
  induction m with
  | zero =>
    intro d σ' hm hg h1 h3 h4
    have e : d = 6 := by omega
    subst e
    refine go_iload_n dX7_wipe_2 rfl rfl ?_
    refine go_bipush (v := nI 6) dX7_wipe_3 rfl ?_
    refine go_icmp_ge (tgt := 36) dX7_wipe_5 (by decide) (fun c5 => ?_) (fun c5 => ?_)
    · refine go_iconst (v := nI 0) dX7_wipe_36 rfl ?_
      refine go_istore_n (L' := [_, _]) dX7_wipe_37 rfl (by decide) rfl rfl ?_
      exact lp_wipe2 ht 5 0 σ' rfl (by omega) h1 (fun k hk => absurd hk (Nat.not_lt_zero k)) h3 h4
    · exact absurd (Int32.le_refl _) c5
  | succ m ih =>
    intro d σ' hm hg h1 h3 h4
    have hd1 : d < 6 := by omega
    have e4 : σ'.1 4 = σ.1 4 := h4.1 4 (by omega)
    refine go_iload_n dX7_wipe_2 rfl rfl ?_
    refine go_bipush (v := nI 6) dX7_wipe_3 rfl ?_
    refine go_icmp_ge (tgt := 36) dX7_wipe_5 (by decide) (fun c5 => ?_) (fun c5 => ?_)
    · exact absurd c5 (nI_ge (by omega) (by omega))
    · refine go_aload_n dX7_wipe_8 rfl rfl ?_
      refine go_getR flX7_9 (fT_2 ht) dX7_wipe_9 ?_
      refine go_iload_n dX7_wipe_12 rfl rfl ?_
      refine go_aload_n dX7_wipe_13 rfl rfl ?_
      refine go_getR flX7_28 (fT_0 ht) dX7_wipe_14 ?_
      refine go_getR flX7_36 fs_3_0 dX7_wipe_17 ?_
      refine go_iload_n dX7_wipe_20 rfl rfl ?_
      refine go_iald (d) rfl as_4 (by omega) (by decide) dX7_wipe_21 ?_
      refine go_iast (d) rfl (aT_1 ht) (by omega) (by decide) dX7_wipe_22 ?_
      refine go_aload_n dX7_wipe_23 rfl rfl ?_
      refine go_getR flX7_15 (fT_3 ht) dX7_wipe_24 ?_
      refine go_iload_n dX7_wipe_27 rfl rfl ?_
      refine go_iconst (v := nI 0) dX7_wipe_28 rfl ?_
      refine go_iast (d) rfl (aT_2 ht) (by omega) (by decide) dX7_wipe_29 ?_
      refine go_iinc (v := nI (d + 1)) (L' := [_, _]) dX7_wipe_30 rfl (nI_1 _) (by decide) rfl rfl ?_
      refine go_goto (tgt := 2) dX7_wipe_33 (by decide) ?_
      refine ih (d + 1) _ (by omega) (by omega) (fun k hk => ?_) (fun k => ?_) ((h4.st (by omega) (by omega)).st (by omega) (by omega))
      · by_cases q : k = d
        · subst q; simp (disch := omega) only [stI_at, stI_ne]; exact ⟨by rw [e4], rfl⟩
        · simp (disch := omega) only [stI_ne]; exact h1 k (by omega)
      · simp (disch := omega) only [stI_ne]; exact h3 k
set_option maxHeartbeats 1000000 in
theorem sp_wipe {Γ : Gm} {σ : Mm} {t : Nat} (ht : isT t) : Sp Γ 1 mX7_wipe [rf Γ t] σ (aV (Wiped t σ)) := by
  refine sp_in (L := [some (rf Γ t), none]) rfl (Nat.le_of_ble_eq_true rfl) rfl ?_
  refine go_iconst (v := nI 0) dX7_wipe_0 rfl ?_
  refine go_istore_n (L' := [_, _]) dX7_wipe_1 rfl (by decide) rfl rfl ?_
  exact lp_wipe1 ht 6 0 σ rfl (by omega) (fun k hk => absurd hk (Nat.not_lt_zero k)) (fun _ => rfl) OT.rf
end
section
/-! copyFrom, changesMind, allContent -/
def Copied (t u : Nat) (σ σ' : Mm) : Prop := (∀ d, d < 6 → σ'.1 (t + 1) d = σ.1 (u + 1) d ∧ σ'.1 (t + 2) d = σ.1 (u + 2) d) ∧ (∀ g, g < 5 → σ'.1 (t + 3) g = σ.1 (u + 3) g ∧ σ'.1 (t + 4) g = σ.1 (u + 4) g) ∧ (∀ k, k = 6 ∨ k = 7 ∨ k = 8 → σ'.1 t k = σ.1 u k) ∧ OT t σ σ'
theorem OT.sa {t a : Nat} {f : Nat → Int32} {σ σ' : Mm} (h : OT t σ σ') (h1 : t ≤ a) (h2 : a ≤ t + 4) : OT t σ (stA σ' a f) := ⟨fun x q => (stA_ne (by omega)).trans (h.1 x q), h.2⟩
theorem cpy_in {f g : Nat → Int32} {n k : Nat} (h : k < n) : va_cpy f g 0 0 n k = f k := by simp [va_cpy, h]
set_option maxHeartbeats 1000000 in
theorem sp_copyFrom {Γ : Gm} {σ : Mm} {t u : Nat} (ht : isT t) (hu : isT u) (htu : t + 4 < u ∨ u + 4 < t) : Sp Γ 1 mX7_copyFrom [rf Γ t, rf Γ u] σ (aV (Copied t u σ)) := by
  refine sp_in (L := [some (rf Γ t), some (rf Γ u)]) rfl (Nat.le_of_ble_eq_true rfl) rfl ?_
  refine go_aload_n dX7_copyFrom_0 rfl rfl ?_
  refine go_getR flX7_9 (fT_2 hu) dX7_copyFrom_1 ?_
  refine go_iconst (v := nI 0) dX7_copyFrom_4 rfl ?_
  refine go_aload_n dX7_copyFrom_5 rfl rfl ?_
  refine go_getR flX7_9 (fT_2 ht) dX7_copyFrom_6 ?_
  refine go_iconst (v := nI 0) dX7_copyFrom_9 rfl ?_
  refine go_bipush (v := nI 6) dX7_copyFrom_10 rfl ?_
  refine go_acopy rfl rfl rfl (aT_1 hu) (aT_1 ht) (by decide) (by decide) (by omega) (by decide) acX7_96 ac_nat ac_sta ac_ini (Nat.le_of_ble_eq_true rfl) dX7_copyFrom_12 ?_
  refine go_aload_n dX7_copyFrom_15 rfl rfl ?_
  refine go_getR flX7_15 (fT_3 hu) dX7_copyFrom_16 ?_
  refine go_iconst (v := nI 0) dX7_copyFrom_19 rfl ?_
  refine go_aload_n dX7_copyFrom_20 rfl rfl ?_
  refine go_getR flX7_15 (fT_3 ht) dX7_copyFrom_21 ?_
  refine go_iconst (v := nI 0) dX7_copyFrom_24 rfl ?_
  refine go_bipush (v := nI 6) dX7_copyFrom_25 rfl ?_
  refine go_acopy rfl rfl rfl (aT_2 hu) (aT_2 ht) (by decide) (by decide) (by omega) (by decide) acX7_96 ac_nat ac_sta ac_ini (Nat.le_of_ble_eq_true rfl) dX7_copyFrom_27 ?_
  refine go_aload_n dX7_copyFrom_30 rfl rfl ?_
  refine go_getR flX7_18 (fT_4 hu) dX7_copyFrom_31 ?_
  refine go_iconst (v := nI 0) dX7_copyFrom_34 rfl ?_
  refine go_aload_n dX7_copyFrom_35 rfl rfl ?_
  refine go_getR flX7_18 (fT_4 ht) dX7_copyFrom_36 ?_
  refine go_iconst (v := nI 0) dX7_copyFrom_39 rfl ?_
  refine go_iconst (v := nI 5) dX7_copyFrom_40 rfl ?_
  refine go_acopy rfl rfl rfl (aT_3 hu) (aT_3 ht) (by decide) (by decide) (by omega) (by decide) acX7_96 ac_nat ac_sta ac_ini (Nat.le_of_ble_eq_true rfl) dX7_copyFrom_41 ?_
  refine go_aload_n dX7_copyFrom_44 rfl rfl ?_
  refine go_getR flX7_21 (fT_5 hu) dX7_copyFrom_45 ?_
  refine go_iconst (v := nI 0) dX7_copyFrom_48 rfl ?_
  refine go_aload_n dX7_copyFrom_49 rfl rfl ?_
  refine go_getR flX7_21 (fT_5 ht) dX7_copyFrom_50 ?_
  refine go_iconst (v := nI 0) dX7_copyFrom_53 rfl ?_
  refine go_iconst (v := nI 5) dX7_copyFrom_54 rfl ?_
  refine go_acopy rfl rfl rfl (aT_4 hu) (aT_4 ht) (by decide) (by decide) (by omega) (by decide) acX7_96 ac_nat ac_sta ac_ini (Nat.le_of_ble_eq_true rfl) dX7_copyFrom_55 ?_
  refine go_aload_n dX7_copyFrom_58 rfl rfl ?_
  refine go_aload_n dX7_copyFrom_59 rfl rfl ?_
  refine go_getI flX7_24 (fT_6 hu) dX7_copyFrom_60 ?_
  refine go_putI fwX7_24 (fT_6 ht) dX7_copyFrom_63 ?_
  refine go_aload_n dX7_copyFrom_66 rfl rfl ?_
  refine go_aload_n dX7_copyFrom_67 rfl rfl ?_
  refine go_getI flX7_41 (fT_7 hu) dX7_copyFrom_68 ?_
  refine go_putI fwX7_41 (fT_7 ht) dX7_copyFrom_71 ?_
  refine go_aload_n dX7_copyFrom_74 rfl rfl ?_
  refine go_aload_n dX7_copyFrom_75 rfl rfl ?_
  refine go_getI flX7_64 (fT_8 hu) dX7_copyFrom_76 ?_
  refine go_putI fwX7_64 (fT_8 ht) dX7_copyFrom_79 ?_
  refine go_vret rfl dX7_copyFrom_82 ?_
  refine ⟨rfl, fun d hd => ?_, fun g hg => ?_, fun k hk => ?_, (((((((OT.rf.sa (by omega) (by omega)).sa (by omega) (by omega)).sa (by omega) (by omega)).sa (by omega) (by omega)).st (by omega) (by omega)).st (by omega) (by omega)).st (by omega) (by omega))⟩
  · simp (disch := omega) only [stI_ne, stA_at, stA_ne, cpy_in]
    exact ⟨trivial, trivial⟩
  · simp (disch := omega) only [stI_ne, stA_at, stA_ne, cpy_in]
    exact ⟨trivial, trivial⟩
  · rcases hk with rfl | rfl | rfl <;> simp (disch := omega) only [stI_at, stI_ne, stA_ne]
theorem sp_valueE {Γ : Gm} {σ : Mm} {t g d : Nat} {x : Int32} (ht : isT t) (hg : g < 5) (hd : d < 6) (e : x = nI d) : Sp Γ 1 mX7_value [rf Γ t, .int (nI g), .int x] σ (aP (valC σ t g d) σ) := by subst e; exact sp_value ht hg hd
theorem oth_back {P : Pb} {h : Nat → Int32} {g d : Nat} (hg : g < pG P) (hd : d < 2 ^ 31) : oth P (upd h g (-2)) g d = oth P h g d := by
  have hb := cnt_back (h := h) (x := -2) (y := nI d) hg (nI_neg2 hd).symm
  unfold oth
  rw [show upd h g (-2) g = -2 by simp [upd], if_neg (nI_neg2 hd).symm]
  by_cases q : h g = nI d
  · rw [if_pos q] at hb ⊢
    rw [← hb, ← nI_add, show nI 1 = 1 from rfl]
    grind
  · rw [if_neg q] at hb ⊢
    rw [← hb, Nat.add_zero]
theorem may_back {P : Pb} {h : Nat → Int32} {g d : Nat} (hg : g < pG P) (hd : d < 2 ^ 31) : mayM P (upd h g (-2)) g d = mayM P h g d := by unfold mayM; rw [oth_back hg hd]
theorem val_back {P : Pb} {h : Nat → Int32} {g d : Nat} (hg : g < pG P) (hd : d < 2 ^ 31) : valM P (upd h g (-2)) g d = valM P h g d := by unfold valM; rw [oth_back hg hd]
theorem best_back {P : Pb} {h : Nat → Int32} {g : Nat} (hg : g < pG P) (hD : pD P ≤ 6) : bestM P (upd h g (-2)) g = bestM P h g := by
  unfold bestM
  rw [fB_congr (pD P) (fun d hd => ⟨may_back hg (by omega), fun _ => val_back hg (by omega)⟩)]
theorem best_range {P : Pb} {h : Nat → Int32} {g : Nat} : bestM P h g = -1 ∨ ∃ d, d < pD P ∧ mayM P h g d = true ∧ bestM P h g = nI d := by
  rcases fB_range (m := mayM P h g) (v := valM P h g) (pD P) with q | ⟨d, h1, h2, h3, -⟩
  · exact Or.inl q
  · exact Or.inr ⟨d, h1, h2, h3⟩
theorem fB_none {m : Nat → Bool} {v : Nat → Int32} : ∀ n : Nat, n < 2 ^ 31 → (fB m v n).1 = -1 → ∀ d, d < n → m d = false
  | 0, _, _, d, hd => absurd hd (Nat.not_lt_zero d)
  | n + 1, hn, h, d, hd => by
    unfold fB at h
    by_cases hm : m n = true
    · rw [if_pos hm] at h
      by_cases c : (fB m v n).1 = -1 ∨ (fB m v n).2 < v n
      · rw [if_pos c] at h
        exact absurd h (nI_neg1 (by omega))
      · rw [if_neg c] at h
        exact absurd (Or.inl h) c
    · rw [if_neg hm] at h
      by_cases e : d = n
      · subst e; simpa using hm
      · exact fB_none n (by omega) h d (by omega)
/-- one changes his mind, as it is told: whether, and the row then -/
def mindB (P : Pb) (h : Nat → Int32) (g : Nat) : Bool := decide (bestM P h g ≠ -1) && (!(decide (0 ≤ h g) && decide (valM P h g (bestM P h g).toNatClampNeg ≤ valM P h g (h g).toNatClampNeg)) && decide (bestM P h g ≠ h g))
def mindR (P : Pb) (h : Nat → Int32) (g : Nat) : Nat → Int32 := if mindB P h g = true then upd h g (bestM P h g) else h
theorem upd_same (h : Nat → Int32) (g : Nat) : upd h g (h g) = h := by funext k; simp only [upd]; split <;> simp_all
theorem upd_upd (h : Nat → Int32) (g : Nat) (x y : Int32) : upd (upd h g x) g y = upd h g y := by funext k; simp only [upd]; split <;> rfl
/-- what the class does comes to the same, where what one has he may have -/
theorem mind_eq {P : Pb} {h : Nat → Int32} {g : Nat} (hD : pD P ≤ 6) (hr : h g = -1 ∨ ∃ d, d < pD P ∧ h g = nI d ∧ mayM P h g d = true) (x : Int32)
    (hx : x = if h g ≠ -1 ∧ bestM P h g ≠ -1 ∧ valM P h g (bestM P h g).toNatClampNeg ≤ valM P h g (h g).toNatClampNeg then h g else bestM P h g) : (decide (x ≠ h g)) = mindB P h g ∧ upd h g x = mindR P h g := by
  have key : (decide (x ≠ h g)) = mindB P h g := by
    unfold mindB
    rcases hr with e | ⟨d, hd, e, hm⟩
    · rw [e] at hx ⊢
      simp at hx
      subst hx
      by_cases q : bestM P h g = -1
      · simp [q]
      · have : ¬ (0 : Int32) ≤ -1 := by decide
        simp [q, this]
    · have e1 : h g ≠ -1 := by rw [e]; exact nI_neg1 (by omega)
      have e2 : 0 ≤ h g := by rw [e]; exact nI_pos' (by omega)
      have e3 : bestM P h g ≠ -1 := by
        intro q
        have := fB_none (pD P) (by omega) q d hd
        rw [hm] at this
        cases this
      by_cases c : valM P h g (bestM P h g).toNatClampNeg ≤ valM P h g (h g).toNatClampNeg
      · rw [if_pos ⟨e1, e3, c⟩] at hx
        simp [hx, c, e2]
      · rw [if_neg (fun z => c z.2.2)] at hx
        subst hx
        simp [e3, c]
  refine ⟨key, ?_⟩
  unfold mindR
  by_cases q : mindB P h g = true
  · rw [if_pos q]
    rw [q] at key
    have hne : x ≠ h g := by simpa using key
    split at hx
    · exact absurd hx hne
    · rw [hx]
  · rw [if_neg q]
    have q' : mindB P h g = false := by simpa using q
    rw [q'] at key
    have : x = h g := by simpa using key
    rw [this, upd_same]
set_option maxHeartbeats 1000000 in
theorem sp_changesMind {Γ : Gm} {σ : Mm} {t g : Nat} {P : Pb} {h : Nat → Int32} (ht : isT t) (hg : g < pG P) (hP : PI σ P) (hT : TI σ t P h) (hk : Pok P) (hr : Rok P h) (hm : h g = -1 ∨ ∃ d, d < pD P ∧ h g = nI d ∧ mayM P h g d = true) : Sp Γ 3 mX7_changesMind [rf Γ t, .int (nI g)] σ (aI (bI (mindB P h g)) (fun σ' => TI σ' t P (mindR P h g) ∧ OT t σ σ')) := by
  have hD := hP.1.2
  have hG := hP.2.1.2
  have hg5 : g < 5 := by omega
  refine sp_in (L := [some (rf Γ t), some (.int (nI g)), none, none]) rfl (Nat.le_of_ble_eq_true rfl) rfl ?_
  have hrow : σ.1 (t + 3) g = h g := by
    rw [(hT.2.2 g hg5).1]
    rcases hm with e | ⟨d, hd, e, -⟩
    · rw [e]; decide
    · rw [e]; exact hC_nI (by omega)
  have fin : ∀ (σ1 : Mm) (x : Int32), TI σ1 t P (upd h g (-2)) → OT t σ σ1 → (x = if h g ≠ -1 ∧ bestM P h g ≠ -1 ∧ valM P h g (bestM P h g).toNatClampNeg ≤ valM P h g (h g).toNatClampNeg then h g else bestM P h g) → Go Γ 3 mX7_changesMind (aI (bI (mindB P h g)) (fun σ' => TI σ' t P (mindR P h g) ∧ OT t σ σ')) 45 [some (rf Γ t), some (.int (nI g)), some (.int (h g)), some (.int x)] [] σ1 := by
    intro σ1 x hT1 hO1 hx
    obtain ⟨k1, k2⟩ := mind_eq hD hm x hx
    have hxr : x = -1 ∨ ∃ d, d < pD P ∧ x = nI d := by
      split at hx
      · rw [hx]
        rcases hm with e | ⟨d, hd, e, -⟩
        · exact Or.inl e
        · exact Or.inr ⟨d, hd, e⟩
      · rw [hx]
        rcases best_range (P := P) (h := h) (g := g) with e | ⟨d, hd, -, e⟩
        · exact Or.inl e
        · exact Or.inr ⟨d, hd, e⟩
    refine go_aload_n dX7_changesMind_45 rfl rfl ?_
    refine go_iload_n dX7_changesMind_46 rfl rfl ?_
    refine go_iload_n dX7_changesMind_47 rfl rfl ?_
    refine go_callVv cvX7_86 (osT ht) (sp_give ht hg hG hD hT1 (by simp [upd]) hxr) (by omega) rfl rfl (Nat.le_of_ble_eq_true rfl) dX7_changesMind_48 (fun σ2 q2 => ?_)
    refine go_iload_n dX7_changesMind_51 rfl rfl ?_
    refine go_iload_n dX7_changesMind_52 rfl rfl ?_
    refine go_icmp_eq (tgt := 60) dX7_changesMind_53 (by decide) (fun c53 => ?_) (fun c53 => ?_)
    · refine go_iconst (v := nI 0) dX7_changesMind_60 rfl ?_
      refine go_zret rfl dX7_changesMind_61 (by first | exact Or.inl rfl | exact Or.inr rfl | exact bI_01 _) ?_
      obtain ⟨q3, q4⟩ := q2
      rw [upd_upd, k2] at q3
      refine ⟨?_, q3, hO1.trans q4⟩
      rw [← k1]
      simp [bI, c53, nI]
    · refine go_iconst (v := nI 1) dX7_changesMind_56 rfl ?_
      refine go_goto (tgt := 61) dX7_changesMind_57 (by decide) ?_
      refine go_zret rfl dX7_changesMind_61 (by first | exact Or.inl rfl | exact Or.inr rfl | exact bI_01 _) ?_
      obtain ⟨q3, q4⟩ := q2
      rw [upd_upd, k2] at q3
      refine ⟨?_, q3, hO1.trans q4⟩
      rw [← k1]
      simp [bI, c53, nI]
  refine go_aload_n dX7_changesMind_0 rfl rfl ?_
  refine go_getR flX7_18 (fT_4 ht) dX7_changesMind_1 ?_
  refine go_iload_n dX7_changesMind_4 rfl rfl ?_
  refine go_iald (g) rfl (aT_3 ht) (by omega) (by decide) dX7_changesMind_5 ?_
  rw [hrow]
  refine go_istore_n (L' := [_, _, _, _]) dX7_changesMind_6 rfl (by decide) rfl rfl ?_
  refine go_aload_n dX7_changesMind_7 rfl rfl ?_
  refine go_iload_n dX7_changesMind_8 rfl rfl ?_
  refine go_callVv cvX7_78 (osT ht) (sp_giveBack ht hg hG hD hT hr) (by omega) rfl rfl (Nat.le_of_ble_eq_true rfl) dX7_changesMind_9 (fun σ1 q1 => ?_)
  obtain ⟨hT1, hO1⟩ := q1
  have hP1 := hP.ot ht hO1
  refine go_aload_n dX7_changesMind_12 rfl rfl ?_
  refine go_iload_n dX7_changesMind_13 rfl rfl ?_
  refine go_callVp cvX7_82 (osT ht) (sp_choice ht hg hP1 hT1 hk (by simp [upd])) (by omega) rfl rfl (Nat.le_of_ble_eq_true rfl) dX7_changesMind_14 ?_
  rw [best_back hg hD]
  refine go_istore_n (L' := [_, _, _, _]) dX7_changesMind_17 rfl (by decide) rfl rfl ?_
  refine go_iload_n dX7_changesMind_18 rfl rfl ?_
  refine go_iconst (v := (-1)) dX7_changesMind_19 rfl ?_
  refine go_icmp_eq (tgt := 45) dX7_changesMind_20 (by decide) (fun c20 => ?_) (fun c20 => ?_)
  · exact fin _ _ hT1 hO1 (by rw [if_neg (fun z => z.1 c20)])
  · refine go_iload_n dX7_changesMind_23 rfl rfl ?_
    refine go_iconst (v := (-1)) dX7_changesMind_24 rfl ?_
    refine go_icmp_eq (tgt := 45) dX7_changesMind_25 (by decide) (fun c25 => ?_) (fun c25 => ?_)
    · exact fin _ _ hT1 hO1 (by rw [if_neg (fun z => z.2.1 c25)])
    · obtain ⟨d, hd, e, -⟩ := hm.resolve_left c20
      obtain ⟨d3, hd3, -, e3⟩ := (best_range (P := P) (h := h) (g := g)).resolve_left c25
      refine go_aload_n dX7_changesMind_28 rfl rfl ?_
      refine go_iload_n dX7_changesMind_29 rfl rfl ?_
      refine go_iload_n dX7_changesMind_30 rfl rfl ?_
      refine go_callVp cvX7_74 (osT ht) (sp_valueE ht hg5 (by omega) e) (by omega) rfl rfl (Nat.le_of_ble_eq_true rfl) dX7_changesMind_31 ?_
      rw [valC_val hP1 hT1 hg hd, val_back hg (by omega)]
      refine go_aload_n dX7_changesMind_34 rfl rfl ?_
      refine go_iload_n dX7_changesMind_35 rfl rfl ?_
      refine go_iload_n dX7_changesMind_36 rfl rfl ?_
      refine go_callVp cvX7_74 (osT ht) (sp_valueE ht hg5 (by omega) e3) (by omega) rfl rfl (Nat.le_of_ble_eq_true rfl) dX7_changesMind_37 ?_
      rw [valC_val hP1 hT1 hg hd3, val_back hg (by omega)]
      refine go_icmp_lt (tgt := 45) dX7_changesMind_40 (by decide) (fun c40 => ?_) (fun c40 => ?_)
      · exact fin _ _ hT1 hO1 (by rw [if_neg (fun z => by have := z.2.2; rw [e, e3, nI_clamp (by omega), nI_clamp (by omega)] at this; exact Int32.not_lt.mpr this c40)])
      · refine go_iload_n dX7_changesMind_43 rfl rfl ?_
        refine go_istore_n (L' := [_, _, _, _]) dX7_changesMind_44 rfl (by decide) rfl rfl ?_
        exact fin _ _ hT1 hO1 (by rw [if_pos ⟨c20, c25, by rw [e, e3, nI_clamp (by omega), nI_clamp (by omega)]; exact Int32.not_lt.mp c40⟩])
end
section
/-! in turn: the row as it is laid, what holds of it -/
def gat (P : Pb) (f k : Nat) : Nat := (f + k) % pG P
def layR (P : Pb) (f : Nat) : Nat → (Nat → Int32)
  | 0 => fun _ => -2
  | k + 1 => upd (layR P f k) (gat P f k) (bestM P (layR P f k) (gat P f k))
def lay (P : Pb) (f : Nat) : Nat → Int32 := layR P f (pG P)
theorem gat_lt {P : Pb} {f k : Nat} (h : 0 < pG P) : gat P f k < pG P := Nat.mod_lt _ h
theorem gat_eq {P : Pb} {f k : Nat} (hf : f < pG P) (hk : k < pG P) : gat P f k = if f + k < pG P then f + k else f + k - pG P := by
  unfold gat
  split
  · exact Nat.mod_eq_of_lt (by assumption)
  · rw [Nat.mod_eq_sub_mod (by omega), Nat.mod_eq_of_lt (by omega)]
theorem gat_inj {P : Pb} {f j k : Nat} (hf : f < pG P) (hj : j < pG P) (hk : k < pG P) (h : gat P f j = gat P f k) : j = k := by
  rw [gat_eq hf hj, gat_eq hf hk] at h
  split at h <;> split at h <;> omega
theorem gat_sur {P : Pb} {f g : Nat} (hf : f < pG P) (hg : g < pG P) : ∃ k, k < pG P ∧ gat P f k = g := by
  by_cases h : f ≤ g
  · exact ⟨g - f, by omega, by rw [gat_eq hf (by omega), if_pos (by omega)]; omega⟩
  · exact ⟨g + pG P - f, by omega, by rw [gat_eq hf (by omega), if_neg (by omega)]; omega⟩
theorem layR_wait {P : Pb} {f : Nat} (hf : f < pG P) : ∀ k j : Nat, k ≤ j → j < pG P → layR P f k (gat P f j) = -2
  | 0, _, _, _ => rfl
  | k + 1, j, h, hj => by
    unfold layR
    have : gat P f j ≠ gat P f k := fun e => by have := gat_inj hf hj (by omega) e; omega
    simp only [upd, if_neg this]
    exact layR_wait hf k j (by omega) hj
theorem layR_out {P : Pb} {f : Nat} (hf : f < pG P) : ∀ k g : Nat, pG P ≤ g → layR P f k g = -2
  | 0, _, _ => rfl
  | k + 1, g, h => by
    unfold layR
    have := gat_lt (P := P) (f := f) (k := k) (by omega)
    simp only [upd, if_neg (show ¬ g = gat P f k by omega)]
    exact layR_out hf k g h
theorem layR_ok {P : Pb} {f : Nat} (hf : f < pG P) (k : Nat) : Rok P (layR P f k) := by
  refine ⟨fun g _ => ?_, fun g hg => layR_out hf k g hg⟩
  induction k with
  | zero => exact Or.inl rfl
  | succ k ih =>
    unfold layR
    by_cases e : g = gat P f k
    · subst e
      simp only [upd, if_true]
      rcases best_range (P := P) (h := layR P f k) (g := gat P f k) with q | ⟨d, hd, -, q⟩
      · exact Or.inr (Or.inl q)
      · exact Or.inr (Or.inr ⟨d, hd, q⟩)
    · simp only [upd, if_neg e]
      exact ih
theorem layR_set {P : Pb} {f : Nat} (hf : f < pG P) (hD : pD P ≤ 6) : ∀ k j : Nat, j < k → k ≤ pG P → layR P f k (gat P f j) ≠ -2
  | 0, _, h, _ => absurd h (Nat.not_lt_zero _)
  | k + 1, j, h, hk => by
    unfold layR
    by_cases e : j = k
    · subst e
      simp only [upd, if_true]
      rcases best_range (P := P) (h := layR P f j) (g := gat P f j) with q | ⟨d, hd, -, q⟩
      · rw [q]; decide
      · rw [q]; exact nI_neg2 (by omega)
    · have : gat P f j ≠ gat P f k := fun q => e (gat_inj hf (by omega) (by omega) q)
      simp only [upd, if_neg this]
      exact layR_set hf hD k j (by omega) (by omega)
theorem lay_set {P : Pb} {f g : Nat} (hf : f < pG P) (hD : pD P ≤ 6) (hg : g < pG P) : lay P f g ≠ -2 := by
  obtain ⟨k, hk, rfl⟩ := gat_sur hf hg
  exact layR_set hf hD _ k hk (Nat.le_refl _)
/-- what one has his purse has; of no dish more than there are -/
def Fea (P : Pb) (h : Nat → Int32) : Prop := (∀ g d, g < pG P → d < pD P → h g = nI d → pPr P d ≤ pPu P g) ∧ ∀ d k, d < pD P → pSt P d = nI k → k ≤ 9 → cnt h (nI d) (pG P) ≤ k
theorem Fea.may {P : Pb} {h : Nat → Int32} {g d : Nat} (hk : Pok P) (hG : pG P ≤ 5) (hF : Fea P h) (hg : g < pG P) (hd : d < pD P) (e : h g = nI d) : mayM P h g d = true := by
  obtain ⟨k, q, q1, q2⟩ := hk d hd
  have h1 := hF.1 g d hg hd e
  have h2 := hF.2 d k hd q q2
  have h3 : 1 ≤ cnt h (nI d) (pG P) := by
    have := cnt_back (h := h) (x := -2) (y := nI d) hg
    by_cases z : (-2 : Int32) = nI d
    · by_cases w : d < 2 ^ 31
      · exact absurd z.symm (nI_neg2 w)
      · have hc : ∀ n, g < n → 1 ≤ cnt h (nI d) n := by
          intro n
          induction n with
          | zero => intro q; omega
          | succ n ih =>
            intro q
            unfold cnt
            by_cases c : n = g
            · subst c; rw [if_pos e]; omega
            · have := ih (by omega); omega
        exact hc _ hg
    · have := this z
      rw [if_pos e] at this
      omega
  unfold mayM oth
  rw [if_pos e, q]
  simp only [h1, decide_true, Bool.true_and, decide_eq_true_eq]
  rw [show (1 : Int32) = nI 1 from rfl, pk_sub h3]
  exact nI_lt (by omega) (by omega)
theorem Fea.take {P : Pb} {h : Nat → Int32} {g : Nat} (hk : Pok P) (hG : pG P ≤ 5) (hD : pD P ≤ 6) (hF : Fea P h) (hg : g < pG P) {x : Int32} (hx : x = -1 ∨ ∃ d, d < pD P ∧ mayM P h g d = true ∧ x = nI d) : Fea P (upd h g x) := by
  refine ⟨fun a d ha hd e => ?_, fun d k hd q hk9 => ?_⟩
  · by_cases c : a = g
    · subst c
      simp only [upd, if_true] at e
      rcases hx with z | ⟨d', hd', hm, z⟩
      · rw [z] at e; exact absurd e.symm (nI_neg1 (by omega))
      · rw [z] at e
        have : d' = d := (nI_eq (by omega) (by omega)).mp e
        subst this
        unfold mayM at hm
        simp only [Bool.and_eq_true, decide_eq_true_eq] at hm
        exact hm.1
    · simp only [upd, if_neg c] at e
      exact hF.1 a d ha hd e
  · have hu := cnt_upd h g x (nI d) (pG P)
    simp only [hg, true_and] at hu
    have h2 := hF.2 d k hd q hk9
    rcases hx with z | ⟨d', hd', hm, z⟩
    · rw [if_neg (show ¬ x = nI d by rw [z]; exact (nI_neg1 (by omega)).symm)] at hu
      omega
    · by_cases c : d' = d
      · subst c
        rw [if_pos z] at hu
        unfold mayM oth at hm
        simp only [Bool.and_eq_true, decide_eq_true_eq] at hm
        rw [q] at hm
        have hc := cnt_le h (nI d') (pG P)
        by_cases w : h g = nI d'
        · rw [if_pos w] at hu
          omega
        · rw [if_neg w] at hu hm
          rw [Int32.sub_zero, nI_ltI (by omega) (by omega)] at hm
          omega
      · rw [if_neg (show ¬ x = nI d by rw [z]; exact fun y => c ((nI_eq (by omega) (by omega)).mp y))] at hu
        omega
theorem Fea.wait {P : Pb} (hD : pD P ≤ 6) : Fea P (fun _ => -2) := by
  refine ⟨fun g d _ hd e => absurd e.symm (nI_neg2 (by omega)), fun d k hd _ _ => ?_⟩
  have : ∀ n, cnt (fun _ => -2) (nI d) n = 0 := by
    intro n
    induction n with
    | zero => rfl
    | succ n ih => unfold cnt; rw [ih, if_neg (nI_neg2 (by omega)).symm]
  rw [this]
  exact Nat.zero_le k
theorem cnt_wait {d : Nat} (hd : d < 2 ^ 31) : ∀ n, cnt (fun _ => -2) (nI d) n = 0
  | 0 => rfl
  | n + 1 => by unfold cnt; rw [cnt_wait hd n, if_neg (nI_neg2 hd).symm]
theorem layR_fea {P : Pb} {f : Nat} (hf : f < pG P) (hk : Pok P) (hG : pG P ≤ 5) (hD : pD P ≤ 6) : ∀ k : Nat, Fea P (layR P f k)
  | 0 => Fea.wait hD
  | k + 1 => by
    unfold layR
    exact (layR_fea hf hk hG hD k).take hk hG hD (gat_lt (by omega)) best_range
/-- a row in which nobody waits -/
def Full (P : Pb) (h : Nat → Int32) : Prop := ∀ g, g < pG P → h g ≠ -2
theorem row_cases {P : Pb} {h : Nat → Int32} {g : Nat} (hr : Rok P h) (hf : Full P h) (hG : pG P ≤ 5) (hg : g < pG P) : h g = -1 ∨ ∃ d, d < pD P ∧ h g = nI d := (hr.1 g (by omega)).resolve_left (hf g hg)
theorem mindR_ok {P : Pb} {h : Nat → Int32} {g : Nat} (hk : Pok P) (hG : pG P ≤ 5) (hD : pD P ≤ 6) (hg : g < pG P) (hr : Rok P h) (hf : Full P h) (hF : Fea P h) : Rok P (mindR P h g) ∧ Full P (mindR P h g) ∧ Fea P (mindR P h g) := by
  unfold mindR
  split
  · refine ⟨⟨fun k hk => ?_, fun k hk => ?_⟩, fun k hk => ?_, hF.take hk hG hD hg best_range⟩
    · by_cases e : k = g
      · subst e
        simp only [upd, if_true]
        rcases best_range (P := P) (h := h) (g := k) with q | ⟨d, hd, -, q⟩
        · exact Or.inr (Or.inl q)
        · exact Or.inr (Or.inr ⟨d, hd, q⟩)
      · simp only [upd, if_neg e]; exact hr.1 k hk
    · simp only [upd, if_neg (show ¬ k = g by omega)]; exact hr.2 k hk
    · by_cases e : k = g
      · subst e
        simp only [upd, if_true]
        rcases best_range (P := P) (h := h) (g := k) with q | ⟨d, hd, -, q⟩
        · rw [q]; decide
        · rw [q]; exact nI_neg2 (by omega)
      · simp only [upd, if_neg e]; exact hf k hk
  · exact ⟨hr, hf, hF⟩
/-- a round of minds: the row and whether one has changed -/
def mr (P : Pb) (f : Nat) (h : Nat → Int32) : Nat → (Nat → Int32) × Bool
  | 0 => (h, false)
  | k + 1 => (mindR P (mr P f h k).1 (gat P f k), (mr P f h k).2 || mindB P (mr P f h k).1 (gat P f k))
theorem mr_ok {P : Pb} {f : Nat} {h : Nat → Int32} (hk : Pok P) (hG : pG P ≤ 5) (hD : pD P ≤ 6) (hf0 : f < pG P) (hr : Rok P h) (hf : Full P h) (hF : Fea P h) : ∀ k : Nat, Rok P (mr P f h k).1 ∧ Full P (mr P f h k).1 ∧ Fea P (mr P f h k).1
  | 0 => ⟨hr, hf, hF⟩
  | k + 1 => by
    obtain ⟨a, b, c⟩ := mr_ok hk hG hD hf0 hr hf hF k
    unfold mr
    exact mindR_ok hk hG hD (gat_lt (by omega)) a b c
/-- behind how many rounds nobody changes: n rounds may still come, the next is the r-th -/
def rs (P : Pb) (f : Nat) : Nat → (Nat → Int32) → Nat → Int32
  | 0, _, _ => -1
  | n + 1, h, r => if (mr P f h (pG P)).2 = true then rs P f n (mr P f h (pG P)).1 (r + 1) else nI r
def minM (P : Pb) (f : Nat) : Int32 := rs P f 20 (lay P f) 1
/-- from whom on: the first of most -/
def bfL (j : Nat → Int32) (b0 : Int32) : Nat → Int32 × Int32
  | 0 => (b0, -1)
  | k + 1 => if (bfL j b0 k).2 < j k then (nI k, j k) else bfL j b0 k
def joyF (P : Pb) (g : Int32) (f : Nat) : Int32 := if g = -1 then joyA P (lay P f) else joyM P (lay P f) g.toNatClampNeg
def setLo (P : Pb) (x : Int32) : Pb := (P.1, P.2.1, x, P.2.2.2)
def setUr (P : Pb) (u m : Int32) : Pb := (P.1, P.2.1, P.2.2.1, u, m, P.2.2.2.2.2)
def setWa (P : Pb) (g d : Nat) (v : Int32) : Pb := (P.1, P.2.1, P.2.2.1, P.2.2.2.1, P.2.2.2.2.1, P.2.2.2.2.2.1, P.2.2.2.2.2.2.1, P.2.2.2.2.2.2.2.1, P.2.2.2.2.2.2.2.2.1, fun a b => if a = g ∧ b = d then v else P.2.2.2.2.2.2.2.2.2 a b)
def allB (f : Nat → Bool) : Nat → Bool
  | 0 => true
  | n + 1 => allB f n && f n
end
section
/-! the class's Party.behind and Forecast: setting up, going round, what is asked of it -/
theorem isT18 : isT 18 := Or.inl rfl
theorem isT36 : isT 36 := Or.inr (Or.inl rfl)
theorem isT49 : isT 49 := Or.inr (Or.inr rfl)
set_option maxHeartbeats 1000000 in
theorem sp_behind {Γ : Gm} {σ : Mm} {P : Pb} {f k : Nat} (hP : PI σ P) (hf : f < pG P) (hk : k < pG P) : Sp Γ 1 mX6_behind [rf Γ 6, .int (nI f), .int (nI k)] σ (aP (nI (gat P f k)) σ) := by
  have hG := hP.2.1.2
  refine sp_in (L := [some (rf Γ 6), some (.int (nI f)), some (.int (nI k)), none]) rfl (Nat.le_of_ble_eq_true rfl) rfl ?_
  refine go_iload_n dX6_behind_0 rfl rfl ?_
  refine go_iload_n dX6_behind_1 rfl rfl ?_
  refine go_iadd dX6_behind_2 ?_
  refine go_istore_n (L' := [_, _, _, _]) dX6_behind_3 rfl (by decide) rfl rfl ?_
  refine go_iload_n dX6_behind_4 rfl rfl ?_
  refine go_aload_n dX6_behind_5 rfl rfl ?_
  refine go_getI flX6_18 fs_6_1 dX6_behind_6 ?_
  rw [hP.2.1.1]
  refine go_icmp_ge (tgt := 16) dX6_behind_9 (by decide) (fun c9 => ?_) (fun c9 => ?_)
  · refine go_iload_n dX6_behind_16 rfl rfl ?_
    refine go_aload_n dX6_behind_17 rfl rfl ?_
    refine go_getI flX6_18 fs_6_1 dX6_behind_18 ?_
    rw [hP.2.1.1]
    refine go_isub dX6_behind_21 ?_
    refine go_iret rfl dX6_behind_22 ?_
    refine ⟨?_, rfl⟩
    rw [nI_add] at c9 ⊢
    have c := (nI_leI (by omega) (by omega)).mp c9
    rw [gat_eq hf hk, if_neg (by omega), pk_sub c]
  · refine go_iload_n dX6_behind_12 rfl rfl ?_
    refine go_goto (tgt := 22) dX6_behind_13 (by decide) ?_
    refine go_iret rfl dX6_behind_22 ?_
    refine ⟨?_, rfl⟩
    rw [nI_add] at c9 ⊢
    have c : ¬ pG P ≤ f + k := fun z => c9 (nI_le z (by omega))
    rw [gat_eq hf hk, if_pos (by omega)]
/-- what the forecast is set up from -/
def SU (σ : Mm) (P : Pb) : Prop := PI σ P ∧ σ.1 3 3 = pLo P ∧ σ.1 18 6 = pUr P ∧ σ.1 18 7 = pMu P ∧ (pMu P = 0 → pUr P = -1)
theorem SU.ot {σ σ' : Mm} {P : Pb} (h : OT 36 σ σ') (hS : SU σ P) : SU σ' P := by
  obtain ⟨a, b, c, d, e⟩ := hS
  exact ⟨a.ot isT36 h, by rw [h.1 3 (by omega)]; exact b, by rw [h.1 18 (by omega)]; exact c, by rw [h.1 18 (by omega)]; exact d, e⟩
set_option maxHeartbeats 1000000 in
theorem sp_setUp {Γ : Gm} {σ : Mm} {P : Pb} (hS : SU σ P) : Sp Γ 2 mX0_setUp [rf Γ 27] σ (aV (fun σ' => TI σ' 36 P (fun _ => -2) ∧ OT 36 σ σ')) := by
  obtain ⟨hP, hlo, hur, hmu, hz⟩ := id hS
  refine sp_in (L := [some (rf Γ 27)]) rfl (Nat.le_of_ble_eq_true rfl) rfl ?_
  refine go_aload_n dX0_setUp_0 rfl rfl ?_
  refine go_getR flX0_40 fs_27_3 dX0_setUp_1 ?_
  refine go_callVv cvX0_43 os_36 (sp_wipe isT36) (by omega) rfl rfl (Nat.le_of_ble_eq_true rfl) dX0_setUp_4 (fun σ1 q1 => ?_)
  obtain ⟨w1, w2, w3, w4⟩ := q1
  refine go_aload_n dX0_setUp_7 rfl rfl ?_
  refine go_getR flX0_40 fs_27_3 dX0_setUp_8 ?_
  refine go_aload_n dX0_setUp_11 rfl rfl ?_
  refine go_getR flX0_23 fs_27_0 dX0_setUp_12 ?_
  refine go_getI flX0_46 fs_3_3 dX0_setUp_15 ?_
  refine go_putI fwX0_52 fs_36_8 dX0_setUp_18 ?_
  refine go_aload_n dX0_setUp_21 rfl rfl ?_
  refine go_getR flX0_40 fs_27_3 dX0_setUp_22 ?_
  refine go_aload_n dX0_setUp_25 rfl rfl ?_
  refine go_getR flX0_31 fs_27_2 dX0_setUp_26 ?_
  refine go_getI flX0_53 fs_18_6 dX0_setUp_29 ?_
  refine go_aload_n dX0_setUp_32 rfl rfl ?_
  refine go_getR flX0_31 fs_27_2 dX0_setUp_33 ?_
  refine go_getI flX0_56 fs_18_7 dX0_setUp_36 ?_
  refine go_callVv cvX0_59 os_36 (sp_press isT36) (by omega) rfl rfl (Nat.le_of_ble_eq_true rfl) dX0_setUp_39 (fun σ2 q2 => ?_)
  refine go_vret rfl dX0_setUp_42 ?_
  subst q2
  have hlo1 : σ1.1 3 3 = pLo P := by rw [w4.1 3 (by omega)]; exact hlo
  have e6 : (stI σ1 36 8 (σ1.1 3 3)).1 18 6 = pUr P := by rw [stI_ne (by omega), w4.1 18 (by omega)]; exact hur
  have e7 : (stI σ1 36 8 (σ1.1 3 3)).1 18 7 = pMu P := by rw [stI_ne (by omega), w4.1 18 (by omega)]; exact hmu
  refine ⟨rfl, ⟨⟨?_, ?_, ?_⟩, fun d hd => ?_, fun g hg => ?_⟩, ((w4.st (by omega) (by omega)).st (by omega) (by omega)).st (by omega) (by omega)⟩
  · simp (disch := omega) only [stI_at, stI_ne]
    rw [w4.1 18 (by omega), hmu, hur]
    split
    · rename_i q; exact (hz q).symm
    · rfl
  · simp (disch := omega) only [stI_at, stI_ne]
    rw [w4.1 18 (by omega)]; exact hmu
  · simp (disch := omega) only [stI_at, stI_ne]
    exact hlo1
  · have hd6 : d < 6 := by have := hP.1.2; omega
    simp (disch := omega) only [stI_at, stI_ne]
    rw [(w1 d hd6).1, (w1 d hd6).2, cnt_wait (by omega), (hP.2.2.1 d hd).1]
    exact ⟨by rw [show nI 0 = 0 from rfl, Int32.sub_zero], rfl⟩
  · simp (disch := omega) only [stI_at, stI_ne]
    rw [(w2 g hg).1, (w2 g hg).2]
    exact ⟨by decide, by decide⟩
set_option maxHeartbeats 1000000 in
theorem lp_goRound {Γ : Gm} {σ : Mm} {P : Pb} {f : Nat} (hP : PI σ P) (hk : Pok P) (hf : f < pG P) : ∀ (m k : Nat) (σ' : Mm), pG P - k = m → k ≤ pG P → TI σ' 36 P (layR P f k) → OT 36 σ σ' → Go Γ 3 mX0_goRound (aV (fun σ' => TI σ' 36 P (lay P f) ∧ OT 36 σ σ')) 2 [some (rf Γ 27), some (.int (nI f)), some (.int (nI k)), none] [] σ' := by
  have hD := hP.1.2
  have hG := hP.2.1.2
  intro m
  induction m with
  | zero =>
    intro k σ' hm hk1 hT hO
    have e : k = pG P := by omega
    subst e
    have hP' := hP.ot isT36 hO
    refine go_iload_n dX0_goRound_2 rfl rfl ?_
    refine go_aload_n dX0_goRound_3 rfl rfl ?_
    refine go_getR flX0_27 fs_27_1 dX0_goRound_4 ?_
    refine go_getI flX0_63 fs_6_1 dX0_goRound_7 ?_
    rw [hP'.2.1.1]
    refine go_icmp_ge (tgt := 45) dX0_goRound_10 (by decide) (fun c10 => ?_) (fun c10 => ?_)
    · refine go_vret rfl dX0_goRound_45 ?_
      exact ⟨rfl, hT, hO⟩
    · exact absurd (Int32.le_refl _) c10
  | succ m ih =>
    intro k σ' hm hk1 hT hO
    have hk2 : k < pG P := by omega
    have hP' := hP.ot isT36 hO
    have hg := gat_lt (P := P) (f := f) (k := k) (by omega)
    have hw := layR_wait hf k k (Nat.le_refl _) hk2
    have hx : bestM P (layR P f k) (gat P f k) = -1 ∨ ∃ d, d < pD P ∧ bestM P (layR P f k) (gat P f k) = nI d := by
      rcases best_range (P := P) (h := layR P f k) (g := gat P f k) with q | ⟨d, hd, -, q⟩
      · exact Or.inl q
      · exact Or.inr ⟨d, hd, q⟩
    refine go_iload_n dX0_goRound_2 rfl rfl ?_
    refine go_aload_n dX0_goRound_3 rfl rfl ?_
    refine go_getR flX0_27 fs_27_1 dX0_goRound_4 ?_
    refine go_getI flX0_63 fs_6_1 dX0_goRound_7 ?_
    rw [hP'.2.1.1]
    refine go_icmp_ge (tgt := 45) dX0_goRound_10 (by decide) (fun c10 => ?_) (fun c10 => ?_)
    · exact absurd c10 (nI_ge (by omega) (by omega))
    · refine go_aload_n dX0_goRound_13 rfl rfl ?_
      refine go_getR flX0_27 fs_27_1 dX0_goRound_14 ?_
      refine go_iload_n dX0_goRound_17 rfl rfl ?_
      refine go_iload_n dX0_goRound_18 rfl rfl ?_
      refine go_callVp cvX0_68 os_6 (sp_behind hP' hf hk2) (by omega) rfl rfl (Nat.le_of_ble_eq_true rfl) dX0_goRound_19 ?_
      refine go_istore_n (L' := [_, _, _, _]) dX0_goRound_22 rfl (by decide) rfl rfl ?_
      refine go_aload_n dX0_goRound_23 rfl rfl ?_
      refine go_getR flX0_40 fs_27_3 dX0_goRound_24 ?_
      refine go_iload_n dX0_goRound_27 rfl rfl ?_
      refine go_aload_n dX0_goRound_28 rfl rfl ?_
      refine go_getR flX0_40 fs_27_3 dX0_goRound_29 ?_
      refine go_iload_n dX0_goRound_32 rfl rfl ?_
      refine go_callVp cvX0_72 os_36 (sp_choice isT36 hg hP' hT hk hw) (by omega) rfl rfl (Nat.le_of_ble_eq_true rfl) dX0_goRound_33 ?_
      refine go_callVv cvX0_76 os_36 (sp_give isT36 hg hG hD hT hw hx) (by omega) rfl rfl (Nat.le_of_ble_eq_true rfl) dX0_goRound_36 (fun σ2 q2 => ?_)
      refine go_iinc (v := nI (k + 1)) (L' := [_, _, _, _]) dX0_goRound_39 rfl (nI_1 _) (by decide) rfl rfl ?_
      refine go_goto (tgt := 2) dX0_goRound_42 (by decide) ?_
      exact go_sub [true, true, true, false] rfl (ih (k + 1) σ2 (by omega) (by omega) q2.1 (hO.trans q2.2))
set_option maxHeartbeats 1000000 in
theorem sp_goRound {Γ : Gm} {σ : Mm} {P : Pb} {f : Nat} (hP : PI σ P) (hk : Pok P) (hf : f < pG P) (hT : TI σ 36 P (fun _ => -2)) : Sp Γ 3 mX0_goRound [rf Γ 27, .int (nI f)] σ (aV (fun σ' => TI σ' 36 P (lay P f) ∧ OT 36 σ σ')) := by
  refine sp_in (L := [some (rf Γ 27), some (.int (nI f)), none, none]) rfl (Nat.le_of_ble_eq_true rfl) rfl ?_
  refine go_iconst (v := nI 0) dX0_goRound_0 rfl ?_
  refine go_istore_n (L' := [_, _, _, _]) dX0_goRound_1 rfl (by decide) rfl rfl ?_
  exact lp_goRound hP hk hf (pG P) 0 σ rfl (Nat.zero_le _) hT OT.rf
theorem lay_ok {P : Pb} {f : Nat} (hf : f < pG P) : Rok P (lay P f) := layR_ok hf _
theorem lay_full {P : Pb} {f : Nat} (hf : f < pG P) (hD : pD P ≤ 6) : Full P (lay P f) := fun _ hg => lay_set hf hD hg
theorem hC_full {P : Pb} {h : Nat → Int32} {g : Nat} (hf : Full P h) (hg : g < pG P) : hC (h g) = h g := by unfold hC; rw [if_neg (hf g hg)]
set_option maxHeartbeats 1000000 in
theorem sp_dishInTurn {Γ : Gm} {σ : Mm} {P : Pb} {f g : Nat} (hS : SU σ P) (hk : Pok P) (hf : f < pG P) (hg : g < pG P) : Sp Γ 4 mX0_dishInTurn [rf Γ 27, .int (nI f), .int (nI g)] σ (aI (lay P f g) (OT 36 σ)) := by
  have hG := hS.1.2.1.2
  refine sp_in (L := [some (rf Γ 27), some (.int (nI f)), some (.int (nI g))]) rfl (Nat.le_of_ble_eq_true rfl) rfl ?_
  refine go_aload_n dX0_dishInTurn_0 rfl rfl ?_
  refine go_callVv cvX0_79 os_27 (sp_setUp hS) (by omega) rfl rfl (Nat.le_of_ble_eq_true rfl) dX0_dishInTurn_1 (fun σ1 q1 => ?_)
  refine go_aload_n dX0_dishInTurn_4 rfl rfl ?_
  refine go_iload_n dX0_dishInTurn_5 rfl rfl ?_
  refine go_callVv cvX0_82 os_27 (sp_goRound (hS.ot q1.2).1 hk hf q1.1) (by omega) rfl rfl (Nat.le_of_ble_eq_true rfl) dX0_dishInTurn_6 (fun σ2 q2 => ?_)
  refine go_aload_n dX0_dishInTurn_9 rfl rfl ?_
  refine go_getR flX0_40 fs_27_3 dX0_dishInTurn_10 ?_
  refine go_getR flX0_86 fs_36_4 dX0_dishInTurn_13 ?_
  refine go_iload_n dX0_dishInTurn_16 rfl rfl ?_
  refine go_iald (g) rfl as_39 (by omega) (by decide) dX0_dishInTurn_17 ?_
  refine go_iret rfl dX0_dishInTurn_18 ?_
  refine ⟨?_, q1.2.trans q2.2⟩
  rw [(q2.1.2.2 g (by omega)).1, hC_full (lay_full hf hS.1.1.2) hg]
set_option maxHeartbeats 1000000 in
theorem sp_joyFrom {Γ : Gm} {σ : Mm} {P : Pb} {f : Nat} {g : Int32} (hS : SU σ P) (hk : Pok P) (hf : f < pG P) (hg : g = -1 ∨ ∃ k, k < pG P ∧ g = nI k) : Sp Γ 4 mX0_joyFrom [rf Γ 27, .int (nI f), .int g] σ (aI (joyF P g f) (OT 36 σ)) := by
  have hG := hS.1.2.1.2
  refine sp_in (L := [some (rf Γ 27), some (.int (nI f)), some (.int g)]) rfl (Nat.le_of_ble_eq_true rfl) rfl ?_
  refine go_aload_n dX0_joyFrom_0 rfl rfl ?_
  refine go_callVv cvX0_79 os_27 (sp_setUp hS) (by omega) rfl rfl (Nat.le_of_ble_eq_true rfl) dX0_joyFrom_1 (fun σ1 q1 => ?_)
  refine go_aload_n dX0_joyFrom_4 rfl rfl ?_
  refine go_iload_n dX0_joyFrom_5 rfl rfl ?_
  refine go_callVv cvX0_82 os_27 (sp_goRound (hS.ot q1.2).1 hk hf q1.1) (by omega) rfl rfl (Nat.le_of_ble_eq_true rfl) dX0_joyFrom_6 (fun σ2 q2 => ?_)
  refine go_iload_n dX0_joyFrom_9 rfl rfl ?_
  refine go_iconst (v := (-1)) dX0_joyFrom_10 rfl ?_
  refine go_icmp_ne (tgt := 24) dX0_joyFrom_11 (by decide) (fun c11 => ?_) (fun c11 => ?_)
  · obtain ⟨k, hk1, e⟩ := hg.resolve_left c11
    subst e
    refine go_aload_n dX0_joyFrom_24 rfl rfl ?_
    refine go_getR flX0_40 fs_27_3 dX0_joyFrom_25 ?_
    refine go_iload_n dX0_joyFrom_28 rfl rfl ?_
    refine go_callVp cvX0_93 os_36 (sp_joyOf isT36 hk1 (hS.ot (q1.2.trans q2.2)).1 q2.1 (lay_ok hf)) (by omega) rfl rfl (Nat.le_of_ble_eq_true rfl) dX0_joyFrom_29 ?_
    refine go_iret rfl dX0_joyFrom_32 ?_
    exact ⟨by unfold joyF; rw [if_neg c11, nI_clamp (by omega)], q1.2.trans q2.2⟩
  · refine go_aload_n dX0_joyFrom_14 rfl rfl ?_
    refine go_getR flX0_40 fs_27_3 dX0_joyFrom_15 ?_
    refine go_callVp cvX0_89 os_36 (sp_joyOfAll isT36 (hS.ot (q1.2.trans q2.2)).1 q2.1 (lay_ok hf)) (by omega) rfl rfl (Nat.le_of_ble_eq_true rfl) dX0_joyFrom_18 ?_
    refine go_goto (tgt := 32) dX0_joyFrom_21 (by decide) ?_
    refine go_iret rfl dX0_joyFrom_32 ?_
    exact ⟨by unfold joyF; rw [if_pos c11], q1.2.trans q2.2⟩
set_option maxHeartbeats 1000000 in
theorem lp_bestFirst {Γ : Gm} {σ : Mm} {P : Pb} {g : Int32} (hS : SU σ P) (hk : Pok P) (hg : g = -1 ∨ ∃ k, k < pG P ∧ g = nI k) : ∀ (m f : Nat) (σ' : Mm), pG P - f = m → f ≤ pG P → OT 36 σ σ' → Go Γ 5 mX0_bestFirst (aI (bfL (joyF P g) 0 (pG P)).1 (OT 36 σ)) 7 [some (rf Γ 27), some (.int g), some (.int (bfL (joyF P g) 0 f).1), some (.int (bfL (joyF P g) 0 f).2), some (.int (nI f)), none] [] σ' := by
  have hG := hS.1.2.1.2
  intro m
  induction m with
  | zero =>
    intro f σ' hm hf hO
    have e : f = pG P := by omega
    subst e
    refine go_iload dX0_bestFirst_7 rfl ?_
    refine go_aload_n dX0_bestFirst_9 rfl rfl ?_
    refine go_getR flX0_27 fs_27_1 dX0_bestFirst_10 ?_
    refine go_getI flX0_63 fs_6_1 dX0_bestFirst_13 ?_
    rw [(hS.ot hO).1.2.1.1]
    refine go_icmp_ge (tgt := 46) dX0_bestFirst_16 (by decide) (fun c16 => ?_) (fun c16 => ?_)
    · refine go_iload_n dX0_bestFirst_46 rfl rfl ?_
      refine go_iret rfl dX0_bestFirst_47 ?_
      exact ⟨rfl, hO⟩
    · exact absurd (Int32.le_refl _) c16
  | succ m ih =>
    intro f σ' hm hf hO
    have hf1 : f < pG P := by omega
    refine go_iload dX0_bestFirst_7 rfl ?_
    refine go_aload_n dX0_bestFirst_9 rfl rfl ?_
    refine go_getR flX0_27 fs_27_1 dX0_bestFirst_10 ?_
    refine go_getI flX0_63 fs_6_1 dX0_bestFirst_13 ?_
    rw [(hS.ot hO).1.2.1.1]
    refine go_icmp_ge (tgt := 46) dX0_bestFirst_16 (by decide) (fun c16 => ?_) (fun c16 => ?_)
    · exact absurd c16 (nI_ge (by omega) (by omega))
    · refine go_aload_n dX0_bestFirst_19 rfl rfl ?_
      refine go_iload dX0_bestFirst_20 rfl ?_
      refine go_iload_n dX0_bestFirst_22 rfl rfl ?_
      refine go_callVi cvX0_96 os_27 (sp_joyFrom (hS.ot hO) hk hf1 hg) (by omega) rfl rfl (Nat.le_of_ble_eq_true rfl) dX0_bestFirst_23 (fun σ2 q2 => ?_)
      refine go_istore (L' := [_, _, _, _, _, _]) dX0_bestFirst_26 (by decide) rfl rfl ?_
      refine go_iload dX0_bestFirst_28 rfl ?_
      refine go_iload_n dX0_bestFirst_30 rfl rfl ?_
      refine go_icmp_le (tgt := 40) dX0_bestFirst_31 (by decide) (fun c31 => ?_) (fun c31 => ?_)
      · refine go_iinc (v := nI (f + 1)) (L' := [_, _, _, _, _, _]) dX0_bestFirst_40 rfl (nI_1 _) (by decide) rfl rfl ?_
        refine go_goto (tgt := 7) dX0_bestFirst_43 (by decide) ?_
        have e2 : bfL (joyF P g) 0 (f + 1) = bfL (joyF P g) 0 f := by conv => lhs; unfold bfL; rw [if_neg (Int32.not_lt.mpr c31)]
        have := ih (f + 1) σ2 (by omega) (by omega) (hO.trans q2)
        rw [e2] at this
        exact go_sub [true, true, true, true, true, false] rfl this
      · refine go_iload dX0_bestFirst_34 rfl ?_
        refine go_istore_n (L' := [_, _, _, _, _, _]) dX0_bestFirst_36 rfl (by decide) rfl rfl ?_
        refine go_iload dX0_bestFirst_37 rfl ?_
        refine go_istore_n (L' := [_, _, _, _, _, _]) dX0_bestFirst_39 rfl (by decide) rfl rfl ?_
        refine go_iinc (v := nI (f + 1)) (L' := [_, _, _, _, _, _]) dX0_bestFirst_40 rfl (nI_1 _) (by decide) rfl rfl ?_
        refine go_goto (tgt := 7) dX0_bestFirst_43 (by decide) ?_
        have e2 : bfL (joyF P g) 0 (f + 1) = (nI f, joyF P g f) := by conv => lhs; unfold bfL; rw [if_pos (Int32.not_le.mp c31)]
        have := ih (f + 1) σ2 (by omega) (by omega) (hO.trans q2)
        rw [e2] at this
        exact go_sub [true, true, true, true, true, false] rfl this
set_option maxHeartbeats 1000000 in
theorem sp_bestFirst {Γ : Gm} {σ : Mm} {P : Pb} {g : Int32} (hS : SU σ P) (hk : Pok P) (hg : g = -1 ∨ ∃ k, k < pG P ∧ g = nI k) : Sp Γ 5 mX0_bestFirst [rf Γ 27, .int g] σ (aI (bfL (joyF P g) 0 (pG P)).1 (OT 36 σ)) := by
  refine sp_in (L := [some (rf Γ 27), some (.int g), none, none, none, none]) rfl (Nat.le_of_ble_eq_true rfl) rfl ?_
  refine go_iconst (v := nI 0) dX0_bestFirst_0 rfl ?_
  refine go_istore_n (L' := [_, _, _, _, _, _]) dX0_bestFirst_1 rfl (by decide) rfl rfl ?_
  refine go_iconst (v := (-1)) dX0_bestFirst_2 rfl ?_
  refine go_istore_n (L' := [_, _, _, _, _, _]) dX0_bestFirst_3 rfl (by decide) rfl rfl ?_
  refine go_iconst (v := nI 0) dX0_bestFirst_4 rfl ?_
  refine go_istore (L' := [_, _, _, _, _, _]) dX0_bestFirst_5 (by decide) rfl rfl ?_
  exact lp_bestFirst hS hk hg (pG P) 0 σ rfl (Nat.zero_le _) OT.rf
set_option maxHeartbeats 1000000 in
theorem lp_rounds2 {Γ : Gm} {σ : Mm} {P : Pb} {f n r : Nat} {h : Nat → Int32} (hP : PI σ P) (hk : Pok P) (hf : f < pG P) (hr : Rok P h) (hfu : Full P h) (hF : Fea P h)
    (next : ∀ σ', (mr P f h (pG P)).2 = true → TI σ' 36 P (mr P f h (pG P)).1 → OT 36 σ σ' → Go Γ 5 mX0_roundsTillSettled (aI (rs P f n (mr P f h (pG P)).1 (r + 1)) (OT 36 σ)) 11 [some (rf Γ 27), some (.int (nI f)), some (.int (nI (r + 1))), none, none] [] σ') :
    ∀ (m k : Nat) (σ' : Mm), pG P - k = m → k ≤ pG P → TI σ' 36 P (mr P f h k).1 → OT 36 σ σ' → Go Γ 5 mX0_roundsTillSettled (aI (rs P f (n + 1) h r) (OT 36 σ)) 22 [some (rf Γ 27), some (.int (nI f)), some (.int (nI r)), some (.int (bI (mr P f h k).2)), some (.int (nI k))] [] σ' := by
  have hD := hP.1.2
  have hG := hP.2.1.2
  intro m
  induction m with
  | zero =>
    intro k σ' hm hk1 hT hO
    have e : k = pG P := by omega
    subst e
    have hP' := hP.ot isT36 hO
    refine go_iload dX0_roundsTillSettled_22 rfl ?_
    refine go_aload_n dX0_roundsTillSettled_24 rfl rfl ?_
    refine go_getR flX0_27 fs_27_1 dX0_roundsTillSettled_25 ?_
    refine go_getI flX0_63 fs_6_1 dX0_roundsTillSettled_28 ?_
    rw [hP'.2.1.1]
    refine go_icmp_ge (tgt := 62) dX0_roundsTillSettled_31 (by decide) (fun c31 => ?_) (fun c31 => ?_)
    · refine go_iload_n dX0_roundsTillSettled_62 rfl rfl ?_
      refine go_if_ne (tgt := 68) dX0_roundsTillSettled_63 (by decide) (fun c63 => ?_) (fun c63 => ?_)
      · refine go_iinc (v := nI (r + 1)) (L' := [_, _, _, _, _]) dX0_roundsTillSettled_68 rfl (nI_1 _) (by decide) rfl rfl ?_
        refine go_goto (tgt := 11) dX0_roundsTillSettled_71 (by decide) ?_
        have e1 : rs P f (n + 1) h r = rs P f n (mr P f h (pG P)).1 (r + 1) := by conv => lhs; unfold rs; rw [if_pos (bI_ne0.mp c63)]
        rw [e1]
        exact go_sub [true, true, true, false, false] rfl (next σ' (bI_ne0.mp c63) hT hO)
      · refine go_iload_n dX0_roundsTillSettled_66 rfl rfl ?_
        refine go_iret rfl dX0_roundsTillSettled_67 ?_
        refine ⟨?_, hO⟩
        unfold rs
        rw [if_neg (by rw [bI_eq0.mp c63]; decide)]
    · exact absurd (Int32.le_refl _) c31
  | succ m ih =>
    intro k σ' hm hk1 hT hO
    have hk2 : k < pG P := by omega
    have hP' := hP.ot isT36 hO
    have hg := gat_lt (P := P) (f := f) (k := k) (by omega)
    obtain ⟨o1, o2, o3⟩ := mr_ok hk hG hD hf hr hfu hF k
    have hm3 : (mr P f h k).1 (gat P f k) = -1 ∨ ∃ d, d < pD P ∧ (mr P f h k).1 (gat P f k) = nI d ∧ mayM P (mr P f h k).1 (gat P f k) d = true := by
      rcases row_cases o1 o2 hG hg with q | ⟨d, hd, q⟩
      · exact Or.inl q
      · exact Or.inr ⟨d, hd, q, o3.may hk hG hg hd q⟩
    refine go_iload dX0_roundsTillSettled_22 rfl ?_
    refine go_aload_n dX0_roundsTillSettled_24 rfl rfl ?_
    refine go_getR flX0_27 fs_27_1 dX0_roundsTillSettled_25 ?_
    refine go_getI flX0_63 fs_6_1 dX0_roundsTillSettled_28 ?_
    rw [hP'.2.1.1]
    refine go_icmp_ge (tgt := 62) dX0_roundsTillSettled_31 (by decide) (fun c31 => ?_) (fun c31 => ?_)
    · exact absurd c31 (nI_ge (by omega) (by omega))
    · refine go_aload_n dX0_roundsTillSettled_34 rfl rfl ?_
      refine go_getR flX0_40 fs_27_3 dX0_roundsTillSettled_35 ?_
      refine go_aload_n dX0_roundsTillSettled_38 rfl rfl ?_
      refine go_getR flX0_27 fs_27_1 dX0_roundsTillSettled_39 ?_
      refine go_iload_n dX0_roundsTillSettled_42 rfl rfl ?_
      refine go_iload dX0_roundsTillSettled_43 rfl ?_
      refine go_callVp cvX0_68 os_6 (sp_behind hP' hf hk2) (by omega) rfl rfl (Nat.le_of_ble_eq_true rfl) dX0_roundsTillSettled_45 ?_
      refine go_callVi cvX0_127 os_36 (sp_changesMind isT36 hg hP' hT hk o1 hm3) (by omega) rfl rfl (Nat.le_of_ble_eq_true rfl) dX0_roundsTillSettled_48 (fun σ2 q2 => ?_)
      refine go_if_eq (tgt := 56) dX0_roundsTillSettled_51 (by decide) (fun c51 => ?_) (fun c51 => ?_)
      · refine go_iinc (v := nI (k + 1)) (L' := [_, _, _, _, _]) dX0_roundsTillSettled_56 rfl (nI_1 _) (by decide) rfl rfl ?_
        refine go_goto (tgt := 22) dX0_roundsTillSettled_59 (by decide) ?_
        have := ih (k + 1) σ2 (by omega) (by omega) q2.1 (hO.trans q2.2)
        rw [show (mr P f h (k + 1)).2 = (mr P f h k).2 by conv => lhs; unfold mr; simp [bI_eq0.mp c51]] at this
        exact this
      · refine go_iconst (v := nI 1) dX0_roundsTillSettled_54 rfl ?_
        refine go_istore_n (L' := [_, _, _, _, _]) dX0_roundsTillSettled_55 rfl (by decide) rfl rfl ?_
        refine go_iinc (v := nI (k + 1)) (L' := [_, _, _, _, _]) dX0_roundsTillSettled_56 rfl (nI_1 _) (by decide) rfl rfl ?_
        refine go_goto (tgt := 22) dX0_roundsTillSettled_59 (by decide) ?_
        have := ih (k + 1) σ2 (by omega) (by omega) q2.1 (hO.trans q2.2)
        rw [show (mr P f h (k + 1)).2 = true by conv => lhs; unfold mr; simp [bI_ne0.mp c51]] at this
        exact this
set_option maxHeartbeats 1000000 in
theorem lp_rounds1 {Γ : Gm} {σ : Mm} {P : Pb} {f : Nat} (hP : PI σ P) (hk : Pok P) (hf : f < pG P) : ∀ (n r : Nat) (h : Nat → Int32) (σ' : Mm), r + n = 21 → TI σ' 36 P h → Rok P h → Full P h → Fea P h → OT 36 σ σ' → Go Γ 5 mX0_roundsTillSettled (aI (rs P f n h r) (OT 36 σ)) 11 [some (rf Γ 27), some (.int (nI f)), some (.int (nI r)), none, none] [] σ' := by
  have hD := hP.1.2
  have hG := hP.2.1.2
  intro n
  induction n with
  | zero =>
    intro r h σ' hr hT h1 h2 h3 hO
    have e : r = 21 := by omega
    subst e
    refine go_iload_n dX0_roundsTillSettled_11 rfl rfl ?_
    refine go_bipush (v := nI 20) dX0_roundsTillSettled_12 rfl ?_
    refine go_icmp_gt (tgt := 74) dX0_roundsTillSettled_14 (by decide) (fun c14 => ?_) (fun c14 => ?_)
    · refine go_iconst (v := (-1)) dX0_roundsTillSettled_74 rfl ?_
      refine go_iret rfl dX0_roundsTillSettled_75 ?_
      exact ⟨rfl, hO⟩
    · exact absurd (by decide) c14
  | succ n ih =>
    intro r h σ' hr hT h1 h2 h3 hO
    obtain ⟨o1, o2, o3⟩ := mr_ok hk hG hD hf h1 h2 h3 (pG P)
    refine go_iload_n dX0_roundsTillSettled_11 rfl rfl ?_
    refine go_bipush (v := nI 20) dX0_roundsTillSettled_12 rfl ?_
    refine go_icmp_gt (tgt := 74) dX0_roundsTillSettled_14 (by decide) (fun c14 => ?_) (fun c14 => ?_)
    · exact absurd c14 (nI_nlt (by omega) (by omega))
    · refine go_iconst (v := nI 0) dX0_roundsTillSettled_17 rfl ?_
      refine go_istore_n (L' := [_, _, _, _, _]) dX0_roundsTillSettled_18 rfl (by decide) rfl rfl ?_
      refine go_iconst (v := nI 0) dX0_roundsTillSettled_19 rfl ?_
      refine go_istore (L' := [_, _, _, _, _]) dX0_roundsTillSettled_20 (by decide) rfl rfl ?_
      exact lp_rounds2 hP hk hf h1 h2 h3 (fun σ2 _ t o => ih (r + 1) _ σ2 (by omega) t o1 o2 o3 o) (pG P) 0 σ' rfl (Nat.zero_le _) hT hO
set_option maxHeartbeats 1000000 in
theorem sp_rounds {Γ : Gm} {σ : Mm} {P : Pb} {f : Nat} (hS : SU σ P) (hk : Pok P) (hf : f < pG P) : Sp Γ 5 mX0_roundsTillSettled [rf Γ 27, .int (nI f)] σ (aI (minM P f) (OT 36 σ)) := by
  have hD := hS.1.1.2
  have hG := hS.1.2.1.2
  refine sp_in (L := [some (rf Γ 27), some (.int (nI f)), none, none, none]) rfl (Nat.le_of_ble_eq_true rfl) rfl ?_
  refine go_aload_n dX0_roundsTillSettled_0 rfl rfl ?_
  refine go_callVv cvX0_79 os_27 (sp_setUp hS) (by omega) rfl rfl (Nat.le_of_ble_eq_true rfl) dX0_roundsTillSettled_1 (fun σ1 q1 => ?_)
  refine go_aload_n dX0_roundsTillSettled_4 rfl rfl ?_
  refine go_iload_n dX0_roundsTillSettled_5 rfl rfl ?_
  refine go_callVv cvX0_82 os_27 (sp_goRound (hS.ot q1.2).1 hk hf q1.1) (by omega) rfl rfl (Nat.le_of_ble_eq_true rfl) dX0_roundsTillSettled_6 (fun σ2 q2 => ?_)
  refine go_iconst (v := nI 1) dX0_roundsTillSettled_9 rfl ?_
  refine go_istore_n (L' := [_, _, _, _, _]) dX0_roundsTillSettled_10 rfl (by decide) rfl rfl ?_
  exact lp_rounds1 hS.1 hk hf 20 1 (lay P f) σ2 rfl q2.1 (lay_ok hf) (lay_full hf hD) (layR_fea hf hk hG hD _) (q1.2.trans q2.2)
end
section
/-! urges, fits -/
theorem lay_congr {P P' : Pb} {f : Nat} (hG : pG P' = pG P) (hb : ∀ h g, bestM P' h g = bestM P h g) : lay P' f = lay P f := by
  have e : ∀ k, layR P' f k = layR P f k := by
    intro k
    induction k with
    | zero => rfl
    | succ k ih =>
      unfold layR
      rw [ih]
      have : gat P' f k = gat P f k := by unfold gat; rw [hG]
      rw [this, hb]
  unfold lay
  rw [hG, e]
theorem lay_ur0 {P : Pb} {u v : Int32} {f : Nat} : lay (setUr P u 0) f = lay (setUr P v 0) f := by
  refine lay_congr rfl (fun h g => ?_)
  have e : ∀ d, valM (setUr P u 0) h g d = valM (setUr P v 0) h g d := by
    intro d
    unfold valM
    show _ + (if nI d = u then (0 : Int32) else 0) = _ + (if nI d = v then (0 : Int32) else 0)
    simp only [ite_self]
    rfl
  show (fB (mayM P h g) (valM (setUr P u 0) h g) (pD P)).1 = (fB (mayM P h g) (valM (setUr P v 0) h g) (pD P)).1
  rw [fB_congr (pD P) (fun d _ => ⟨rfl, fun _ => e d⟩)]
def urgM (P : Pb) (d f : Nat) (times : Int32) : Nat → Nat → Int32
  | 0, _ => -1
  | n + 1, m => if times ≤ nI (cnt (lay (setUr P (nI d) (nI m)) f) (nI d) (pG P)) then nI m else urgM P d f times n (m + 1)
theorem TI.setUr {σ : Mm} {t : Nat} {P : Pb} {h : Nat → Int32} (hT : TI σ t P h) (u m : Int32) : TI (stI (stI σ t 6 u) t 7 m) t (setUr P u m) h := by
  obtain ⟨⟨u1, u2, u3⟩, h5, h6⟩ := hT
  refine ⟨⟨?_, ?_, ?_⟩, fun d hd => ?_, fun g hg => ?_⟩
  · simp (disch := omega) only [stI_at, stI_ne]; rfl
  · simp (disch := omega) only [stI_at, stI_ne]; rfl
  · simp (disch := omega) only [stI_at, stI_ne]; exact u3
  · simp (disch := omega) only [stI_at, stI_ne]; exact h5 d hd
  · simp (disch := omega) only [stI_at, stI_ne]; exact h6 g hg
theorem TI.setLo {σ : Mm} {t : Nat} {P : Pb} {h : Nat → Int32} (hT : TI σ t P h) (x : Int32) : TI (stI σ t 8 x) t (setLo P x) h := by
  obtain ⟨⟨u1, u2, u3⟩, h5, h6⟩ := hT
  refine ⟨⟨?_, ?_, ?_⟩, fun d hd => ?_, fun g hg => ?_⟩
  · simp (disch := omega) only [stI_at, stI_ne]; exact u1
  · simp (disch := omega) only [stI_at, stI_ne]; exact u2
  · simp (disch := omega) only [stI_at, stI_ne]; rfl
  · simp (disch := omega) only [stI_at, stI_ne]; exact h5 d hd
  · simp (disch := omega) only [stI_at, stI_ne]; exact h6 g hg
set_option maxHeartbeats 1000000 in
theorem lp_leastUrge {Γ : Gm} {σ : Mm} {P : Pb} {d f : Nat} {times : Int32} (hS : SU σ P) (hk : Pok P) (hd : d < pD P) (hf : f < pG P) : ∀ (n m : Nat) (σ' : Mm), m + n = 21 → OT 36 σ σ' → Go Γ 4 mX0_leastUrge (aI (urgM P d f times n m) (OT 36 σ)) 3 [some (rf Γ 27), some (.int (nI d)), some (.int (nI f)), some (.int times), some (.int (nI m))] [] σ' := by
  have hD := hS.1.1.2
  intro n
  induction n with
  | zero =>
    intro m σ' hm hO
    have e : m = 21 := by omega
    subst e
    refine go_iload dX0_leastUrge_3 rfl ?_
    refine go_bipush (v := nI 20) dX0_leastUrge_5 rfl ?_
    refine go_icmp_gt (tgt := 51) dX0_leastUrge_7 (by decide) (fun c7 => ?_) (fun c7 => ?_)
    · refine go_iconst (v := (-1)) dX0_leastUrge_51 rfl ?_
      refine go_iret rfl dX0_leastUrge_52 ?_
      exact ⟨rfl, hO⟩
    · exact absurd (by decide) c7
  | succ n ih =>
    intro m σ' hm hO
    have hS' := hS.ot hO
    have el : lay (setUr P (if nI m = 0 then -1 else nI d) (nI m)) f = lay (setUr P (nI d) (nI m)) f := by
      by_cases z : nI m = 0
      · rw [if_pos z, z]; exact lay_ur0
      · rw [if_neg z]
    refine go_iload dX0_leastUrge_3 rfl ?_
    refine go_bipush (v := nI 20) dX0_leastUrge_5 rfl ?_
    refine go_icmp_gt (tgt := 51) dX0_leastUrge_7 (by decide) (fun c7 => ?_) (fun c7 => ?_)
    · exact absurd c7 (nI_nlt (by omega) (by omega))
    · refine go_aload_n dX0_leastUrge_10 rfl rfl ?_
      refine go_callVv cvX0_79 os_27 (sp_setUp hS') (by omega) rfl rfl (Nat.le_of_ble_eq_true rfl) dX0_leastUrge_11 (fun σ1 q1 => ?_)
      refine go_aload_n dX0_leastUrge_14 rfl rfl ?_
      refine go_getR flX0_40 fs_27_3 dX0_leastUrge_15 ?_
      refine go_iload_n dX0_leastUrge_18 rfl rfl ?_
      refine go_iload dX0_leastUrge_19 rfl ?_
      refine go_callVv cvX0_59 os_36 (sp_press isT36) (by omega) rfl rfl (Nat.le_of_ble_eq_true rfl) dX0_leastUrge_21 (fun σ2 q2 => ?_)
      have o2 : OT 36 σ' σ2 := by rw [q2]; exact (q1.2.st (by omega) (by omega)).st (by omega) (by omega)
      have t2 : TI σ2 36 (setUr P (if nI m = 0 then -1 else nI d) (nI m)) (fun _ => -2) := by rw [q2]; exact q1.1.setUr _ _
      refine go_aload_n dX0_leastUrge_24 rfl rfl ?_
      refine go_iload_n dX0_leastUrge_25 rfl rfl ?_
      refine go_callVv cvX0_82 os_27 (sp_goRound (P := setUr P (if nI m = 0 then -1 else nI d) (nI m)) (hS'.ot o2).1 hk hf t2) (by omega) rfl rfl (Nat.le_of_ble_eq_true rfl) dX0_leastUrge_26 (fun σ3 q3 => ?_)
      have hh : σ3.1 38 d = nI (cnt (lay (setUr P (nI d) (nI m)) f) (nI d) (pG P)) := by rw [← el]; exact (q3.1.2.1 d hd).2
      refine go_aload_n dX0_leastUrge_29 rfl rfl ?_
      refine go_getR flX0_40 fs_27_3 dX0_leastUrge_30 ?_
      refine go_getR flX0_160 fs_36_3 dX0_leastUrge_33 ?_
      refine go_iload_n dX0_leastUrge_36 rfl rfl ?_
      refine go_iald (d) rfl as_38 (by omega) (by decide) dX0_leastUrge_37 ?_
      rw [hh]
      refine go_iload_n dX0_leastUrge_38 rfl rfl ?_
      refine go_icmp_lt (tgt := 45) dX0_leastUrge_39 (by decide) (fun c39 => ?_) (fun c39 => ?_)
      · refine go_iinc (v := nI (m + 1)) (L' := [_, _, _, _, _]) dX0_leastUrge_45 rfl (nI_1 _) (by decide) rfl rfl ?_
        refine go_goto (tgt := 3) dX0_leastUrge_48 (by decide) ?_
        have e1 : urgM P d f times (n + 1) m = urgM P d f times n (m + 1) := by conv => lhs; unfold urgM; rw [if_neg (Int32.not_le.mpr c39)]
        rw [e1]
        exact ih (m + 1) σ3 (by omega) (hO.trans (o2.trans q3.2))
      · refine go_iload dX0_leastUrge_42 rfl ?_
        refine go_iret rfl dX0_leastUrge_44 ?_
        refine ⟨?_, hO.trans (o2.trans q3.2)⟩
        unfold urgM
        rw [if_pos (Int32.not_lt.mp c39)]
set_option maxHeartbeats 1000000 in
theorem sp_leastUrge {Γ : Gm} {σ : Mm} {P : Pb} {d f : Nat} {times : Int32} (hS : SU σ P) (hk : Pok P) (hd : d < pD P) (hf : f < pG P) : Sp Γ 4 mX0_leastUrge [rf Γ 27, .int (nI d), .int (nI f), .int times] σ (aI (urgM P d f times 21 0) (OT 36 σ)) := by
  refine sp_in (L := [some (rf Γ 27), some (.int (nI d)), some (.int (nI f)), some (.int times), none]) rfl (Nat.le_of_ble_eq_true rfl) rfl ?_
  refine go_iconst (v := nI 0) dX0_leastUrge_0 rfl ?_
  refine go_istore (L' := [_, _, _, _, _]) dX0_leastUrge_1 (by decide) rfl rfl ?_
  exact lp_leastUrge hS hk hd hf 21 0 σ rfl OT.rf
/-- evenings: how many, from whom on, who, what -/
abbrev Ev : Type := Nat × (Nat → Nat) × (Nat → Nat) × (Nat → Int32)
/-- the class's log (23 or 54) holds E -/
def LI (σ : Mm) (l : Nat) (G : Nat) (E : Ev) : Prop := σ.1 l 3 = nI E.1 ∧ E.1 ≤ 4 ∧ ∀ e, e < E.1 → σ.1 (l + 1) e = nI (E.2.1 e) ∧ E.2.1 e < G ∧ σ.1 (l + 2) e = nI (E.2.2.1 e) ∧ E.2.2.1 e < G ∧ σ.1 (l + 3) e = E.2.2.2 e
theorem LI.ot {σ σ' : Mm} {G : Nat} {E : Ev} (h : OT 36 σ σ') (hL : LI σ 23 G E) : LI σ' 23 G E := by
  obtain ⟨a, b, c⟩ := hL
  refine ⟨by rw [h.1 23 (by omega)]; exact a, b, fun e he => ?_⟩
  rw [h.1 (23 + 1) (by omega), h.1 (23 + 2) (by omega), h.1 (23 + 3) (by omega)]
  exact c e he
def fitE (P : Pb) (E : Ev) (x : Int32) (e : Nat) : Bool := decide (lay (setLo P x) (E.2.1 e) (E.2.2.1 e) = E.2.2.2 e)
def fitB (P : Pb) (E : Ev) (x : Int32) : Bool := allB (fitE P E x) E.1
theorem allB_iff {f : Nat → Bool} : ∀ {n : Nat}, allB f n = true ↔ ∀ k, k < n → f k = true
  | 0 => by simp [allB]
  | n + 1 => by
    unfold allB
    rw [Bool.and_eq_true, allB_iff]
    constructor
    · rintro ⟨h1, h2⟩ k hk
      by_cases e : k = n
      · subst e; exact h2
      · exact h1 k (by omega)
    · intro h
      exact ⟨fun k hk => h k (by omega), h n (by omega)⟩
theorem allB_false {f : Nat → Bool} {n k : Nat} (hk : k < n) (h : f k = false) : allB f n = false := by
  cases e : allB f n with
  | false => rfl
  | true => rw [allB_iff.mp e k hk] at h; cases h
set_option maxHeartbeats 1000000 in
theorem lp_wouldFit {Γ : Gm} {σ : Mm} {P : Pb} {E : Ev} {x : Int32} (hS : SU σ P) (hk : Pok P) (hE : LI σ 23 (pG P) E) : ∀ (m e : Nat) (σ' : Mm), E.1 - e = m → e ≤ E.1 → allB (fitE P E x) e = true → OT 36 σ σ' → Go Γ 4 mX0_wouldFit (aI (bI (fitB P E x)) (OT 36 σ)) 2 [some (rf Γ 27), some (rf Γ 23), some (.int x), some (.int (nI e))] [] σ' := by
  have hD := hS.1.1.2
  have hG := hS.1.2.1.2
  intro m
  induction m with
  | zero =>
    intro e σ' hm he ha hO
    have q : e = E.1 := by omega
    subst q
    refine go_iload_n dX0_wouldFit_2 rfl rfl ?_
    refine go_aload_n dX0_wouldFit_3 rfl rfl ?_
    refine go_getI flX0_167 fs_23_3 dX0_wouldFit_4 ?_
    rw [(hE.ot hO).1]
    refine go_icmp_ge (tgt := 63) dX0_wouldFit_7 (by decide) (fun c7 => ?_) (fun c7 => ?_)
    · refine go_iconst (v := nI 1) dX0_wouldFit_63 rfl ?_
      refine go_zret rfl dX0_wouldFit_64 (by first | exact Or.inl rfl | exact Or.inr rfl | exact bI_01 _) ?_
      exact ⟨by rw [show fitB P E x = true from ha]; rfl, hO⟩
    · exact absurd (Int32.le_refl _) c7
  | succ m ih =>
    intro e σ' hm he ha hO
    have he1 : e < E.1 := by omega
    have hS' := hS.ot hO
    have hE' := hE.ot hO
    have h4 := hE.2.1
    obtain ⟨f1, f2, f3, f4, f5⟩ := hE.2.2 e he1
    refine go_iload_n dX0_wouldFit_2 rfl rfl ?_
    refine go_aload_n dX0_wouldFit_3 rfl rfl ?_
    refine go_getI flX0_167 fs_23_3 dX0_wouldFit_4 ?_
    rw [hE'.1]
    refine go_icmp_ge (tgt := 63) dX0_wouldFit_7 (by decide) (fun c7 => ?_) (fun c7 => ?_)
    · exact absurd c7 (nI_ge (by omega) (by omega))
    · refine go_aload_n dX0_wouldFit_10 rfl rfl ?_
      refine go_callVv cvX0_79 os_27 (sp_setUp hS') (by omega) rfl rfl (Nat.le_of_ble_eq_true rfl) dX0_wouldFit_11 (fun σ1 q1 => ?_)
      have o2 : OT 36 σ (stI σ1 36 8 x) := hO.trans (q1.2.st (by omega) (by omega))
      have t2 : TI (stI σ1 36 8 x) 36 (setLo P x) (fun _ => -2) := q1.1.setLo x
      refine go_aload_n dX0_wouldFit_14 rfl rfl ?_
      refine go_getR flX0_40 fs_27_3 dX0_wouldFit_15 ?_
      refine go_iload_n dX0_wouldFit_18 rfl rfl ?_
      refine go_putI fwX0_52 fs_36_8 dX0_wouldFit_19 ?_
      refine go_aload_n dX0_wouldFit_22 rfl rfl ?_
      refine go_aload_n dX0_wouldFit_23 rfl rfl ?_
      refine go_getR flX0_170 fs_23_0 dX0_wouldFit_24 ?_
      refine go_iload_n dX0_wouldFit_27 rfl rfl ?_
      refine go_iald (e) rfl as_24 (by omega) (by decide) dX0_wouldFit_28 ?_
      rw [((hE.ot o2).2.2 e he1).1]
      refine go_callVv cvX0_82 os_27 (sp_goRound (P := setLo P x) (hS.ot o2).1 hk f2 t2) (by omega) rfl rfl (Nat.le_of_ble_eq_true rfl) dX0_wouldFit_29 (fun σ3 q3 => ?_)
      have o3 := o2.trans q3.2
      refine go_aload_n dX0_wouldFit_32 rfl rfl ?_
      refine go_getR flX0_40 fs_27_3 dX0_wouldFit_33 ?_
      refine go_getR flX0_86 fs_36_4 dX0_wouldFit_36 ?_
      refine go_aload_n dX0_wouldFit_39 rfl rfl ?_
      refine go_getR flX0_173 fs_23_1 dX0_wouldFit_40 ?_
      refine go_iload_n dX0_wouldFit_43 rfl rfl ?_
      refine go_iald (e) rfl as_25 (by omega) (by decide) dX0_wouldFit_44 ?_
      rw [((hE.ot o3).2.2 e he1).2.2.1]
      refine go_iald (E.2.2.1 e) rfl as_39 (by omega) (by decide) dX0_wouldFit_45 ?_
      refine go_aload_n dX0_wouldFit_46 rfl rfl ?_
      refine go_getR flX0_176 fs_23_2 dX0_wouldFit_47 ?_
      refine go_iload_n dX0_wouldFit_50 rfl rfl ?_
      refine go_iald (e) rfl as_26 (by omega) (by decide) dX0_wouldFit_51 ?_
      rw [((hE.ot o3).2.2 e he1).2.2.2.2, (q3.1.2.2 (E.2.2.1 e) (by omega)).1, hC_full (P := setLo P x) (lay_full (P := setLo P x) f2 hD) f4]
      refine go_icmp_eq (tgt := 57) dX0_wouldFit_52 (by decide) (fun c52 => ?_) (fun c52 => ?_)
      · refine go_iinc (v := nI (e + 1)) (L' := [_, _, _, _]) dX0_wouldFit_57 rfl (nI_1 _) (by decide) rfl rfl ?_
        refine go_goto (tgt := 2) dX0_wouldFit_60 (by decide) ?_
        refine ih (e + 1) σ3 (by omega) (by omega) ?_ o3
        unfold allB
        rw [ha, Bool.true_and]
        exact decide_eq_true c52
      · refine go_iconst (v := nI 0) dX0_wouldFit_55 rfl ?_
        refine go_zret rfl dX0_wouldFit_56 (by first | exact Or.inl rfl | exact Or.inr rfl | exact bI_01 _) ?_
        refine ⟨?_, o3⟩
        rw [show fitB P E x = false from allB_false he1 (decide_eq_false c52)]
        rfl
set_option maxHeartbeats 1000000 in
theorem sp_wouldFit {Γ : Gm} {σ : Mm} {P : Pb} {E : Ev} {x : Int32} (hS : SU σ P) (hk : Pok P) (hE : LI σ 23 (pG P) E) : Sp Γ 4 mX0_wouldFit [rf Γ 27, rf Γ 23, .int x] σ (aI (bI (fitB P E x)) (OT 36 σ)) := by
  refine sp_in (L := [some (rf Γ 27), some (rf Γ 23), some (.int x), none]) rfl (Nat.le_of_ble_eq_true rfl) rfl ?_
  refine go_iconst (v := nI 0) dX0_wouldFit_0 rfl ?_
  refine go_istore_n (L' := [_, _, _, _]) dX0_wouldFit_1 rfl (by decide) rfl rfl ?_
  exact lp_wouldFit hS hk hE E.1 0 σ rfl (Nat.zero_le _) rfl OT.rf
def ftL (fit : Nat → Bool) : Nat → Int32
  | 0 => 0
  | k + 1 => if fit k = true then ftL fit k ||| (nI 1 <<< (nI k &&& 31)) else ftL fit k
def fitsM (P : Pb) (E : Ev) : Int32 := ftL (fun k => fitB P E (nI k)) 10
set_option maxHeartbeats 1000000 in
theorem lp_fitting {Γ : Gm} {σ : Mm} {P : Pb} {E : Ev} (hS : SU σ P) (hk : Pok P) (hE : LI σ 23 (pG P) E) : ∀ (m k : Nat) (σ' : Mm), 10 - k = m → k ≤ 10 → OT 36 σ σ' → Go Γ 5 mX0_fittingLoaths (aI (fitsM P E) (OT 36 σ)) 4 [some (rf Γ 27), some (rf Γ 23), some (.int (ftL (fun k => fitB P E (nI k)) k)), some (.int (nI k))] [] σ' := by
  intro m
  induction m with
  | zero =>
    intro k σ' hm hk1 hO
    have e : k = 10 := by omega
    subst e
    refine go_iload_n dX0_fittingLoaths_4 rfl rfl ?_
    refine go_bipush (v := nI 10) dX0_fittingLoaths_5 rfl ?_
    refine go_icmp_ge (tgt := 31) dX0_fittingLoaths_7 (by decide) (fun c7 => ?_) (fun c7 => ?_)
    · refine go_iload_n dX0_fittingLoaths_31 rfl rfl ?_
      refine go_iret rfl dX0_fittingLoaths_32 ?_
      exact ⟨rfl, hO⟩
    · exact absurd (Int32.le_refl _) c7
  | succ m ih =>
    intro k σ' hm hk1 hO
    refine go_iload_n dX0_fittingLoaths_4 rfl rfl ?_
    refine go_bipush (v := nI 10) dX0_fittingLoaths_5 rfl ?_
    refine go_icmp_ge (tgt := 31) dX0_fittingLoaths_7 (by decide) (fun c7 => ?_) (fun c7 => ?_)
    · exact absurd c7 (nI_ge (by omega) (by omega))
    · refine go_aload_n dX0_fittingLoaths_10 rfl rfl ?_
      refine go_aload_n dX0_fittingLoaths_11 rfl rfl ?_
      refine go_iload_n dX0_fittingLoaths_12 rfl rfl ?_
      refine go_callVi cvX0_163 os_27 (sp_wouldFit (hS.ot hO) hk (hE.ot hO)) (by omega) rfl rfl (Nat.le_of_ble_eq_true rfl) dX0_fittingLoaths_13 (fun σ2 q2 => ?_)
      refine go_if_eq (tgt := 25) dX0_fittingLoaths_16 (by decide) (fun c16 => ?_) (fun c16 => ?_)
      · refine go_iinc (v := nI (k + 1)) (L' := [_, _, _, _]) dX0_fittingLoaths_25 rfl (nI_1 _) (by decide) rfl rfl ?_
        refine go_goto (tgt := 4) dX0_fittingLoaths_28 (by decide) ?_
        have e1 : ftL (fun k => fitB P E (nI k)) (k + 1) = ftL (fun k => fitB P E (nI k)) k := by conv => lhs; unfold ftL; rw [if_neg (by rw [bI_eq0.mp c16]; decide)]
        have := ih (k + 1) σ2 (by omega) (by omega) (hO.trans q2)
        rw [e1] at this
        exact this
      · refine go_iload_n dX0_fittingLoaths_19 rfl rfl ?_
        refine go_iconst (v := nI 1) dX0_fittingLoaths_20 rfl ?_
        refine go_iload_n dX0_fittingLoaths_21 rfl rfl ?_
        refine go_ishl dX0_fittingLoaths_22 ?_
        refine go_ior dX0_fittingLoaths_23 ?_
        refine go_istore_n (L' := [_, _, _, _]) dX0_fittingLoaths_24 rfl (by decide) rfl rfl ?_
        refine go_iinc (v := nI (k + 1)) (L' := [_, _, _, _]) dX0_fittingLoaths_25 rfl (nI_1 _) (by decide) rfl rfl ?_
        refine go_goto (tgt := 4) dX0_fittingLoaths_28 (by decide) ?_
        have e1 : ftL (fun k => fitB P E (nI k)) (k + 1) = ftL (fun k => fitB P E (nI k)) k ||| (nI 1 <<< (nI k &&& 31)) := by conv => lhs; unfold ftL; rw [if_pos (bI_ne0.mp c16)]
        have := ih (k + 1) σ2 (by omega) (by omega) (hO.trans q2)
        rw [e1] at this
        exact this
set_option maxHeartbeats 1000000 in
theorem sp_fitting {Γ : Gm} {σ : Mm} {P : Pb} {E : Ev} (hS : SU σ P) (hk : Pok P) (hE : LI σ 23 (pG P) E) : Sp Γ 5 mX0_fittingLoaths [rf Γ 27, rf Γ 23] σ (aI (fitsM P E) (OT 36 σ)) := by
  refine sp_in (L := [some (rf Γ 27), some (rf Γ 23), none, none]) rfl (Nat.le_of_ble_eq_true rfl) rfl ?_
  refine go_iconst (v := nI 0) dX0_fittingLoaths_0 rfl ?_
  refine go_istore_n (L' := [_, _, _, _]) dX0_fittingLoaths_1 rfl (by decide) rfl rfl ?_
  refine go_iconst (v := nI 0) dX0_fittingLoaths_2 rfl ?_
  refine go_istore_n (L' := [_, _, _, _]) dX0_fittingLoaths_3 rfl (by decide) rfl rfl ?_
  exact lp_fitting hS hk hE 10 0 σ rfl (by omega) OT.rf
end
section
/-! draws and evenings; wants laid aside and back -/
def isO (o : Nat) : Prop := o = 30 ∨ o = 42
theorem rO {o g : Nat} (ho : isO o) (hg : g < 5) : rsh o g = some (o + 1 + g) := by
  rcases ho with rfl | rfl
  · exact co5 (P := fun g => rsh 30 g = some (30 + 1 + g)) (by decide) (by decide) (by decide) (by decide) (by decide) hg
  · exact co5 (P := fun g => rsh 42 g = some (42 + 1 + g)) (by decide) (by decide) (by decide) (by decide) (by decide) hg
theorem aO {o g : Nat} (ho : isO o) (hg : g < 5) : ash (o + 1 + g) = some 6 := by
  rcases ho with rfl | rfl
  · exact co5 (P := fun g => ash (30 + 1 + g) = some 6) (by decide) (by decide) (by decide) (by decide) (by decide) hg
  · exact co5 (P := fun g => ash (42 + 1 + g) = some 6) (by decide) (by decide) (by decide) (by decide) (by decide) hg
theorem rtO {o : Nat} (ho : isO o) : ∀ t rs, shpL[o]? = some (Sum.inr (Sum.inr (t, rs))) → (t = 1 ∨ t = 2) ∧ rs.length < 2 ^ 31 := by
  rcases ho with rfl | rfl
  · exact rt_30
  · exact rt_42
/-- rows of wants, copied to o's rows -/
def Saved (o n : Nat) (σ σ' : Mm) : Prop := (∀ g k, g < n → k < 6 → σ'.1 (o + 1 + g) k = σ.1 (9 + 2 * g) k) ∧ (∀ a, ¬ (o < a ∧ a < o + 6) → σ'.1 a = σ.1 a) ∧ σ'.2 = σ.2
def Loaded (o n : Nat) (σ σ' : Mm) : Prop := (∀ g k, g < n → k < 6 → σ'.1 (9 + 2 * g) k = σ.1 (o + 1 + g) k) ∧ (∀ g k, g < 5 → 6 ≤ k → σ'.1 (9 + 2 * g) k = σ.1 (9 + 2 * g) k) ∧ (∀ a, (∀ g, g < 5 → a ≠ 9 + 2 * g) → σ'.1 a = σ.1 a) ∧ σ'.2 = σ.2
theorem cpy_out {f g : Nat → Int32} {n k : Nat} (h : n ≤ k) : va_cpy f g 0 0 n k = g k := by simp [va_cpy, Nat.not_lt.mpr h]
set_option maxHeartbeats 1000000 in
theorem lp_saveWants {Γ : Gm} {σ : Mm} {o : Nat} (ho : isO o) : ∀ (m g : Nat) (σ' : Mm), 5 - g = m → g ≤ 5 → Saved o g σ σ' → Go Γ 1 mX6_saveWants (aV (Saved o 5 σ)) 2 [some (rf Γ 6), some (rf Γ o), some (.int (nI g))] [] σ' := by
  have ho30 : 30 ≤ o := by rcases ho with rfl | rfl <;> omega
  intro m
  induction m with
  | zero =>
    intro g σ' hm hg hs
    have e : g = 5 := by omega
    subst e
    refine go_iload_n dX6_saveWants_2 rfl rfl ?_
    refine go_iconst (v := nI 5) dX6_saveWants_3 rfl ?_
    refine go_icmp_ge (tgt := 32) dX6_saveWants_4 (by decide) (fun c4 => ?_) (fun c4 => ?_)
    · refine go_vret rfl dX6_saveWants_32 ?_
      exact ⟨rfl, hs⟩
    · exact absurd (Int32.le_refl _) c4
  | succ m ih =>
    intro g σ' hm hg hs
    have hg : g < 5 := by omega
    refine go_iload_n dX6_saveWants_2 rfl rfl ?_
    refine go_iconst (v := nI 5) dX6_saveWants_3 rfl ?_
    refine go_icmp_ge (tgt := 32) dX6_saveWants_4 (by decide) (fun c4 => ?_) (fun c4 => ?_)
    · exact absurd c4 (nI_ge (by omega) (by omega))
    · refine go_aload_n dX6_saveWants_7 rfl rfl ?_
      refine go_getR flX6_11 fs_6_0 dX6_saveWants_8 ?_
      refine go_iload_n dX6_saveWants_11 rfl rfl ?_
      refine go_aald (g) rfl (rG hg) rt_7 dX6_saveWants_12 ?_
      refine go_getR flX6_22 (fG_0 hg) dX6_saveWants_13 ?_
      refine go_iconst (v := nI 0) dX6_saveWants_16 rfl ?_
      refine go_aload_n dX6_saveWants_17 rfl rfl ?_
      refine go_iload_n dX6_saveWants_18 rfl rfl ?_
      refine go_aald (g) rfl (rO ho hg) (rtO ho) dX6_saveWants_19 ?_
      refine go_iconst (v := nI 0) dX6_saveWants_20 rfl ?_
      refine go_bipush (v := nI 6) dX6_saveWants_21 rfl ?_
      refine go_acopy rfl rfl rfl (aW hg) (aO ho hg) (by decide) (by decide) (by omega) (by decide) acX6_26 ac_nat ac_sta ac_ini (Nat.le_of_ble_eq_true rfl) dX6_saveWants_23 ?_
      refine go_iinc (v := nI (g + 1)) (L' := [_, _, _]) dX6_saveWants_26 rfl (nI_1 _) (by decide) rfl rfl ?_
      refine go_goto (tgt := 2) dX6_saveWants_29 (by decide) ?_
      refine ih (g + 1) _ (by omega) (by omega) ⟨fun a k ha hk => ?_, fun a ha => ?_, hs.2.2⟩
      · by_cases q : a = g
        · subst q
          rw [stA_at, cpy_in hk, hs.2.1 (9 + 2 * a) (by omega)]
        · rw [stA_ne (by omega)]; exact hs.1 a k (by omega) hk
      · rw [stA_ne (by omega)]; exact hs.2.1 a ha
set_option maxHeartbeats 1000000 in
theorem sp_saveWants {Γ : Gm} {σ : Mm} {o : Nat} (ho : isO o) : Sp Γ 1 mX6_saveWants [rf Γ 6, rf Γ o] σ (aV (Saved o 5 σ)) := by
  refine sp_in (L := [some (rf Γ 6), some (rf Γ o), none]) rfl (Nat.le_of_ble_eq_true rfl) rfl ?_
  refine go_iconst (v := nI 0) dX6_saveWants_0 rfl ?_
  refine go_istore_n (L' := [_, _, _]) dX6_saveWants_1 rfl (by decide) rfl rfl ?_
  exact lp_saveWants ho 5 0 σ rfl (by omega) ⟨fun g k h => absurd h (Nat.not_lt_zero _), fun _ _ => rfl, rfl⟩
set_option maxHeartbeats 1000000 in
theorem lp_loadWants {Γ : Gm} {σ : Mm} {o : Nat} (ho : isO o) : ∀ (m g : Nat) (σ' : Mm), 5 - g = m → g ≤ 5 → Loaded o g σ σ' → Go Γ 1 mX6_loadWants (aV (Loaded o 5 σ)) 2 [some (rf Γ 6), some (rf Γ o), some (.int (nI g))] [] σ' := by
  have ho30 : 30 ≤ o := by rcases ho with rfl | rfl <;> omega
  intro m
  induction m with
  | zero =>
    intro g σ' hm hg hs
    have e : g = 5 := by omega
    subst e
    refine go_iload_n dX6_loadWants_2 rfl rfl ?_
    refine go_iconst (v := nI 5) dX6_loadWants_3 rfl ?_
    refine go_icmp_ge (tgt := 32) dX6_loadWants_4 (by decide) (fun c4 => ?_) (fun c4 => ?_)
    · refine go_vret rfl dX6_loadWants_32 ?_
      exact ⟨rfl, hs⟩
    · exact absurd (Int32.le_refl _) c4
  | succ m ih =>
    intro g σ' hm hg hs
    have hg : g < 5 := by omega
    refine go_iload_n dX6_loadWants_2 rfl rfl ?_
    refine go_iconst (v := nI 5) dX6_loadWants_3 rfl ?_
    refine go_icmp_ge (tgt := 32) dX6_loadWants_4 (by decide) (fun c4 => ?_) (fun c4 => ?_)
    · exact absurd c4 (nI_ge (by omega) (by omega))
    · refine go_aload_n dX6_loadWants_7 rfl rfl ?_
      refine go_iload_n dX6_loadWants_8 rfl rfl ?_
      refine go_aald (g) rfl (rO ho hg) (rtO ho) dX6_loadWants_9 ?_
      refine go_iconst (v := nI 0) dX6_loadWants_10 rfl ?_
      refine go_aload_n dX6_loadWants_11 rfl rfl ?_
      refine go_getR flX6_11 fs_6_0 dX6_loadWants_12 ?_
      refine go_iload_n dX6_loadWants_15 rfl rfl ?_
      refine go_aald (g) rfl (rG hg) rt_7 dX6_loadWants_16 ?_
      refine go_getR flX6_22 (fG_0 hg) dX6_loadWants_17 ?_
      refine go_iconst (v := nI 0) dX6_loadWants_20 rfl ?_
      refine go_bipush (v := nI 6) dX6_loadWants_21 rfl ?_
      refine go_acopy rfl rfl rfl (aO ho hg) (aW hg) (by decide) (by decide) (by omega) (by decide) acX6_26 ac_nat ac_sta ac_ini (Nat.le_of_ble_eq_true rfl) dX6_loadWants_23 ?_
      refine go_iinc (v := nI (g + 1)) (L' := [_, _, _]) dX6_loadWants_26 rfl (nI_1 _) (by decide) rfl rfl ?_
      refine go_goto (tgt := 2) dX6_loadWants_29 (by decide) ?_
      refine ih (g + 1) _ (by omega) (by omega) ⟨fun a k ha hk => ?_, fun a k ha hk => ?_, fun a ha => ?_, hs.2.2.2⟩
      · by_cases q : a = g
        · subst q
          rw [stA_at, cpy_in hk, hs.2.2.1 (o + 1 + a) (by omega)]
        · rw [stA_ne (by omega)]; exact hs.1 a k (by omega) hk
      · by_cases q : a = g
        · subst q
          rw [stA_at, cpy_out hk]; exact hs.2.1 a k ha hk
        · rw [stA_ne (by omega)]; exact hs.2.1 a k ha hk
      · rw [stA_ne (ha g hg)]; exact hs.2.2.1 a ha
set_option maxHeartbeats 1000000 in
theorem sp_loadWants {Γ : Gm} {σ : Mm} {o : Nat} (ho : isO o) : Sp Γ 1 mX6_loadWants [rf Γ 6, rf Γ o] σ (aV (Loaded o 5 σ)) := by
  refine sp_in (L := [some (rf Γ 6), some (rf Γ o), none]) rfl (Nat.le_of_ble_eq_true rfl) rfl ?_
  refine go_iconst (v := nI 0) dX6_loadWants_0 rfl ?_
  refine go_istore_n (L' := [_, _, _]) dX6_loadWants_1 rfl (by decide) rfl rfl ?_
  exact lp_loadWants ho 5 0 σ rfl (by omega) ⟨fun g k h => absurd h (Nat.not_lt_zero _), fun _ _ _ _ => rfl, fun _ _ => rfl, rfl⟩
theorem u27 : ∀ i, i ≠ 9 → fsh 27 i ≠ some (0, 1) := by
  intro i hi q
  obtain ⟨tpl, e1, e2⟩ := fsh_spec q
  rw [show shpL[27]? = some (Sum.inl (0, [5, 8, 20, 38, 30, 31, 32, 0, 0, 1])) by decide] at e1
  cases e1
  have hl : i < 10 := (List.getElem?_eq_some_iff.mp e2).1
  have h : ∀ i, i < 10 → i ≠ 9 → ([5, 8, 20, 38, 30, 31, 32, 0, 0, 1] : List Nat)[i]? ≠ some 1 := by decide
  exact h i hl hi e2
theorem u58 : ∀ i, i ≠ 36 → fsh 58 i ≠ some (9, 1) := by
  intro i hi q
  obtain ⟨tpl, e1, e2⟩ := fsh_spec q
  rw [show shpL[58]? = some (Sum.inl (9, [61, 0, 62, 63, 0, 0, 0, 0, 0, 0, 0, 0, 64, 65, 0, 66, 67, 68, 0, 0, 0, 69, 0, 0, 70, 0, 71, 0, 0, 0, 0, 0, 72, 73, 74, 75, 1])) by decide] at e1
  cases e1
  have hl : i < 37 := (List.getElem?_eq_some_iff.mp e2).1
  have h : ∀ i, i < 37 → i ≠ 36 → ([61, 0, 62, 63, 0, 0, 0, 0, 0, 0, 0, 0, 64, 65, 0, 66, 67, 68, 0, 0, 0, 69, 0, 0, 70, 0, 71, 0, 0, 0, 0, 0, 72, 73, 74, 75, 1] : List Nat)[i]? ≠ some 1 := by decide
  exact h i hl hi e2
/-- the next seed, and a draw of n by it -/
def nxt (s : Nat) : Nat := (1103515245 * s + 12345) % 2147483648
def drw (s n : Nat) : Nat := s / 65536 % n
theorem nxt_lt (s : Nat) : nxt s < 2147483648 := Nat.mod_lt _ (by omega)
set_option maxHeartbeats 1000000 in
theorem sp_draw {Γ : Gm} {σ : Mm} {s b : Nat} (hs : s < 2147483648) (hb : 0 < b) (hb2 : b < 2 ^ 31) (e : σ.2 27 = lN s) : Sp Γ 1 mX0_draw [rf Γ 27, .int (nI b)] σ (aI (nI (drw (nxt s) b)) (fun σ' => σ' = stL σ 27 (lN (nxt s)))) := by
  refine sp_in (L := [some (rf Γ 27), some (.int (nI b))]) rfl (Nat.le_of_ble_eq_true rfl) rfl ?_
  have h1 : (1103515245 : Int64) * lN s + 12345 = lN (1103515245 * s + 12345) := by
    rw [show (1103515245 : Int64) = lN 1103515245 from rfl, show (12345 : Int64) = lN 12345 from rfl, lN_mul, lN_add]
  have h2 : lN (1103515245 * s + 12345) - lN (1103515245 * s + 12345) / 2147483648 * 2147483648 = lN (nxt s) := by
    rw [show (2147483648 : Int64) = lN 2147483648 from rfl]
    exact pk_lRem (by omega) (by omega) (by omega)
  have hn := nxt_lt s
  refine go_aload_n dX0_draw_0 rfl rfl ?_
  refine go_ldc2 (v := 1103515245) dX0_draw_1 klX0_193 ?_
  refine go_aload_n dX0_draw_4 rfl rfl ?_
  refine go_getL flX0_179 fs_27_9 dX0_draw_5 ?_
  rw [e]
  refine go_lmul dX0_draw_8 ?_
  refine go_ldc2 (v := 12345) dX0_draw_9 klX0_195 ?_
  refine go_ladd dX0_draw_12 ?_
  refine go_ldc2 (v := 2147483648) dX0_draw_13 klX0_197 ?_
  refine go_lrem dX0_draw_16 (by decide) ?_
  refine go_putL fwX0_179 fs_27_9 (by exact u27) dX0_draw_17 ?_
  refine go_iload_n dX0_draw_20 rfl rfl ?_
  refine go_iconst (v := nI 1) dX0_draw_21 rfl ?_
  refine go_icmp_ge (tgt := 29) dX0_draw_22 (by decide) (fun c22 => ?_) (fun c22 => ?_)
  · refine go_aload_n dX0_draw_29 rfl rfl ?_
    refine go_getL flX0_179 fs_27_9 dX0_draw_30 ?_
    refine go_ldc2 (v := 65536) dX0_draw_33 klX0_199 ?_
    refine go_ldiv dX0_draw_36 (by decide) ?_
    refine go_iload_n dX0_draw_37 rfl rfl ?_
    refine go_i2l dX0_draw_38 ?_
    refine go_lrem dX0_draw_39 (by rw [nI_l hb2, show (0 : Int64) = lN 0 from rfl, lN_eq hb2 (by omega)]; omega) ?_
    refine go_l2i dX0_draw_40 ?_
    refine go_iret rfl dX0_draw_41 ?_
    rw [h1, h2]
    refine ⟨?_, rfl⟩
    rw [stL_at, nI_l hb2, show (65536 : Int64) = lN 65536 from rfl, pk_lDiv (by omega) (by omega) (by omega), pk_lRem (by omega) (by omega) (by omega), lN_i]
    rfl
  · exact absurd (nI_le (a := 1) (by omega) hb2) c22

/-- so many evenings: the data, the seed and the joy then -/
def evS (P : Pb) (s : Nat) : Nat → Pb × Nat × Int32
  | 0 => (P, s, 0)
  | k + 1 =>
    (setWa (evS P s k).1 (drw (nxt (nxt (nxt (evS P s k).2.1))) (pG P)) (drw (nxt (nxt (evS P s k).2.1)) (pD P)) (nI (drw (nxt (nxt (nxt (nxt (evS P s k).2.1)))) 10)),
     nxt (nxt (nxt (nxt (evS P s k).2.1))),
     (evS P s k).2.2 + joyA (setWa (evS P s k).1 (drw (nxt (nxt (nxt (evS P s k).2.1))) (pG P)) (drw (nxt (nxt (evS P s k).2.1)) (pD P)) (nI (drw (nxt (nxt (nxt (nxt (evS P s k).2.1)))) 10)))
        (lay (setWa (evS P s k).1 (drw (nxt (nxt (nxt (evS P s k).2.1))) (pG P)) (drw (nxt (nxt (evS P s k).2.1)) (pD P)) (nI (drw (nxt (nxt (nxt (nxt (evS P s k).2.1)))) 10))) (drw (nxt (evS P s k).2.1) (pG P))))
theorem evS_same (P : Pb) (s : Nat) : ∀ k : Nat, pD (evS P s k).1 = pD P ∧ pG (evS P s k).1 = pG P ∧ pSt (evS P s k).1 = pSt P ∧ pUr (evS P s k).1 = pUr P ∧ pMu (evS P s k).1 = pMu P ∧ pLo (evS P s k).1 = pLo P
  | 0 => ⟨rfl, rfl, rfl, rfl, rfl, rfl⟩
  | k + 1 => evS_same P s k
theorem evS_lt (P : Pb) {s : Nat} (hs : s < 2147483648) : ∀ k : Nat, (evS P s k).2.1 < 2147483648
  | 0 => hs
  | _ + 1 => nxt_lt _
/-- the memory in the midst of evenings: set aside, and else as it was -/
def EvI (σ σ' : Mm) (P : Pb) (s : Nat) : Prop := SU σ' P ∧ σ'.2 27 = lN s ∧ (∀ g k, g < 5 → k < 6 → σ'.1 (31 + g) k = σ.1 (9 + 2 * g) k) ∧ (∀ g k, g < 5 → 6 ≤ k → σ'.1 (9 + 2 * g) k = σ.1 (9 + 2 * g) k) ∧ (∀ a, (a < 27 ∨ 40 < a) → (∀ g, g < 5 → a ≠ 9 + 2 * g) → σ'.1 a = σ.1 a) ∧ ∀ a, a ≠ 27 → σ'.2 a = σ.2 a
/-- only the forecast's own cells are new -/
def OF (σ σ' : Mm) : Prop := (∀ a, a < 27 ∨ 40 < a → σ'.1 a = σ.1 a) ∧ ∀ a, a ≠ 27 → σ'.2 a = σ.2 a
theorem OF.rf {σ : Mm} : OF σ σ := ⟨fun _ _ => rfl, fun _ _ => rfl⟩
theorem OF.trans {σ σ1 σ2 : Mm} (h : OF σ σ1) (h2 : OF σ1 σ2) : OF σ σ2 := ⟨fun a q => (h2.1 a q).trans (h.1 a q), fun a q => (h2.2 a q).trans (h.2 a q)⟩
theorem OT.of {σ σ' : Mm} (h : OT 36 σ σ') : OF σ σ' := ⟨fun a q => h.1 a (by omega), fun a _ => by rw [h.2]⟩
theorem SU.of {σ σ' : Mm} {P : Pb} (h : OF σ σ') (hS : SU σ P) : SU σ' P := by
  obtain ⟨⟨⟨a1, a2⟩, ⟨b1, b2⟩, c, d⟩, l1, l2, l3, l4⟩ := hS
  refine ⟨⟨⟨by rw [h.1 3 (by omega)]; exact a1, a2⟩, ⟨by rw [h.1 6 (by omega)]; exact b1, b2⟩, fun k hk => ?_, fun g hg => ?_⟩, by rw [h.1 3 (by omega)]; exact l1, by rw [h.1 18 (by omega)]; exact l2, by rw [h.1 18 (by omega)]; exact l3, l4⟩
  · rw [h.1 4 (by omega), h.1 5 (by omega)]; exact c k hk
  · rw [h.1 (8 + 2 * g) (by omega), h.1 (9 + 2 * g) (by omega)]; exact d g hg
theorem drw_lt {s n : Nat} (h : 0 < n) : drw s n < n := Nat.mod_lt _ h
theorem EvI.seed {σ σ' : Mm} {P : Pb} {s s' : Nat} (h : EvI σ σ' P s) : EvI σ (stL σ' 27 (lN s')) P s' :=
  ⟨h.1, stL_at, h.2.2.1, h.2.2.2.1, h.2.2.2.2.1, fun a q => (show (if a = 27 then lN s' else σ'.2 a) = σ.2 a by rw [if_neg q]; exact h.2.2.2.2.2 a q)⟩
theorem EvI.want {σ σ' : Mm} {P : Pb} {s g d : Nat} {v : Int32} (h : EvI σ σ' P s) (hg : g < pG P) (hd : d < pD P) : EvI σ (stI σ' (9 + 2 * g) d v) (setWa P g d v) s := by
  obtain ⟨⟨⟨⟨a1, a2⟩, ⟨b1, b2⟩, c, dd⟩, l1, l2, l3, l4⟩, h2, h3, h4, h5, h6⟩ := h
  have a2' : pD P ≤ 6 := a2
  have b2' : pG P ≤ 5 := b2
  refine ⟨⟨⟨⟨by rw [stI_ne (by omega)]; exact a1, a2⟩, ⟨by rw [stI_ne (by omega)]; exact b1, b2⟩, fun k hk => ?_, fun a ha => ⟨?_, ?_, fun b hb => ?_⟩⟩, by rw [stI_ne (by omega)]; exact l1, by rw [stI_ne (by omega)]; exact l2, by rw [stI_ne (by omega)]; exact l3, l4⟩, h2, fun a k ha hk => ?_, fun a k ha hk => ?_, fun a q1 q2 => ?_, h6⟩
  · rw [stI_ne (by omega), stI_ne (by omega)]; exact c k hk
  · rw [stI_ne (by omega)]; exact (dd a ha).1
  · rw [stI_ne (by omega)]; exact (dd a ha).2.1
  · show (stI σ' (9 + 2 * g) d v).1 (9 + 2 * a) b = if a = g ∧ b = d then v else pWa P a b
    by_cases q : a = g ∧ b = d
    · rw [if_pos q, q.1, q.2, stI_at]
    · rw [if_neg q, stI_ne (by omega)]; exact (dd a ha).2.2 b hb
  · rw [stI_ne (by omega)]; exact h3 a k ha hk
  · rw [stI_ne (by omega)]; exact h4 a k ha hk
  · exact (funext fun y => stI_ne (Or.inl (q2 g (by omega)))).trans (h5 a q1 q2)
theorem EvI.ot {σ σ' σ2 : Mm} {P : Pb} {s : Nat} (h : EvI σ σ' P s) (ho : OT 36 σ' σ2) : EvI σ σ2 P s := by
  obtain ⟨h1, h2, h3, h4, h5, h6⟩ := h
  refine ⟨h1.ot ho, by rw [ho.2]; exact h2, fun g k hg hk => ?_, fun g k hg hk => ?_, fun a q1 q2 => ?_, fun a q => by rw [ho.2]; exact h6 a q⟩
  · rw [ho.1 (31 + g) (by omega)]; exact h3 g k hg hk
  · rw [ho.1 (9 + 2 * g) (by omega)]; exact h4 g k hg hk
  · rw [ho.1 a (by omega)]; exact h5 a q1 q2
set_option maxHeartbeats 2000000 in
theorem lp_evenings {Γ : Gm} {σ : Mm} {P : Pb} {s n : Nat} (hs : s < 2147483648) (hn : n ≤ 60) (hG : 0 < pG P) (hD : 0 < pD P) (hk : Pok P) {x2 : Int32} : ∀ (m k : Nat) (σ' : Mm), n - k = m → k ≤ n → EvI σ σ' (evS P s k).1 (evS P s k).2.1 → Go Γ 5 mX0_joyOfEvenings (aI (evS P s n).2.2 (fun σ' => OF σ σ' ∧ σ'.2 27 = lN (evS P s n).2.1)) 22 [some (rf Γ 27), some (.int (nI n)), some (.int x2), some (.int (evS P s k).2.2), some (.int (nI k)), none, none, none] [] σ' := by
  intro m
  induction m with
  | zero =>
    intro k σ' hm hk1 hE
    have e : k = n := by omega
    subst e
    refine go_iload dX0_joyOfEvenings_22 rfl ?_
    refine go_iload_n dX0_joyOfEvenings_24 rfl rfl ?_
    refine go_icmp_ge (tgt := 105) dX0_joyOfEvenings_25 (by decide) (fun c25 => ?_) (fun c25 => ?_)
    · refine go_aload_n dX0_joyOfEvenings_105 rfl rfl ?_
      refine go_getR flX0_27 fs_27_1 dX0_joyOfEvenings_106 ?_
      refine go_aload_n dX0_joyOfEvenings_109 rfl rfl ?_
      refine go_getR flX0_20 fs_27_6 dX0_joyOfEvenings_110 ?_
      refine go_callVv cvX0_190 os_6 (sp_loadWants (Or.inl rfl)) (by omega) rfl rfl (Nat.le_of_ble_eq_true rfl) dX0_joyOfEvenings_113 (fun σ2 q2 => ?_)
      refine go_iload_n dX0_joyOfEvenings_116 rfl rfl ?_
      refine go_iret rfl dX0_joyOfEvenings_117 ?_
      obtain ⟨w1, w2, w3, w4⟩ := q2
      obtain ⟨-, e2, e3, e4, e5, e6⟩ := hE
      refine ⟨rfl, ⟨fun a ha => ?_, fun a ha => by rw [w4]; exact e6 a ha⟩, by rw [w4]; exact e2⟩
      by_cases q : ∃ g, g < 5 ∧ a = 9 + 2 * g
      · obtain ⟨g, hg, rfl⟩ := q
        funext y
        by_cases hy : y < 6
        · rw [w1 g y hg hy, show 30 + 1 + g = 31 + g by omega, e3 g y hg hy]
        · rw [w2 g y hg (by omega), e4 g y hg (by omega)]
      · have q' : ∀ g, g < 5 → a ≠ 9 + 2 * g := fun g hg z => q ⟨g, hg, z⟩
        rw [w3 a q', e5 a ha q']
    · exact absurd (Int32.le_refl _) c25
  | succ m ih =>
    intro k σ' hm hk1 hE
    obtain ⟨z1, z2, z3, -⟩ := evS_same P s k
    have hs0 := evS_lt P hs k
    have hG5 : pG P ≤ 5 := by have := hE.1.1.2.1.2; rw [z2] at this; exact this
    have hD6 : pD P ≤ 6 := by have := hE.1.1.1.2; rw [z1] at this; exact this
    have hsz : σ'.1 6 1 = nI (pG P) := by rw [hE.1.1.2.1.1, z2]
    have hds : σ'.1 3 2 = nI (pD P) := by rw [hE.1.1.1.1, z1]
    have g1 : drw (nxt (nxt (nxt (evS P s k).2.1))) (pG P) < 5 := by have := drw_lt (s := nxt (nxt (nxt (evS P s k).2.1))) hG; omega
    have d1 : drw (nxt (nxt (evS P s k).2.1)) (pD P) < 6 := by have := drw_lt (s := nxt (nxt (evS P s k).2.1)) hD; omega
    have hE4 : EvI σ (stI (stL (stL (stL (stL σ' 27 (lN (nxt (evS P s k).2.1))) 27 (lN (nxt (nxt (evS P s k).2.1)))) 27 (lN (nxt (nxt (nxt (evS P s k).2.1))))) 27 (lN (nxt (nxt (nxt (nxt (evS P s k).2.1)))))) (9 + 2 * drw (nxt (nxt (nxt (evS P s k).2.1))) (pG P)) (drw (nxt (nxt (evS P s k).2.1)) (pD P)) (nI (drw (nxt (nxt (nxt (nxt (evS P s k).2.1)))) 10))) (evS P s (k + 1)).1 (evS P s (k + 1)).2.1 :=
      ((((hE.seed).seed).seed).seed).want (by rw [z2]; exact drw_lt hG) (by rw [z1]; exact drw_lt hD)
    have hk' : Pok (evS P s (k + 1)).1 := by obtain ⟨y1, -, y3, -⟩ := evS_same P s (k + 1); intro d hd; rw [y1] at hd; rw [y3]; exact hk d hd
    have hf' : drw (nxt (evS P s k).2.1) (pG P) < pG (evS P s (k + 1)).1 := by rw [(evS_same P s (k + 1)).2.1]; exact drw_lt hG
    refine go_iload dX0_joyOfEvenings_22 rfl ?_
    refine go_iload_n dX0_joyOfEvenings_24 rfl rfl ?_
    refine go_icmp_ge (tgt := 105) dX0_joyOfEvenings_25 (by decide) (fun c25 => ?_) (fun c25 => ?_)
    · exact absurd c25 (nI_ge (by omega) (by omega))
    · refine go_aload_n dX0_joyOfEvenings_28 rfl rfl ?_
      refine go_aload_n dX0_joyOfEvenings_29 rfl rfl ?_
      refine go_getR flX0_27 fs_27_1 dX0_joyOfEvenings_30 ?_
      refine go_getI flX0_63 fs_6_1 dX0_joyOfEvenings_33 ?_
      rw [hsz]
      refine go_callVi cvX0_187 os_27 (sp_draw hs0 hG (by omega) hE.2.1) (by omega) rfl rfl (Nat.le_of_ble_eq_true rfl) dX0_joyOfEvenings_36 (fun σ1 q1 => ?_)
      subst q1
      refine go_istore (L' := [_, _, _, _, _, _, _, _]) dX0_joyOfEvenings_39 (by decide) rfl rfl ?_
      refine go_aload_n dX0_joyOfEvenings_41 rfl rfl ?_
      refine go_aload_n dX0_joyOfEvenings_42 rfl rfl ?_
      refine go_getR flX0_23 fs_27_0 dX0_joyOfEvenings_43 ?_
      refine go_getI flX0_117 fs_3_2 dX0_joyOfEvenings_46 ?_
      rw [show (stL σ' 27 (lN (nxt (evS P s k).2.1))).1 3 2 = nI (pD P) from hds]
      refine go_callVi cvX0_187 os_27 (sp_draw (nxt_lt _) hD (by omega) stL_at) (by omega) rfl rfl (Nat.le_of_ble_eq_true rfl) dX0_joyOfEvenings_49 (fun σ1 q1 => ?_)
      subst q1
      refine go_istore (L' := [_, _, _, _, _, _, _, _]) dX0_joyOfEvenings_52 (by decide) rfl rfl ?_
      refine go_aload_n dX0_joyOfEvenings_54 rfl rfl ?_
      refine go_aload_n dX0_joyOfEvenings_55 rfl rfl ?_
      refine go_getR flX0_27 fs_27_1 dX0_joyOfEvenings_56 ?_
      refine go_getI flX0_63 fs_6_1 dX0_joyOfEvenings_59 ?_
      rw [show (stL (stL σ' 27 (lN (nxt (evS P s k).2.1))) 27 (lN (nxt (nxt (evS P s k).2.1)))).1 6 1 = nI (pG P) from hsz]
      refine go_callVi cvX0_187 os_27 (sp_draw (nxt_lt _) hG (by omega) stL_at) (by omega) rfl rfl (Nat.le_of_ble_eq_true rfl) dX0_joyOfEvenings_62 (fun σ1 q1 => ?_)
      subst q1
      refine go_istore (L' := [_, _, _, _, _, _, _, _]) dX0_joyOfEvenings_65 (by decide) rfl rfl ?_
      refine go_aload_n dX0_joyOfEvenings_67 rfl rfl ?_
      refine go_getR flX0_27 fs_27_1 dX0_joyOfEvenings_68 ?_
      refine go_getR flX0_134 fs_6_0 dX0_joyOfEvenings_71 ?_
      refine go_iload dX0_joyOfEvenings_74 rfl ?_
      refine go_aald (drw (nxt (nxt (nxt (evS P s k).2.1))) (pG P)) rfl (rG g1) rt_7 dX0_joyOfEvenings_76 ?_
      refine go_getR flX0_154 (fG_0 g1) dX0_joyOfEvenings_77 ?_
      refine go_iload dX0_joyOfEvenings_80 rfl ?_
      refine go_aload_n dX0_joyOfEvenings_82 rfl rfl ?_
      refine go_bipush (v := nI 10) dX0_joyOfEvenings_83 rfl ?_
      refine go_callVi cvX0_187 os_27 (sp_draw (nxt_lt _) (by omega) (by omega) stL_at) (by omega) rfl rfl (Nat.le_of_ble_eq_true rfl) dX0_joyOfEvenings_85 (fun σ1 q1 => ?_)
      subst q1
      refine go_iast (drw (nxt (nxt (evS P s k).2.1)) (pD P)) rfl (aW g1) d1 (by decide) dX0_joyOfEvenings_88 ?_
      refine go_iload_n dX0_joyOfEvenings_89 rfl rfl ?_
      refine go_aload_n dX0_joyOfEvenings_90 rfl rfl ?_
      refine go_iload dX0_joyOfEvenings_91 rfl ?_
      refine go_iconst (v := (-1)) dX0_joyOfEvenings_93 rfl ?_
      refine go_callVi cvX0_96 os_27 (sp_joyFrom (g := -1) hE4.1 hk' hf' (Or.inl rfl)) (by omega) rfl rfl (Nat.le_of_ble_eq_true rfl) dX0_joyOfEvenings_94 (fun σ2 q2 => ?_)
      refine go_iadd dX0_joyOfEvenings_97 ?_
      refine go_istore_n (L' := [_, _, _, _, _, _, _, _]) dX0_joyOfEvenings_98 rfl (by decide) rfl rfl ?_
      refine go_iinc (v := nI (k + 1)) (L' := [_, _, _, _, _, _, _, _]) dX0_joyOfEvenings_99 rfl (nI_1 _) (by decide) rfl rfl ?_
      refine go_goto (tgt := 22) dX0_joyOfEvenings_102 (by decide) ?_
      have := ih (k + 1) σ2 (by omega) (by omega) (hE4.ot q2)
      exact go_sub [true, true, true, true, true, false, false, false] rfl this
set_option maxHeartbeats 1000000 in
theorem sp_joyOfEvenings {Γ : Gm} {σ : Mm} {P : Pb} {s n : Nat} (hS : SU σ P) (hs : s < 2147483648) (hn : n ≤ 60) (hG : 0 < pG P) (hD : 0 < pD P) (hk : Pok P) : Sp Γ 5 mX0_joyOfEvenings [rf Γ 27, .int (nI n), .int (nI s)] σ (aI (evS P s n).2.2 (fun σ' => OF σ σ' ∧ σ'.2 27 = lN (evS P s n).2.1)) := by
  refine sp_in (L := [some (rf Γ 27), some (.int (nI n)), some (.int (nI s)), none, none, none, none, none]) rfl (Nat.le_of_ble_eq_true rfl) rfl ?_
  refine go_aload_n dX0_joyOfEvenings_0 rfl rfl ?_
  refine go_iload_n dX0_joyOfEvenings_1 rfl rfl ?_
  refine go_i2l dX0_joyOfEvenings_2 ?_
  refine go_putL fwX0_179 fs_27_9 (by exact u27) dX0_joyOfEvenings_3 ?_
  refine go_aload_n dX0_joyOfEvenings_6 rfl rfl ?_
  refine go_getR flX0_27 fs_27_1 dX0_joyOfEvenings_7 ?_
  refine go_aload_n dX0_joyOfEvenings_10 rfl rfl ?_
  refine go_getR flX0_20 fs_27_6 dX0_joyOfEvenings_11 ?_
  refine go_callVv cvX0_183 os_6 (sp_saveWants (Or.inl rfl)) (by omega) rfl rfl (Nat.le_of_ble_eq_true rfl) dX0_joyOfEvenings_14 (fun σ1 q1 => ?_)
  refine go_iconst (v := nI 0) dX0_joyOfEvenings_17 rfl ?_
  refine go_istore_n (L' := [_, _, _, _, _, _, _, _]) dX0_joyOfEvenings_18 rfl (by decide) rfl rfl ?_
  refine go_iconst (v := nI 0) dX0_joyOfEvenings_19 rfl ?_
  refine go_istore (L' := [_, _, _, _, _, _, _, _]) dX0_joyOfEvenings_20 (by decide) rfl rfl ?_
  refine lp_evenings hs hn hG hD hk n 0 σ1 rfl (Nat.zero_le _) ?_
  obtain ⟨w1, w2, w3⟩ := q1
  refine ⟨?_, ?_, fun g k hg hk => ?_, fun g k hg hk => ?_, fun a q1 q2 => ?_, fun a ha => ?_⟩
  · refine hS.of ⟨fun a ha => w2 a (by omega), fun a ha => ?_⟩
    rw [w3]
  · rw [w3, stL_at, nI_l (by omega)]; rfl
  · rw [show 31 + g = 30 + 1 + g by omega, w1 g k hg hk]; rfl
  · rw [w2 (9 + 2 * g) (by omega)]; rfl
  · rw [w2 a (by omega)]; rfl
  · rw [w3]; simp [stL, ha]
end
section
/-! folds by an operation that is associative and commutative -/
def mx (a b : Int32) : Int32 := if a < b then b else a
theorem mx_toInt (a b : Int32) : (mx a b).toInt = max a.toInt b.toInt := by
  unfold mx
  split
  · rename_i h; have := Int32.lt_iff_toInt_lt.mp h; omega
  · rename_i h; have : ¬ a.toInt < b.toInt := fun z => h (Int32.lt_iff_toInt_lt.mpr z); omega
theorem mx_comm (a b : Int32) : mx a b = mx b a := Int32.toInt_inj.mp (by rw [mx_toInt, mx_toInt]; omega)
theorem mx_assoc (a b c : Int32) : mx (mx a b) c = mx a (mx b c) := Int32.toInt_inj.mp (by simp only [mx_toInt]; omega)
theorem mx_min (a : Int32) : mx a Int32.minValue = a := by
  refine Int32.toInt_inj.mp ?_
  rw [mx_toInt]
  have h1 : Int32.minValue.toInt = -2147483648 := by decide
  have h2 := Int32.le_toInt a
  omega
abbrev Ac : Type := Int32 × Int32
def opA (a b : Ac) : Ac := (a.1 + b.1, mx a.2 b.2)
def eA : Ac := (0, Int32.minValue)
theorem opA_comm (a b : Ac) : opA a b = opA b a := Prod.ext (Int32.add_comm _ _) (mx_comm _ _)
theorem opA_assoc (a b c : Ac) : opA (opA a b) c = opA a (opA b c) := Prod.ext (Int32.add_assoc _ _ _) (mx_assoc _ _ _)
theorem opA_e (a : Ac) : opA a eA = a := Prod.ext (Int32.add_zero _) (mx_min _)
theorem e_opA (a : Ac) : opA eA a = a := by rw [opA_comm, opA_e]
def fo (f : Nat → Ac) : Nat → Ac
  | 0 => eA
  | n + 1 => opA (fo f n) (f n)
theorem fo_congr {f g : Nat → Ac} : ∀ n : Nat, (∀ k, k < n → f k = g k) → fo f n = fo g n
  | 0, _ => rfl
  | n + 1, h => by unfold fo; rw [fo_congr n (fun k hk => h k (by omega)), h n (by omega)]
theorem fo_e {f : Nat → Ac} : ∀ n : Nat, (∀ k, k < n → f k = eA) → fo f n = eA
  | 0, _ => rfl
  | n + 1, h => by unfold fo; rw [fo_e n (fun k hk => h k (by omega)), h n (by omega)]; exact opA_e _
theorem fo_op (f g : Nat → Ac) : ∀ n : Nat, fo (fun k => opA (f k) (g k)) n = opA (fo f n) (fo g n)
  | 0 => (opA_e eA).symm
  | n + 1 => by
    unfold fo
    rw [fo_op f g n, opA_assoc, opA_assoc]
    congr 1
    rw [← opA_assoc, opA_comm (fo g n) (f n), opA_assoc]
theorem fo_swap (F : Nat → Nat → Ac) (m : Nat) : ∀ n : Nat, fo (fun a => fo (fun b => F a b) m) n = fo (fun b => fo (fun a => F a b) n) m
  | 0 => (fo_e m (fun _ _ => rfl)).symm
  | n + 1 => by
    have e : fo (fun b => fo (fun a => F a b) (n + 1)) m = fo (fun b => opA (fo (fun a => F a b) n) (F n b)) m := rfl
    rw [e, fo_op, ← fo_swap F m n]
    rfl
theorem fo_add (f : Nat → Ac) (n : Nat) : ∀ m : Nat, fo f (n + m) = opA (fo f n) (fo (fun k => f (n + k)) m)
  | 0 => (opA_e _).symm
  | m + 1 => by
    show opA (fo f (n + m)) (f (n + m)) = opA (fo f n) (opA (fo (fun k => f (n + k)) m) (f (n + m)))
    rw [fo_add f n m, opA_assoc]
theorem fo_mul (f : Nat → Ac) (n : Nat) : ∀ m : Nat, fo f (m * n) = fo (fun q => fo (fun r => f (q * n + r)) n) m
  | 0 => by rw [Nat.zero_mul]; rfl
  | m + 1 => by
    rw [Nat.succ_mul, fo_add, fo_mul f n m]
    rfl
/-- at once: each one's own choice is the best for him -/
def conE (P : Pb) (h : Nat → Int32) (g d : Nat) : Bool := decide (nI d = h g) || (!mayM P h g d || decide (valM P h g d ≤ valM P h g (h g).toNatClampNeg))
def conB (P : Pb) (h : Nat → Int32) : Bool := allB (fun g => allB (conE P h g) (pD P)) (pG P)
def goodB (P : Pb) (h : Nat → Int32) : Bool := allB (fun g => mayM P h g (h g).toNatClampNeg && allB (conE P h g) (pD P)) (pG P)
def ctr (P : Pb) (h : Nat → Int32) : Ac := if goodB P h = true then (1, joyA P h) else eA
/-- over all that the last r guests may have -/
def NF (P : Pb) : Nat → (Nat → Int32) → Ac
  | 0, h => ctr P h
  | r + 1, h => fo (fun d => NF P r (upd h (pG P - (r + 1)) (nI d))) (pD P)
def atM (P : Pb) : Ac := opA (0, -1) (NF P (pG P) (fun _ => -2))
theorem cnt_mono {h : Nat → Int32} {y : Int32} {m n : Nat} (hmn : m ≤ n) : cnt h y m ≤ cnt h y n := by
  induction n with
  | zero => have : m = 0 := by omega
            subst this; exact Nat.le_refl _
  | succ n ih =>
    by_cases e : m = n + 1
    · subst e; exact Nat.le_refl _
    · have := ih (by omega)
      show cnt h y m ≤ cnt h y n + (if h n = y then 1 else 0)
      omega
theorem cnt_congr {h h' : Nat → Int32} {y : Int32} : ∀ n : Nat, (∀ k, k < n → h k = h' k) → cnt h y n = cnt h' y n
  | 0, _ => rfl
  | n + 1, q => by unfold cnt; rw [cnt_congr n (fun k hk => q k (by omega)), q n (by omega)]
/-- somebody among the first m has what can't be -/
def Bad (P : Pb) (h : Nat → Int32) (m : Nat) : Prop := ∃ g d, g < m ∧ d < pD P ∧ h g = nI d ∧ (¬ pPr P d ≤ pPu P g ∨ ∃ k, k ≤ 9 ∧ pSt P d = nI k ∧ k < cnt h (nI d) m)
theorem Bad.good {P : Pb} {h : Nat → Int32} (hG : pG P ≤ 5) (hD : pD P ≤ 6) (hb : Bad P h (pG P)) : goodB P h = false := by
  obtain ⟨g, d, hg, hd, e, q⟩ := hb
  refine allB_false hg ?_
  have : mayM P h g (h g).toNatClampNeg = false := by
    rw [e, nI_clamp (by omega)]
    unfold mayM oth
    rcases q with q | ⟨k, hk, q1, q2⟩
    · simp [q]
    · rw [if_pos e, q1, show (1 : Int32) = nI 1 from rfl, pk_sub (by omega)]
      have := cnt_le h (nI d) (pG P)
      have hn : ¬ nI (cnt h (nI d) (pG P) - 1) < nI k := nI_nlt (by omega) (by omega)
      simp [hn]
  rw [this, Bool.false_and]
theorem Bad.nf {P : Pb} (hG : pG P ≤ 5) (hD : pD P ≤ 6) : ∀ (r : Nat) (h : Nat → Int32), r ≤ pG P → Bad P h (pG P - r) → NF P r h = eA
  | 0, h, _, hb => by
    unfold NF ctr
    rw [Bad.good hG hD hb]
    rfl
  | r + 1, h, hr, ⟨g, d, hg, hd, e, q⟩ => by
    unfold NF
    refine fo_e _ (fun x hx => Bad.nf hG hD r _ (by omega) ⟨g, d, by omega, hd, ?_, ?_⟩)
    · simp only [upd, if_neg (show ¬ g = pG P - (r + 1) by omega)]; exact e
    · rcases q with q | ⟨k, hk, q1, q2⟩
      · exact Or.inl q
      · refine Or.inr ⟨k, hk, q1, Nat.lt_of_lt_of_le q2 ?_⟩
        rw [cnt_congr (h := h) (h' := upd h (pG P - (r + 1)) (nI x)) (pG P - (r + 1)) (fun a ha => by simp only [upd, if_neg (show ¬ a = pG P - (r + 1) by omega)])]
        exact cnt_mono (by omega)
end
section
/-! the JDK's three, and the class's seats at once -/
def mn (a b : Int32) : Int32 := if b < a then b else a
section GOJ
variable {Γ : Gm} {n : Nat} {M : Md} {Q : Option Value → Mm → Prop} {pc : Nat} {L : List (Option Value)} {st : List Value} {σ : Mm}
theorem go_max {x y : Int32} {idx : Nat} (w : CS M.1.cls idx mJ9_max_7cf53 2) (hn : 1 ≤ n) (hr : (st.map fun v => v.category).sum ≤ 8) (d : decode M.2.1 pc = .ok (.invokestatic idx, 3)) (k : Go Γ n M Q (pc + 3) L (.int (mx x y) :: st) σ) : Go Γ n M Q pc L (.int y :: .int x :: st) σ := by
  intro p l e s m args below meth c H locs ls C hP hS hl
  have hts := C.2.2.2.2.2.1
  exact va_mmax C.1 C.2.1 (C.2.2.2.1.trans hl.1.symm) C.2.2.2.2.1 (hts _ w.1.1) (hts _ w.1.2.1) (hts _ w.1.2.2.1) (hts _ w.1.2.2.2) hn (by show _ ≤ 128 * n; omega) (Nat.le_refl 0) (Nat.le_refl 0) d (k p l e s m args below meth c H locs ls C hP hS hl)
theorem go_min {x y : Int32} {idx : Nat} (w : CS M.1.cls idx mJ9_min_7cf53 2) (hn : 1 ≤ n) (hr : (st.map fun v => v.category).sum ≤ 8) (d : decode M.2.1 pc = .ok (.invokestatic idx, 3)) (k : Go Γ n M Q (pc + 3) L (.int (mn x y) :: st) σ) : Go Γ n M Q pc L (.int y :: .int x :: st) σ := by
  intro p l e s m args below meth c H locs ls C hP hS hl
  have hts := C.2.2.2.2.2.1
  exact va_mmin C.1 C.2.1 (C.2.2.2.1.trans hl.1.symm) C.2.2.2.2.1 (hts _ w.1.1) (hts _ w.1.2.1) (hts _ w.1.2.2.1) (hts _ w.1.2.2.2) hn (by show _ ≤ 128 * n; omega) (Nat.le_refl 0) (Nat.le_refl 0) d (k p l e s m args below meth c H locs ls C hP hS hl)
theorem sp_av {av av' : List Value} (e : av = av') (h : Sp Γ n M av σ Q) : Sp Γ n M av' σ Q := e ▸ h
end GOJ
/-- the row's own dish, where all have one -/
def Dn (P : Pb) (h : Nat → Int32) (n : Nat) : Prop := ∀ g, g < n → ∃ d, d < pD P ∧ h g = nI d
set_option maxHeartbeats 1000000 in
theorem lp_content2 {Γ : Gm} {σ : Mm} {P : Pb} {h : Nat → Int32} {g d0 : Nat} (hP : PI σ P) (hT : TI σ 36 P h) (hk : Pok P) (hg : g < pG P) (hd0 : d0 < pD P) (e0 : h g = nI d0)
    (next : allB (conE P h g) (pD P) = true → Go Γ 2 mX7_allContent (aP (bI (conB P h)) σ) 2 [some (rf Γ 36), some (.int (nI (g + 1))), none, none] [] σ) :
    ∀ (m d : Nat), pD P - d = m → d ≤ pD P → allB (conE P h g) d = true → Go Γ 2 mX7_allContent (aP (bI (conB P h)) σ) 27 [some (rf Γ 36), some (.int (nI g)), some (.int (valM P h g d0)), some (.int (nI d))] [] σ := by
  have hD := hP.1.2
  have hG := hP.2.1.2
  have hg5 : g < 5 := by omega
  have hrow : σ.1 (36 + 3) g = nI d0 := by rw [(hT.2.2 g hg5).1, e0]; exact hC_nI (by omega)
  intro m
  induction m with
  | zero =>
    intro d hm hd ha
    have e : d = pD P := by omega
    subst e
    refine go_iload_n dX7_allContent_27 rfl rfl ?_
    refine go_aload_n dX7_allContent_28 rfl rfl ?_
    refine go_getR flX7_28 fs_36_0 dX7_allContent_29 ?_
    refine go_getI flX7_67 fs_3_2 dX7_allContent_32 ?_
    rw [hP.1.1]
    refine go_icmp_ge (tgt := 75) dX7_allContent_35 (by decide) (fun c35 => ?_) (fun c35 => ?_)
    · refine go_iinc (v := nI (g + 1)) (L' := [_, _, _, _]) dX7_allContent_75 rfl (nI_1 _) (by decide) rfl rfl ?_
      refine go_goto (tgt := 2) dX7_allContent_78 (by decide) ?_
      exact go_sub [true, true, false, false] rfl (next ha)
    · exact absurd (Int32.le_refl _) c35
  | succ m ih =>
    intro d hm hd ha
    have hd1 : d < pD P := by omega
    have stp : conE P h g d = true → Go Γ 2 mX7_allContent (aP (bI (conB P h)) σ) 27 [some (rf Γ 36), some (.int (nI g)), some (.int (valM P h g d0)), some (.int (nI (d + 1)))] [] σ := fun q => ih (d + 1) (by omega) (by omega) (by unfold allB; rw [ha, q]; rfl)
    refine go_iload_n dX7_allContent_27 rfl rfl ?_
    refine go_aload_n dX7_allContent_28 rfl rfl ?_
    refine go_getR flX7_28 fs_36_0 dX7_allContent_29 ?_
    refine go_getI flX7_67 fs_3_2 dX7_allContent_32 ?_
    rw [hP.1.1]
    refine go_icmp_ge (tgt := 75) dX7_allContent_35 (by decide) (fun c35 => ?_) (fun c35 => ?_)
    · exact absurd c35 (nI_ge (by omega) (by omega))
    · refine go_iload_n dX7_allContent_38 rfl rfl ?_
      refine go_aload_n dX7_allContent_39 rfl rfl ?_
      refine go_getR flX7_18 fs_36_4 dX7_allContent_40 ?_
      refine go_iload_n dX7_allContent_43 rfl rfl ?_
      refine go_iald (g) rfl as_39 (by omega) (by decide) dX7_allContent_44 ?_
      rw [show σ.1 39 g = nI d0 from hrow]
      refine go_icmp_eq (tgt := 69) dX7_allContent_45 (by decide) (fun c45 => ?_) (fun c45 => ?_)
      · refine go_iinc (v := nI (d + 1)) (L' := [_, _, _, _]) dX7_allContent_69 rfl (nI_1 _) (by decide) rfl rfl ?_
        refine go_goto (tgt := 27) dX7_allContent_72 (by decide) ?_
        exact stp (by unfold conE; rw [e0]; simp [c45])
      · refine go_aload_n dX7_allContent_48 rfl rfl ?_
        refine go_iload_n dX7_allContent_49 rfl rfl ?_
        refine go_iload_n dX7_allContent_50 rfl rfl ?_
        refine go_callVp cvX7_70 os_36 (sp_canHave isT36 hg5 (by omega)) (by omega) rfl rfl (Nat.le_of_ble_eq_true rfl) dX7_allContent_51 ?_
        rw [canHave_may hP hT hk hg hd1 (fun z => c45 (z.symm.trans e0))]
        refine go_if_eq (tgt := 69) dX7_allContent_54 (by decide) (fun c54 => ?_) (fun c54 => ?_)
        · refine go_iinc (v := nI (d + 1)) (L' := [_, _, _, _]) dX7_allContent_69 rfl (nI_1 _) (by decide) rfl rfl ?_
          refine go_goto (tgt := 27) dX7_allContent_72 (by decide) ?_
          exact stp (by unfold conE; simp [bI_eq0.mp c54])
        · refine go_aload_n dX7_allContent_57 rfl rfl ?_
          refine go_iload_n dX7_allContent_58 rfl rfl ?_
          refine go_iload_n dX7_allContent_59 rfl rfl ?_
          refine go_callVp cvX7_74 os_36 (sp_value isT36 hg5 (by omega)) (by omega) rfl rfl (Nat.le_of_ble_eq_true rfl) dX7_allContent_60 ?_
          rw [valC_val hP hT hg hd1]
          refine go_iload_n dX7_allContent_63 rfl rfl ?_
          refine go_icmp_le (tgt := 69) dX7_allContent_64 (by decide) (fun c64 => ?_) (fun c64 => ?_)
          · refine go_iinc (v := nI (d + 1)) (L' := [_, _, _, _]) dX7_allContent_69 rfl (nI_1 _) (by decide) rfl rfl ?_
            refine go_goto (tgt := 27) dX7_allContent_72 (by decide) ?_
            exact stp (by unfold conE; rw [e0, nI_clamp (by omega)]; simp [c64])
          · refine go_iconst (v := nI 0) dX7_allContent_67 rfl ?_
            refine go_zret rfl dX7_allContent_68 (by first | exact Or.inl rfl | exact Or.inr rfl | exact bI_01 _) ?_
            refine ⟨?_, rfl⟩
            have hf : conE P h g d = false := by
              unfold conE
              rw [e0, nI_clamp (by omega)]
              simp [c45, bI_ne0.mp c54, c64]
            rw [show conB P h = false from allB_false hg (allB_false hd1 hf)]
            rfl
set_option maxHeartbeats 1000000 in
theorem lp_content1 {Γ : Gm} {σ : Mm} {P : Pb} {h : Nat → Int32} (hP : PI σ P) (hT : TI σ 36 P h) (hk : Pok P) (hn : Dn P h (pG P)) : ∀ (m g : Nat), pG P - g = m → g ≤ pG P → allB (fun g => allB (conE P h g) (pD P)) g = true → Go Γ 2 mX7_allContent (aP (bI (conB P h)) σ) 2 [some (rf Γ 36), some (.int (nI g)), none, none] [] σ := by
  have hD := hP.1.2
  have hG := hP.2.1.2
  intro m
  induction m with
  | zero =>
    intro g hm hg ha
    have e : g = pG P := by omega
    subst e
    refine go_iload_n dX7_allContent_2 rfl rfl ?_
    refine go_aload_n dX7_allContent_3 rfl rfl ?_
    refine go_getR flX7_32 fs_36_1 dX7_allContent_4 ?_
    refine go_getI flX7_90 fs_6_1 dX7_allContent_7 ?_
    rw [hP.2.1.1]
    refine go_icmp_ge (tgt := 81) dX7_allContent_10 (by decide) (fun c10 => ?_) (fun c10 => ?_)
    · refine go_iconst (v := nI 1) dX7_allContent_81 rfl ?_
      refine go_zret rfl dX7_allContent_82 (by first | exact Or.inl rfl | exact Or.inr rfl | exact bI_01 _) ?_
      exact ⟨by rw [show conB P h = true from ha]; rfl, rfl⟩
    · exact absurd (Int32.le_refl _) c10
  | succ m ih =>
    intro g hm hg ha
    have hg1 : g < pG P := by omega
    obtain ⟨d0, hd0, e0⟩ := hn g hg1
    have hrow : σ.1 39 g = nI d0 := by rw [(hT.2.2 g (by omega)).1, e0]; exact hC_nI (by omega)
    refine go_iload_n dX7_allContent_2 rfl rfl ?_
    refine go_aload_n dX7_allContent_3 rfl rfl ?_
    refine go_getR flX7_32 fs_36_1 dX7_allContent_4 ?_
    refine go_getI flX7_90 fs_6_1 dX7_allContent_7 ?_
    rw [hP.2.1.1]
    refine go_icmp_ge (tgt := 81) dX7_allContent_10 (by decide) (fun c10 => ?_) (fun c10 => ?_)
    · exact absurd c10 (nI_ge (by omega) (by omega))
    · refine go_aload_n dX7_allContent_13 rfl rfl ?_
      refine go_iload_n dX7_allContent_14 rfl rfl ?_
      refine go_aload_n dX7_allContent_15 rfl rfl ?_
      refine go_getR flX7_18 fs_36_4 dX7_allContent_16 ?_
      refine go_iload_n dX7_allContent_19 rfl rfl ?_
      refine go_iald (g) rfl as_39 (by omega) (by decide) dX7_allContent_20 ?_
      rw [hrow]
      refine go_callVp cvX7_74 os_36 (sp_value isT36 (by omega) (by omega)) (by omega) rfl rfl (Nat.le_of_ble_eq_true rfl) dX7_allContent_21 ?_
      rw [valC_val hP hT hg1 hd0]
      refine go_istore_n (L' := [_, _, _, _]) dX7_allContent_24 rfl (by decide) rfl rfl ?_
      refine go_iconst (v := nI 0) dX7_allContent_25 rfl ?_
      refine go_istore_n (L' := [_, _, _, _]) dX7_allContent_26 rfl (by decide) rfl rfl ?_
      exact lp_content2 hP hT hk hg1 hd0 e0 (fun q => ih (g + 1) (by omega) (by omega) (by unfold allB; rw [ha, q]; rfl)) (pD P) 0 rfl (Nat.zero_le _) rfl
set_option maxHeartbeats 1000000 in
theorem sp_allContent {Γ : Gm} {σ : Mm} {P : Pb} {h : Nat → Int32} (hP : PI σ P) (hT : TI σ 36 P h) (hk : Pok P) (hn : Dn P h (pG P)) : Sp Γ 2 mX7_allContent [rf Γ 36] σ (aP (bI (conB P h)) σ) := by
  refine sp_in (L := [some (rf Γ 36), none, none, none]) rfl (Nat.le_of_ble_eq_true rfl) rfl ?_
  refine go_iconst (v := nI 0) dX7_allContent_0 rfl ?_
  refine go_istore_n (L' := [_, _, _, _]) dX7_allContent_1 rfl (by decide) rfl rfl ?_
  exact lp_content1 hP hT hk hn (pG P) 0 rfl (Nat.zero_le _) rfl
theorem con_good {P : Pb} {h : Nat → Int32} (hk : Pok P) (hG : pG P ≤ 5) (hD : pD P ≤ 6) (hF : Fea P h) (hn : Dn P h (pG P)) : goodB P h = conB P h := by
  have key : ∀ n, n ≤ pG P → allB (fun g => mayM P h g (h g).toNatClampNeg && allB (conE P h g) (pD P)) n = allB (fun g => allB (conE P h g) (pD P)) n := by
    intro n
    induction n with
    | zero => intro _; rfl
    | succ n ih =>
      intro hn1
      obtain ⟨d, hd, e⟩ := hn n (by omega)
      unfold allB
      rw [ih (by omega), e, nI_clamp (by omega), hF.may hk hG (by omega) hd e, Bool.true_and]
  exact key _ (Nat.le_refl _)
/-- a partial row: the first g have a dish, the others wait -/
def Part (P : Pb) (h : Nat → Int32) (g : Nat) : Prop := Dn P h g ∧ ∀ k, g ≤ k → h k = -2
theorem Part.rok {P : Pb} {h : Nat → Int32} {g : Nat} (hp : Part P h g) (hg : g ≤ pG P) : Rok P h := by
  refine ⟨fun k _ => ?_, fun k hk => hp.2 k (by omega)⟩
  by_cases q : k < g
  · exact Or.inr (Or.inr (hp.1 k q))
  · exact Or.inl (hp.2 k (by omega))
def acc (σ : Mm) : Ac := (σ.1 27 7, σ.1 27 8)
/-- what seating does besides: the forecast's counters, its trial table -/
def OSt (σ σ' : Mm) : Prop := (∀ a, a ≠ 27 → a < 36 ∨ 40 < a → σ'.1 a = σ.1 a) ∧ σ'.2 = σ.2
theorem OSt.rf {σ : Mm} : OSt σ σ := ⟨fun _ _ _ => rfl, rfl⟩
theorem OSt.trans {σ σ1 σ2 : Mm} (h : OSt σ σ1) (h2 : OSt σ1 σ2) : OSt σ σ2 := ⟨fun a q r => (h2.1 a q r).trans (h.1 a q r), h2.2.trans h.2⟩
theorem OSt.ot {σ σ' : Mm} (h : OT 36 σ σ') : OSt σ σ' := ⟨fun a _ r => h.1 a (by omega), h.2⟩
theorem OSt.of {σ σ' : Mm} (h : OSt σ σ') : OF σ σ' := ⟨fun a r => h.1 a (by omega) (by omega), fun a _ => by rw [h.2]⟩
theorem PI.os {σ σ' : Mm} {P : Pb} (h : OSt σ σ') (hP : PI σ P) : PI σ' P := by
  obtain ⟨⟨a1, a2⟩, ⟨b1, b2⟩, c, d⟩ := hP
  refine ⟨⟨by rw [h.1 3 (by omega) (by omega)]; exact a1, a2⟩, ⟨by rw [h.1 6 (by omega) (by omega)]; exact b1, b2⟩, fun k hk => ?_, fun g hg => ?_⟩
  · rw [h.1 4 (by omega) (by omega), h.1 5 (by omega) (by omega)]; exact c k hk
  · rw [h.1 (8 + 2 * g) (by omega) (by omega), h.1 (9 + 2 * g) (by omega) (by omega)]; exact d g hg
theorem acc_ot {σ σ' : Mm} (h : OT 36 σ σ') : acc σ' = acc σ := by unfold acc; rw [h.1 27 (by omega)]
theorem TI.cell27 {σ : Mm} {P : Pb} {h : Nat → Int32} {k : Nat} {v : Int32} (hT : TI σ 36 P h) : TI (stI σ 27 k v) 36 P h := by
  obtain ⟨⟨u1, u2, u3⟩, h5, h6⟩ := hT
  refine ⟨⟨?_, ?_, ?_⟩, fun d hd => ?_, fun g hg => ?_⟩ <;> simp (disch := omega) only [stI_ne]
  · exact u1
  · exact u2
  · exact u3
  · exact h5 d hd
  · exact h6 g hg
set_option maxHeartbeats 2000000 in
theorem sp_seat {Γ : Gm} {P : Pb} (hk : Pok P) : ∀ (r : Nat) (σ : Mm) (h : Nat → Int32) (g : Nat), g + r = pG P → PI σ P → TI σ 36 P h → Part P h g → Fea P h → Sp Γ (r + 3) mX0_seatOnwards [rf Γ 27, .int (nI g)] σ (aV (fun σ' => TI σ' 36 P h ∧ acc σ' = opA (acc σ) (NF P r h) ∧ OSt σ σ')) := by
  intro r
  induction r with
  | zero =>
    intro σ h g hr hP hT hp hF
    have hD := hP.1.2
    have hG := hP.2.1.2
    have e : g = pG P := by omega
    subst e
    have hgc := con_good hk hG hD hF hp.1
    refine sp_in (L := [some (rf Γ 27), some (.int (nI (pG P))), none]) rfl (Nat.le_of_ble_eq_true rfl) rfl ?_
    refine go_iload_n dX0_seatOnwards_0 rfl rfl ?_
    refine go_aload_n dX0_seatOnwards_1 rfl rfl ?_
    refine go_getR flX0_27 fs_27_1 dX0_seatOnwards_2 ?_
    refine go_getI flX0_63 fs_6_1 dX0_seatOnwards_5 ?_
    rw [hP.2.1.1]
    refine go_icmp_lt (tgt := 50) dX0_seatOnwards_8 (by decide) (fun c8 => ?_) (fun c8 => ?_)
    · exact (Int32.lt_irrefl c8).elim
    · refine go_aload_n dX0_seatOnwards_11 rfl rfl ?_
      refine go_getR flX0_40 fs_27_3 dX0_seatOnwards_12 ?_
      refine go_callVp cvX0_108 os_36 (sp_allContent hP hT hk hp.1) (by omega) rfl rfl (Nat.le_of_ble_eq_true rfl) dX0_seatOnwards_15 ?_
      rw [← hgc]
      refine go_if_eq (tgt := 49) dX0_seatOnwards_18 (by decide) (fun c18 => ?_) (fun c18 => ?_)
      · refine go_vret rfl dX0_seatOnwards_49 ?_
        refine ⟨rfl, hT, ?_, OSt.rf⟩
        unfold NF ctr
        rw [bI_eq0.mp c18]
        exact (opA_e _).symm
      · refine go_aload_n dX0_seatOnwards_21 rfl rfl ?_
        refine go_dup dX0_seatOnwards_22 rfl ?_
        refine go_getI flX0_99 fs_27_7 dX0_seatOnwards_23 ?_
        refine go_iconst (v := nI 1) dX0_seatOnwards_26 rfl ?_
        refine go_iadd dX0_seatOnwards_27 ?_
        refine go_putI fwX0_99 fs_27_7 dX0_seatOnwards_28 ?_
        refine go_aload_n dX0_seatOnwards_31 rfl rfl ?_
        refine go_aload_n dX0_seatOnwards_32 rfl rfl ?_
        refine go_getI flX0_102 fs_27_8 dX0_seatOnwards_33 ?_
        refine go_aload_n dX0_seatOnwards_36 rfl rfl ?_
        refine go_getR flX0_40 fs_27_3 dX0_seatOnwards_37 ?_
        refine go_callVp cvX0_89 os_36 (sp_joyOfAll isT36 (P := P) (h := h) (hP.os ⟨fun a q _ => funext fun y => stI_ne (Or.inl q), rfl⟩) hT.cell27 (hp.rok (Nat.le_refl _))) (by omega) rfl rfl (Nat.le_of_ble_eq_true rfl) dX0_seatOnwards_40 ?_
        refine go_max csX0_112 (by omega) (Nat.le_of_ble_eq_true rfl) dX0_seatOnwards_43 ?_
        refine go_putI fwX0_102 fs_27_8 dX0_seatOnwards_46 ?_
        refine go_vret rfl dX0_seatOnwards_49 ?_
        refine ⟨rfl, hT.cell27.cell27, ?_, ⟨fun a q _ => funext fun y => (stI_ne (Or.inl q)).trans (stI_ne (Or.inl q)), rfl⟩⟩
        unfold NF ctr
        rw [if_pos (bI_ne0.mp c18)]
        unfold acc opA
        simp (disch := omega) only [stI_at, stI_ne]
        rfl
  | succ r ih =>
    intro σ h g hr hP hT hp hF
    have hD := hP.1.2
    have hG := hP.2.1.2
    have hg1 : g < pG P := by omega
    have hg5 : g < 5 := by omega
    have hw := hp.2 g (Nat.le_refl _)
    have hgr : pG P - (r + 1) = g := by omega
    have lp : ∀ (m d : Nat) (σ' : Mm), pD P - d = m → d ≤ pD P → TI σ' 36 P h → acc σ' = opA (acc σ) (fo (fun d => NF P r (upd h g (nI d))) d) → OSt σ σ' → Go Γ (r + 1 + 3) mX0_seatOnwards (aV (fun σ' => TI σ' 36 P h ∧ acc σ' = opA (acc σ) (NF P (r + 1) h) ∧ OSt σ σ')) 52 [some (rf Γ 27), some (.int (nI g)), some (.int (nI d))] [] σ' := by
      intro m
      induction m with
      | zero =>
        intro d σ' hm hd hT' ha hO
        have e : d = pD P := by omega
        subst e
        refine go_iload_n dX0_seatOnwards_52 rfl rfl ?_
        refine go_aload_n dX0_seatOnwards_53 rfl rfl ?_
        refine go_getR flX0_23 fs_27_0 dX0_seatOnwards_54 ?_
        refine go_getI flX0_117 fs_3_2 dX0_seatOnwards_57 ?_
        rw [(hP.os hO).1.1]
        refine go_icmp_ge (tgt := 105) dX0_seatOnwards_60 (by decide) (fun c60 => ?_) (fun c60 => ?_)
        · refine go_vret rfl dX0_seatOnwards_105 ?_
          exact ⟨rfl, hT', by rw [ha]; show _ = opA (acc σ) (fo (fun d => NF P r (upd h (pG P - (r + 1)) (nI d))) (pD P)); rw [hgr], hO⟩
        · exact absurd (Int32.le_refl _) c60
      | succ m ihm =>
        intro d σ' hm hd hT' ha hO
        have hd1 : d < pD P := by omega
        have hP' := hP.os hO
        have hne : h g ≠ nI d := by rw [hw]; exact (nI_neg2 (by omega)).symm
        have hu : upd (upd h g (nI d)) g (-2) = h := by rw [upd_upd, ← hw, upd_same]
        have hp2 : Part P (upd h g (nI d)) (g + 1) := by
          refine ⟨fun k hk => ?_, fun k hk => ?_⟩
          · by_cases q : k = g
            · subst q; exact ⟨d, hd1, by simp [upd]⟩
            · simp only [upd, if_neg q]; exact hp.1 k (by omega)
          · simp only [upd, if_neg (show ¬ k = g by omega)]; exact hp.2 k (by omega)
        refine go_iload_n dX0_seatOnwards_52 rfl rfl ?_
        refine go_aload_n dX0_seatOnwards_53 rfl rfl ?_
        refine go_getR flX0_23 fs_27_0 dX0_seatOnwards_54 ?_
        refine go_getI flX0_117 fs_3_2 dX0_seatOnwards_57 ?_
        rw [hP'.1.1]
        refine go_icmp_ge (tgt := 105) dX0_seatOnwards_60 (by decide) (fun c60 => ?_) (fun c60 => ?_)
        · exact absurd c60 (nI_ge (by omega) (by omega))
        · refine go_aload_n dX0_seatOnwards_63 rfl rfl ?_
          refine go_getR flX0_40 fs_27_3 dX0_seatOnwards_64 ?_
          refine go_iload_n dX0_seatOnwards_67 rfl rfl ?_
          refine go_iload_n dX0_seatOnwards_68 rfl rfl ?_
          refine go_callVp cvX0_120 os_36 (sp_canHave isT36 hg5 (by omega)) (by omega) rfl rfl (Nat.le_of_ble_eq_true rfl) dX0_seatOnwards_69 ?_
          rw [canHave_may hP' hT' hk hg1 hd1 hne]
          refine go_if_eq (tgt := 99) dX0_seatOnwards_72 (by decide) (fun c72 => ?_) (fun c72 => ?_)
          · refine go_iinc (v := nI (d + 1)) (L' := [_, _, _]) dX0_seatOnwards_99 rfl (nI_1 _) (by decide) rfl rfl ?_
            refine go_goto (tgt := 52) dX0_seatOnwards_102 (by decide) ?_
            refine ihm (d + 1) σ' (by omega) (by omega) hT' ?_ hO
            have hb : NF P r (upd h g (nI d)) = eA := by
              refine Bad.nf hG hD r _ (by omega) ⟨g, d, by omega, hd1, by simp [upd], ?_⟩
              obtain ⟨k, hk1, hk2, hk3⟩ := hk d hd1
              have hm0 := bI_eq0.mp c72
              unfold mayM oth at hm0
              rw [if_neg hne, hk1, Int32.sub_zero] at hm0
              by_cases q : pPr P d ≤ pPu P g
              · have q2 : ¬ nI (cnt h (nI d) (pG P)) < nI k := by
                  intro z
                  simp [q, z] at hm0
                refine Or.inr ⟨k, hk3, hk1, ?_⟩
                have hc := cnt_le h (nI d) (pG P)
                have q3 : k ≤ cnt h (nI d) (pG P) := by
                  by_cases z : k ≤ cnt h (nI d) (pG P)
                  · exact z
                  · exact absurd (nI_lt (by omega) (by omega)) q2
                rw [show pG P - r = g + 1 by omega]
                have q4 : cnt h (nI d) (pG P) = cnt h (nI d) g := by
                  have key : ∀ n, g ≤ n → cnt h (nI d) n = cnt h (nI d) g := by
                    intro n
                    induction n with
                    | zero => intro z; have : g = 0 := by omega
                              subst this; rfl
                    | succ n ih9 =>
                      intro z
                      by_cases e9 : g = n + 1
                      · subst e9; rfl
                      · show cnt h (nI d) n + (if h n = nI d then 1 else 0) = _
                        rw [ih9 (by omega), hp.2 n (by omega), if_neg (nI_neg2 (by omega)).symm]
                        rfl
                  exact key _ (by omega)
                have q5 : cnt (upd h g (nI d)) (nI d) (g + 1) = cnt h (nI d) g + 1 := by
                  show cnt (upd h g (nI d)) (nI d) g + (if upd h g (nI d) g = nI d then 1 else 0) = _
                  rw [cnt_congr (h' := h) g (fun a ha => by simp only [upd, if_neg (show ¬ a = g by omega)]), if_pos (by simp [upd])]
                omega
              · exact Or.inl q
            show acc σ' = opA (acc σ) (opA (fo (fun d => NF P r (upd h g (nI d))) d) (NF P r (upd h g (nI d))))
            rw [hb, opA_e]
            exact ha
          · refine go_aload_n dX0_seatOnwards_75 rfl rfl ?_
            refine go_getR flX0_40 fs_27_3 dX0_seatOnwards_76 ?_
            refine go_iload_n dX0_seatOnwards_79 rfl rfl ?_
            refine go_iload_n dX0_seatOnwards_80 rfl rfl ?_
            refine go_callVv cvX0_76 os_36 (sp_give isT36 hg1 hG hD hT' hw (Or.inr ⟨d, hd1, rfl⟩)) (by omega) rfl rfl (Nat.le_of_ble_eq_true rfl) dX0_seatOnwards_81 (fun σ2 q2 => ?_)
            refine go_aload_n dX0_seatOnwards_84 rfl rfl ?_
            refine go_iload_n dX0_seatOnwards_85 rfl rfl ?_
            refine go_iconst (v := nI 1) dX0_seatOnwards_86 rfl ?_
            refine go_iadd dX0_seatOnwards_87 ?_
            refine go_callVv cvX0_105 os_27 (sp_av (av' := [rf Γ 27, .int (nI g + nI 1)]) (by rw [nI_add]) (ih σ2 (upd h g (nI d)) (g + 1) (by omega) (hP'.ot isT36 q2.2) q2.1 hp2 (hF.take hk hG hD hg1 (Or.inr ⟨d, hd1, bI_ne0.mp c72, rfl⟩)))) (by omega) rfl rfl (Nat.le_of_ble_eq_true rfl) dX0_seatOnwards_88 (fun σ3 q3 => ?_)
            refine go_aload_n dX0_seatOnwards_91 rfl rfl ?_
            refine go_getR flX0_40 fs_27_3 dX0_seatOnwards_92 ?_
            refine go_iload_n dX0_seatOnwards_95 rfl rfl ?_
            refine go_callVv cvX0_124 os_36 (sp_giveBack isT36 hg1 hG hD q3.1 (hp2.rok (by omega))) (by omega) rfl rfl (Nat.le_of_ble_eq_true rfl) dX0_seatOnwards_96 (fun σ4 q4 => ?_)
            refine go_iinc (v := nI (d + 1)) (L' := [_, _, _]) dX0_seatOnwards_99 rfl (nI_1 _) (by decide) rfl rfl ?_
            refine go_goto (tgt := 52) dX0_seatOnwards_102 (by decide) ?_
            refine ihm (d + 1) σ4 (by omega) (by omega) (by rw [hu] at q4; exact q4.1) ?_ (hO.trans ((OSt.ot q2.2).trans (q3.2.2.trans (OSt.ot q4.2))))
            show acc σ4 = opA (acc σ) (opA (fo (fun d => NF P r (upd h g (nI d))) d) (NF P r (upd h g (nI d))))
            rw [acc_ot q4.2, q3.2.1, acc_ot q2.2, ha, opA_assoc]
    refine sp_in (L := [some (rf Γ 27), some (.int (nI g)), none]) rfl (Nat.le_of_ble_eq_true rfl) rfl ?_
    refine go_iload_n dX0_seatOnwards_0 rfl rfl ?_
    refine go_aload_n dX0_seatOnwards_1 rfl rfl ?_
    refine go_getR flX0_27 fs_27_1 dX0_seatOnwards_2 ?_
    refine go_getI flX0_63 fs_6_1 dX0_seatOnwards_5 ?_
    rw [hP.2.1.1]
    refine go_icmp_lt (tgt := 50) dX0_seatOnwards_8 (by decide) (fun c8 => ?_) (fun c8 => ?_)
    · refine go_iconst (v := nI 0) dX0_seatOnwards_50 rfl ?_
      refine go_istore_n (L' := [_, _, _]) dX0_seatOnwards_51 rfl (by decide) rfl rfl ?_
      exact lp (pD P) 0 σ rfl (Nat.zero_le _) hT (opA_e _).symm OSt.rf
    · exact absurd (nI_lt (by omega) (by omega)) c8
set_option maxHeartbeats 1000000 in
theorem sp_seekContent {Γ : Gm} {σ : Mm} {P : Pb} (hS : SU σ P) (hk : Pok P) : Sp Γ 9 mX0_seekContent [rf Γ 27] σ (aV (fun σ' => acc σ' = atM P ∧ OF σ σ')) := by
  have hD := hS.1.1.2
  have hG := hS.1.2.1.2
  refine sp_in (L := [some (rf Γ 27)]) rfl (Nat.le_of_ble_eq_true rfl) rfl ?_
  have o1 : OSt σ (stI (stI σ 27 7 (nI 0)) 27 8 (-1)) := ⟨fun a q _ => funext fun y => (stI_ne (Or.inl q)).trans (stI_ne (Or.inl q)), rfl⟩
  refine go_aload_n dX0_seekContent_0 rfl rfl ?_
  refine go_iconst (v := nI 0) dX0_seekContent_1 rfl ?_
  refine go_putI fwX0_99 fs_27_7 dX0_seekContent_2 ?_
  refine go_aload_n dX0_seekContent_5 rfl rfl ?_
  refine go_iconst (v := (-1)) dX0_seekContent_6 rfl ?_
  refine go_putI fwX0_102 fs_27_8 dX0_seekContent_7 ?_
  refine go_aload_n dX0_seekContent_10 rfl rfl ?_
  refine go_callVv cvX0_79 os_27 (sp_setUp (hS.of o1.of)) (by omega) rfl rfl (Nat.le_of_ble_eq_true rfl) dX0_seekContent_11 (fun σ1 q1 => ?_)
  refine go_aload_n dX0_seekContent_14 rfl rfl ?_
  refine go_iconst (v := nI 0) dX0_seekContent_15 rfl ?_
  refine go_callVv cvX0_105 os_27 (sp_seat hk (pG P) σ1 (fun _ => -2) 0 (by omega) ((hS.of o1.of).ot q1.2).1 q1.1 ⟨fun g hg => absurd hg (Nat.not_lt_zero g), fun _ _ => rfl⟩ (Fea.wait hD)) (by omega) rfl rfl (Nat.le_of_ble_eq_true rfl) dX0_seekContent_16 (fun σ2 q2 => ?_)
  refine go_vret rfl dX0_seekContent_19 ?_
  refine ⟨rfl, ?_, o1.of.trans (q1.2.of.trans q2.2.2.of)⟩
  rw [q2.2.1, acc_ot q1.2]
  unfold acc
  simp (disch := omega) only [stI_at, stI_ne]
  rfl
end
section
/-! fewest dishes -/
def pop (n : Nat) : Nat := n % 2 + n / 2 % 2 + n / 4 % 2 + n / 8 % 2 + n / 16 % 2 + n / 32 % 2
def us (x : Int32) (k : Int32) : Int32 := (x.toUInt32 >>> (k.toUInt32 &&& Int32.toUInt32 31)).toInt32
def bc1 (x : Int32) : Int32 := x - (us x (nI 1) &&& 1431655765)
def bc2 (x : Int32) : Int32 := (x &&& 858993459) + (us x (nI 2) &&& 858993459)
def bc3 (x : Int32) : Int32 := (x + us x (nI 4)) &&& 252645135
def bc4 (x : Int32) : Int32 := x + us x (nI 8)
def bc5 (x : Int32) : Int32 := x + us x (nI 16)
theorem bc_ok : ∀ n, n < 64 → bc5 (bc4 (bc3 (bc2 (bc1 (nI n))))) &&& nI 63 = nI (pop n) := by decide +kernel
set_option maxHeartbeats 1000000 in
theorem sp_bitCount {Γ : Gm} {σ : Mm} {k : Nat} (hk : k < 64) : Sp Γ 1 mJ6_bitCount_0f7a4 [.int (nI k)] σ (aP (nI (pop k)) σ) := by
  refine sp_in (L := [some (.int (nI k))]) rfl (Nat.le_of_ble_eq_true rfl) rfl ?_
  refine go_iload_n dJ6_bitCount_0f7a4_0 rfl rfl ?_
  refine go_iload_n dJ6_bitCount_0f7a4_1 rfl rfl ?_
  refine go_iconst (v := nI 1) dJ6_bitCount_0f7a4_2 rfl ?_
  refine go_iushr dJ6_bitCount_0f7a4_3 rfl ?_
  refine go_ldcw (v := 1431655765) dJ6_bitCount_0f7a4_4 kiJ6_265 ?_
  refine go_iand dJ6_bitCount_0f7a4_7 ?_
  refine go_isub dJ6_bitCount_0f7a4_8 ?_
  refine go_istore_n (L' := [_]) dJ6_bitCount_0f7a4_9 rfl (by decide) rfl rfl ?_
  refine go_iload_n dJ6_bitCount_0f7a4_10 rfl rfl ?_
  refine go_ldcw (v := 858993459) dJ6_bitCount_0f7a4_11 kiJ6_266 ?_
  refine go_iand dJ6_bitCount_0f7a4_14 ?_
  refine go_iload_n dJ6_bitCount_0f7a4_15 rfl rfl ?_
  refine go_iconst (v := nI 2) dJ6_bitCount_0f7a4_16 rfl ?_
  refine go_iushr dJ6_bitCount_0f7a4_17 rfl ?_
  refine go_ldcw (v := 858993459) dJ6_bitCount_0f7a4_18 kiJ6_266 ?_
  refine go_iand dJ6_bitCount_0f7a4_21 ?_
  refine go_iadd dJ6_bitCount_0f7a4_22 ?_
  refine go_istore_n (L' := [_]) dJ6_bitCount_0f7a4_23 rfl (by decide) rfl rfl ?_
  refine go_iload_n dJ6_bitCount_0f7a4_24 rfl rfl ?_
  refine go_iload_n dJ6_bitCount_0f7a4_25 rfl rfl ?_
  refine go_iconst (v := nI 4) dJ6_bitCount_0f7a4_26 rfl ?_
  refine go_iushr dJ6_bitCount_0f7a4_27 rfl ?_
  refine go_iadd dJ6_bitCount_0f7a4_28 ?_
  refine go_ldcw (v := 252645135) dJ6_bitCount_0f7a4_29 kiJ6_267 ?_
  refine go_iand dJ6_bitCount_0f7a4_32 ?_
  refine go_istore_n (L' := [_]) dJ6_bitCount_0f7a4_33 rfl (by decide) rfl rfl ?_
  refine go_iload_n dJ6_bitCount_0f7a4_34 rfl rfl ?_
  refine go_iload_n dJ6_bitCount_0f7a4_35 rfl rfl ?_
  refine go_bipush (v := nI 8) dJ6_bitCount_0f7a4_36 rfl ?_
  refine go_iushr dJ6_bitCount_0f7a4_38 rfl ?_
  refine go_iadd dJ6_bitCount_0f7a4_39 ?_
  refine go_istore_n (L' := [_]) dJ6_bitCount_0f7a4_40 rfl (by decide) rfl rfl ?_
  refine go_iload_n dJ6_bitCount_0f7a4_41 rfl rfl ?_
  refine go_iload_n dJ6_bitCount_0f7a4_42 rfl rfl ?_
  refine go_bipush (v := nI 16) dJ6_bitCount_0f7a4_43 rfl ?_
  refine go_iushr dJ6_bitCount_0f7a4_45 rfl ?_
  refine go_iadd dJ6_bitCount_0f7a4_46 ?_
  refine go_istore_n (L' := [_]) dJ6_bitCount_0f7a4_47 rfl (by decide) rfl rfl ?_
  refine go_iload_n dJ6_bitCount_0f7a4_48 rfl rfl ?_
  refine go_bipush (v := nI 63) dJ6_bitCount_0f7a4_49 rfl ?_
  refine go_iand dJ6_bitCount_0f7a4_51 ?_
  refine go_iret rfl dJ6_bitCount_0f7a4_52 ?_
  exact ⟨congrArg (fun z => some (Value.int z)) (bc_ok k hk), rfl⟩
theorem bit_ok : ∀ n, n < 64 → ∀ k, k < 6 → (nI n >>> (nI k &&& 31)) &&& nI 1 = nI (n / 2 ^ k % 2) := by decide +kernel
theorem shl_ok : ∀ k, k < 7 → nI 1 <<< (nI k &&& 31) = nI (2 ^ k) := by decide +kernel
def anyB (f : Nat → Bool) : Nat → Bool
  | 0 => false
  | n + 1 => anyB f n || f n
def plD (P : Pb) (n g d : Nat) : Bool := decide (n / 2 ^ d % 2 = 1) && decide (nI 5 ≤ pWa P g d)
def plG (P : Pb) (n g : Nat) : Bool := anyB (plD P n g) (pD P)
def plA (P : Pb) (n : Nat) : Bool := allB (plG P n) (pG P)
theorem pw_le {D : Nat} (h : D ≤ 6) : 2 ^ D ≤ 64 := by
  have := Nat.pow_le_pow_right (n := 2) (by omega) h
  omega
set_option maxHeartbeats 1000000 in
theorem lp_please2 {Γ : Gm} {σ : Mm} {P : Pb} {n g : Nat} (hP : PI σ P) (hn : n < 64) (hg : g < pG P) (ha : allB (plG P n) g = true)
    (next : allB (plG P n) (g + 1) = true → Go Γ 1 mX0_pleasesAll (aP (bI (plA P n)) σ) 2 [some (rf Γ 27), some (.int (nI n)), some (.int (nI (g + 1))), none, none] [] σ) :
    ∀ (m d : Nat), pD P - d = m → d ≤ pD P → Go Γ 1 mX0_pleasesAll (aP (bI (plA P n)) σ) 18 [some (rf Γ 27), some (.int (nI n)), some (.int (nI g)), some (.int (bI (anyB (plD P n g) d))), some (.int (nI d))] [] σ := by
  have hD := hP.1.2
  have hG := hP.2.1.2
  have hg5 : g < 5 := by omega
  intro m
  induction m with
  | zero =>
    intro d hm hd
    have e : d = pD P := by omega
    subst e
    refine go_iload dX0_pleasesAll_18 rfl ?_
    refine go_aload_n dX0_pleasesAll_20 rfl rfl ?_
    refine go_getR flX0_23 fs_27_0 dX0_pleasesAll_21 ?_
    refine go_getI flX0_117 fs_3_2 dX0_pleasesAll_24 ?_
    rw [hP.1.1]
    refine go_icmp_ge (tgt := 67) dX0_pleasesAll_27 (by decide) (fun c27 => ?_) (fun c27 => ?_)
    · refine go_iload_n dX0_pleasesAll_67 rfl rfl ?_
      refine go_if_ne (tgt := 73) dX0_pleasesAll_68 (by decide) (fun c68 => ?_) (fun c68 => ?_)
      · refine go_iinc (v := nI (g + 1)) (L' := [_, _, _, _, _]) dX0_pleasesAll_73 rfl (nI_1 _) (by decide) rfl rfl ?_
        refine go_goto (tgt := 2) dX0_pleasesAll_76 (by decide) ?_
        exact go_sub [true, true, true, false, false] rfl (next (by unfold allB; rw [ha]; exact bI_ne0.mp c68))
      · refine go_iconst (v := nI 0) dX0_pleasesAll_71 rfl ?_
        refine go_zret rfl dX0_pleasesAll_72 (by first | exact Or.inl rfl | exact Or.inr rfl | exact bI_01 _) ?_
        exact ⟨by rw [show plA P n = false from allB_false hg (bI_eq0.mp c68)]; rfl, rfl⟩
    · exact absurd (Int32.le_refl _) c27
  | succ m ih =>
    intro d hm hd
    have hd1 : d < pD P := by omega
    have hb := bit_ok n hn d (by omega)
    have hwv := (hP.2.2.2 g hg).2.2 d hd1
    have stp := ih (d + 1) (by omega) (by omega)
    refine go_iload dX0_pleasesAll_18 rfl ?_
    refine go_aload_n dX0_pleasesAll_20 rfl rfl ?_
    refine go_getR flX0_23 fs_27_0 dX0_pleasesAll_21 ?_
    refine go_getI flX0_117 fs_3_2 dX0_pleasesAll_24 ?_
    rw [hP.1.1]
    refine go_icmp_ge (tgt := 67) dX0_pleasesAll_27 (by decide) (fun c27 => ?_) (fun c27 => ?_)
    · exact absurd c27 (nI_ge (by omega) (by omega))
    · refine go_iload_n dX0_pleasesAll_30 rfl rfl ?_
      refine go_iload dX0_pleasesAll_31 rfl ?_
      refine go_ishr dX0_pleasesAll_33 ?_
      refine go_iconst (v := nI 1) dX0_pleasesAll_34 rfl ?_
      refine go_iand dX0_pleasesAll_35 ?_
      refine go_iconst (v := nI 1) dX0_pleasesAll_36 rfl ?_
      refine go_icmp_ne (tgt := 61) dX0_pleasesAll_37 (by decide) (fun c37 => ?_) (fun c37 => ?_)
      · refine go_iinc (v := nI (d + 1)) (L' := [_, _, _, _, _]) dX0_pleasesAll_61 rfl (nI_1 _) (by decide) rfl rfl ?_
        refine go_goto (tgt := 18) dX0_pleasesAll_64 (by decide) ?_
        rw [hb, nI_eq (by omega) (by omega)] at c37
        rw [show anyB (plD P n g) (d + 1) = anyB (plD P n g) d by conv => lhs; unfold anyB; rw [show plD P n g d = false by unfold plD; simp [c37]]; simp] at stp
        exact stp
      · refine go_aload_n dX0_pleasesAll_40 rfl rfl ?_
        refine go_getR flX0_27 fs_27_1 dX0_pleasesAll_41 ?_
        refine go_getR flX0_134 fs_6_0 dX0_pleasesAll_44 ?_
        refine go_iload_n dX0_pleasesAll_47 rfl rfl ?_
        refine go_aald (g) rfl (rG hg5) rt_7 dX0_pleasesAll_48 ?_
        refine go_getR flX0_154 (fG_0 hg5) dX0_pleasesAll_49 ?_
        refine go_iload dX0_pleasesAll_52 rfl ?_
        refine go_iald (d) rfl (aW hg5) (by omega) (by decide) dX0_pleasesAll_54 ?_
        rw [hwv]
        refine go_iconst (v := nI 5) dX0_pleasesAll_55 rfl ?_
        refine go_icmp_lt (tgt := 61) dX0_pleasesAll_56 (by decide) (fun c56 => ?_) (fun c56 => ?_)
        · refine go_iinc (v := nI (d + 1)) (L' := [_, _, _, _, _]) dX0_pleasesAll_61 rfl (nI_1 _) (by decide) rfl rfl ?_
          refine go_goto (tgt := 18) dX0_pleasesAll_64 (by decide) ?_
          rw [show anyB (plD P n g) (d + 1) = anyB (plD P n g) d by conv => lhs; unfold anyB; rw [show plD P n g d = false by unfold plD; simp [Int32.not_le.mpr c56]]; simp] at stp
          exact stp
        · refine go_iconst (v := nI 1) dX0_pleasesAll_59 rfl ?_
          refine go_istore_n (L' := [_, _, _, _, _]) dX0_pleasesAll_60 rfl (by decide) rfl rfl ?_
          refine go_iinc (v := nI (d + 1)) (L' := [_, _, _, _, _]) dX0_pleasesAll_61 rfl (nI_1 _) (by decide) rfl rfl ?_
          refine go_goto (tgt := 18) dX0_pleasesAll_64 (by decide) ?_
          rw [hb, nI_eq (by omega) (by omega)] at c37
          rw [show anyB (plD P n g) (d + 1) = true by conv => lhs; unfold anyB; rw [show plD P n g d = true by unfold plD; simp [c37, Int32.not_lt.mp c56]]; simp] at stp
          exact stp
set_option maxHeartbeats 1000000 in
theorem lp_please1 {Γ : Gm} {σ : Mm} {P : Pb} {n : Nat} (hP : PI σ P) (hn : n < 64) : ∀ (m g : Nat), pG P - g = m → g ≤ pG P → allB (plG P n) g = true → Go Γ 1 mX0_pleasesAll (aP (bI (plA P n)) σ) 2 [some (rf Γ 27), some (.int (nI n)), some (.int (nI g)), none, none] [] σ := by
  have hG := hP.2.1.2
  intro m
  induction m with
  | zero =>
    intro g hm hg ha
    have e : g = pG P := by omega
    subst e
    refine go_iload_n dX0_pleasesAll_2 rfl rfl ?_
    refine go_aload_n dX0_pleasesAll_3 rfl rfl ?_
    refine go_getR flX0_27 fs_27_1 dX0_pleasesAll_4 ?_
    refine go_getI flX0_63 fs_6_1 dX0_pleasesAll_7 ?_
    rw [hP.2.1.1]
    refine go_icmp_ge (tgt := 79) dX0_pleasesAll_10 (by decide) (fun c10 => ?_) (fun c10 => ?_)
    · refine go_iconst (v := nI 1) dX0_pleasesAll_79 rfl ?_
      refine go_zret rfl dX0_pleasesAll_80 (by first | exact Or.inl rfl | exact Or.inr rfl | exact bI_01 _) ?_
      exact ⟨by rw [show plA P n = true from ha]; rfl, rfl⟩
    · exact absurd (Int32.le_refl _) c10
  | succ m ih =>
    intro g hm hg ha
    refine go_iload_n dX0_pleasesAll_2 rfl rfl ?_
    refine go_aload_n dX0_pleasesAll_3 rfl rfl ?_
    refine go_getR flX0_27 fs_27_1 dX0_pleasesAll_4 ?_
    refine go_getI flX0_63 fs_6_1 dX0_pleasesAll_7 ?_
    rw [hP.2.1.1]
    refine go_icmp_ge (tgt := 79) dX0_pleasesAll_10 (by decide) (fun c10 => ?_) (fun c10 => ?_)
    · exact absurd c10 (nI_ge (by omega) (by omega))
    · refine go_iconst (v := nI 0) dX0_pleasesAll_13 rfl ?_
      refine go_istore_n (L' := [_, _, _, _, _]) dX0_pleasesAll_14 rfl (by decide) rfl rfl ?_
      refine go_iconst (v := nI 0) dX0_pleasesAll_15 rfl ?_
      refine go_istore (L' := [_, _, _, _, _]) dX0_pleasesAll_16 (by decide) rfl rfl ?_
      exact lp_please2 hP hn (by omega) ha (fun q => ih (g + 1) (by omega) (by omega) q) (pD P) 0 rfl (Nat.zero_le _)
set_option maxHeartbeats 1000000 in
theorem sp_pleasesAll {Γ : Gm} {σ : Mm} {P : Pb} {n : Nat} (hP : PI σ P) (hn : n < 64) : Sp Γ 1 mX0_pleasesAll [rf Γ 27, .int (nI n)] σ (aP (bI (plA P n)) σ) := by
  refine sp_in (L := [some (rf Γ 27), some (.int (nI n)), none, none, none]) rfl (Nat.le_of_ble_eq_true rfl) rfl ?_
  refine go_iconst (v := nI 0) dX0_pleasesAll_0 rfl ?_
  refine go_istore_n (L' := [_, _, _, _, _]) dX0_pleasesAll_1 rfl (by decide) rfl rfl ?_
  exact lp_please1 hP hn (pG P) 0 rfl (Nat.zero_le _) rfl
def oV : Option Nat → Int32
  | none => -1
  | some b => nI b
def fwB (k : Nat) : Option Nat → Bool
  | none => true
  | some b => decide (pop k < pop b)
def fwN (P : Pb) : Nat → Option Nat
  | 0 => none
  | k + 1 => if (plA P k && fwB k (fwN P k)) = true then some k else fwN P k
theorem fwN_lt {P : Pb} : ∀ (k b : Nat), fwN P k = some b → b < k
  | 0, b, h => by cases h
  | k + 1, b, h => by
    unfold fwN at h
    split at h
    · cases h; omega
    · have := fwN_lt k b h; omega
def fewM (P : Pb) : Option Nat := fwN P (2 ^ pD P)
theorem pop_lt (n : Nat) : pop n < 7 := by unfold pop; omega
set_option maxHeartbeats 1000000 in
theorem lp_fewest {Γ : Gm} {σ : Mm} {P : Pb} (hP : PI σ P) : ∀ (m k : Nat), 2 ^ pD P - k = m → k ≤ 2 ^ pD P → Go Γ 2 mX0_fewestBits (aP (oV (fewM P)) σ) 4 [some (rf Γ 27), some (.int (oV (fwN P k))), some (.int (nI k)), none] [] σ := by
  have hD := hP.1.2
  have h64 := pw_le hD
  intro m
  induction m with
  | zero =>
    intro k hm hk
    have e : k = 2 ^ pD P := by omega
    subst e
    refine go_iload_n dX0_fewestBits_4 rfl rfl ?_
    refine go_iconst (v := nI 1) dX0_fewestBits_5 rfl ?_
    refine go_aload_n dX0_fewestBits_6 rfl rfl ?_
    refine go_getR flX0_23 fs_27_0 dX0_fewestBits_7 ?_
    refine go_getI flX0_117 fs_3_2 dX0_fewestBits_10 ?_
    rw [hP.1.1]
    refine go_ishl dX0_fewestBits_13 ?_
    rw [shl_ok (pD P) (by omega)]
    refine go_icmp_ge (tgt := 59) dX0_fewestBits_14 (by decide) (fun c14 => ?_) (fun c14 => ?_)
    · refine go_iload_n dX0_fewestBits_59 rfl rfl ?_
      refine go_iret rfl dX0_fewestBits_60 ?_
      exact ⟨rfl, rfl⟩
    · exact absurd (Int32.le_refl _) c14
  | succ m ih =>
    intro k hm hk
    have hk1 : k < 64 := by omega
    have stp := ih (k + 1) (by omega) (by omega)
    have yes : (plA P k && fwB k (fwN P k)) = true → Go Γ 2 mX0_fewestBits (aP (oV (fewM P)) σ) 4 [some (rf Γ 27), some (.int (nI k)), some (.int (nI (k + 1))), none] [] σ := by
      intro q
      rw [show fwN P (k + 1) = some k by conv => lhs; unfold fwN; rw [if_pos q]] at stp
      exact stp
    have no : ¬ (plA P k && fwB k (fwN P k)) = true → Go Γ 2 mX0_fewestBits (aP (oV (fewM P)) σ) 4 [some (rf Γ 27), some (.int (oV (fwN P k))), some (.int (nI (k + 1))), none] [] σ := by
      intro q
      rw [show fwN P (k + 1) = fwN P k by conv => lhs; unfold fwN; rw [if_neg q]] at stp
      exact stp
    cases hb : fwN P k with
    | none =>
      rw [hb] at yes no
      refine go_iload_n dX0_fewestBits_4 rfl rfl ?_
      refine go_iconst (v := nI 1) dX0_fewestBits_5 rfl ?_
      refine go_aload_n dX0_fewestBits_6 rfl rfl ?_
      refine go_getR flX0_23 fs_27_0 dX0_fewestBits_7 ?_
      refine go_getI flX0_117 fs_3_2 dX0_fewestBits_10 ?_
      rw [hP.1.1]
      refine go_ishl dX0_fewestBits_13 ?_
      rw [shl_ok (pD P) (by omega)]
      refine go_icmp_ge (tgt := 59) dX0_fewestBits_14 (by decide) (fun c14 => ?_) (fun c14 => ?_)
      · exact absurd c14 (nI_ge (by omega) (by omega))
      · refine go_iload_n dX0_fewestBits_17 rfl rfl ?_
        refine go_iconst (v := (-1)) dX0_fewestBits_18 rfl ?_
        refine go_icmp_eq (tgt := 33) dX0_fewestBits_19 (by decide) (fun c19 => ?_) (fun c19 => ?_)
        · refine go_iconst (v := nI 1) dX0_fewestBits_33 rfl ?_
          refine go_goto (tgt := 38) dX0_fewestBits_34 (by decide) ?_
          refine go_istore_n (L' := [_, _, _, _]) dX0_fewestBits_38 rfl (by decide) rfl rfl ?_
          refine go_iload_n dX0_fewestBits_39 rfl rfl ?_
          refine go_if_eq (tgt := 53) dX0_fewestBits_40 (by decide) (fun c40 => ?_) (fun c40 => ?_)
          · exact absurd c40 (by decide)
          · refine go_aload_n dX0_fewestBits_43 rfl rfl ?_
            refine go_iload_n dX0_fewestBits_44 rfl rfl ?_
            refine go_callVp cvX0_157 os_27 (sp_pleasesAll hP hk1) (by omega) rfl rfl (Nat.le_of_ble_eq_true rfl) dX0_fewestBits_45 ?_
            refine go_if_eq (tgt := 53) dX0_fewestBits_48 (by decide) (fun c48 => ?_) (fun c48 => ?_)
            · refine go_iinc (v := nI (k + 1)) (L' := [_, _, _, _]) dX0_fewestBits_53 rfl (nI_1 _) (by decide) rfl rfl ?_
              refine go_goto (tgt := 4) dX0_fewestBits_56 (by decide) ?_
              exact go_sub [true, true, true, false] rfl (no (by rw [bI_eq0.mp c48]; simp))
            · refine go_iload_n dX0_fewestBits_51 rfl rfl ?_
              refine go_istore_n (L' := [_, _, _, _]) dX0_fewestBits_52 rfl (by decide) rfl rfl ?_
              refine go_iinc (v := nI (k + 1)) (L' := [_, _, _, _]) dX0_fewestBits_53 rfl (nI_1 _) (by decide) rfl rfl ?_
              refine go_goto (tgt := 4) dX0_fewestBits_56 (by decide) ?_
              exact go_sub [true, true, true, false] rfl (yes (by rw [bI_ne0.mp c48]; rfl))
        · exact absurd rfl c19
    | some b =>
      have hbl := fwN_lt k b hb
      rw [hb] at yes no
      have t1 : nI 1 ≠ 0 := by decide
      have t0 : nI 0 = 0 := by decide
      have p1 := pop_lt k
      have p2 := pop_lt b
      refine go_iload_n dX0_fewestBits_4 rfl rfl ?_
      refine go_iconst (v := nI 1) dX0_fewestBits_5 rfl ?_
      refine go_aload_n dX0_fewestBits_6 rfl rfl ?_
      refine go_getR flX0_23 fs_27_0 dX0_fewestBits_7 ?_
      refine go_getI flX0_117 fs_3_2 dX0_fewestBits_10 ?_
      rw [hP.1.1]
      refine go_ishl dX0_fewestBits_13 ?_
      rw [shl_ok (pD P) (by omega)]
      refine go_icmp_ge (tgt := 59) dX0_fewestBits_14 (by decide) (fun c14 => ?_) (fun c14 => ?_)
      · exact absurd c14 (nI_ge (by omega) (by omega))
      · refine go_iload_n dX0_fewestBits_17 rfl rfl ?_
        refine go_iconst (v := (-1)) dX0_fewestBits_18 rfl ?_
        refine go_icmp_eq (tgt := 33) dX0_fewestBits_19 (by decide) (fun c19 => ?_) (fun c19 => ?_)
        · exact absurd c19 (nI_neg1 (by omega))
        · refine go_iload_n dX0_fewestBits_22 rfl rfl ?_
          refine go_callSp csX0_146 (sp_bitCount hk1) (by omega) rfl rfl (Nat.le_of_ble_eq_true rfl) dX0_fewestBits_23 ?_
          refine go_iload_n dX0_fewestBits_26 rfl rfl ?_
          refine go_callSp csX0_146 (sp_bitCount (show b < 64 by omega)) (by omega) rfl rfl (Nat.le_of_ble_eq_true rfl) dX0_fewestBits_27 ?_
          refine go_icmp_ge (tgt := 37) dX0_fewestBits_30 (by decide) (fun c30 => ?_) (fun c30 => ?_)
          · refine go_iconst (v := nI 0) dX0_fewestBits_37 rfl ?_
            refine go_istore_n (L' := [_, _, _, _]) dX0_fewestBits_38 rfl (by decide) rfl rfl ?_
            refine go_iload_n dX0_fewestBits_39 rfl rfl ?_
            refine go_if_eq (tgt := 53) dX0_fewestBits_40 (by decide) (fun c40 => ?_) (fun c40 => ?_)
            · refine go_iinc (v := nI (k + 1)) (L' := [_, _, _, _]) dX0_fewestBits_53 rfl (nI_1 _) (by decide) rfl rfl ?_
              refine go_goto (tgt := 4) dX0_fewestBits_56 (by decide) ?_
              exact go_sub [true, true, true, false] rfl (no (by rw [nI_leI (by omega) (by omega)] at c30; simp [fwB]; intro _; omega))
            · refine go_aload_n dX0_fewestBits_43 rfl rfl ?_
              refine go_iload_n dX0_fewestBits_44 rfl rfl ?_
              refine go_callVp cvX0_157 os_27 (sp_pleasesAll hP hk1) (by omega) rfl rfl (Nat.le_of_ble_eq_true rfl) dX0_fewestBits_45 ?_
              refine go_if_eq (tgt := 53) dX0_fewestBits_48 (by decide) (fun c48 => ?_) (fun c48 => ?_)
              · refine go_iinc (v := nI (k + 1)) (L' := [_, _, _, _]) dX0_fewestBits_53 rfl (nI_1 _) (by decide) rfl rfl ?_
                refine go_goto (tgt := 4) dX0_fewestBits_56 (by decide) ?_
                exact absurd t0 c40
              · refine go_iload_n dX0_fewestBits_51 rfl rfl ?_
                refine go_istore_n (L' := [_, _, _, _]) dX0_fewestBits_52 rfl (by decide) rfl rfl ?_
                refine go_iinc (v := nI (k + 1)) (L' := [_, _, _, _]) dX0_fewestBits_53 rfl (nI_1 _) (by decide) rfl rfl ?_
                refine go_goto (tgt := 4) dX0_fewestBits_56 (by decide) ?_
                exact absurd t0 c40
          · refine go_iconst (v := nI 1) dX0_fewestBits_33 rfl ?_
            refine go_goto (tgt := 38) dX0_fewestBits_34 (by decide) ?_
            refine go_istore_n (L' := [_, _, _, _]) dX0_fewestBits_38 rfl (by decide) rfl rfl ?_
            refine go_iload_n dX0_fewestBits_39 rfl rfl ?_
            refine go_if_eq (tgt := 53) dX0_fewestBits_40 (by decide) (fun c40 => ?_) (fun c40 => ?_)
            · refine go_iinc (v := nI (k + 1)) (L' := [_, _, _, _]) dX0_fewestBits_53 rfl (nI_1 _) (by decide) rfl rfl ?_
              refine go_goto (tgt := 4) dX0_fewestBits_56 (by decide) ?_
              exact absurd c40 t1
            · refine go_aload_n dX0_fewestBits_43 rfl rfl ?_
              refine go_iload_n dX0_fewestBits_44 rfl rfl ?_
              refine go_callVp cvX0_157 os_27 (sp_pleasesAll hP hk1) (by omega) rfl rfl (Nat.le_of_ble_eq_true rfl) dX0_fewestBits_45 ?_
              refine go_if_eq (tgt := 53) dX0_fewestBits_48 (by decide) (fun c48 => ?_) (fun c48 => ?_)
              · refine go_iinc (v := nI (k + 1)) (L' := [_, _, _, _]) dX0_fewestBits_53 rfl (nI_1 _) (by decide) rfl rfl ?_
                refine go_goto (tgt := 4) dX0_fewestBits_56 (by decide) ?_
                exact go_sub [true, true, true, false] rfl (no (by rw [bI_eq0.mp c48]; simp))
              · refine go_iload_n dX0_fewestBits_51 rfl rfl ?_
                refine go_istore_n (L' := [_, _, _, _]) dX0_fewestBits_52 rfl (by decide) rfl rfl ?_
                refine go_iinc (v := nI (k + 1)) (L' := [_, _, _, _]) dX0_fewestBits_53 rfl (nI_1 _) (by decide) rfl rfl ?_
                refine go_goto (tgt := 4) dX0_fewestBits_56 (by decide) ?_
                exact go_sub [true, true, true, false] rfl (yes (by rw [bI_ne0.mp c48]; rw [nI_leI (by omega) (by omega)] at c30; simp [fwB]; omega))
set_option maxHeartbeats 1000000 in
theorem sp_fewestBits {Γ : Gm} {σ : Mm} {P : Pb} (hP : PI σ P) : Sp Γ 2 mX0_fewestBits [rf Γ 27] σ (aP (oV (fewM P)) σ) := by
  refine sp_in (L := [some (rf Γ 27), none, none, none]) rfl (Nat.le_of_ble_eq_true rfl) rfl ?_
  refine go_iconst (v := (-1)) dX0_fewestBits_0 rfl ?_
  refine go_istore_n (L' := [_, _, _, _]) dX0_fewestBits_1 rfl (by decide) rfl rfl ?_
  refine go_iconst (v := nI 0) dX0_fewestBits_2 rfl ?_
  refine go_istore_n (L' := [_, _, _, _]) dX0_fewestBits_3 rfl (by decide) rfl rfl ?_
  exact lp_fewest hP (2 ^ pD P) 0 rfl (Nat.zero_le _)
end
section
/-! the host: dish by dish, each to a group -/
/-- the joy of the group S among the first g if all of it have dish d; -1 where they can't -/
def JS (P : Pb) (d : Nat) : Nat → Nat → Int32
  | 0, _ => 0
  | g + 1, S => if S < 2 ^ g then JS P d g S else if pPr P d ≤ pPu P g ∧ JS P d g (S - 2 ^ g) ≠ -1 ∧ nI (pop (S - 2 ^ g)) < pSt P d then JS P d g (S - 2 ^ g) + pWa P g d else -1
theorem JS_low {P : Pb} {d g S : Nat} (h : S < 2 ^ g) : JS P d (g + 1) S = JS P d g S := by
  conv => lhs; unfold JS
  rw [if_pos h]
theorem or_ok : ∀ g, g < 5 → ∀ o, o < 2 ^ g → nI o ||| (nI 1 <<< (nI g &&& 31)) = nI (2 ^ g + o) := by decide +kernel
theorem pw5 {g : Nat} (h : g ≤ 5) : 2 ^ g ≤ 32 := by
  have := Nat.pow_le_pow_right (n := 2) (by omega) h
  omega
theorem pw1 (g : Nat) : 2 ^ (g + 1) = 2 ^ g + 2 ^ g := by rw [Nat.pow_succ]; omega
/-- only the two rows of groups are new -/
def OH (σ σ' : Mm) : Prop := (∀ a, a ≠ 28 → a ≠ 29 → σ'.1 a = σ.1 a) ∧ σ'.2 = σ.2
theorem OH.rf {σ : Mm} : OH σ σ := ⟨fun _ _ _ => rfl, rfl⟩
theorem OH.trans {σ σ1 σ2 : Mm} (h : OH σ σ1) (h2 : OH σ1 σ2) : OH σ σ2 := ⟨fun a q r => (h2.1 a q r).trans (h.1 a q r), h2.2.trans h.2⟩
theorem OH.st {σ σ' : Mm} {a k : Nat} {v : Int32} (h : OH σ σ') (ha : a = 28 ∨ a = 29) : OH σ (stI σ' a k v) := ⟨fun x q r => (funext fun y => stI_ne (Or.inl (by omega))).trans (h.1 x q r), h.2⟩
theorem OH.of {σ σ' : Mm} (h : OH σ σ') : OF σ σ' := ⟨fun a r => h.1 a (by omega) (by omega), fun a _ => by rw [h.2]⟩
theorem PI.oh {σ σ' : Mm} {P : Pb} (h : OH σ σ') (hP : PI σ P) : PI σ' P := by
  obtain ⟨⟨a1, a2⟩, ⟨b1, b2⟩, c, d⟩ := hP
  refine ⟨⟨by rw [h.1 3 (by omega) (by omega)]; exact a1, a2⟩, ⟨by rw [h.1 6 (by omega) (by omega)]; exact b1, b2⟩, fun k hk => ?_, fun g hg => ?_⟩
  · rw [h.1 4 (by omega) (by omega), h.1 5 (by omega) (by omega)]; exact c k hk
  · by_cases q : 8 + 2 * g = 28
    · omega
    · rw [h.1 (8 + 2 * g) (by omega) (by omega), h.1 (9 + 2 * g) (by omega) (by omega)]; exact d g hg
set_option maxHeartbeats 2000000 in
theorem lp_find2 {Γ : Gm} {σ : Mm} {P : Pb} {d g : Nat} (hP : PI σ P) (hd : d < pD P) (hg : g < pG P)
    (next : ∀ σ', (∀ S, S < 2 ^ (g + 1) → σ'.1 29 S = JS P d (g + 1) S) → (∀ S, σ'.1 28 S = σ.1 28 S) → OH σ σ' → Go Γ 2 mX0_findJoyOfGroups (aV (fun σ' => (∀ S, S < 2 ^ pG P → σ'.1 29 S = JS P d (pG P) S) ∧ (∀ S, σ'.1 28 S = σ.1 28 S) ∧ OH σ σ')) 9 [some (rf Γ 27), some (.int (nI d)), some (.int (nI (g + 1))), none, none, none, none] [] σ') :
    ∀ (m o : Nat) (σ' : Mm), 2 ^ g - o = m → o ≤ 2 ^ g → (∀ S, S < 2 ^ g + o → σ'.1 29 S = JS P d (g + 1) S) → (∀ S, σ'.1 28 S = σ.1 28 S) → OH σ σ' → Go Γ 2 mX0_findJoyOfGroups (aV (fun σ' => (∀ S, S < 2 ^ pG P → σ'.1 29 S = JS P d (pG P) S) ∧ (∀ S, σ'.1 28 S = σ.1 28 S) ∧ OH σ σ')) 56 [some (rf Γ 27), some (.int (nI d)), some (.int (nI g)), some (rf Γ (8 + 2 * g)), some (.int (bI (decide (pPr P d ≤ pPu P g)))), some (.int (nI o)), none] [] σ' := by
  have hD := hP.1.2
  have hG := hP.2.1.2
  have hg5 : g < 5 := by omega
  have h32 := pw5 (g := g + 1) (by omega)
  have hp1 := pw1 g
  intro m
  induction m with
  | zero =>
    intro o σ' hm ho hj hb hO
    have e : o = 2 ^ g := by omega
    subst e
    refine go_iload dX0_findJoyOfGroups_56 rfl ?_
    refine go_iconst (v := nI 1) dX0_findJoyOfGroups_58 rfl ?_
    refine go_iload_n dX0_findJoyOfGroups_59 rfl rfl ?_
    refine go_ishl dX0_findJoyOfGroups_60 ?_
    rw [shl_ok g (by omega)]
    refine go_icmp_ge (tgt := 144) dX0_findJoyOfGroups_61 (by decide) (fun c61 => ?_) (fun c61 => ?_)
    · refine go_iinc (v := nI (g + 1)) (L' := [_, _, _, _, _, _, _]) dX0_findJoyOfGroups_144 rfl (nI_1 _) (by decide) rfl rfl ?_
      refine go_goto (tgt := 9) dX0_findJoyOfGroups_147 (by decide) ?_
      exact go_sub [true, true, true, false, false, false, false] rfl (next σ' (fun S hS => hj S (by omega)) hb hO)
    · exact absurd (Int32.le_refl _) c61
  | succ m ih =>
    intro o σ' hm ho hj hb hO
    have ho1 : o < 2 ^ g := by omega
    have hP' := hP.oh hO
    have hjo : σ'.1 29 o = JS P d g o := by rw [hj o (by omega), JS_low ho1]
    have hor := or_ok g hg5 o ho1
    have hst := (hP'.2.2.1 d hd).1
    have hwa := (hP'.2.2.2 g hg).2.2 d hd
    have fin : ∀ v : Int32, v = JS P d (g + 1) (2 ^ g + o) → Go Γ 2 mX0_findJoyOfGroups (aV (fun σ' => (∀ S, S < 2 ^ pG P → σ'.1 29 S = JS P d (pG P) S) ∧ (∀ S, σ'.1 28 S = σ.1 28 S) ∧ OH σ σ')) 56 [some (rf Γ 27), some (.int (nI d)), some (.int (nI g)), some (rf Γ (8 + 2 * g)), some (.int (bI (decide (pPr P d ≤ pPu P g)))), some (.int (nI (o + 1))), none] [] (stI σ' 29 (2 ^ g + o) v) := by
      intro v hv
      refine ih (o + 1) _ (by omega) (by omega) (fun S hS => ?_) (fun S => ?_) (hO.st (Or.inr rfl))
      · by_cases q : S = 2 ^ g + o
        · subst q; rw [stI_at, hv]
        · rw [stI_ne (by omega)]; exact hj S (by omega)
      · rw [stI_ne (by omega)]; exact hb S
    have ej : JS P d (g + 1) (2 ^ g + o) = if pPr P d ≤ pPu P g ∧ JS P d g o ≠ -1 ∧ nI (pop o) < pSt P d then JS P d g o + pWa P g d else -1 := by
      conv => lhs; unfold JS
      rw [if_neg (by omega), show 2 ^ g + o - 2 ^ g = o by omega]
    refine go_iload dX0_findJoyOfGroups_56 rfl ?_
    refine go_iconst (v := nI 1) dX0_findJoyOfGroups_58 rfl ?_
    refine go_iload_n dX0_findJoyOfGroups_59 rfl rfl ?_
    refine go_ishl dX0_findJoyOfGroups_60 ?_
    rw [shl_ok g (by omega)]
    refine go_icmp_ge (tgt := 144) dX0_findJoyOfGroups_61 (by decide) (fun c61 => ?_) (fun c61 => ?_)
    · exact absurd c61 (nI_ge (by omega) (by omega))
    · refine go_iload dX0_findJoyOfGroups_64 rfl ?_
      refine go_if_eq (tgt := 101) dX0_findJoyOfGroups_66 (by decide) (fun c66 => ?_) (fun c66 => ?_)
      · refine go_iconst (v := nI 0) dX0_findJoyOfGroups_101 rfl ?_
        refine go_istore (L' := [_, _, _, _, _, _, _]) dX0_findJoyOfGroups_102 (by decide) rfl rfl ?_
        refine go_aload_n dX0_findJoyOfGroups_104 rfl rfl ?_
        refine go_getR flX0_15 fs_27_5 dX0_findJoyOfGroups_105 ?_
        refine go_iload dX0_findJoyOfGroups_108 rfl ?_
        refine go_iconst (v := nI 1) dX0_findJoyOfGroups_110 rfl ?_
        refine go_iload_n dX0_findJoyOfGroups_111 rfl rfl ?_
        refine go_ishl dX0_findJoyOfGroups_112 ?_
        refine go_ior dX0_findJoyOfGroups_113 ?_
        rw [hor]
        refine go_iload dX0_findJoyOfGroups_114 rfl ?_
        refine go_if_eq (tgt := 136) dX0_findJoyOfGroups_116 (by decide) (fun c116 => ?_) (fun c116 => ?_)
        · refine go_iconst (v := (-1)) dX0_findJoyOfGroups_136 rfl ?_
          refine go_iast (2 ^ g + o) rfl as_29 (by omega) (by decide) dX0_findJoyOfGroups_137 ?_
          refine go_iinc (v := nI (o + 1)) (L' := [_, _, _, _, _, _, _]) dX0_findJoyOfGroups_138 rfl (nI_1 _) (by decide) rfl rfl ?_
          refine go_goto (tgt := 56) dX0_findJoyOfGroups_141 (by decide) ?_
          exact go_sub [true, true, true, true, true, true, false] rfl (fin _ (by rw [ej, if_neg (fun z => by rw [decide_eq_true z.1] at c66; exact absurd c66 (by decide))]))
        · refine go_aload_n dX0_findJoyOfGroups_119 rfl rfl ?_
          refine go_getR flX0_15 fs_27_5 dX0_findJoyOfGroups_120 ?_
          refine go_iload dX0_findJoyOfGroups_123 rfl ?_
          refine go_iald (o) rfl as_29 (by omega) (by decide) dX0_findJoyOfGroups_125 ?_
          rw [hjo]
          refine go_aload_n dX0_findJoyOfGroups_126 rfl rfl ?_
          refine go_getR flX0_154 (fG_0 hg5) dX0_findJoyOfGroups_127 ?_
          refine go_iload_n dX0_findJoyOfGroups_130 rfl rfl ?_
          refine go_iald (d) rfl (aW hg5) (by omega) (by decide) dX0_findJoyOfGroups_131 ?_
          rw [hwa]
          refine go_iadd dX0_findJoyOfGroups_132 ?_
          refine go_goto (tgt := 137) dX0_findJoyOfGroups_133 (by decide) ?_
          refine go_iast (2 ^ g + o) rfl as_29 (by omega) (by decide) dX0_findJoyOfGroups_137 ?_
          refine go_iinc (v := nI (o + 1)) (L' := [_, _, _, _, _, _, _]) dX0_findJoyOfGroups_138 rfl (nI_1 _) (by decide) rfl rfl ?_
          refine go_goto (tgt := 56) dX0_findJoyOfGroups_141 (by decide) ?_
          exact absurd rfl c116
      · refine go_aload_n dX0_findJoyOfGroups_69 rfl rfl ?_
        refine go_getR flX0_15 fs_27_5 dX0_findJoyOfGroups_70 ?_
        refine go_iload dX0_findJoyOfGroups_73 rfl ?_
        refine go_iald (o) rfl as_29 (by omega) (by decide) dX0_findJoyOfGroups_75 ?_
        rw [hjo]
        refine go_iconst (v := (-1)) dX0_findJoyOfGroups_76 rfl ?_
        refine go_icmp_eq (tgt := 101) dX0_findJoyOfGroups_77 (by decide) (fun c77 => ?_) (fun c77 => ?_)
        · refine go_iconst (v := nI 0) dX0_findJoyOfGroups_101 rfl ?_
          refine go_istore (L' := [_, _, _, _, _, _, _]) dX0_findJoyOfGroups_102 (by decide) rfl rfl ?_
          refine go_aload_n dX0_findJoyOfGroups_104 rfl rfl ?_
          refine go_getR flX0_15 fs_27_5 dX0_findJoyOfGroups_105 ?_
          refine go_iload dX0_findJoyOfGroups_108 rfl ?_
          refine go_iconst (v := nI 1) dX0_findJoyOfGroups_110 rfl ?_
          refine go_iload_n dX0_findJoyOfGroups_111 rfl rfl ?_
          refine go_ishl dX0_findJoyOfGroups_112 ?_
          refine go_ior dX0_findJoyOfGroups_113 ?_
          rw [hor]
          refine go_iload dX0_findJoyOfGroups_114 rfl ?_
          refine go_if_eq (tgt := 136) dX0_findJoyOfGroups_116 (by decide) (fun c116 => ?_) (fun c116 => ?_)
          · refine go_iconst (v := (-1)) dX0_findJoyOfGroups_136 rfl ?_
            refine go_iast (2 ^ g + o) rfl as_29 (by omega) (by decide) dX0_findJoyOfGroups_137 ?_
            refine go_iinc (v := nI (o + 1)) (L' := [_, _, _, _, _, _, _]) dX0_findJoyOfGroups_138 rfl (nI_1 _) (by decide) rfl rfl ?_
            refine go_goto (tgt := 56) dX0_findJoyOfGroups_141 (by decide) ?_
            exact go_sub [true, true, true, true, true, true, false] rfl (fin _ (by rw [ej, if_neg (fun z => z.2.1 c77)]))
          · refine go_aload_n dX0_findJoyOfGroups_119 rfl rfl ?_
            refine go_getR flX0_15 fs_27_5 dX0_findJoyOfGroups_120 ?_
            refine go_iload dX0_findJoyOfGroups_123 rfl ?_
            refine go_iald (o) rfl as_29 (by omega) (by decide) dX0_findJoyOfGroups_125 ?_
            rw [hjo]
            refine go_aload_n dX0_findJoyOfGroups_126 rfl rfl ?_
            refine go_getR flX0_154 (fG_0 hg5) dX0_findJoyOfGroups_127 ?_
            refine go_iload_n dX0_findJoyOfGroups_130 rfl rfl ?_
            refine go_iald (d) rfl (aW hg5) (by omega) (by decide) dX0_findJoyOfGroups_131 ?_
            rw [hwa]
            refine go_iadd dX0_findJoyOfGroups_132 ?_
            refine go_goto (tgt := 137) dX0_findJoyOfGroups_133 (by decide) ?_
            refine go_iast (2 ^ g + o) rfl as_29 (by omega) (by decide) dX0_findJoyOfGroups_137 ?_
            refine go_iinc (v := nI (o + 1)) (L' := [_, _, _, _, _, _, _]) dX0_findJoyOfGroups_138 rfl (nI_1 _) (by decide) rfl rfl ?_
            refine go_goto (tgt := 56) dX0_findJoyOfGroups_141 (by decide) ?_
            exact absurd rfl c116
        · refine go_iload dX0_findJoyOfGroups_80 rfl ?_
          refine go_callSp csX0_146 (sp_bitCount (show o < 64 by omega)) (by omega) rfl rfl (Nat.le_of_ble_eq_true rfl) dX0_findJoyOfGroups_82 ?_
          refine go_aload_n dX0_findJoyOfGroups_85 rfl rfl ?_
          refine go_getR flX0_23 fs_27_0 dX0_findJoyOfGroups_86 ?_
          refine go_getR flX0_151 fs_3_0 dX0_findJoyOfGroups_89 ?_
          refine go_iload_n dX0_findJoyOfGroups_92 rfl rfl ?_
          refine go_iald (d) rfl as_4 (by omega) (by decide) dX0_findJoyOfGroups_93 ?_
          rw [hst]
          refine go_icmp_ge (tgt := 101) dX0_findJoyOfGroups_94 (by decide) (fun c94 => ?_) (fun c94 => ?_)
          · refine go_iconst (v := nI 0) dX0_findJoyOfGroups_101 rfl ?_
            refine go_istore (L' := [_, _, _, _, _, _, _]) dX0_findJoyOfGroups_102 (by decide) rfl rfl ?_
            refine go_aload_n dX0_findJoyOfGroups_104 rfl rfl ?_
            refine go_getR flX0_15 fs_27_5 dX0_findJoyOfGroups_105 ?_
            refine go_iload dX0_findJoyOfGroups_108 rfl ?_
            refine go_iconst (v := nI 1) dX0_findJoyOfGroups_110 rfl ?_
            refine go_iload_n dX0_findJoyOfGroups_111 rfl rfl ?_
            refine go_ishl dX0_findJoyOfGroups_112 ?_
            refine go_ior dX0_findJoyOfGroups_113 ?_
            rw [hor]
            refine go_iload dX0_findJoyOfGroups_114 rfl ?_
            refine go_if_eq (tgt := 136) dX0_findJoyOfGroups_116 (by decide) (fun c116 => ?_) (fun c116 => ?_)
            · refine go_iconst (v := (-1)) dX0_findJoyOfGroups_136 rfl ?_
              refine go_iast (2 ^ g + o) rfl as_29 (by omega) (by decide) dX0_findJoyOfGroups_137 ?_
              refine go_iinc (v := nI (o + 1)) (L' := [_, _, _, _, _, _, _]) dX0_findJoyOfGroups_138 rfl (nI_1 _) (by decide) rfl rfl ?_
              refine go_goto (tgt := 56) dX0_findJoyOfGroups_141 (by decide) ?_
              exact go_sub [true, true, true, true, true, true, false] rfl (fin _ (by rw [ej, if_neg (fun z => Int32.not_lt.mpr c94 z.2.2)]))
            · refine go_aload_n dX0_findJoyOfGroups_119 rfl rfl ?_
              refine go_getR flX0_15 fs_27_5 dX0_findJoyOfGroups_120 ?_
              refine go_iload dX0_findJoyOfGroups_123 rfl ?_
              refine go_iald (o) rfl as_29 (by omega) (by decide) dX0_findJoyOfGroups_125 ?_
              rw [hjo]
              refine go_aload_n dX0_findJoyOfGroups_126 rfl rfl ?_
              refine go_getR flX0_154 (fG_0 hg5) dX0_findJoyOfGroups_127 ?_
              refine go_iload_n dX0_findJoyOfGroups_130 rfl rfl ?_
              refine go_iald (d) rfl (aW hg5) (by omega) (by decide) dX0_findJoyOfGroups_131 ?_
              rw [hwa]
              refine go_iadd dX0_findJoyOfGroups_132 ?_
              refine go_goto (tgt := 137) dX0_findJoyOfGroups_133 (by decide) ?_
              refine go_iast (2 ^ g + o) rfl as_29 (by omega) (by decide) dX0_findJoyOfGroups_137 ?_
              refine go_iinc (v := nI (o + 1)) (L' := [_, _, _, _, _, _, _]) dX0_findJoyOfGroups_138 rfl (nI_1 _) (by decide) rfl rfl ?_
              refine go_goto (tgt := 56) dX0_findJoyOfGroups_141 (by decide) ?_
              exact absurd rfl c116
          · refine go_iconst (v := nI 1) dX0_findJoyOfGroups_97 rfl ?_
            refine go_goto (tgt := 102) dX0_findJoyOfGroups_98 (by decide) ?_
            refine go_istore (L' := [_, _, _, _, _, _, _]) dX0_findJoyOfGroups_102 (by decide) rfl rfl ?_
            refine go_aload_n dX0_findJoyOfGroups_104 rfl rfl ?_
            refine go_getR flX0_15 fs_27_5 dX0_findJoyOfGroups_105 ?_
            refine go_iload dX0_findJoyOfGroups_108 rfl ?_
            refine go_iconst (v := nI 1) dX0_findJoyOfGroups_110 rfl ?_
            refine go_iload_n dX0_findJoyOfGroups_111 rfl rfl ?_
            refine go_ishl dX0_findJoyOfGroups_112 ?_
            refine go_ior dX0_findJoyOfGroups_113 ?_
            rw [hor]
            refine go_iload dX0_findJoyOfGroups_114 rfl ?_
            refine go_if_eq (tgt := 136) dX0_findJoyOfGroups_116 (by decide) (fun c116 => ?_) (fun c116 => ?_)
            · refine go_iconst (v := (-1)) dX0_findJoyOfGroups_136 rfl ?_
              refine go_iast (2 ^ g + o) rfl as_29 (by omega) (by decide) dX0_findJoyOfGroups_137 ?_
              refine go_iinc (v := nI (o + 1)) (L' := [_, _, _, _, _, _, _]) dX0_findJoyOfGroups_138 rfl (nI_1 _) (by decide) rfl rfl ?_
              refine go_goto (tgt := 56) dX0_findJoyOfGroups_141 (by decide) ?_
              exact absurd c116 (by decide)
            · refine go_aload_n dX0_findJoyOfGroups_119 rfl rfl ?_
              refine go_getR flX0_15 fs_27_5 dX0_findJoyOfGroups_120 ?_
              refine go_iload dX0_findJoyOfGroups_123 rfl ?_
              refine go_iald (o) rfl as_29 (by omega) (by decide) dX0_findJoyOfGroups_125 ?_
              rw [hjo]
              refine go_aload_n dX0_findJoyOfGroups_126 rfl rfl ?_
              refine go_getR flX0_154 (fG_0 hg5) dX0_findJoyOfGroups_127 ?_
              refine go_iload_n dX0_findJoyOfGroups_130 rfl rfl ?_
              refine go_iald (d) rfl (aW hg5) (by omega) (by decide) dX0_findJoyOfGroups_131 ?_
              rw [hwa]
              refine go_iadd dX0_findJoyOfGroups_132 ?_
              refine go_goto (tgt := 137) dX0_findJoyOfGroups_133 (by decide) ?_
              refine go_iast (2 ^ g + o) rfl as_29 (by omega) (by decide) dX0_findJoyOfGroups_137 ?_
              refine go_iinc (v := nI (o + 1)) (L' := [_, _, _, _, _, _, _]) dX0_findJoyOfGroups_138 rfl (nI_1 _) (by decide) rfl rfl ?_
              refine go_goto (tgt := 56) dX0_findJoyOfGroups_141 (by decide) ?_
              exact go_sub [true, true, true, true, true, true, false] rfl (fin _ (by rw [ej, if_pos ⟨of_decide_eq_true (bI_ne0.mp c66), c77, Int32.not_le.mp c94⟩]))
set_option maxHeartbeats 1000000 in
theorem lp_find1 {Γ : Gm} {σ : Mm} {P : Pb} {d : Nat} (hP : PI σ P) (hd : d < pD P) : ∀ (m g : Nat) (σ' : Mm), pG P - g = m → g ≤ pG P → (∀ S, S < 2 ^ g → σ'.1 29 S = JS P d g S) → (∀ S, σ'.1 28 S = σ.1 28 S) → OH σ σ' → Go Γ 2 mX0_findJoyOfGroups (aV (fun σ' => (∀ S, S < 2 ^ pG P → σ'.1 29 S = JS P d (pG P) S) ∧ (∀ S, σ'.1 28 S = σ.1 28 S) ∧ OH σ σ')) 9 [some (rf Γ 27), some (.int (nI d)), some (.int (nI g)), none, none, none, none] [] σ' := by
  have hD := hP.1.2
  have hG := hP.2.1.2
  intro m
  induction m with
  | zero =>
    intro g σ' hm hg hj hb hO
    have e : g = pG P := by omega
    subst e
    refine go_iload_n dX0_findJoyOfGroups_9 rfl rfl ?_
    refine go_aload_n dX0_findJoyOfGroups_10 rfl rfl ?_
    refine go_getR flX0_27 fs_27_1 dX0_findJoyOfGroups_11 ?_
    refine go_getI flX0_63 fs_6_1 dX0_findJoyOfGroups_14 ?_
    rw [(hP.oh hO).2.1.1]
    refine go_icmp_ge (tgt := 150) dX0_findJoyOfGroups_17 (by decide) (fun c17 => ?_) (fun c17 => ?_)
    · refine go_vret rfl dX0_findJoyOfGroups_150 ?_
      exact ⟨rfl, hj, hb, hO⟩
    · exact absurd (Int32.le_refl _) c17
  | succ m ih =>
    intro g σ' hm hg hj hb hO
    have hg1 : g < pG P := by omega
    have hg5 : g < 5 := by omega
    have hP' := hP.oh hO
    have hpr := (hP'.2.2.1 d hd).2
    have hpu := (hP'.2.2.2 g hg1).1
    have go2 : Go Γ 2 mX0_findJoyOfGroups (aV (fun σ' => (∀ S, S < 2 ^ pG P → σ'.1 29 S = JS P d (pG P) S) ∧ (∀ S, σ'.1 28 S = σ.1 28 S) ∧ OH σ σ')) 56 [some (rf Γ 27), some (.int (nI d)), some (.int (nI g)), some (rf Γ (8 + 2 * g)), some (.int (bI (decide (pPr P d ≤ pPu P g)))), some (.int (nI 0)), none] [] σ' :=
      lp_find2 hP hd hg1 (fun σ2 h1 h2 h3 => ih (g + 1) σ2 (by omega) (by omega) h1 h2 h3) (2 ^ g) 0 σ' rfl (Nat.zero_le _) (fun S hS => by rw [hj S hS]; exact (JS_low hS).symm) hb hO
    refine go_iload_n dX0_findJoyOfGroups_9 rfl rfl ?_
    refine go_aload_n dX0_findJoyOfGroups_10 rfl rfl ?_
    refine go_getR flX0_27 fs_27_1 dX0_findJoyOfGroups_11 ?_
    refine go_getI flX0_63 fs_6_1 dX0_findJoyOfGroups_14 ?_
    rw [hP'.2.1.1]
    refine go_icmp_ge (tgt := 150) dX0_findJoyOfGroups_17 (by decide) (fun c17 => ?_) (fun c17 => ?_)
    · exact absurd c17 (nI_ge (by omega) (by omega))
    · refine go_aload_n dX0_findJoyOfGroups_20 rfl rfl ?_
      refine go_getR flX0_27 fs_27_1 dX0_findJoyOfGroups_21 ?_
      refine go_getR flX0_134 fs_6_0 dX0_findJoyOfGroups_24 ?_
      refine go_iload_n dX0_findJoyOfGroups_27 rfl rfl ?_
      refine go_aald (g) rfl (rG hg5) rt_7 dX0_findJoyOfGroups_28 ?_
      refine go_astore_n (L' := [_, _, _, _, _, _, _]) dX0_findJoyOfGroups_29 rfl (by decide) rfl rfl ?_
      refine go_aload_n dX0_findJoyOfGroups_30 rfl rfl ?_
      refine go_getR flX0_23 fs_27_0 dX0_findJoyOfGroups_31 ?_
      refine go_getR flX0_138 fs_3_1 dX0_findJoyOfGroups_34 ?_
      refine go_iload_n dX0_findJoyOfGroups_37 rfl rfl ?_
      refine go_iald (d) rfl as_5 (by omega) (by decide) dX0_findJoyOfGroups_38 ?_
      rw [hpr]
      refine go_aload_n dX0_findJoyOfGroups_39 rfl rfl ?_
      refine go_getI flX0_141 (fG_2 hg5) dX0_findJoyOfGroups_40 ?_
      rw [hpu]
      refine go_icmp_gt (tgt := 50) dX0_findJoyOfGroups_43 (by decide) (fun c43 => ?_) (fun c43 => ?_)
      · refine go_iconst (v := nI 0) dX0_findJoyOfGroups_50 rfl ?_
        refine go_istore (L' := [_, _, _, _, _, _, _]) dX0_findJoyOfGroups_51 (by decide) rfl rfl ?_
        refine go_iconst (v := nI 0) dX0_findJoyOfGroups_53 rfl ?_
        refine go_istore (L' := [_, _, _, _, _, _, _]) dX0_findJoyOfGroups_54 (by decide) rfl rfl ?_
        rw [show decide (pPr P d ≤ pPu P g) = false from decide_eq_false (Int32.not_le.mpr c43)] at go2
        exact go2
      · refine go_iconst (v := nI 1) dX0_findJoyOfGroups_46 rfl ?_
        refine go_goto (tgt := 51) dX0_findJoyOfGroups_47 (by decide) ?_
        refine go_istore (L' := [_, _, _, _, _, _, _]) dX0_findJoyOfGroups_51 (by decide) rfl rfl ?_
        refine go_iconst (v := nI 0) dX0_findJoyOfGroups_53 rfl ?_
        refine go_istore (L' := [_, _, _, _, _, _, _]) dX0_findJoyOfGroups_54 (by decide) rfl rfl ?_
        rw [show decide (pPr P d ≤ pPu P g) = true from decide_eq_true (Int32.not_lt.mp c43)] at go2
        exact go2
set_option maxHeartbeats 1000000 in
theorem sp_find {Γ : Gm} {σ : Mm} {P : Pb} {d : Nat} (hP : PI σ P) (hd : d < pD P) : Sp Γ 2 mX0_findJoyOfGroups [rf Γ 27, .int (nI d)] σ (aV (fun σ' => (∀ S, S < 2 ^ pG P → σ'.1 29 S = JS P d (pG P) S) ∧ (∀ S, σ'.1 28 S = σ.1 28 S) ∧ OH σ σ')) := by
  refine sp_in (L := [some (rf Γ 27), some (.int (nI d)), none, none, none, none, none]) rfl (Nat.le_of_ble_eq_true rfl) rfl ?_
  refine go_aload_n dX0_findJoyOfGroups_0 rfl rfl ?_
  refine go_getR flX0_15 fs_27_5 dX0_findJoyOfGroups_1 ?_
  refine go_iconst (v := nI 0) dX0_findJoyOfGroups_4 rfl ?_
  refine go_iconst (v := nI 0) dX0_findJoyOfGroups_5 rfl ?_
  refine go_iast (0) rfl as_29 (by omega) (by decide) dX0_findJoyOfGroups_6 ?_
  refine go_iconst (v := nI 0) dX0_findJoyOfGroups_7 rfl ?_
  refine go_istore_n (L' := [_, _, _, _, _, _, _]) dX0_findJoyOfGroups_8 rfl (by decide) rfl rfl ?_
  refine lp_find1 hP hd (pG P) 0 _ rfl (Nat.zero_le _) (fun S hS => ?_) (fun S => stI_ne (by omega)) (OH.rf.st (Or.inr rfl))
  have : S = 0 := by simpa using hS
  subst this
  rw [stI_at]; rfl
/-- the best of the parts of S up to k, over B without a dish and J of it -/
def pf (B J : Nat → Int32) (S : Nat) : Nat → Int32
  | 0 => B S
  | k + 1 => if (k + 1) &&& S = k + 1 ∧ J (k + 1) ≠ -1 then mx (pf B J S k) (B (S ^^^ (k + 1)) + J (k + 1)) else pf B J S k
def BG (P : Pb) : Nat → Nat → Int32
  | 0, _ => 0
  | d + 1, S => pf (BG P d) (JS P d (pG P)) S S
theorem xor_lt : ∀ S, S < 32 → ∀ p, p < 32 → 0 < p → p &&& S = p → S ^^^ p < S := by decide +kernel
theorem and_nI : ∀ S, S < 32 → ∀ p, p < 32 → nI p &&& nI S = nI (p &&& S) := by decide +kernel
theorem xor_nI : ∀ S, S < 32 → ∀ p, p < 32 → nI S ^^^ nI p = nI (S ^^^ p) := by decide +kernel
theorem and_lt : ∀ S, S < 32 → ∀ p, p < 32 → p &&& S < 32 := by decide +kernel
theorem pf_congr {B B' J J' : Nat → Int32} {S : Nat} (hS : S < 32) (hb : ∀ k, k ≤ S → B k = B' k) (hj : ∀ k, k ≤ S → J k = J' k) : ∀ k : Nat, k ≤ S → pf B J S k = pf B' J' S k
  | 0, _ => hb S (Nat.le_refl _)
  | k + 1, h => by
    unfold pf
    rw [pf_congr hS hb hj k (by omega), hj (k + 1) h]
    by_cases q : (k + 1) &&& S = k + 1 ∧ J' (k + 1) ≠ -1
    · rw [if_pos q, if_pos q, hb _ (Nat.le_of_lt (xor_lt S hS (k + 1) (by omega) (by omega) q.1))]
    · rw [if_neg q, if_neg q]
set_option maxHeartbeats 2000000 in
theorem lp_give3 {Γ : Gm} {σ : Mm} {P : Pb} {d S : Nat} (hP : PI σ P) (hS : S < 2 ^ pG P) (hS0 : 0 < S) (Q : Option Value → Mm → Prop)
    (next : ∀ σ', (∀ k, k < 2 ^ pG P → σ'.1 28 k = if k < S then BG P d k else BG P (d + 1) k) → (∀ k, k < 2 ^ pG P → σ'.1 29 k = JS P d (pG P) k) → OH σ σ' → Go Γ 3 mX0_mostGiven Q 127 [some (rf Γ 27), some (.int (nI (2 ^ pG P))), some (.int (nI d)), some (.int (nI S)), none, none] [] σ') :
    ∀ (m p : Nat) (σ' : Mm), S - p = m → p ≤ S → (∀ k, k < 2 ^ pG P → k ≠ S → σ'.1 28 k = if k < S then BG P d k else BG P (d + 1) k) → σ'.1 28 S = pf (BG P d) (JS P d (pG P)) S p → (∀ k, k < 2 ^ pG P → σ'.1 29 k = JS P d (pG P) k) → OH σ σ' → Go Γ 3 mX0_mostGiven Q 59 [some (rf Γ 27), some (.int (nI (2 ^ pG P))), some (.int (nI d)), some (.int (nI S)), some (.int (nI (p + 1))), none] [] σ' := by
  have hG := hP.2.1.2
  have h32 := pw5 hG
  intro m
  induction m with
  | zero =>
    intro p σ' hm hp hb hs hj hO
    have e : p = S := by omega
    subst e
    refine go_iload dX0_mostGiven_59 rfl ?_
    refine go_iload_n dX0_mostGiven_61 rfl rfl ?_
    refine go_icmp_gt (tgt := 127) dX0_mostGiven_62 (by decide) (fun c62 => ?_) (fun c62 => ?_)
    · refine go_sub [true, true, true, true, false, false] rfl (next σ' (fun k hk => ?_) hj hO)
      by_cases q : k = p
      · subst q; rw [hs, if_neg (by omega)]; rfl
      · exact hb k hk q
    · exact absurd (nI_lt (by omega) (by omega)) c62
  | succ m ih =>
    intro p σ' hm hp hb hs hj hO
    have hp1 : p + 1 ≤ S := by omega
    have ea := and_nI S (by omega) (p + 1) (by omega)
    have ex := xor_nI S (by omega) (p + 1) (by omega)
    have hal := and_lt S (by omega) (p + 1) (by omega)
    have hjp := hj (p + 1) (by omega)
    refine go_iload dX0_mostGiven_59 rfl ?_
    refine go_iload_n dX0_mostGiven_61 rfl rfl ?_
    refine go_icmp_gt (tgt := 127) dX0_mostGiven_62 (by decide) (fun c62 => ?_) (fun c62 => ?_)
    · exact absurd c62 (nI_nlt (by omega) (by omega))
    · refine go_iload dX0_mostGiven_65 rfl ?_
      refine go_iload_n dX0_mostGiven_67 rfl rfl ?_
      refine go_iand dX0_mostGiven_68 ?_
      rw [ea]
      refine go_iload dX0_mostGiven_69 rfl ?_
      refine go_icmp_ne (tgt := 121) dX0_mostGiven_71 (by decide) (fun c71 => ?_) (fun c71 => ?_)
      · rw [nI_eq (by omega) (by omega)] at c71
        refine go_iinc (v := nI (p + 1 + 1)) (L' := [_, _, _, _, _, _]) dX0_mostGiven_121 rfl (nI_1 _) (by decide) rfl rfl ?_
        refine go_goto (tgt := 59) dX0_mostGiven_124 (by decide) ?_
        refine ih (p + 1) σ' (by omega) (by omega) hb ?_ hj hO
        rw [hs]
        conv => rhs; unfold pf
        rw [if_neg (fun z => c71 z.1)]
      · refine go_aload_n dX0_mostGiven_74 rfl rfl ?_
        refine go_getR flX0_15 fs_27_5 dX0_mostGiven_75 ?_
        refine go_iload dX0_mostGiven_78 rfl ?_
        refine go_iald (p + 1) rfl as_29 (by omega) (by decide) dX0_mostGiven_80 ?_
        rw [hjp]
        refine go_iconst (v := (-1)) dX0_mostGiven_81 rfl ?_
        refine go_icmp_eq (tgt := 121) dX0_mostGiven_82 (by decide) (fun c82 => ?_) (fun c82 => ?_)
        · refine go_iinc (v := nI (p + 1 + 1)) (L' := [_, _, _, _, _, _]) dX0_mostGiven_121 rfl (nI_1 _) (by decide) rfl rfl ?_
          refine go_goto (tgt := 59) dX0_mostGiven_124 (by decide) ?_
          refine ih (p + 1) σ' (by omega) (by omega) hb ?_ hj hO
          rw [hs]
          conv => rhs; unfold pf
          rw [if_neg (fun z => z.2 c82)]
        · rw [nI_eq (by omega) (by omega)] at c71
          have hx := xor_lt S (by omega) (p + 1) (by omega) (by omega) c71
          refine go_aload_n dX0_mostGiven_85 rfl rfl ?_
          refine go_getR flX0_11 fs_27_4 dX0_mostGiven_86 ?_
          refine go_iload_n dX0_mostGiven_89 rfl rfl ?_
          refine go_iload dX0_mostGiven_90 rfl ?_
          refine go_ixor dX0_mostGiven_92 ?_
          rw [ex]
          refine go_iald (S ^^^ (p + 1)) rfl as_28 (by omega) (by decide) dX0_mostGiven_93 ?_
          rw [hb (S ^^^ (p + 1)) (by omega) (by omega), if_pos hx]
          refine go_aload_n dX0_mostGiven_94 rfl rfl ?_
          refine go_getR flX0_15 fs_27_5 dX0_mostGiven_95 ?_
          refine go_iload dX0_mostGiven_98 rfl ?_
          refine go_iald (p + 1) rfl as_29 (by omega) (by decide) dX0_mostGiven_100 ?_
          rw [hjp]
          refine go_iadd dX0_mostGiven_101 ?_
          refine go_istore (L' := [_, _, _, _, _, _]) dX0_mostGiven_102 (by decide) rfl rfl ?_
          refine go_aload_n dX0_mostGiven_104 rfl rfl ?_
          refine go_getR flX0_11 fs_27_4 dX0_mostGiven_105 ?_
          refine go_iload_n dX0_mostGiven_108 rfl rfl ?_
          refine go_aload_n dX0_mostGiven_109 rfl rfl ?_
          refine go_getR flX0_11 fs_27_4 dX0_mostGiven_110 ?_
          refine go_iload_n dX0_mostGiven_113 rfl rfl ?_
          refine go_iald (S) rfl as_28 (by omega) (by decide) dX0_mostGiven_114 ?_
          rw [hs]
          refine go_iload dX0_mostGiven_115 rfl ?_
          refine go_max csX0_112 (by omega) (Nat.le_of_ble_eq_true rfl) dX0_mostGiven_117 ?_
          refine go_iast (S) rfl as_28 (by omega) (by decide) dX0_mostGiven_120 ?_
          refine go_iinc (v := nI (p+1 + 1)) (L' := [_, _, _, _, _, _]) dX0_mostGiven_121 rfl (nI_1 _) (by decide) rfl rfl ?_
          refine go_goto (tgt := 59) dX0_mostGiven_124 (by decide) ?_
          refine go_sub [true, true, true, true, true, false] rfl (ih (p + 1) _ (by omega) (by omega) (fun k h1 h2 => ?_) ?_ (fun k hk => ?_) (hO.st (Or.inl rfl)))
          · rw [stI_ne (by omega)]; exact hb k h1 h2
          · rw [stI_at]
            conv => rhs; unfold pf
            rw [if_pos ⟨c71, c82⟩]
          · rw [stI_ne (by omega)]; exact hj k hk
set_option maxHeartbeats 2000000 in
theorem lp_give2 {Γ : Gm} {σ : Mm} {P : Pb} {d : Nat} (hP : PI σ P) (Q : Option Value → Mm → Prop)
    (next : ∀ σ', (∀ k, k < 2 ^ pG P → σ'.1 28 k = BG P (d + 1) k) → OH σ σ' → Go Γ 3 mX0_mostGiven Q 133 [some (rf Γ 27), some (.int (nI (2 ^ pG P))), some (.int (nI d)), none, none, none] [] σ') :
    ∀ (S : Nat) (σ' : Mm), S < 2 ^ pG P → (∀ k, k < 2 ^ pG P → σ'.1 28 k = if k < S + 1 then BG P d k else BG P (d + 1) k) → (∀ k, k < 2 ^ pG P → σ'.1 29 k = JS P d (pG P) k) → OH σ σ' → Go Γ 3 mX0_mostGiven Q 52 [some (rf Γ 27), some (.int (nI (2 ^ pG P))), some (.int (nI d)), some (.int (nI S)), none, none] [] σ' := by
  have hG := hP.2.1.2
  have h32 := pw5 hG
  intro S
  induction S with
  | zero =>
    intro σ' hS hb hj hO
    refine go_iload_n dX0_mostGiven_52 rfl rfl ?_
    refine go_if_le (tgt := 133) dX0_mostGiven_53 (by decide) (fun c53 => ?_) (fun c53 => ?_)
    · refine go_sub [true, true, true, false, false, false] rfl (next σ' (fun k hk => ?_) hO)
      rw [hb k hk]
      by_cases q : k < 0 + 1
      · have : k = 0 := by omega
        subst this
        rfl
      · rw [if_neg q]
    · exact absurd (by decide) c53
  | succ S ih =>
    intro σ' hS hb hj hO
    refine go_iload_n dX0_mostGiven_52 rfl rfl ?_
    refine go_if_le (tgt := 133) dX0_mostGiven_53 (by decide) (fun c53 => ?_) (fun c53 => ?_)
    · exact absurd c53 (nI_nle (by omega) (by omega))
    · refine go_iconst (v := nI 1) dX0_mostGiven_56 rfl ?_
      refine go_istore (L' := [_, _, _, _, _, _]) dX0_mostGiven_57 (by decide) rfl rfl ?_
      refine lp_give3 (S := S + 1) hP hS (by omega) Q (fun σ2 h1 h2 h3 => ?_) (S + 1) 0 σ' rfl (Nat.zero_le _) (fun k h1 h2 => ?_) ?_ hj hO
      · refine go_iinc (v := nI S) (L' := [_, _, _, _, _, _]) dX0_mostGiven_127 rfl (pk_m1 S) (by decide) rfl rfl ?_
        refine go_goto (tgt := 52) dX0_mostGiven_130 (by decide) ?_
        exact ih σ2 (by omega) h1 h2 h3
      · rw [hb k h1]
        by_cases q : k < S + 1
        · rw [if_pos q, if_pos (by omega)]
        · rw [if_neg q, if_neg (by omega)]
      · rw [hb (S + 1) hS, if_pos (by omega)]; rfl
set_option maxHeartbeats 2000000 in
theorem lp_give1 {Γ : Gm} {σ : Mm} {P : Pb} (hP : PI σ P) : ∀ (m d : Nat) (σ' : Mm), pD P - d = m → d ≤ pD P → (∀ k, k < 2 ^ pG P → σ'.1 28 k = BG P d k) → OH σ σ' → Go Γ 3 mX0_mostGiven (aI (BG P (pD P) (2 ^ pG P - 1)) (OH σ)) 32 [some (rf Γ 27), some (.int (nI (2 ^ pG P))), some (.int (nI d)), none, none, none] [] σ' := by
  have hD := hP.1.2
  have hG := hP.2.1.2
  have h32 := pw5 hG
  have hpos : 0 < 2 ^ pG P := Nat.two_pow_pos _
  intro m
  induction m with
  | zero =>
    intro d σ' hm hd hb hO
    have e : d = pD P := by omega
    subst e
    have es : nI (2 ^ pG P) - nI 1 = nI (2 ^ pG P - 1) := pk_sub (by omega)
    refine go_iload_n dX0_mostGiven_32 rfl rfl ?_
    refine go_aload_n dX0_mostGiven_33 rfl rfl ?_
    refine go_getR flX0_23 fs_27_0 dX0_mostGiven_34 ?_
    refine go_getI flX0_117 fs_3_2 dX0_mostGiven_37 ?_
    rw [(hP.oh hO).1.1]
    refine go_icmp_ge (tgt := 139) dX0_mostGiven_40 (by decide) (fun c40 => ?_) (fun c40 => ?_)
    · refine go_aload_n dX0_mostGiven_139 rfl rfl ?_
      refine go_getR flX0_11 fs_27_4 dX0_mostGiven_140 ?_
      refine go_iload_n dX0_mostGiven_143 rfl rfl ?_
      refine go_iconst (v := nI 1) dX0_mostGiven_144 rfl ?_
      refine go_isub dX0_mostGiven_145 ?_
      rw [es]
      refine go_iald (2 ^ pG P - 1) rfl as_28 (by omega) (by decide) dX0_mostGiven_146 ?_
      rw [hb (2 ^ pG P - 1) (by omega)]
      refine go_iret rfl dX0_mostGiven_147 ?_
      exact ⟨rfl, hO⟩
    · exact absurd (Int32.le_refl _) c40
  | succ m ih =>
    intro d σ' hm hd hb hO
    have hd1 : d < pD P := by omega
    have es : nI (2 ^ pG P) - nI 1 = nI (2 ^ pG P - 1) := pk_sub (by omega)
    refine go_iload_n dX0_mostGiven_32 rfl rfl ?_
    refine go_aload_n dX0_mostGiven_33 rfl rfl ?_
    refine go_getR flX0_23 fs_27_0 dX0_mostGiven_34 ?_
    refine go_getI flX0_117 fs_3_2 dX0_mostGiven_37 ?_
    rw [(hP.oh hO).1.1]
    refine go_icmp_ge (tgt := 139) dX0_mostGiven_40 (by decide) (fun c40 => ?_) (fun c40 => ?_)
    · exact absurd c40 (nI_ge (by omega) (by omega))
    · refine go_aload_n dX0_mostGiven_43 rfl rfl ?_
      refine go_iload_n dX0_mostGiven_44 rfl rfl ?_
      refine go_callVv cvX0_131 os_27 (sp_find (hP.oh hO) hd1) (by omega) rfl rfl (Nat.le_of_ble_eq_true rfl) dX0_mostGiven_45 (fun σ2 q2 => ?_)
      refine go_iload_n dX0_mostGiven_48 rfl rfl ?_
      refine go_iconst (v := nI 1) dX0_mostGiven_49 rfl ?_
      refine go_isub dX0_mostGiven_50 ?_
      rw [es]
      refine go_istore_n (L' := [_, _, _, _, _, _]) dX0_mostGiven_51 rfl (by decide) rfl rfl ?_
      refine lp_give2 hP _ (fun σ3 h1 h2 => ?_) (2 ^ pG P - 1) σ2 (by omega) (fun k hk => ?_) q2.1 (hO.trans q2.2.2)
      · refine go_iinc (v := nI (d + 1)) (L' := [_, _, _, _, _, _]) dX0_mostGiven_133 rfl (nI_1 _) (by decide) rfl rfl ?_
        refine go_goto (tgt := 32) dX0_mostGiven_136 (by decide) ?_
        exact ih (d + 1) σ3 (by omega) (by omega) h1 h2
      · rw [q2.2.1 k, hb k hk, if_pos (by omega)]
set_option maxHeartbeats 2000000 in
theorem lp_give0 {Γ : Gm} {σ : Mm} {P : Pb} (hP : PI σ P) : ∀ (m k : Nat) (σ' : Mm), 2 ^ pG P - k = m → k ≤ 2 ^ pG P → (∀ j, j < k → σ'.1 28 j = 0) → OH σ σ' → Go Γ 3 mX0_mostGiven (aI (BG P (pD P) (2 ^ pG P - 1)) (OH σ)) 12 [some (rf Γ 27), some (.int (nI (2 ^ pG P))), some (.int (nI k)), none, none, none] [] σ' := by
  have hG := hP.2.1.2
  have h32 := pw5 hG
  intro m
  induction m with
  | zero =>
    intro k σ' hm hk hb hO
    have e : k = 2 ^ pG P := by omega
    subst e
    refine go_iload_n dX0_mostGiven_12 rfl rfl ?_
    refine go_iload_n dX0_mostGiven_13 rfl rfl ?_
    refine go_icmp_ge (tgt := 30) dX0_mostGiven_14 (by decide) (fun c14 => ?_) (fun c14 => ?_)
    · refine go_iconst (v := nI 0) dX0_mostGiven_30 rfl ?_
      refine go_istore_n (L' := [_, _, _, _, _, _]) dX0_mostGiven_31 rfl (by decide) rfl rfl ?_
      exact lp_give1 hP (pD P) 0 σ' rfl (Nat.zero_le _) hb hO
    · exact absurd (Int32.le_refl _) c14
  | succ m ih =>
    intro k σ' hm hk hb hO
    have hk32 : k < 32 := by omega
    refine go_iload_n dX0_mostGiven_12 rfl rfl ?_
    refine go_iload_n dX0_mostGiven_13 rfl rfl ?_
    refine go_icmp_ge (tgt := 30) dX0_mostGiven_14 (by decide) (fun c14 => ?_) (fun c14 => ?_)
    · exact absurd c14 (nI_ge (by omega) (by omega))
    · refine go_aload_n dX0_mostGiven_17 rfl rfl ?_
      refine go_getR flX0_11 fs_27_4 dX0_mostGiven_18 ?_
      refine go_iload_n dX0_mostGiven_21 rfl rfl ?_
      refine go_iconst (v := nI 0) dX0_mostGiven_22 rfl ?_
      refine go_iast (k) rfl as_28 (by omega) (by decide) dX0_mostGiven_23 ?_
      refine go_iinc (v := nI (k + 1)) (L' := [_, _, _, _, _, _]) dX0_mostGiven_24 rfl (nI_1 _) (by decide) rfl rfl ?_
      refine go_goto (tgt := 12) dX0_mostGiven_27 (by decide) ?_
      refine ih (k + 1) _ (by omega) (by omega) (fun j hj => ?_) (hO.st (Or.inl rfl))
      by_cases q : j = k
      · subst q; rw [stI_at]; rfl
      · rw [stI_ne (by omega)]; exact hb j (by omega)
set_option maxHeartbeats 1000000 in
theorem sp_mostGiven {Γ : Gm} {σ : Mm} {P : Pb} (hP : PI σ P) : Sp Γ 3 mX0_mostGiven [rf Γ 27] σ (aI (BG P (pD P) (2 ^ pG P - 1)) (OH σ)) := by
  have hG := hP.2.1.2
  refine sp_in (L := [some (rf Γ 27), none, none, none, none, none]) rfl (Nat.le_of_ble_eq_true rfl) rfl ?_
  refine go_iconst (v := nI 1) dX0_mostGiven_0 rfl ?_
  refine go_aload_n dX0_mostGiven_1 rfl rfl ?_
  refine go_getR flX0_27 fs_27_1 dX0_mostGiven_2 ?_
  refine go_getI flX0_63 fs_6_1 dX0_mostGiven_5 ?_
  rw [hP.2.1.1]
  refine go_ishl dX0_mostGiven_8 ?_
  rw [shl_ok (pG P) (by omega)]
  refine go_istore_n (L' := [_, _, _, _, _, _]) dX0_mostGiven_9 rfl (by decide) rfl rfl ?_
  refine go_iconst (v := nI 0) dX0_mostGiven_10 rfl ?_
  refine go_istore_n (L' := [_, _, _, _, _, _]) dX0_mostGiven_11 rfl (by decide) rfl rfl ?_
  exact lp_give0 hP (2 ^ pG P) 0 σ rfl (Nat.zero_le _) (fun j hj => absurd hj (Nat.not_lt_zero j)) OH.rf
end
