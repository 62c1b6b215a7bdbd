section
-- ===== PART A: goes FIRST, ahead of the names: the tables' words, and 'selects' of the private methods out of them =====
/-- a private method of a class that the tables say can be made, by its rows of tables_1 -/
def lw_okq (q : MethodName × Nat) : Prop := (q.1.cls ≠ "java/lang/invoke/MethodHandle" ∧ q.1.cls ≠ "java/lang/invoke/VarHandle") ∧ Cond.instantiable q.1.cls q.2 ∈ tables_1 ∧ Cond.privateMethod q.1 ∈ tables_1 ∧ Cond.instanceMethod q.1 ∈ tables_1
theorem lw_p0 : lw_okq (⟨"SkiShots", "putOnTape", "(I)V"⟩, 13) := ⟨⟨by decide +kernel, by decide +kernel⟩, List.mem_of_getElem? (i := 20) (by decide +kernel), List.mem_of_getElem? (i := 78) (by decide +kernel), List.mem_of_getElem? (i := 79) (by decide +kernel)⟩
theorem lw_p1 : lw_okq (⟨"SkiShots", "raceAt", "(I)LSkiShots$Race;"⟩, 13) := ⟨⟨by decide +kernel, by decide +kernel⟩, List.mem_of_getElem? (i := 20) (by decide +kernel), List.mem_of_getElem? (i := 309) (by decide +kernel), List.mem_of_getElem? (i := 310) (by decide +kernel)⟩
theorem lw_p2 : lw_okq (⟨"SkiShots", "isRacer", "(I)Z"⟩, 13) := ⟨⟨by decide +kernel, by decide +kernel⟩, List.mem_of_getElem? (i := 20) (by decide +kernel), List.mem_of_getElem? (i := 350) (by decide +kernel), List.mem_of_getElem? (i := 351) (by decide +kernel)⟩
theorem lw_p3 : lw_okq (⟨"SkiShots", "isDay", "(I)Z"⟩, 13) := ⟨⟨by decide +kernel, by decide +kernel⟩, List.mem_of_getElem? (i := 20) (by decide +kernel), List.mem_of_getElem? (i := 456) (by decide +kernel), List.mem_of_getElem? (i := 457) (by decide +kernel)⟩
theorem lw_p4 : lw_okq (⟨"SkiShots", "workOut", "(II)V"⟩, 13) := ⟨⟨by decide +kernel, by decide +kernel⟩, List.mem_of_getElem? (i := 20) (by decide +kernel), List.mem_of_getElem? (i := 460) (by decide +kernel), List.mem_of_getElem? (i := 461) (by decide +kernel)⟩
theorem lw_p5 : lw_okq (⟨"SkiShots", "addUpCup", "(I)V"⟩, 13) := ⟨⟨by decide +kernel, by decide +kernel⟩, List.mem_of_getElem? (i := 20) (by decide +kernel), List.mem_of_getElem? (i := 534) (by decide +kernel), List.mem_of_getElem? (i := 535) (by decide +kernel)⟩
theorem lw_p6 : lw_okq (⟨"SkiShots", "addToCup", "(LSkiShots$Race;)V"⟩, 13) := ⟨⟨by decide +kernel, by decide +kernel⟩, List.mem_of_getElem? (i := 20) (by decide +kernel), List.mem_of_getElem? (i := 538) (by decide +kernel), List.mem_of_getElem? (i := 539) (by decide +kernel)⟩
theorem lw_p7 : lw_okq (⟨"SkiShots", "standingInCup", "(I)I"⟩, 13) := ⟨⟨by decide +kernel, by decide +kernel⟩, List.mem_of_getElem? (i := 20) (by decide +kernel), List.mem_of_getElem? (i := 547) (by decide +kernel), List.mem_of_getElem? (i := 548) (by decide +kernel)⟩
theorem lw_p8 : lw_okq (⟨"java/lang/Throwable", "fillInStackTrace", "(I)Ljava/lang/Throwable;"⟩, 6) := ⟨⟨by decide +kernel, by decide +kernel⟩, List.mem_of_getElem? (i := 606) (by decide +kernel), List.mem_of_getElem? (i := 604) (by decide +kernel), List.mem_of_getElem? (i := 605) (by decide +kernel)⟩
theorem lw_p9 : lw_okq (⟨"SkiShotsModel", "take", "()V"⟩, 52) := ⟨⟨by decide +kernel, by decide +kernel⟩, List.mem_of_getElem? (i := 651) (by decide +kernel), List.mem_of_getElem? (i := 827) (by decide +kernel), List.mem_of_getElem? (i := 828) (by decide +kernel)⟩
theorem lw_p10 : lw_okq (⟨"SkiShotsModel", "isSmall", "(I)Z"⟩, 52) := ⟨⟨by decide +kernel, by decide +kernel⟩, List.mem_of_getElem? (i := 651) (by decide +kernel), List.mem_of_getElem? (i := 831) (by decide +kernel), List.mem_of_getElem? (i := 832) (by decide +kernel)⟩
theorem lw_p11 : lw_okq (⟨"SkiShotsModel", "wordAt", "(II)I"⟩, 52) := ⟨⟨by decide +kernel, by decide +kernel⟩, List.mem_of_getElem? (i := 651) (by decide +kernel), List.mem_of_getElem? (i := 835) (by decide +kernel), List.mem_of_getElem? (i := 836) (by decide +kernel)⟩
theorem lw_p12 : lw_okq (⟨"SkiShotsModel", "isDigit", "(I)Z"⟩, 52) := ⟨⟨by decide +kernel, by decide +kernel⟩, List.mem_of_getElem? (i := 651) (by decide +kernel), List.mem_of_getElem? (i := 839) (by decide +kernel), List.mem_of_getElem? (i := 840) (by decide +kernel)⟩
theorem lw_p13 : lw_okq (⟨"SkiShotsModel", "format", "()Z"⟩, 52) := ⟨⟨by decide +kernel, by decide +kernel⟩, List.mem_of_getElem? (i := 651) (by decide +kernel), List.mem_of_getElem? (i := 844) (by decide +kernel), List.mem_of_getElem? (i := 845) (by decide +kernel)⟩
theorem lw_p14 : lw_okq (⟨"SkiShotsModel", "word", "(I)Z"⟩, 52) := ⟨⟨by decide +kernel, by decide +kernel⟩, List.mem_of_getElem? (i := 651) (by decide +kernel), List.mem_of_getElem? (i := 848) (by decide +kernel), List.mem_of_getElem? (i := 849) (by decide +kernel)⟩
theorem lw_p15 : lw_okq (⟨"SkiShotsModel", "wrong", "(II)Z"⟩, 52) := ⟨⟨by decide +kernel, by decide +kernel⟩, List.mem_of_getElem? (i := 651) (by decide +kernel), List.mem_of_getElem? (i := 852) (by decide +kernel), List.mem_of_getElem? (i := 853) (by decide +kernel)⟩
def lw_privs_1 : List (MethodName × Nat) := [(⟨"SkiShots", "putOnTape", "(I)V"⟩, 13), (⟨"SkiShots", "raceAt", "(I)LSkiShots$Race;"⟩, 13), (⟨"SkiShots", "isRacer", "(I)Z"⟩, 13), (⟨"SkiShots", "isDay", "(I)Z"⟩, 13), (⟨"SkiShots", "workOut", "(II)V"⟩, 13), (⟨"SkiShots", "addUpCup", "(I)V"⟩, 13), (⟨"SkiShots", "addToCup", "(LSkiShots$Race;)V"⟩, 13), (⟨"SkiShots", "standingInCup", "(I)I"⟩, 13), (⟨"java/lang/Throwable", "fillInStackTrace", "(I)Ljava/lang/Throwable;"⟩, 6), (⟨"SkiShotsModel", "take", "()V"⟩, 52), (⟨"SkiShotsModel", "isSmall", "(I)Z"⟩, 52), (⟨"SkiShotsModel", "wordAt", "(II)I"⟩, 52), (⟨"SkiShotsModel", "isDigit", "(I)Z"⟩, 52), (⟨"SkiShotsModel", "format", "()Z"⟩, 52), (⟨"SkiShotsModel", "word", "(I)Z"⟩, 52), (⟨"SkiShotsModel", "wrong", "(II)Z"⟩, 52)]
theorem lw_r1 : ∀ q ∈ lw_privs_1, lw_okq q := List.forall_mem_cons.mpr ⟨lw_p0, List.forall_mem_cons.mpr ⟨lw_p1, List.forall_mem_cons.mpr ⟨lw_p2, List.forall_mem_cons.mpr ⟨lw_p3, List.forall_mem_cons.mpr ⟨lw_p4, List.forall_mem_cons.mpr ⟨lw_p5, List.forall_mem_cons.mpr ⟨lw_p6, List.forall_mem_cons.mpr ⟨lw_p7, List.forall_mem_cons.mpr ⟨lw_p8, List.forall_mem_cons.mpr ⟨lw_p9, List.forall_mem_cons.mpr ⟨lw_p10, List.forall_mem_cons.mpr ⟨lw_p11, List.forall_mem_cons.mpr ⟨lw_p12, List.forall_mem_cons.mpr ⟨lw_p13, List.forall_mem_cons.mpr ⟨lw_p14, List.forall_mem_cons.mpr ⟨lw_p15, fun _ h => absurd h List.not_mem_nil⟩⟩⟩⟩⟩⟩⟩⟩⟩⟩⟩⟩⟩⟩⟩⟩
theorem lw_p16 : lw_okq (⟨"SkiShotsModel", "sign", "(I)Z"⟩, 52) := ⟨⟨by decide +kernel, by decide +kernel⟩, List.mem_of_getElem? (i := 651) (by decide +kernel), List.mem_of_getElem? (i := 856) (by decide +kernel), List.mem_of_getElem? (i := 857) (by decide +kernel)⟩
theorem lw_p17 : lw_okq (⟨"SkiShotsModel", "number", "(II)Z"⟩, 52) := ⟨⟨by decide +kernel, by decide +kernel⟩, List.mem_of_getElem? (i := 651) (by decide +kernel), List.mem_of_getElem? (i := 860) (by decide +kernel), List.mem_of_getElem? (i := 861) (by decide +kernel)⟩
theorem lw_p18 : lw_okq (⟨"SkiShotsModel", "shots", "(I)Z"⟩, 52) := ⟨⟨by decide +kernel, by decide +kernel⟩, List.mem_of_getElem? (i := 651) (by decide +kernel), List.mem_of_getElem? (i := 864) (by decide +kernel), List.mem_of_getElem? (i := 865) (by decide +kernel)⟩
theorem lw_p19 : lw_okq (⟨"SkiShotsModel", "starts", "(I)Z"⟩, 52) := ⟨⟨by decide +kernel, by decide +kernel⟩, List.mem_of_getElem? (i := 651) (by decide +kernel), List.mem_of_getElem? (i := 868) (by decide +kernel), List.mem_of_getElem? (i := 869) (by decide +kernel)⟩
theorem lw_p20 : lw_okq (⟨"SkiShotsModel", "isRace", "(I)Z"⟩, 52) := ⟨⟨by decide +kernel, by decide +kernel⟩, List.mem_of_getElem? (i := 651) (by decide +kernel), List.mem_of_getElem? (i := 888) (by decide +kernel), List.mem_of_getElem? (i := 889) (by decide +kernel)⟩
theorem lw_p21 : lw_okq (⟨"SkiShotsModel", "isRacer", "(I)Z"⟩, 52) := ⟨⟨by decide +kernel, by decide +kernel⟩, List.mem_of_getElem? (i := 651) (by decide +kernel), List.mem_of_getElem? (i := 896) (by decide +kernel), List.mem_of_getElem? (i := 897) (by decide +kernel)⟩
theorem lw_p22 : lw_okq (⟨"SkiShotsModel", "isIn", "(II)Z"⟩, 52) := ⟨⟨by decide +kernel, by decide +kernel⟩, List.mem_of_getElem? (i := 651) (by decide +kernel), List.mem_of_getElem? (i := 904) (by decide +kernel), List.mem_of_getElem? (i := 905) (by decide +kernel)⟩
theorem lw_p23 : lw_okq (⟨"SkiShotsModel", "can", "(IIII)Z"⟩, 52) := ⟨⟨by decide +kernel, by decide +kernel⟩, List.mem_of_getElem? (i := 651) (by decide +kernel), List.mem_of_getElem? (i := 908) (by decide +kernel), List.mem_of_getElem? (i := 909) (by decide +kernel)⟩
theorem lw_p24 : lw_okq (⟨"SkiShotsModel", "fails", "(I)I"⟩, 52) := ⟨⟨by decide +kernel, by decide +kernel⟩, List.mem_of_getElem? (i := 651) (by decide +kernel), List.mem_of_getElem? (i := 917) (by decide +kernel), List.mem_of_getElem? (i := 918) (by decide +kernel)⟩
theorem lw_p25 : lw_okq (⟨"SkiShotsModel", "isDay", "(I)Z"⟩, 52) := ⟨⟨by decide +kernel, by decide +kernel⟩, List.mem_of_getElem? (i := 651) (by decide +kernel), List.mem_of_getElem? (i := 929) (by decide +kernel), List.mem_of_getElem? (i := 930) (by decide +kernel)⟩
theorem lw_p26 : lw_okq (⟨"SkiShotsModel", "workAll", "(II)V"⟩, 52) := ⟨⟨by decide +kernel, by decide +kernel⟩, List.mem_of_getElem? (i := 651) (by decide +kernel), List.mem_of_getElem? (i := 933) (by decide +kernel), List.mem_of_getElem? (i := 934) (by decide +kernel)⟩
theorem lw_p27 : lw_okq (⟨"SkiShotsModel", "work", "(III)V"⟩, 52) := ⟨⟨by decide +kernel, by decide +kernel⟩, List.mem_of_getElem? (i := 651) (by decide +kernel), List.mem_of_getElem? (i := 937) (by decide +kernel), List.mem_of_getElem? (i := 938) (by decide +kernel)⟩
theorem lw_p28 : lw_okq (⟨"SkiShotsModel", "startOf", "(II)I"⟩, 52) := ⟨⟨by decide +kernel, by decide +kernel⟩, List.mem_of_getElem? (i := 651) (by decide +kernel), List.mem_of_getElem? (i := 941) (by decide +kernel), List.mem_of_getElem? (i := 942) (by decide +kernel)⟩
theorem lw_p29 : lw_okq (⟨"SkiShotsModel", "least", "(I)I"⟩, 52) := ⟨⟨by decide +kernel, by decide +kernel⟩, List.mem_of_getElem? (i := 651) (by decide +kernel), List.mem_of_getElem? (i := 945) (by decide +kernel), List.mem_of_getElem? (i := 946) (by decide +kernel)⟩
theorem lw_p30 : lw_okq (⟨"SkiShotsModel", "known", "(IIIII)I"⟩, 52) := ⟨⟨by decide +kernel, by decide +kernel⟩, List.mem_of_getElem? (i := 651) (by decide +kernel), List.mem_of_getElem? (i := 949) (by decide +kernel), List.mem_of_getElem? (i := 950) (by decide +kernel)⟩
theorem lw_p31 : lw_okq (⟨"SkiShotsModel", "placed", "(IIZ)I"⟩, 52) := ⟨⟨by decide +kernel, by decide +kernel⟩, List.mem_of_getElem? (i := 651) (by decide +kernel), List.mem_of_getElem? (i := 956) (by decide +kernel), List.mem_of_getElem? (i := 957) (by decide +kernel)⟩
def lw_privs_2 : List (MethodName × Nat) := [(⟨"SkiShotsModel", "sign", "(I)Z"⟩, 52), (⟨"SkiShotsModel", "number", "(II)Z"⟩, 52), (⟨"SkiShotsModel", "shots", "(I)Z"⟩, 52), (⟨"SkiShotsModel", "starts", "(I)Z"⟩, 52), (⟨"SkiShotsModel", "isRace", "(I)Z"⟩, 52), (⟨"SkiShotsModel", "isRacer", "(I)Z"⟩, 52), (⟨"SkiShotsModel", "isIn", "(II)Z"⟩, 52), (⟨"SkiShotsModel", "can", "(IIII)Z"⟩, 52), (⟨"SkiShotsModel", "fails", "(I)I"⟩, 52), (⟨"SkiShotsModel", "isDay", "(I)Z"⟩, 52), (⟨"SkiShotsModel", "workAll", "(II)V"⟩, 52), (⟨"SkiShotsModel", "work", "(III)V"⟩, 52), (⟨"SkiShotsModel", "startOf", "(II)I"⟩, 52), (⟨"SkiShotsModel", "least", "(I)I"⟩, 52), (⟨"SkiShotsModel", "known", "(IIIII)I"⟩, 52), (⟨"SkiShotsModel", "placed", "(IIZ)I"⟩, 52)]
theorem lw_r2 : ∀ q ∈ lw_privs_2, lw_okq q := List.forall_mem_cons.mpr ⟨lw_p16, List.forall_mem_cons.mpr ⟨lw_p17, List.forall_mem_cons.mpr ⟨lw_p18, List.forall_mem_cons.mpr ⟨lw_p19, List.forall_mem_cons.mpr ⟨lw_p20, List.forall_mem_cons.mpr ⟨lw_p21, List.forall_mem_cons.mpr ⟨lw_p22, List.forall_mem_cons.mpr ⟨lw_p23, List.forall_mem_cons.mpr ⟨lw_p24, List.forall_mem_cons.mpr ⟨lw_p25, List.forall_mem_cons.mpr ⟨lw_p26, List.forall_mem_cons.mpr ⟨lw_p27, List.forall_mem_cons.mpr ⟨lw_p28, List.forall_mem_cons.mpr ⟨lw_p29, List.forall_mem_cons.mpr ⟨lw_p30, List.forall_mem_cons.mpr ⟨lw_p31, fun _ h => absurd h List.not_mem_nil⟩⟩⟩⟩⟩⟩⟩⟩⟩⟩⟩⟩⟩⟩⟩⟩
theorem lw_p32 : lw_okq (⟨"SkiShotsModel", "cup", "(I)V"⟩, 52) := ⟨⟨by decide +kernel, by decide +kernel⟩, List.mem_of_getElem? (i := 651) (by decide +kernel), List.mem_of_getElem? (i := 972) (by decide +kernel), List.mem_of_getElem? (i := 973) (by decide +kernel)⟩
theorem lw_p33 : lw_okq (⟨"SkiShotsModel", "stands", "(I)I"⟩, 52) := ⟨⟨by decide +kernel, by decide +kernel⟩, List.mem_of_getElem? (i := 651) (by decide +kernel), List.mem_of_getElem? (i := 980) (by decide +kernel), List.mem_of_getElem? (i := 981) (by decide +kernel)⟩
def lw_privs_3 : List (MethodName × Nat) := [(⟨"SkiShotsModel", "cup", "(I)V"⟩, 52), (⟨"SkiShotsModel", "stands", "(I)I"⟩, 52)]
theorem lw_r3 : ∀ q ∈ lw_privs_3, lw_okq q := List.forall_mem_cons.mpr ⟨lw_p32, List.forall_mem_cons.mpr ⟨lw_p33, fun _ h => absurd h List.not_mem_nil⟩⟩
def lw_privs : List (MethodName × Nat) := lw_privs_1 ++ (lw_privs_2 ++ (lw_privs_3))
def lw_tbl : List Cond := k2_sels lw_privs ++ tables_1
theorem lw_privs_ok : ∀ q ∈ lw_privs, lw_okq q := by
  show ∀ q ∈ lw_privs_1 ++ (lw_privs_2 ++ (lw_privs_3)), lw_okq q
  exact List.forall_mem_append.mpr ⟨lw_r1, List.forall_mem_append.mpr ⟨lw_r2, lw_r3⟩⟩
end
section
/-! ===== BEGIN words of one list among another's, by their places ===== -/
theorem goodIn_r {big : List Cond} (ws : List Cond) (ps : List Nat) (hp : ws = ps.filterMap (fun i => big[i]?)) (h : ws.all goodWord = true) : GoodIn big ws := by
  intro w hw
  have h1 := List.all_eq_true.mp h w hw
  rw [hp] at hw
  obtain ⟨i, -, hi⟩ := List.mem_filterMap.mp hw
  have hm : w ∈ big := by first | exact List.mem_of_getElem? hi | exact List.getElem?_mem hi
  exact ⟨hm, good_of_word h1⟩
theorem goodIn_app {big a b : List Cond} (ha : GoodIn big a) (hb : GoodIn big b) : GoodIn big (a ++ b) := fun w h => (List.mem_append.mp h).elim (ha w) (hb w)
theorem goodIn_ca {big a b : List Cond} {c : Cond} (ha : GoodIn big (c :: a)) (hb : GoodIn big b) : GoodIn big (c :: (a ++ b)) := fun w h => (List.mem_cons.mp h).elim (fun e => ha w (List.mem_cons.mpr (Or.inl e))) (fun h => (List.mem_append.mp h).elim (fun h => ha w (List.mem_cons.mpr (Or.inr h))) (hb w))
theorem goodIn_sub {big ws : List Cond} (hm : ∀ w ∈ ws, w ∈ big) (h : ws.all goodWord = true) : GoodIn big ws := fun w hw => ⟨hm w hw, good_of_word (List.all_eq_true.mp h w hw)⟩
/-! ===== END ===== -/

/-! ===== BEGIN exceptions that leave a method, and their catching by the caller (launches without stack traces) ===== -/
section VXA
/-! The laws vx_back, vx_callV, vx_callS, vx_callSW, vx_throw0, vx_throwS follow proofs of the library, with one case more: JvmDerived/Free/Laws.lean (Back.of_free), Shelf42/LK1.lean (callV, callS), Shelf/KitTraced.lean (throwNew0V, throwNewS). -/
/-- where a method has thrown q: the class by its name, the cell, what was written, the world -/
def vx_T (XC : String → State → State → Prop) (st : State) (q : Addr) (t : State) (mc ms : Nat) (free : Addr → Prop) : Prop :=
  ∃ (E : String) (ce : Cell) (L : List Loc), XC E st t ∧ t.heap[q]? = some ce ∧ ce.vm = .none ∧ st.vm.findClass E = some ce.cls ∧ st.WarmedH t.vm ∧ st.sameButNew ({ t with vm := st.vm } : State) L mc ms ∧ ∀ z ∈ L, free z.base
def vx_Q (Qc : Array Value → State → Outcome → State → Prop) (XC : String → State → State → Prop) (mc ms : Nat) (free : Addr → Prop) : Array Value → State → Outcome → State → Prop := fun a st o t =>
  (Qc a st o t ∧ ∃ L, FrameEnd st o t L mc ms ∧ ∀ q ∈ L, free q.base) ∨ ∃ q, o = .threw q ∧ vx_T XC st q t mc ms free
/-- a callee that returns or throws -/
def vx_Met (l : Launch) (y : MethodName) (ws : List Cond) (rm : Room) (Pc : Array Value → State → Prop) (Qc : Array Value → State → Outcome → State → Prop) (XC : String → State → State → Prop) (mc ms : Nat) (free : Addr → Prop) : Prop :=
  MetFree l y (headSpec ws rm) Pc (fun _ _ _ _ _ => True) (vx_Q Qc XC mc ms free)
def vx_Post (XC : String → State → State → Prop) (mc ms : Nat) (free : Addr → Prop) : Pt → Array Value → Addr → Pt → Prop := fun A a q B =>
  ∃ (g : JFrame) (mk : MethodId) (t : State) (L : List Loc) (E : String) (ce : Cell), B.U.heap = t.heap ∧ B.U.vm = t.vm ∧ XC E (A.U.calling g mk a) t ∧ t.heap[q]? = some ce ∧ ce.vm = .none ∧ A.U.vm.findClass E = some ce.cls ∧ B.locs = A.locs ++ L ∧ (∀ z ∈ L, free z.base) ∧ B.cells = A.cells + mc ∧ B.slots = A.slots + ms
def vx_Back (l : Launch) (R : Room) (p : Program) (e : Env) (below : List Frame) (s : State) (sargs : Array Value) (y : MethodName) (len W9 : Nat)
    (Pre : Pt → Array Value → Prop) (Post : Pt → Array Value → Option Value → Pt → Prop) (PostX : Pt → Array Value → Addr → Pt → Prop) : Prop :=
  ∀ (m : MethodId) (meth : Method) (c : Code) (A : Pt) (g : JFrame) (ig : Instr) (mk : MethodId) (a : Array Value),
    Stand p l e R s m sargs below meth c A.U A.locs A.cells A.slots → g.method = m → g.locals.size = c.maxLocals → decode c.code g.pc = .ok (ig, len) →
    2 * g.monitorRoom + (g.stack.map fun v => v.category).sum ≤ W9 → A.U.methodNamed? y = some mk → Pre A a →
    (∃ (v : Option Value) (B : Pt), Stand p l e R s m sargs below meth c B.U B.locs B.cells B.slots ∧ Post A a v B ∧
      Steps p.tables e below (doInvoke e (A.U.setTop g) [] mk a).1 (B.U.setTop { g with pc := g.pc + len, stack := v.toList ++ g.stack })) ∨
    (∃ (q : Addr) (B : Pt), Stand p l e R s m sargs below meth c B.U B.locs B.cells B.slots ∧ PostX A a q B ∧
      Steps p.tables e below (doInvoke e (A.U.setTop g) [] mk a).1 ((B.U.setTop g).pushFrame (.throwing q)))
section Payer
variable {l : Launch} {R : Room} {p : Program} {e : Env} {below : List Frame} {s : State} {sargs : Array Value} {y : MethodName} {len W9 : Nat}
theorem vx_back {ws : List Cond} {rm : Room} {Pc : Array Value → State → Prop} {Qc : Array Value → State → Outcome → State → Prop} {XC : String → State → State → Prop} {mc ms : Nat} {free : Addr → Prop} {bytes : ByteArray} {maxL : Nat} {ret : Option FieldType}
    (hM : vx_Met l y ws rm Pc Qc XC mc ms free) (hblind : FrameBlind Pc) (hrc : rm.cells = mc) (hrs : rm.slots = ms)
    (hframes : rm.frames + 1 ≤ R.frames) (hlocals : W9 + (maxL + 11) + rm.locals ≤ R.locals)
    (hws : ∀ w ∈ ws, ∀ a' U, s.WarmedH U.vm → w.before a' U = true) (hcode : Cond.code y bytes maxL ret ∈ ws) (hinit : ∀ a' U, s.WarmedH U.vm → (Cond.initialized y.cls).before a' U = true) :
    vx_Back l R p e below s sargs y len W9 (PreOf R mc ms Pc) (PostOf Qc mc ms free) (vx_Post XC mc ms free) := by
  intro m meth c A g ig mk a X hg hsize hdg hW hn hp
  have h1 : (headSpec ws rm).pre.before a A.U = true := atoms_intro fun w hw => hws w hw _ _ X.warmed
  have h2 : (Cond.code y bytes maxL ret).before a A.U = true := hws _ hcode _ _ X.warmed
  have h3 : (Cond.initialized y.cls).before a A.U = true := hinit _ _ X.warmed
  have h4 : A.cells + (headSpec ws rm).room.cells ≤ R.cells := by rw [show (headSpec ws rm).room.cells = mc from hrc]; exact hp.1
  have h5 : A.slots + (headSpec ws rm).room.slots ≤ R.slots := by rw [show (headSpec ws rm).room.slots = ms from hrs]; exact hp.2.1
  have hPc : Pc a (A.U.calling g mk a) := hblind _ _ _ _ hp.2.2
  obtain ⟨U, Ls, c0, s0⟩ := A
  dsimp only [Pt.U, Pt.locs, Pt.cells, Pt.slots] at h1 h2 h3 h4 h5 X hn hPc ⊢
  obtain ⟨methY, cY, hmY, hcY, -, hlY, -, -, -, -⟩ := Cond.code_spec hn h2
  obtain ⟨kY, hkY, -⟩ := className_of_methodNamed hn
  have hinitY : kY.init = .initialized := Cond.initialized_spec (findClass_of_methodNamed hn) hkY h3
  have h : At U g.method c below := by rw [hg]; exact X.here
  have hlocals9 : W9 + (maxL + 11) + (headSpec ws rm).room.locals ≤ R.locals := hlocals
  have happ : (headSpec ws rm).appliesLoose y e.platform (U.calling g mk a) = true :=
    Spec.appliesLoose_calling (g := g) h hdg hn hkY hinitY
      (X.room_calling (g := g) (R' := (headSpec ws rm).room) hsize hmY hcY hframes (by rw [hlY]; omega) h4 h5) h1
  obtain ⟨mid, hmid⟩ := h.above
  have hfr : (U.setTop g).frames = (.java g :: mid) ++ below := by rw [State.frames_setTop' g h.top, hmid]; rfl
  obtain ⟨o, s₂, hsteps, -, hend, hq⟩ := Steps.callFree hM p X.admits X.cas X.clock (acts := []) hfr happ hPc trivial
  have hq' : vx_Q Qc XC mc ms free a (U.calling g mk a) o s₂ := hq
  rw [State.frames_setTop' g h.top] at hend
  obtain ⟨g₀, hg0⟩ := Option.isSome_iff_exists.mp h.top
  obtain ⟨r, hr⟩ := State.topJava?_eq_some.mp hg0
  have hr' : (({ U with heap := s₂.heap, slotsUsed := s₂.slotsUsed } : State).setVm s₂.vm).frames = .java g₀ :: r := hr
  rcases hq' with ⟨hqc, L, hfe, hL⟩ | ⟨q, rfl, E, ce, L, hx, hce, hcv, hcl, hW₂, hsm, hL⟩
  · obtain ⟨⟨v, rfl⟩, hW₂, e2, q2, q3, q4, q5, q6⟩ := id hfe
    have e3 : s₂ = ({ (U.calling g mk a).setFrames s₂.frames with heap := s₂.heap, slotsUsed := s₂.slotsUsed } : State).setVm s₂.vm := by
      have : s₂ = ({ s₂ with vm := (U.calling g mk a).vm } : State).setVm s₂.vm := rfl
      rw [e2] at this
      exact this
    obtain ⟨c₂, i₂, len₂, hc₂, hd₂, hf₂⟩ := hend
    have hW' : U.WarmedH s₂.vm := hW₂
    have hcc : c₂ = c := by
      have h1 : s₂.code? g.method = U.code? g.method := by
        rw [State.code?_eq, State.code?_eq, hW'.alike.method?]
      exact Option.some.inj (hc₂.symm.trans (h1.trans h.code))
    subst hcc
    have hlen : len₂ = len := by rw [hdg] at hd₂; cases hd₂; rfl
    subst hlen
    have hs₂ : s₂ = (({ U with heap := s₂.heap, slotsUsed := s₂.slotsUsed } : State).setVm s₂.vm).setTop { g with pc := g.pc + len₂, stack := v.toList ++ g.stack } := by
      refine e3.trans ?_
      rw [hf₂, State.calling_eq h.top, State.setFrames_setFrames, State.setTop_of_frames _ hr', hr]
      rfl
    have hsame : U.sameButNew ({ U with heap := s₂.heap, slotsUsed := s₂.slotsUsed } : State) L mc ms := by
      refine ⟨?_, q2, q3, q4, q5, q6⟩
      obtain ⟨t, ht, -⟩ := State.frames_cons hr
      show ({ U with heap := s₂.heap, slotsUsed := s₂.slotsUsed } : State) = { U.setFrames U.frames with heap := s₂.heap, slotsUsed := s₂.slotsUsed }
      rw [State.setFrames_self ht]
    subst hg
    refine Or.inl ⟨v, ⟨(({ U with heap := s₂.heap, slotsUsed := s₂.slotsUsed } : State).setVm s₂.vm), Ls ++ L, c0 + mc, s0 + ms⟩,
      ⟨X.admits, X.cas, X.clock, X.frames, X.room, X.hears, X.method, X.code, (X.here.setHeapUsed s₂.heap s₂.slotsUsed).setVm hW'.alike, X.tail, State.WarmedH.trans X.warmed hW', X.limits, X.bytes, X.same.trans (hsame.setVm s.vm)⟩,
      ⟨g, mk, s₂, L, rfl, rfl, hqc, rfl, hL, rfl, rfl⟩, ?_⟩
    show Steps p.tables e below _ ((({ U with heap := s₂.heap, slotsUsed := s₂.slotsUsed } : State).setVm s₂.vm).setTop { g with pc := g.pc + len₂, stack := v.toList ++ g.stack })
    rw [← hs₂]
    exact hsteps
  · obtain ⟨e2, q2, q3, q4, q5, q6⟩ := id hsm
    have e3 : s₂ = ({ (U.calling g mk a).setFrames s₂.frames with heap := s₂.heap, slotsUsed := s₂.slotsUsed } : State).setVm s₂.vm := by
      have : s₂ = ({ s₂ with vm := (U.calling g mk a).vm } : State).setVm s₂.vm := rfl
      rw [e2] at this
      exact this
    have hf₂ : s₂.frames = .throwing q :: .java g :: U.frames.tail := hend
    have hW' : U.WarmedH s₂.vm := hW₂
    have hs₂ : s₂ = ((({ U with heap := s₂.heap, slotsUsed := s₂.slotsUsed } : State).setVm s₂.vm).setTop g).pushFrame (.throwing q) := by
      refine e3.trans ?_
      rw [hf₂, State.calling_eq h.top, State.setFrames_setFrames, State.pushFrame, State.frames_setTop _ hr', State.setTop_of_frames _ hr', State.setFrames_setFrames, hr]
      rfl
    have hsame : U.sameButNew ({ U with heap := s₂.heap, slotsUsed := s₂.slotsUsed } : State) L mc ms := by
      refine ⟨?_, q2, q3, q4, q5, q6⟩
      obtain ⟨t, ht, -⟩ := State.frames_cons hr
      show ({ U with heap := s₂.heap, slotsUsed := s₂.slotsUsed } : State) = { U.setFrames U.frames with heap := s₂.heap, slotsUsed := s₂.slotsUsed }
      rw [State.setFrames_self ht]
    subst hg
    refine Or.inr ⟨q, ⟨(({ U with heap := s₂.heap, slotsUsed := s₂.slotsUsed } : State).setVm s₂.vm), Ls ++ L, c0 + mc, s0 + ms⟩,
      ⟨X.admits, X.cas, X.clock, X.frames, X.room, X.hears, X.method, X.code, (X.here.setHeapUsed s₂.heap s₂.slotsUsed).setVm hW'.alike, X.tail, State.WarmedH.trans X.warmed hW', X.limits, X.bytes, X.same.trans (hsame.setVm s.vm)⟩,
      ⟨g, mk, s₂, L, E, ce, rfl, rfl, hx, hce, hcv, hcl, rfl, hL, rfl, rfl⟩, ?_⟩
    show Steps p.tables e below _ (((({ U with heap := s₂.heap, slotsUsed := s₂.slotsUsed } : State).setVm s₂.vm).setTop g).pushFrame (.throwing q))
    rw [← hs₂]
    exact hsteps
end Payer
section Calls
variable {p : Program} {l : Launch} {e : Env} {R : Room} {s : State} {m : MethodId} {args : Array Value} {below : List Frame} {meth : Method} {c : Code} {T : State} {locs : List Loc} {cells slots : Nat}
theorem vx_callV (X : Stand p l e R s m args below meth c T locs cells slots) (hexec : p.tables.exec = Jvm.exec) {own C : String} {index : Nat} {y : MethodName} {bytes : ByteArray} {maxL : Nat} {ret : Option FieldType}
    (hown : s.vm.findClass own = some m.cls) (hlink : (Cond.methodLink own index y).before args s = true) (hinst : (Cond.instanceMethod y).before args s = true) (hsel : (Cond.selects C y y).before args s = true)
    (hcode : (Cond.code y bytes maxL ret).before args s = true) (hy : y.cls ≠ "java/lang/invoke/MethodHandle" ∧ y.cls ≠ "java/lang/invoke/VarHandle")
    {W9 : Nat} {Pre : Pt → Array Value → Prop} {Post : Pt → Array Value → Option Value → Pt → Prop} {PostX : Pt → Array Value → Addr → Pt → Prop} (hK : vx_Back l R p e below s args y 3 W9 Pre Post PostX)
    {b : Addr} {cellB : Cell} (hcell : T.heap[b]? = some cellB) (hobj : cellB.vm.isStatics = false) (hcls : s.vm.findClass C = some cellB.cls)
    {g : JFrame} (hg : g.method = m) (hsize : g.locals.size = c.maxLocals) {argsL rest : List Value} (hlen : ∀ sig, parseMethodDescriptor y.desc = some sig → argsL.length = sig.parameters.length)
    (hstack : g.stack = argsL.reverse ++ .ref b :: rest) (hW : 2 * g.monitorRoom + (rest.map fun v => v.category).sum ≤ W9) (hdg : decode c.code g.pc = .ok (.invokevirtual index, 3))
    (hpre : ∀ vm₁, s.WarmedH vm₁ → Pre ⟨T.setVm vm₁, locs, cells, slots⟩ (Value.ref b :: argsL).toArray) :
    (∃ (v : Option Value) (vm₁ : Vm) (B : Pt), s.WarmedH vm₁ ∧ Stand p l e R s m args below meth c B.U B.locs B.cells B.slots ∧ Post ⟨T.setVm vm₁, locs, cells, slots⟩ (Value.ref b :: argsL).toArray v B ∧
      ∀ target, Steps p.tables e below (B.U.setTop { g with pc := g.pc + 3, stack := v.toList ++ rest }) target → Steps p.tables e below (T.setTop g) target) ∨
    (∃ (q : Addr) (vm₁ : Vm) (B : Pt), s.WarmedH vm₁ ∧ Stand p l e R s m args below meth c B.U B.locs B.cells B.slots ∧ PostX ⟨T.setVm vm₁, locs, cells, slots⟩ (Value.ref b :: argsL).toArray q B ∧
      Steps p.tables e below (T.setTop g) ((B.U.setTop { g with stack := rest }).pushFrame (.throwing q))) := by
  obtain ⟨mk, methM, hnamed, hmethM, hstM, habM⟩ := Cond.instanceMethod_spec hinst
  obtain ⟨methM', cM, hmethM', -, -, -, -, -, -, hsigM⟩ := Cond.code_spec hnamed hcode
  cases hmethM.symm.trans hmethM'
  obtain ⟨c2, r2, m2, q1, q2, q3, q4, kP, hkP, hkPi⟩ := Cond.selects_spec hsel
  cases hcls.symm.trans q1
  cases (State.methodFound?_of_named hnamed hy).symm.trans q2
  cases hnamed.symm.trans q3
  have hselP : selectMethod e.platform s.vm cellB.cls mk = .method mk := by rw [Launch.admits_selectMethod X.admits]; exact q4
  obtain ⟨vm₁, X₁, hstep₁⟩ := X.invokevirtual hexec hown hlink hnamed hmethM hstM hkP hkPi hy (a := b) (cell := cellB) hcell
    (fun z h => by rw [h] at hobj; cases hobj) hselP hmethM habM hkP hkPi (g := g) hg (argsL := argsL) (rest := rest) (hlen _ hsigM) hstack hdg
  rcases hK m meth c ⟨T.setVm vm₁, locs, cells, slots⟩ { g with stack := rest } (.invokevirtual index) mk (Value.ref b :: argsL).toArray X₁ hg hsize hdg hW (X₁.named hnamed) (hpre vm₁ X₁.warmed) with ⟨v, B, X', hpost, hsteps⟩ | ⟨q, B, X', hpost, hsteps⟩
  · exact Or.inl ⟨v, vm₁, B, X₁.warmed, X', hpost, fun target h => hstep₁ _ fun acts => by rw [doInvoke_state]; exact hsteps.trans h⟩
  · exact Or.inr ⟨q, vm₁, B, X₁.warmed, X', hpost, hstep₁ _ fun acts => by rw [doInvoke_state]; exact hsteps⟩
theorem vx_callS (X : Stand p l e R s m args below meth c T locs cells slots) (hexec : p.tables.exec = Jvm.exec) {own : String} {index : Nat} {y : MethodName} {bytes : ByteArray} {maxL : Nat} {ret : Option FieldType}
    (hown : s.vm.findClass own = some m.cls) (hlink : (Cond.methodLink own index y).before args s = true) (hstat : (Cond.static y).before args s = true) (hinit : (Cond.initialized y.cls).before args s = true)
    (hcode : (Cond.code y bytes maxL ret).before args s = true) (hy : y.cls ≠ "java/lang/invoke/MethodHandle" ∧ y.cls ≠ "java/lang/invoke/VarHandle")
    {W9 : Nat} {Pre : Pt → Array Value → Prop} {Post : Pt → Array Value → Option Value → Pt → Prop} {PostX : Pt → Array Value → Addr → Pt → Prop} (hK : vx_Back l R p e below s args y 3 W9 Pre Post PostX)
    {g : JFrame} (hg : g.method = m) (hsize : g.locals.size = c.maxLocals) {argsL rest : List Value} (hlen : ∀ sig, parseMethodDescriptor y.desc = some sig → argsL.length = sig.parameters.length)
    (hstack : g.stack = argsL.reverse ++ rest) (hW : 2 * g.monitorRoom + (rest.map fun v => v.category).sum ≤ W9) (hdg : decode c.code g.pc = .ok (.invokestatic index, 3))
    (hpre : ∀ vm₁, s.WarmedH vm₁ → Pre ⟨T.setVm vm₁, locs, cells, slots⟩ argsL.toArray) :
    (∃ (v : Option Value) (vm₁ : Vm) (B : Pt), s.WarmedH vm₁ ∧ Stand p l e R s m args below meth c B.U B.locs B.cells B.slots ∧ Post ⟨T.setVm vm₁, locs, cells, slots⟩ argsL.toArray v B ∧
      ∀ target, Steps p.tables e below (B.U.setTop { g with pc := g.pc + 3, stack := v.toList ++ rest }) target → Steps p.tables e below (T.setTop g) target) ∨
    (∃ (q : Addr) (vm₁ : Vm) (B : Pt), s.WarmedH vm₁ ∧ Stand p l e R s m args below meth c B.U B.locs B.cells B.slots ∧ PostX ⟨T.setVm vm₁, locs, cells, slots⟩ argsL.toArray q B ∧
      Steps p.tables e below (T.setTop g) ((B.U.setTop { g with stack := rest }).pushFrame (.throwing q))) := by
  obtain ⟨mk, hnamed⟩ := Cond.code_named hcode
  obtain ⟨methM, cM, hmethM, -, -, -, -, -, -, hsigM⟩ := Cond.code_spec hnamed hcode
  have hstatic : methM.isStatic = true := Cond.static_spec hnamed hmethM hstat
  obtain ⟨kP, hkP, -⟩ := className_of_methodNamed hnamed
  have hinitP : kP.init = .initialized := Cond.initialized_spec (findClass_of_methodNamed hnamed) hkP hinit
  obtain ⟨vm₁, X₁, hstep₁⟩ := X.invokestatic hexec hown hlink hnamed hmethM hstatic hkP hinitP hy (g := g) hg (argsL := argsL) (rest := rest) (hlen _ hsigM) hstack hdg
  rcases hK m meth c ⟨T.setVm vm₁, locs, cells, slots⟩ { g with stack := rest } (.invokestatic index) mk argsL.toArray X₁ hg hsize hdg hW (X₁.named hnamed) (hpre vm₁ X₁.warmed) with ⟨v, B, X', hpost, hsteps⟩ | ⟨q, B, X', hpost, hsteps⟩
  · exact Or.inl ⟨v, vm₁, B, X₁.warmed, X', hpost, fun target h => hstep₁ _ fun acts => by rw [doInvoke_state]; exact hsteps.trans h⟩
  · exact Or.inr ⟨q, vm₁, B, X₁.warmed, X', hpost, hstep₁ _ fun acts => by rw [doInvoke_state]; exact hsteps⟩
end Calls
theorem vx_cls {s : State} {T : State} {vm₁ : Vm} {E : String} {k : ClassId} (hW : s.WarmedH vm₁) (h : (T.setVm vm₁).vm.findClass E = some k) : s.vm.findClass E = some k := by
  have h1 : vm₁.findClass E = some k := h
  rw [hW.alike.findClass] at h1
  exact h1
/-- the method's frame g, with q thrown over it -/
def vx_W (p : Program) (l : Launch) (e : Env) (R : Room) (s : State) (m : MethodId) (args : Array Value) (below : List Frame) (meth : Method) (c : Code) (H : Heap) (locs : List Loc) (cells slots : Nat) (Q : State → Prop) (g : JFrame) (q : Addr) : Prop :=
  ∀ T : State, T.heap = H → Stand p l e R s m args below meth c T locs cells slots → ∃ t, Steps p.tables e below ((T.setTop g).pushFrame (.throwing q)) t ∧ Q t
def vx_Run (p : Program) (l : Launch) (e : Env) (R : Room) (s : State) (m : MethodId) (args : Array Value) (below : List Frame) (meth : Method) (c : Code) (H : Heap) (locs : List Loc) (cells slots mc ms : Nat) (g : JFrame) (rest : List Value) (Qa : State → Outcome → State → Prop) (XC : String → State → State → Prop) (free : Addr → Prop) : Prop :=
  ∀ T : State, T.heap = H → Stand p l e R s m args below meth c T locs cells slots →
    (∃ (v : Option Value) (st₀ t T' : State) (L : List Loc), st₀.heap = H ∧ Stand p l e R s m args below meth c T' (locs ++ L) (cells + mc) (slots + ms) ∧ (∀ q ∈ L, free q.base) ∧ T'.heap = t.heap ∧ T'.vm = t.vm ∧ Qa st₀ (.returned v) t ∧
      Goes p e below T g T' { g with pc := g.pc + 3, stack := v.toList ++ rest }) ∨
    (∃ (q : Addr) (st₀ t T' : State) (L : List Loc) (E : String) (ce : Cell), st₀.heap = H ∧ Stand p l e R s m args below meth c T' (locs ++ L) (cells + mc) (slots + ms) ∧ (∀ z ∈ L, free z.base) ∧ T'.heap = t.heap ∧ T'.vm = t.vm ∧ XC E st₀ t ∧ t.heap[q]? = some ce ∧ ce.vm = .none ∧ s.vm.findClass E = some ce.cls ∧
      Steps p.tables e below (T.setTop g) ((T'.setTop { g with stack := rest }).pushFrame (.throwing q)))
def vx_X {S : Type} (px : S → Prop) (B : String → S → State → Prop) (A : Nat → Prop) : String → State → State → Prop := fun E st t => ∃ u : S, px u ∧ B E u t ∧ va_F A st t
section Runs
variable {p : Program} {l : Launch} {e : Env} {R : Room} {s : State} {m : MethodId} {args : Array Value} {below : List Frame} {meth : Method} {c : Code} {H : Heap} {locs : List Loc} {cells slots : Nat}
variable {y : MethodName} {bytes cc : ByteArray} {maxL nL mc ms n index : Nat} {ret : Option FieldType} {ws : List Cond} {rm : Room} {Pc : Array Value → State → Prop} {Qc : Array Value → State → Outcome → State → Prop} {XC : String → State → State → Prop} {free : Addr → Prop} {Ts : List Cond} {own C : String} {b : Addr} {As rest : List Value} {g : JFrame}
theorem vx_callBack (cb : CallB R s args own index y bytes maxL ret ws rm mc ms n) (hM : vx_Met l y ws rm Pc Qc XC mc ms free) (hbl : FrameBlind Pc) : vx_Back l R p e below s args y 3 8 (PreOf R mc ms Pc) (PostOf Qc mc ms free) (vx_Post XC mc ms free) := by
  obtain ⟨hrc, hrs, hfr, hlo, hws, hcw, -, hini, -⟩ := cb
  exact vx_back (bytes := bytes) (maxL := maxL) (ret := ret) hM hbl hrc hrs hfr hlo hws hcw (fun a' U hW => word_at hW (Or.inl (by first | rfl | simp [Cond.onTables, Cond.keeps, Cond.steady])) hini)
theorem vx_runV (S : CallFix p m c cc nL s args Ts own) (hM : vx_Met l y ws rm Pc Qc XC mc ms free) (cw : CallW R s args own C index y bytes maxL ret ws rm mc ms n) (hp : PreV s H C b Pc As)
    (hg : g.method = m) (hn : As.length = n) (hsize : g.locals.size = nL) (hstack : g.stack = As.reverse ++ .ref b :: rest) (hW : 2 * g.monitorRoom + (rest.map fun v => v.category).sum ≤ 8) (hdg : decode cc g.pc = .ok (.invokevirtual index, 3)) (hf : cells + mc ≤ R.cells ∧ slots + ms ≤ R.slots) :
    vx_Run p l e R s m args below meth c H locs cells slots mc ms g rest (Qc (Value.ref b :: As).toArray) XC free := by
  have hK : vx_Back l R p e below s args y 3 8 (PreOf R mc ms Pc) (PostOf Qc mc ms free) (vx_Post XC mc ms free) := vx_callBack cw.1 hM hp.1
  obtain ⟨⟨-, -, -, -, -, -, hcode, -, hy, hlen, hl⟩, hin, hse⟩ := cw
  obtain ⟨hx, hb, hml, ho, -⟩ := S
  obtain ⟨-, ⟨cellB, hcB, hoB, hclB⟩, hPc⟩ := hp
  intro T hT X
  rcases vx_callV X hx (C := C) (bytes := bytes) (maxL := maxL) (ret := ret) ho hl hin hse hcode hy hK (by rw [hT]; exact hcB) hoB hclB hg (hsize.trans hml.symm) (argsL := As) (rest := rest) (fun sig h => hn.trans (hlen sig h)) hstack hW (by rw [hb]; exact hdg)
    (fun vm₁ hW₁ => ⟨hf.1, hf.2, hPc (T.setVm vm₁) hT hW₁⟩) with ⟨v, vm₁, ⟨U', l2, c2, s2⟩, hW₁, X', ⟨g', mk, t, L, e1, e2, hq, h1, hL, h2, h3⟩, st⟩ | ⟨q, vm₁, ⟨U', l2, c2, s2⟩, hW₁, X', ⟨g', mk, t, L, E, ce, e1, e2, hq, hce, hcv, hcl, h1, hL, h2, h3⟩, st⟩
  · dsimp only [Pt.U, Pt.locs, Pt.cells, Pt.slots] at X' e1 e2 h1 h2 h3 st
    subst h1; subst h2; subst h3
    exact Or.inl ⟨v, (T.setVm vm₁).calling g' mk (Value.ref b :: As).toArray, t, U', L, hT, X', hL, e1, e2, hq, st⟩
  · dsimp only [Pt.U, Pt.locs, Pt.cells, Pt.slots] at X' e1 e2 h1 h2 h3 st hcl
    subst h1; subst h2; subst h3
    exact Or.inr ⟨q, (T.setVm vm₁).calling g' mk (Value.ref b :: As).toArray, t, U', L, E, ce, hT, X', hL, e1, e2, hq, hce, hcv, vx_cls hW₁ hcl, st⟩
theorem vx_runS (S : CallFix p m c cc nL s args Ts own) (hM : vx_Met l y ws rm Pc Qc XC mc ms free) (cw : CallB R s args own index y bytes maxL ret ws rm mc ms n ∧ (Cond.static y).before args s = true) (hp : PreS s H Pc As)
    (hg : g.method = m) (hn : As.length = n) (hsize : g.locals.size = nL) (hstack : g.stack = As.reverse ++ rest) (hW : 2 * g.monitorRoom + (rest.map fun v => v.category).sum ≤ 8) (hdg : decode cc g.pc = .ok (.invokestatic index, 3)) (hf : cells + mc ≤ R.cells ∧ slots + ms ≤ R.slots) :
    vx_Run p l e R s m args below meth c H locs cells slots mc ms g rest (Qc As.toArray) XC free := by
  have hK : vx_Back l R p e below s args y 3 8 (PreOf R mc ms Pc) (PostOf Qc mc ms free) (vx_Post XC mc ms free) := vx_callBack cw.1 hM hp.1
  obtain ⟨⟨-, -, -, -, -, -, hcode, hini, hy, hlen, hl⟩, hstt⟩ := cw
  obtain ⟨hx, hb, hml, ho, -⟩ := S
  intro T hT X
  rcases vx_callS X hx (bytes := bytes) (maxL := maxL) (ret := ret) ho hl hstt hini hcode hy hK hg (hsize.trans hml.symm) (argsL := As) (rest := rest) (fun sig h => hn.trans (hlen sig h)) hstack hW (by rw [hb]; exact hdg)
    (fun vm₁ hW₁ => ⟨hf.1, hf.2, hp.2 (T.setVm vm₁) hT hW₁⟩) with ⟨v, vm₁, ⟨U', l2, c2, s2⟩, hW₁, X', ⟨g', mk, t, L, e1, e2, hq, h1, hL, h2, h3⟩, st⟩ | ⟨q, vm₁, ⟨U', l2, c2, s2⟩, hW₁, X', ⟨g', mk, t, L, E, ce, e1, e2, hq, hce, hcv, hcl, h1, hL, h2, h3⟩, st⟩
  · dsimp only [Pt.U, Pt.locs, Pt.cells, Pt.slots] at X' e1 e2 h1 h2 h3 st
    subst h1; subst h2; subst h3
    exact Or.inl ⟨v, (T.setVm vm₁).calling g' mk As.toArray, t, U', L, hT, X', hL, e1, e2, hq, st⟩
  · dsimp only [Pt.U, Pt.locs, Pt.cells, Pt.slots] at X' e1 e2 h1 h2 h3 st hcl
    subst h1; subst h2; subst h3
    exact Or.inr ⟨q, (T.setVm vm₁).calling g' mk As.toArray, t, U', L, E, ce, hT, X', hL, e1, e2, hq, hce, hcv, vx_cls hW₁ hcl, st⟩
end Runs
section Rows
variable {p : Program} {l : Launch} {e : Env} {R : Room} {s : State} {m : MethodId} {args : Array Value} {below : List Frame} {meth : Method} {c : Code} {H : Heap} {locs : List Loc} {cells slots : Nat} {Q : State → Prop}
variable {mc ms : Nat} {free : Addr → Prop} {A0 A1 : Nat → Prop} {H0 : Heap} {a : Array Value} {pc : Nat} {ls : Array Slot} {st0 rest : List Value}
theorem vx_keep {st₀ t T' : State} {L : List Loc} (h0 : st₀.heap = H) (e1 : T'.heap = t.heap) (hS : va_S A0 H0 H locs) (hA : ∀ q, q < H.size → A1 q → A0 q) (hf : ∀ q, free q → A0 q) (hL : ∀ q ∈ L, free q.base) (hF : va_F A1 st₀ t) :
    H.size ≤ T'.heap.size ∧ (∀ q : Nat, q < H.size → ¬ A1 q → T'.heap[q]? = H[q]?) ∧ va_S A0 H0 T'.heap (locs ++ L) := by
  obtain ⟨hz, hk⟩ := hF
  rw [h0] at hz hk
  exact ⟨by rw [e1]; exact hz, fun q h1 h2 => by rw [e1]; exact hk q h1 h2,
    ⟨Nat.le_trans hS.1 (by rw [e1]; exact hz), fun q h1 h2 => by rw [e1, hk q (Nat.lt_of_lt_of_le h1 hS.1) (fun z => h2 (hA q (Nat.lt_of_lt_of_le h1 hS.1) z))]; exact hS.2.1 q h1 h2, fun q hq => by
      rcases List.mem_append.mp hq with h | h
      · exact hS.2.2 q h
      · exact hf _ (hL q h)⟩⟩
theorem vx_calli {S SX : Type} {post : Int32 → S → Prop} {px : SX → Prop} {B : S → State → Prop} {BX : String → SX → State → Prop} {AX : Nat → Prop} (hr : vx_Run p l e R s m args below meth c H locs cells slots mc ms (F0 m pc ls st0) rest (va_Qi post B A1 a) (vx_X px BX AX) free) (hS : va_S A0 H0 H locs) (hA : ∀ q, q < H.size → A1 q → A0 q) (hf : ∀ q, free q → A0 q) (hAX : ∀ q, q < H.size → AX q → A0 q)
    (kx : ∀ (E : String) (ce : Cell) (q9 : Addr) (u : SX) (t : State) (H1 : Heap) (locs1 : List Loc), t.heap = H1 → s.vm.Alike t.vm → px u → BX E u t → H.size ≤ H1.size → (∀ q : Nat, q < H.size → ¬ AX q → H1[q]? = H[q]?) → va_S A0 H0 H1 locs1 → H1[q9]? = some ce → ce.vm = .none → s.vm.findClass E = some ce.cls → vx_W p l e R s m args below meth c H1 locs1 (cells + mc) (slots + ms) Q (F0 m pc ls rest) q9)
    (kk : ∀ (r : Int32) (u : S) (t : State) (H1 : Heap) (locs1 : List Loc), t.heap = H1 → s.vm.Alike t.vm → post r u → B u t → H.size ≤ H1.size → (∀ q : Nat, q < H.size → ¬ A1 q → H1[q]? = H[q]?) → va_S A0 H0 H1 locs1 → W p l e R s m args below meth c H1 locs1 (cells + mc) (slots + ms) Q (F0 m (pc + 3) ls (.int r :: rest))) : W p l e R s m args below meth c H locs cells slots Q (F0 m pc ls st0) := by
  intro T hT X
  rcases hr T hT X with ⟨v, st₀, t, T', L, h0, X', hL, e1, e2, ⟨⟨r, u, hv, hp, hb⟩, hF⟩, st⟩ | ⟨q, st₀, t, T', L, E, ce, h0, X', hL, e1, e2, ⟨u, hp, hb, hF⟩, hce, hcv, hcl, st⟩
  · cases hv
    obtain ⟨k1, k2, k3⟩ := vx_keep h0 e1 hS hA hf hL hF
    obtain ⟨t2, a1, b1⟩ := kk r u t T'.heap (locs ++ L) e1.symm (by rw [← e2]; exact X'.warmed.alike) hp hb k1 k2 k3 T' rfl X'
    exact ⟨t2, st t2 a1, b1⟩
  · obtain ⟨k1, k2, k3⟩ := vx_keep h0 e1 hS hAX hf hL hF
    obtain ⟨t2, a1, b1⟩ := kx E ce q u t T'.heap (locs ++ L) e1.symm (by rw [← e2]; exact X'.warmed.alike) hp hb k1 k2 k3 (by rw [e1]; exact hce) hcv hcl T' rfl X'
    exact ⟨t2, st.trans a1, b1⟩
theorem vx_calll {S SX : Type} {post : Int64 → S → Prop} {px : SX → Prop} {B : S → State → Prop} {BX : String → SX → State → Prop} {AX : Nat → Prop} (hr : vx_Run p l e R s m args below meth c H locs cells slots mc ms (F0 m pc ls st0) rest (va_Ql post B A1 a) (vx_X px BX AX) free) (hS : va_S A0 H0 H locs) (hA : ∀ q, q < H.size → A1 q → A0 q) (hf : ∀ q, free q → A0 q) (hAX : ∀ q, q < H.size → AX q → A0 q)
    (kx : ∀ (E : String) (ce : Cell) (q9 : Addr) (u : SX) (t : State) (H1 : Heap) (locs1 : List Loc), t.heap = H1 → s.vm.Alike t.vm → px u → BX E u t → H.size ≤ H1.size → (∀ q : Nat, q < H.size → ¬ AX q → H1[q]? = H[q]?) → va_S A0 H0 H1 locs1 → H1[q9]? = some ce → ce.vm = .none → s.vm.findClass E = some ce.cls → vx_W p l e R s m args below meth c H1 locs1 (cells + mc) (slots + ms) Q (F0 m pc ls rest) q9)
    (kk : ∀ (r : Int64) (u : S) (t : State) (H1 : Heap) (locs1 : List Loc), t.heap = H1 → s.vm.Alike t.vm → post r u → B u t → H.size ≤ H1.size → (∀ q : Nat, q < H.size → ¬ A1 q → H1[q]? = H[q]?) → va_S A0 H0 H1 locs1 → W p l e R s m args below meth c H1 locs1 (cells + mc) (slots + ms) Q (F0 m (pc + 3) ls (.long r :: rest))) : W p l e R s m args below meth c H locs cells slots Q (F0 m pc ls st0) := by
  intro T hT X
  rcases hr T hT X with ⟨v, st₀, t, T', L, h0, X', hL, e1, e2, ⟨⟨r, u, hv, hp, hb⟩, hF⟩, st⟩ | ⟨q, st₀, t, T', L, E, ce, h0, X', hL, e1, e2, ⟨u, hp, hb, hF⟩, hce, hcv, hcl, st⟩
  · cases hv
    obtain ⟨k1, k2, k3⟩ := vx_keep h0 e1 hS hA hf hL hF
    obtain ⟨t2, a1, b1⟩ := kk r u t T'.heap (locs ++ L) e1.symm (by rw [← e2]; exact X'.warmed.alike) hp hb k1 k2 k3 T' rfl X'
    exact ⟨t2, st t2 a1, b1⟩
  · obtain ⟨k1, k2, k3⟩ := vx_keep h0 e1 hS hAX hf hL hF
    obtain ⟨t2, a1, b1⟩ := kx E ce q u t T'.heap (locs ++ L) e1.symm (by rw [← e2]; exact X'.warmed.alike) hp hb k1 k2 k3 (by rw [e1]; exact hce) hcv hcl T' rfl X'
    exact ⟨t2, st.trans a1, b1⟩
theorem vx_callf {S SX : Type} {post : UInt32 → S → Prop} {px : SX → Prop} {B : S → State → Prop} {BX : String → SX → State → Prop} {AX : Nat → Prop} (hr : vx_Run p l e R s m args below meth c H locs cells slots mc ms (F0 m pc ls st0) rest (va_Qf post B A1 a) (vx_X px BX AX) free) (hS : va_S A0 H0 H locs) (hA : ∀ q, q < H.size → A1 q → A0 q) (hf : ∀ q, free q → A0 q) (hAX : ∀ q, q < H.size → AX q → A0 q)
    (kx : ∀ (E : String) (ce : Cell) (q9 : Addr) (u : SX) (t : State) (H1 : Heap) (locs1 : List Loc), t.heap = H1 → s.vm.Alike t.vm → px u → BX E u t → H.size ≤ H1.size → (∀ q : Nat, q < H.size → ¬ AX q → H1[q]? = H[q]?) → va_S A0 H0 H1 locs1 → H1[q9]? = some ce → ce.vm = .none → s.vm.findClass E = some ce.cls → vx_W p l e R s m args below meth c H1 locs1 (cells + mc) (slots + ms) Q (F0 m pc ls rest) q9)
    (kk : ∀ (r : UInt32) (u : S) (t : State) (H1 : Heap) (locs1 : List Loc), t.heap = H1 → s.vm.Alike t.vm → post r u → B u t → H.size ≤ H1.size → (∀ q : Nat, q < H.size → ¬ A1 q → H1[q]? = H[q]?) → va_S A0 H0 H1 locs1 → W p l e R s m args below meth c H1 locs1 (cells + mc) (slots + ms) Q (F0 m (pc + 3) ls (.float r :: rest))) : W p l e R s m args below meth c H locs cells slots Q (F0 m pc ls st0) := by
  intro T hT X
  rcases hr T hT X with ⟨v, st₀, t, T', L, h0, X', hL, e1, e2, ⟨⟨r, u, hv, hp, hb⟩, hF⟩, st⟩ | ⟨q, st₀, t, T', L, E, ce, h0, X', hL, e1, e2, ⟨u, hp, hb, hF⟩, hce, hcv, hcl, st⟩
  · cases hv
    obtain ⟨k1, k2, k3⟩ := vx_keep h0 e1 hS hA hf hL hF
    obtain ⟨t2, a1, b1⟩ := kk r u t T'.heap (locs ++ L) e1.symm (by rw [← e2]; exact X'.warmed.alike) hp hb k1 k2 k3 T' rfl X'
    exact ⟨t2, st t2 a1, b1⟩
  · obtain ⟨k1, k2, k3⟩ := vx_keep h0 e1 hS hAX hf hL hF
    obtain ⟨t2, a1, b1⟩ := kx E ce q u t T'.heap (locs ++ L) e1.symm (by rw [← e2]; exact X'.warmed.alike) hp hb k1 k2 k3 (by rw [e1]; exact hce) hcv hcl T' rfl X'
    exact ⟨t2, st.trans a1, b1⟩
theorem vx_calld {S SX : Type} {post : UInt64 → S → Prop} {px : SX → Prop} {B : S → State → Prop} {BX : String → SX → State → Prop} {AX : Nat → Prop} (hr : vx_Run p l e R s m args below meth c H locs cells slots mc ms (F0 m pc ls st0) rest (va_Qd post B A1 a) (vx_X px BX AX) free) (hS : va_S A0 H0 H locs) (hA : ∀ q, q < H.size → A1 q → A0 q) (hf : ∀ q, free q → A0 q) (hAX : ∀ q, q < H.size → AX q → A0 q)
    (kx : ∀ (E : String) (ce : Cell) (q9 : Addr) (u : SX) (t : State) (H1 : Heap) (locs1 : List Loc), t.heap = H1 → s.vm.Alike t.vm → px u → BX E u t → H.size ≤ H1.size → (∀ q : Nat, q < H.size → ¬ AX q → H1[q]? = H[q]?) → va_S A0 H0 H1 locs1 → H1[q9]? = some ce → ce.vm = .none → s.vm.findClass E = some ce.cls → vx_W p l e R s m args below meth c H1 locs1 (cells + mc) (slots + ms) Q (F0 m pc ls rest) q9)
    (kk : ∀ (r : UInt64) (u : S) (t : State) (H1 : Heap) (locs1 : List Loc), t.heap = H1 → s.vm.Alike t.vm → post r u → B u t → H.size ≤ H1.size → (∀ q : Nat, q < H.size → ¬ A1 q → H1[q]? = H[q]?) → va_S A0 H0 H1 locs1 → W p l e R s m args below meth c H1 locs1 (cells + mc) (slots + ms) Q (F0 m (pc + 3) ls (.double r :: rest))) : W p l e R s m args below meth c H locs cells slots Q (F0 m pc ls st0) := by
  intro T hT X
  rcases hr T hT X with ⟨v, st₀, t, T', L, h0, X', hL, e1, e2, ⟨⟨r, u, hv, hp, hb⟩, hF⟩, st⟩ | ⟨q, st₀, t, T', L, E, ce, h0, X', hL, e1, e2, ⟨u, hp, hb, hF⟩, hce, hcv, hcl, st⟩
  · cases hv
    obtain ⟨k1, k2, k3⟩ := vx_keep h0 e1 hS hA hf hL hF
    obtain ⟨t2, a1, b1⟩ := kk r u t T'.heap (locs ++ L) e1.symm (by rw [← e2]; exact X'.warmed.alike) hp hb k1 k2 k3 T' rfl X'
    exact ⟨t2, st t2 a1, b1⟩
  · obtain ⟨k1, k2, k3⟩ := vx_keep h0 e1 hS hAX hf hL hF
    obtain ⟨t2, a1, b1⟩ := kx E ce q u t T'.heap (locs ++ L) e1.symm (by rw [← e2]; exact X'.warmed.alike) hp hb k1 k2 k3 (by rw [e1]; exact hce) hcv hcl T' rfl X'
    exact ⟨t2, st.trans a1, b1⟩
theorem vx_callv {S SX : Type} {post : S → Prop} {px : SX → Prop} {B : S → State → Prop} {BX : String → SX → State → Prop} {AX : Nat → Prop} (hr : vx_Run p l e R s m args below meth c H locs cells slots mc ms (F0 m pc ls st0) rest (va_Qv post B A1 a) (vx_X px BX AX) free) (hS : va_S A0 H0 H locs) (hA : ∀ q, q < H.size → A1 q → A0 q) (hf : ∀ q, free q → A0 q) (hAX : ∀ q, q < H.size → AX q → A0 q)
    (kx : ∀ (E : String) (ce : Cell) (q9 : Addr) (u : SX) (t : State) (H1 : Heap) (locs1 : List Loc), t.heap = H1 → s.vm.Alike t.vm → px u → BX E u t → H.size ≤ H1.size → (∀ q : Nat, q < H.size → ¬ AX q → H1[q]? = H[q]?) → va_S A0 H0 H1 locs1 → H1[q9]? = some ce → ce.vm = .none → s.vm.findClass E = some ce.cls → vx_W p l e R s m args below meth c H1 locs1 (cells + mc) (slots + ms) Q (F0 m pc ls rest) q9)
    (kk : ∀ (u : S) (t : State) (H1 : Heap) (locs1 : List Loc), t.heap = H1 → s.vm.Alike t.vm → post u → B u t → H.size ≤ H1.size → (∀ q : Nat, q < H.size → ¬ A1 q → H1[q]? = H[q]?) → va_S A0 H0 H1 locs1 → W p l e R s m args below meth c H1 locs1 (cells + mc) (slots + ms) Q (F0 m (pc + 3) ls (rest))) : W p l e R s m args below meth c H locs cells slots Q (F0 m pc ls st0) := by
  intro T hT X
  rcases hr T hT X with ⟨v, st₀, t, T', L, h0, X', hL, e1, e2, ⟨⟨u, hv, hp, hb⟩, hF⟩, st⟩ | ⟨q, st₀, t, T', L, E, ce, h0, X', hL, e1, e2, ⟨u, hp, hb, hF⟩, hce, hcv, hcl, st⟩
  · cases hv
    obtain ⟨k1, k2, k3⟩ := vx_keep h0 e1 hS hA hf hL hF
    obtain ⟨t2, a1, b1⟩ := kk u t T'.heap (locs ++ L) e1.symm (by rw [← e2]; exact X'.warmed.alike) hp hb k1 k2 k3 T' rfl X'
    exact ⟨t2, st t2 a1, b1⟩
  · obtain ⟨k1, k2, k3⟩ := vx_keep h0 e1 hS hAX hf hL hF
    obtain ⟨t2, a1, b1⟩ := kx E ce q u t T'.heap (locs ++ L) e1.symm (by rw [← e2]; exact X'.warmed.alike) hp hb k1 k2 k3 (by rw [e1]; exact hce) hcv hcl T' rfl X'
    exact ⟨t2, st.trans a1, b1⟩
end Rows
section Ends
variable {p : Program} {l : Launch} {e : Env} {R : Room} {s : State} {m : MethodId} {args : Array Value} {below : List Frame} {meth : Method} {c : Code} {H : Heap} {locs : List Loc} {cells slots : Nat} {Q : State → Prop}
variable {mc ms : Nat} {free : Addr → Prop} {A0 A1 : Nat → Prop} {H0 : Heap} {a : Array Value} {ls : Array Slot} {st0 rest : List Value}
variable {Qc : Array Value → State → Outcome → State → Prop} {XC : String → State → State → Prop}
/-- what a body that may throw owes at its end -/
def vx_MQ (below : List Frame) (Qc : Array Value → State → Outcome → State → Prop) (XC : String → State → State → Prop) (a : Array Value) (s : State) (mc ms : Nat) (free : Addr → Prop) : State → Prop := fun t =>
  ∃ o, t.status = .running ∧ Ended t below o ∧ vx_Q Qc XC mc ms free a s o t
theorem vx_ret {g : JFrame} {mc ms : Nat} (k : W p l e R s m args below meth c H locs cells slots (MQ below Qc args s mc ms free) g) : W p l e R s m args below meth c H locs cells slots (vx_MQ below Qc XC args s mc ms free) g := by
  intro T hT X
  obtain ⟨t, a1, o, b1, b2, b3, b4⟩ := k T hT X
  exact ⟨t, a1, o, b1, b2, Or.inl ⟨b3, b4⟩⟩
/-- not caught here: it goes on to the caller -/
theorem vx_widen {g : JFrame} {q : Addr} {k n : Nat} (h1 : cells ≤ k) (h2 : slots ≤ n) (kk : vx_W p l e R s m args below meth c H locs k n Q g q) : vx_W p l e R s m args below meth c H locs cells slots Q g q := fun T hT X => kk T hT (stand_widen X h1 h2)
theorem vx_out {pc : Nat} {E : String} {ce : Cell} {q : Addr} {mc ms : Nat} (hout : ∀ x ∈ c.exceptionTable.toList, covers x pc = false) (hlocks : meth.locks = false) (hcell : H[q]? = some ce) (hv : ce.vm = .none) (hcl : s.vm.findClass E = some ce.cls)
    (hx : ∀ t : State, t.heap = H → s.vm.Alike t.vm → XC E s t) (hf : ∀ z ∈ locs, free z.base) (hc : cells ≤ mc) (hs : slots ≤ ms) :
    vx_W p l e R s m args below meth c H locs cells slots (vx_MQ below Qc XC args s mc ms free) (F0 m pc ls rest) q := by
  intro T hT X
  obtain ⟨st1, hrun, hend, hW, hsm⟩ := X.leaveThrown q (g := F0 m pc ls rest) rfl rfl rfl hout hlocks
  have hcell9 : (T.setFrames (.throwing q :: below)).heap[q]? = some ce := by
    show T.heap[q]? = some ce
    rw [hT]; exact hcell
  exact ⟨_, st1, .threw q, hrun, hend, Or.inr ⟨q, rfl, E, ce, locs, hx _ hT hW.alike, hcell9, hv, hcl, hW, hsm.mono hc hs, hf⟩⟩
theorem vx_frame {U : State} {k n : Nat} (h : s.sameButNew ({ U with vm := s.vm } : State) locs k n) : s.heap.size ≤ U.heap.size ∧ ∀ q : Nat, q < s.heap.size → (∀ z ∈ locs, z.base ≠ q) → U.heap[q]? = s.heap[q]? := by
  obtain ⟨-, h2, -, -, -, h6⟩ := h
  refine ⟨h2, fun q hq hz => ?_⟩
  obtain ⟨c9, e1, e2, e3, e4⟩ := h6 q _ (Array.getElem?_eq_getElem hq)
  have hs : c9.slots = (s.heap[q]).slots := Array.ext_getElem? fun i => e4 i fun hm => hz _ hm rfl
  have h9 : c9 = s.heap[q] := by
    rw [hs] at e2
    exact e2
  have e5 : U.heap[q]? = some c9 := e1
  rw [e5, h9, Array.getElem?_eq_getElem hq]
/-- the words of a throw but the four that speak of the heap -/
def vx_no (w : Cond) : Bool := decide (w ≠ .isRef (.static Bundle.tN "UNASSIGNED_STACK" Bundle.steD)) && decide (w ≠ .isRef (.static Bundle.tN "SUPPRESSED_SENTINEL" Bundle.listD)) && decide (w ≠ .laysStatic Bundle.tN "UNASSIGNED_STACK" Bundle.steD) && decide (w ≠ .laysStatic Bundle.tN "SUPPRESSED_SENTINEL" Bundle.listD)
def vx_at0 (own : String) (ic : Nat) (X : String) (names : List String) : List Cond := (Bundle.ownAtoms0 own ic X names).filter vx_no
def vx_atS (own : String) (ic : Nat) (X : String) (names : List String) : List Cond := (Bundle.ownAtoms own ic X names).filter vx_no
/-- a word that the tables alone decide, or a good one -/
def vx_ot (w : Cond) : Bool := w.onTables || goodWord w
theorem vx_ot_at {args a' : Array Value} {s U : State} {w : Cond} (hW : s.WarmedH U.vm) (hvm : s.vm = U.vm) (hg : vx_ot w = true) (h : w.before args s = true) : w.before a' U = true := by
  simp only [vx_ot, Bool.or_eq_true] at hg
  rcases hg with hg | hg
  · exact va_tabs hg hvm h
  · exact word_at hW (good_of_word hg) h
/-- a list's words: the good ones out of the method's own list, the others by premises of their own -/
theorem vx_hat {args : Array Value} {s : State} {L B : List Cond} (h1 : ∀ w ∈ L.filter goodWord, w.before args s = true) (h2 : ∀ w ∈ L.filter (fun w => !goodWord w), w ∈ B) (h3 : ∀ w ∈ B, w.before args s = true) : ∀ w ∈ L, w.before args s = true := by
  intro w hw
  by_cases g : goodWord w = true
  · exact h1 w (List.mem_filter.mpr ⟨hw, g⟩)
  · refine h3 w (h2 w (List.mem_filter.mpr ⟨hw, ?_⟩))
    show (!goodWord w) = true
    cases hgw : goodWord w
    · rfl
    · exact absurd hgw g
theorem vx_c {args : Array Value} {s : State} {w : Cond} {B : List Cond} (h : w.before args s = true) (t : ∀ w ∈ B, w.before args s = true) : ∀ w' ∈ w :: B, w'.before args s = true := fun w' h' => (List.mem_cons.mp h').elim (fun e => by rw [e]; exact h) (t w')
theorem vx_n {args : Array Value} {s : State} : ∀ w ∈ ([] : List Cond), w.before args s = true := fun _ h => nomatch h
theorem vx_own {args : Array Value} {s : State} {L : List Cond} (h1 : ∀ w ∈ L.filter vx_no, w.before args s = true)
    (hU : (Cond.isRef (.static Bundle.tN "UNASSIGNED_STACK" Bundle.steD)).before args s = true) (hN : (Cond.isRef (.static Bundle.tN "SUPPRESSED_SENTINEL" Bundle.listD)).before args s = true)
    (lU : (Cond.laysStatic Bundle.tN "UNASSIGNED_STACK" Bundle.steD).before args s = true) (lN : (Cond.laysStatic Bundle.tN "SUPPRESSED_SENTINEL" Bundle.listD).before args s = true) : ∀ w ∈ L, w.before args s = true := by
  intro w hw
  by_cases e1 : w = .isRef (.static Bundle.tN "UNASSIGNED_STACK" Bundle.steD)
  · rw [e1]; exact hU
  · by_cases e2 : w = .isRef (.static Bundle.tN "SUPPRESSED_SENTINEL" Bundle.listD)
    · rw [e2]; exact hN
    · by_cases e3 : w = .laysStatic Bundle.tN "UNASSIGNED_STACK" Bundle.steD
      · rw [e3]; exact lU
      · by_cases e4 : w = .laysStatic Bundle.tN "SUPPRESSED_SENTINEL" Bundle.listD
        · rw [e4]; exact lN
        · exact h1 w (List.mem_filter.mpr ⟨hw, by unfold vx_no; rw [decide_eq_true e1, decide_eq_true e2, decide_eq_true e3, decide_eq_true e4]; rfl⟩)
/-- where a static field lies, its class's statics cell in H -/
def vx_L (C n d : String) (A : Nat → Prop) (U : State) (H : Heap) : Prop := ∃ (c : ClassId) (k : Class) (i : Nat) (f : Field) (a : Nat) (cell : Cell), U.vm.findClass C = some c ∧ U.fieldFound? C n d = some (c, k, i, f) ∧ f.isStatic = true ∧ k.statics = some a ∧ H[a]? = some cell ∧ cell.vm.isStatics = true ∧ cell.cls = c ∧ f.slot < cell.slots.size ∧ k.staticTypes[f.slot]? = some f.type ∧ ¬ A a
theorem vx_L.moved {C n d : String} {A : Nat → Prop} {u U : State} {H : Heap} (hvm : u.vm.Alike U.vm) (h : vx_L C n d A u H) : vx_L C n d A U H := by
  obtain ⟨c, k, i, f, a, cell, h1, h2, h3, h4, h5, h6, h7, h8, h9, h10⟩ := h
  obtain ⟨k', hi', he⟩ := State.fieldFound?_setVm hvm h2
  exact ⟨c, k', i, f, a, cell, by rw [hvm.findClass]; exact h1, hi', h3, by rw [he]; exact h4, h5, h6, h7, h8, by rw [he]; exact h9, h10⟩
theorem vx_L.kept {C n d : String} {A : Nat → Prop} {U : State} {H H1 : Heap} (h : vx_L C n d A U H) (hq : ∀ a : Nat, a < H.size → ¬ A a → H1[a]? = H[a]?) : vx_L C n d A U H1 := by
  obtain ⟨c, k, i, f, a, cell, h1, h2, h3, h4, h5, h6, h7, h8, h9, h10⟩ := h
  exact ⟨c, k, i, f, a, cell, h1, h2, h3, h4, by rw [hq a (Array.getElem?_eq_some_iff.mp h5).1 h10]; exact h5, h6, h7, h8, h9, h10⟩
theorem vx_L.narrow {C n d : String} {A B : Nat → Prop} {U : State} {H : Heap} (h : vx_L C n d A U H) (hAB : ∀ q, B q → A q) : vx_L C n d B U H := by
  obtain ⟨c, k, i, f, a, cell, h1, h2, h3, h4, h5, h6, h7, h8, h9, h10⟩ := h
  exact ⟨c, k, i, f, a, cell, h1, h2, h3, h4, h5, h6, h7, h8, h9, fun z => h10 (hAB _ z)⟩
theorem vx_L.word {C n d : String} {A : Nat → Prop} {s : State} {args : Array Value} (h : vx_L C n d A s s.heap) : (Cond.laysStatic C n d).before args s = true := by
  obtain ⟨c, k, i, f, a, cell, h1, h2, h3, h4, h5, h6, h7, h8, h9, -⟩ := h
  show (Cond.laysStatic C n d).holds args s none s [] = true
  exact Cond.laysStatic_of h1 h2 h3 h4 h5 h6 h7 h8 h9
/-- .. and what it holds: null or some reference -/
def vx_Zq (C n d : String) (A : Nat → Prop) (U : State) (H : Heap) : Prop := va_Zq C n d A U H ∧ vx_L C n d A U H
theorem vx_Zq.moved {C n d : String} {A : Nat → Prop} {u U : State} {H : Heap} (hvm : u.vm.Alike U.vm) (h : vx_Zq C n d A u H) : vx_Zq C n d A U H := ⟨va_Zq.moved hvm h.1, vx_L.moved hvm h.2⟩
theorem vx_Zq.kept {C n d : String} {A : Nat → Prop} {U : State} {H H1 : Heap} (h : vx_Zq C n d A U H) (hq : ∀ a : Nat, a < H.size → ¬ A a → H1[a]? = H[a]?) : vx_Zq C n d A U H1 := ⟨va_Zq.kept h.1 hq, vx_L.kept h.2 hq⟩
theorem vx_Zq.narrow {C n d : String} {A B : Nat → Prop} {U : State} {H : Heap} (h : vx_Zq C n d A U H) (hAB : ∀ q, B q → A q) : vx_Zq C n d B U H := ⟨va_Zq.narrow h.1 hAB, vx_L.narrow h.2 hAB⟩
theorem vx_Zqof {args : Array Value} {s : State} {C n d : String} {A : Nat → Prop} (hl : (Cond.laysStatic C n d).before args s = true) (hini : (Cond.initialized C).before args s = true) (h : (Cond.isRef (.static C n d)).before args s = true) (hA : ∀ a : Nat, a < s.heap.size → ¬ A a) : vx_Zq C n d A s s.heap := by
  refine ⟨va_Zqof hl hini h hA, ?_⟩
  obtain ⟨c, k, i, f, a, cell, h1, h2, h3, h4, h5, h6, h7, h8, h9⟩ := Cond.laysStatic_spec hl
  exact ⟨c, k, i, f, a, cell, h1, h2, h3, h4, h5, h6, h7, h8, h9, hA a (Array.getElem?_eq_some_iff.mp h5).1⟩
theorem vx_isRef {C n d : String} {v : Value} {A : Nat → Prop} {s : State} {args : Array Value} (h : va_Z C n d v A s s.heap) (hv : v.isRef = true) : (Cond.isRef (.static C n d)).before args s = true := by
  obtain ⟨cf, kf, fi, f, a, cell, h1, h2, h3, h4, h5, h6, h7, -⟩ := h
  have he : (Term.static C n d).eval args s none [] s = some v := by
    simp [Term.eval, State.fieldNamed?, h1, h2, h4, h5, h6, h7]
  simp only [Cond.before, Cond.holds, Cond.value, he]
  cases v <;> simp_all [Value.isRef]
theorem vx_isRefq {C n d : String} {A : Nat → Prop} {s : State} {args : Array Value} (h : va_Zq C n d A s s.heap) : (Cond.isRef (.static C n d)).before args s = true := by
  rcases h with h | ⟨t, h⟩
  · exact vx_isRef h rfl
  · exact vx_isRef h rfl
/-- the same frame, seen from here: as if the method were called anew in this heap -/
theorem vx_rebase {T : State} (X : Stand p l e R s m args below meth c T locs cells slots) {R' : Room} (hf : R'.frames ≤ R.frames) (hl : R'.locals ≤ R.locals) (hc : cells + R'.cells ≤ R.cells) (hs : slots + R'.slots ≤ R.slots) :
    Stand p l e R' ((T.setVm s.vm).setFrames (.invoking m args :: below)) m args below meth c T [] 0 0 := by
  have htop : (T.setVm s.vm).topJava?.isSome := X.here.top
  have hF : ((T.setVm s.vm).setFrames (.invoking m args :: below)).frames = .invoking m args :: below := State.frames_setFrames _ (State.cur_lt_of_top htop)
  obtain ⟨g₀, hg0⟩ := Option.isSome_iff_exists.mp htop
  obtain ⟨r, hr⟩ := State.topJava?_eq_some.mp hg0
  have hl9 : e.platform.stackLimits (T.setVm s.vm).me = e.platform.stackLimits s.me := X.limits
  have hb9 : (T.setVm s.vm).me.stackBytes = s.me.stackBytes := X.bytes
  refine ⟨X.admits, X.cas, X.clock, hF, ?_, X.hears, X.method, X.code, X.here, X.tail, X.warmed, ?_, ?_, ?_⟩
  · have h := X.room
    have hU : ((T.setVm s.vm).setFrames (.invoking m args :: below)).localsInUse = s.localsInUse := by
      rw [State.localsInUse_invoking hF (meth := meth) (c := c) X.method X.code, State.localsInUse_invoking X.frames X.method X.code]
    simp only [State.hasRoom, Bool.and_eq_true, decide_eq_true_eq] at h ⊢
    obtain ⟨⟨⟨⟨h1, h2, h3, h4, h5, h6⟩, h7⟩, h8⟩, h9⟩ := h
    rw [X.frames, List.length_cons] at h2 h3
    have q1 := X.heapSize
    have q2 := X.used
    simp only [hF, hU, List.length_cons, State.stackLimits_setFrames, State.stackBytes_setFrames, hl9, hb9]
    refine ⟨⟨⟨⟨by omega, by omega, by omega, by omega, by omega, h6⟩, ?_⟩, ?_⟩, X.book⟩
    · show T.heap.size + R'.cells ≤ e.platform.maxCells
      omega
    · show T.slotsUsed + R'.slots ≤ e.platform.maxSlots
      omega
  · rw [State.stackLimits_setFrames]; rfl
  · rw [State.stackBytes_setFrames]; rfl
  · refine ⟨?_, Nat.le_refl _, Nat.le_refl _, ?_, ?_, fun a c9 h9 => ⟨c9, h9, rfl, rfl, fun _ _ => rfl⟩⟩
    · obtain ⟨t, ht, -⟩ := State.frames_cons hr
      show T.setVm s.vm = { ((T.setVm s.vm).setFrames (.invoking m args :: below)).setFrames (T.setVm s.vm).frames with heap := T.heap, slotsUsed := T.slotsUsed }
      rw [State.setFrames_setFrames, State.setFrames_self ht]
      rfl
    · show T.slotsUsed = T.slotsUsed + ((T.heap.toList.drop T.heap.size).map (·.slots.size)).sum
      rw [List.drop_eq_nil_of_le (Nat.le_of_eq Array.length_toList)]
      rfl
    · show ((T.heap.toList.drop T.heap.size).map (·.slots.size)).sum ≤ 0
      rw [List.drop_eq_nil_of_le (Nat.le_of_eq Array.length_toList)]
      exact Nat.le_refl _
/-- 'throw new E()': new; dup; invokespecial; athrow -/
theorem vx_throw0 {cc : ByteArray} {pc : Nat} (hexec : p.tables.exec = Jvm.exec) (hb : c.code = cc) (hl : l.stackTraces = false) {own cls : String} {names : List String} {ik ic mc ms : Nat} {A : Nat → Prop}
    (hown : s.vm.findClass own = some m.cls) (hcls : Bundle.fit cls = true) (hnames : ∀ n ∈ names, Bundle.fit n = true)
    (hk : (Cond.classLink own ik cls).before args s = true) (hini : (Cond.initialized cls).before args s = true) (hat : ∀ w ∈ vx_at0 own ic cls names, w.before args s = true)
    (hgood : ∀ w ∈ Cond.classLink own ik cls :: Cond.initialized cls :: vx_at0 own ic cls names, vx_ot w = true)
    (hU : vx_Zq Bundle.tN "UNASSIGNED_STACK" Bundle.steD A s s.heap) (hN : vx_Zq Bundle.tN "SUPPRESSED_SENTINEL" Bundle.listD A s s.heap) (hS : va_S A s.heap H locs) (hsize : ls.size = c.maxLocals)
    (d0 : decode cc pc = .ok (.new ik, 3)) (d3 : decode cc (pc + 3) = .ok (.dup, 1)) (d4 : decode cc (pc + 4) = .ok (.invokespecial ic, 3)) (d7 : decode cc (pc + 7) = .ok (.athrow, 1))
    (hout : ∀ x ∈ c.exceptionTable.toList, covers x (pc + 7) = false)
    (hRframes : names.length + 3 < R.frames) (hRlocals : (rest.map fun v => v.category).sum + (13 * (names.length + 1) + 42) ≤ R.locals) (hRcells : cells + 1 ≤ R.cells) (hRslots : slots + 6 ≤ R.slots) (hlocks : meth.locks = false)
    (hx : ∀ t : State, s.vm.Alike t.vm → H.size ≤ t.heap.size → (∀ q : Nat, q < H.size → t.heap[q]? = H[q]?) → XC cls s t)
    (hf : ∀ z ∈ locs, free z.base) (hc : cells + 1 ≤ mc) (hs : slots + 6 ≤ ms) :
    W p l e R s m args below meth c H locs cells slots (vx_MQ below Qc XC args s mc ms free) (F0 m pc ls rest) := by
  intro T hT X
  have htr : e.platform.stackTraces = false := (show e.platform.stackTraces = l.stackTraces by rw [X.admits.platform]).trans hl
  have Y := vx_rebase X (R' := { frames := R.frames, locals := R.locals, cells := 1, slots := 6 }) (Nat.le_refl _) (Nat.le_refl _) hRcells hRslots
  obtain ⟨s', hA⟩ : ∃ z, z = (T.setVm s.vm).setFrames (.invoking m args :: below) := ⟨_, rfl⟩
  rw [← hA] at Y
  have hvm : s'.vm = s.vm := by rw [hA]; rfl
  have hhp : s'.heap = H := by rw [hA]; exact hT
  have hW0 : s.WarmedH s'.vm := by rw [hvm]; exact State.WarmedH.refl s
  have hat' : ∀ w ∈ vx_at0 own ic cls names, w.before args s' = true := fun w hw => vx_ot_at hW0 hvm.symm (hgood w (List.mem_cons_of_mem _ (List.mem_cons_of_mem _ hw))) (hat w hw)
  have hk' : (Cond.classLink own ik cls).before args s' = true := vx_ot_at hW0 hvm.symm (hgood _ List.mem_cons_self) hk
  have hini' : (Cond.initialized cls).before args s' = true := vx_ot_at hW0 hvm.symm (hgood _ (List.mem_cons_of_mem _ List.mem_cons_self)) hini
  have hU' : vx_Zq Bundle.tN "UNASSIGNED_STACK" Bundle.steD A s' s'.heap := by rw [hhp]; exact vx_Zq.moved hW0.alike (hU.kept hS.2.1)
  have hN' : vx_Zq Bundle.tN "SUPPRESSED_SENTINEL" Bundle.listD A s' s'.heap := by rw [hhp]; exact vx_Zq.moved hW0.alike (hN.kept hS.2.1)
  have h : ∀ w ∈ Bundle.ownAtoms0 own ic cls names, w.before args s' = true := vx_own hat' (vx_isRefq hU'.1) (vx_isRefq hN'.1) hU'.2.word hN'.2.word
  have hown' : s'.vm.findClass own = some m.cls := by rw [hvm]; exact hown
  have hins : (Cond.instantiable cls 6).before args s' = true := h _ (by simp [Bundle.ownAtoms0])
  obtain ⟨vm₁, cX, kX, hfX, hkX, -, -, X₁, st1⟩ := Y.newCold hexec (own := own) (C := cls) (index := ik) (n := 6) hown' hk' hins hini'
    (g := F0 m pc ls rest) rfl (by rw [hb]; exact d0) (Nat.le_refl _) (Nat.le_refl _)
  generalize hT1 : (T.setVm vm₁).pushCell { cls := cX, slots := kX.instanceTypes.map defaultValue, vm := .none } = T1 at X₁ st1
  have hcat : (Value.ref T.heap.size).category = 1 := rfl
  have hcellA : T1.heap[T.heap.size]? = some (freshCell cX kX) := by rw [← hT1]; exact State.heap_pushCell_size _ _
  have d3' : decode c.code (pc + 3) = .ok (.dup, 1) := by rw [hb]; exact d3
  obtain ⟨U, hsteps, hrun, hend, hW, hsame, ce, hce, hO⟩ := X₁.ctorThrow0 hexec htr (own := own) (cls := cls) (names := names) (ic := ic) hown' hcls hnames h (fun x hx => nomatch hx) hfX hkX hcellA (by rw [hhp, hT]; exact Nat.le_refl _)
    (g := { method := m, pc := pc + 4, locals := ls, stack := .ref T.heap.size :: .ref T.heap.size :: rest, locked := none }) rfl hsize rfl rfl (rest := rest) rfl
    (by rw [hb]; exact d4) (by rw [hb]; exact d7) hout hRframes (by simp only [List.map_cons, List.sum_cons, hcat]; omega) hlocks
  obtain ⟨f1, f2⟩ := vx_frame hsame
  rw [hhp] at f1 f2
  have hWs : s.WarmedH U.vm := State.WarmedH.trans hW0 hW
  have hcl : s.vm.findClass cls = some ce.cls := by
    have h9 := hO.cls
    rw [hvm] at h9
    exact h9
  have hall : s.sameButNew ({ U with vm := s.vm } : State) locs mc ms := by
    subst hA
    obtain ⟨e1, e2⟩ := hsame
    rw [State.setFrames_setFrames] at e1
    have h2 : (T.setVm s.vm).sameButNew ({ U with vm := s.vm } : State) [] (0 + 1) (0 + 6) := ⟨e1, e2⟩
    have h3 := X.same.trans h2
    rw [List.append_nil] at h3
    exact h3.mono hc hs
  refine ⟨U, ?_, .threw T.heap.size, hrun, hend, Or.inr ⟨T.heap.size, rfl, cls, ce, locs, hx U hWs.alike f1 (fun q hq => f2 q hq (fun z hz => nomatch hz)), hce, hO.vm, hcl, hWs, hall, hf⟩⟩
  refine st1 _ ?_
  show Steps p.tables e below (T1.setTop { method := m, pc := pc + 3, locals := ls, stack := .ref T.heap.size :: rest, locked := none }) _
  jvm_step X₁.here [X₁.here.top, hexec, d3', Value.category]
  exact hsteps
/-- 'throw new E("text")': new; dup; ldc; invokespecial; athrow -/
theorem vx_throwS {cc : ByteArray} {pc : Nat} (hexec : p.tables.exec = Jvm.exec) (hb : c.code = cc) (hl : l.stackTraces = false) {own cls text : String} {names : List String} {ik is ic mc ms sa : Nat} {A : Nat → Prop}
    (hown : s.vm.findClass own = some m.cls) (hcls : Bundle.fit cls = true) (hnames : ∀ n ∈ names, Bundle.fit n = true)
    (hk : (Cond.classLink own ik cls).before args s = true) (hini : (Cond.initialized cls).before args s = true) (hstr : vk_R own is text sa s) (hat : ∀ w ∈ vx_atS own ic cls names, w.before args s = true)
    (hgood : ∀ w ∈ Cond.classLink own ik cls :: Cond.initialized cls :: vx_atS own ic cls names, vx_ot w = true)
    (hU : vx_Zq Bundle.tN "UNASSIGNED_STACK" Bundle.steD A s s.heap) (hN : vx_Zq Bundle.tN "SUPPRESSED_SENTINEL" Bundle.listD A s s.heap) (hS : va_S A s.heap H locs) (hsize : ls.size = c.maxLocals)
    (d0 : decode cc pc = .ok (.new ik, 3)) (d3 : decode cc (pc + 3) = .ok (.dup, 1)) (d4 : decode cc (pc + 4) = .ok (.ldc is, 2)) (d6 : decode cc (pc + 6) = .ok (.invokespecial ic, 3)) (d9 : decode cc (pc + 9) = .ok (.athrow, 1))
    (hout : ∀ x ∈ c.exceptionTable.toList, covers x (pc + 9) = false)
    (hRframes : names.length + 3 < R.frames) (hRlocals : (rest.map fun v => v.category).sum + (13 * (names.length + 1) + 43) ≤ R.locals) (hRcells : cells + 1 ≤ R.cells) (hRslots : slots + 6 ≤ R.slots) (hlocks : meth.locks = false)
    (hx : ∀ t : State, s.vm.Alike t.vm → H.size ≤ t.heap.size → (∀ q : Nat, q < H.size → t.heap[q]? = H[q]?) → XC cls s t)
    (hf : ∀ z ∈ locs, free z.base) (hc : cells + 1 ≤ mc) (hs : slots + 6 ≤ ms) :
    W p l e R s m args below meth c H locs cells slots (vx_MQ below Qc XC args s mc ms free) (F0 m pc ls rest) := by
  intro T hT X
  have htr : e.platform.stackTraces = false := (show e.platform.stackTraces = l.stackTraces by rw [X.admits.platform]).trans hl
  have Y := vx_rebase X (R' := { frames := R.frames, locals := R.locals, cells := 1, slots := 6 }) (Nat.le_refl _) (Nat.le_refl _) hRcells hRslots
  obtain ⟨s', hA⟩ : ∃ z, z = (T.setVm s.vm).setFrames (.invoking m args :: below) := ⟨_, rfl⟩
  rw [← hA] at Y
  have hvm : s'.vm = s.vm := by rw [hA]; rfl
  have hhp : s'.heap = H := by rw [hA]; exact hT
  have hW0 : s.WarmedH s'.vm := by rw [hvm]; exact State.WarmedH.refl s
  have hat' : ∀ w ∈ vx_atS own ic cls names, w.before args s' = true := fun w hw => vx_ot_at hW0 hvm.symm (hgood w (List.mem_cons_of_mem _ (List.mem_cons_of_mem _ hw))) (hat w hw)
  have hk' : (Cond.classLink own ik cls).before args s' = true := vx_ot_at hW0 hvm.symm (hgood _ List.mem_cons_self) hk
  have hini' : (Cond.initialized cls).before args s' = true := vx_ot_at hW0 hvm.symm (hgood _ (List.mem_cons_of_mem _ List.mem_cons_self)) hini
  have hU' : vx_Zq Bundle.tN "UNASSIGNED_STACK" Bundle.steD A s' s'.heap := by rw [hhp]; exact vx_Zq.moved hW0.alike (hU.kept hS.2.1)
  have hN' : vx_Zq Bundle.tN "SUPPRESSED_SENTINEL" Bundle.listD A s' s'.heap := by rw [hhp]; exact vx_Zq.moved hW0.alike (hN.kept hS.2.1)
  have h : ∀ w ∈ Bundle.ownAtoms own ic cls names, w.before args s' = true := vx_own hat' (vx_isRefq hU'.1) (vx_isRefq hN'.1) hU'.2.word hN'.2.word
  have hown' : s'.vm.findClass own = some m.cls := by rw [hvm]; exact hown
  have hins : (Cond.instantiable cls 6).before args s' = true := h _ (by simp [Bundle.ownAtoms])
  obtain ⟨vm₁, cX, kX, hfX, hkX, -, -, X₁, st1⟩ := Y.newCold hexec (own := own) (C := cls) (index := ik) (n := 6) hown' hk' hins hini'
    (g := F0 m pc ls rest) rfl (by rw [hb]; exact d0) (Nat.le_refl _) (Nat.le_refl _)
  generalize hT1 : (T.setVm vm₁).pushCell { cls := cX, slots := kX.instanceTypes.map defaultValue, vm := .none } = T1 at X₁ st1
  have hcat : (Value.ref T.heap.size).category = 1 := rfl
  have hcellA : T1.heap[T.heap.size]? = some (freshCell cX kX) := by rw [← hT1]; exact State.heap_pushCell_size _ _
  have d3' : decode c.code (pc + 3) = .ok (.dup, 1) := by rw [hb]; exact d3
  have d4' : decode c.code (pc + 4) = .ok (.ldc is, 2) := by rw [hb]; exact d4
  have hstr' : vk_R own is text sa s' := vk_R.warm hW0 hstr
  obtain ⟨U, hsteps, hrun, hend, hW, hsame, ce, hce, hO⟩ := X₁.ctorThrowS hexec htr (own := own) (cls := cls) (names := names) (ic := ic) hown' hcls hnames h (fun x hx => nomatch hx) hfX hkX hcellA (by rw [hhp, hT]; exact Nat.le_refl _) (msg := .ref sa) rfl
    (g := { method := m, pc := pc + 6, locals := ls, stack := .ref sa :: .ref T.heap.size :: .ref T.heap.size :: rest, locked := none }) rfl hsize rfl rfl (rest := rest) rfl
    (by rw [hb]; exact d6) (by rw [hb]; exact d9) hout hRframes (by simp only [List.map_cons, List.sum_cons, hcat]; omega) hlocks
  obtain ⟨f1, f2⟩ := vx_frame hsame
  rw [hhp] at f1 f2
  have hWs : s.WarmedH U.vm := State.WarmedH.trans hW0 hW
  have hcl : s.vm.findClass cls = some ce.cls := by
    have h9 := hO.cls
    rw [hvm] at h9
    exact h9
  have hall : s.sameButNew ({ U with vm := s.vm } : State) locs mc ms := by
    subst hA
    obtain ⟨e1, e2⟩ := hsame
    rw [State.setFrames_setFrames] at e1
    have h2 : (T.setVm s.vm).sameButNew ({ U with vm := s.vm } : State) [] (0 + 1) (0 + 6) := ⟨e1, e2⟩
    have h3 := X.same.trans h2
    rw [List.append_nil] at h3
    exact h3.mono hc hs
  refine ⟨U, ?_, .threw T.heap.size, hrun, hend, Or.inr ⟨T.heap.size, rfl, cls, ce, locs, hx U hWs.alike f1 (fun q hq => f2 q hq (fun z hz => nomatch hz)), hce, hO.vm, hcl, hWs, hall, hf⟩⟩
  refine st1 _ ?_
  show Steps p.tables e below (T1.setTop { method := m, pc := pc + 3, locals := ls, stack := .ref T.heap.size :: rest, locked := none }) _
  jvm_step X₁.here [X₁.here.top, hexec, d3', Value.category]
  exact X₁.ldcString hexec (own := own) (text := text) (index := is) (a := sa) hown' hstr'.1 hstr'.2
    (g := { method := m, pc := pc + 4, locals := ls, stack := .ref T.heap.size :: .ref T.heap.size :: rest, locked := none }) rfl d4' _ hsteps
/-- 'throw new E("text")', the text by a wide index -/
theorem vx_throwSW {cc : ByteArray} {pc : Nat} (hexec : p.tables.exec = Jvm.exec) (hb : c.code = cc) (hl : l.stackTraces = false) {own cls text : String} {names : List String} {ik is ic mc ms sa : Nat} {A : Nat → Prop}
    (hown : s.vm.findClass own = some m.cls) (hcls : Bundle.fit cls = true) (hnames : ∀ n ∈ names, Bundle.fit n = true)
    (hk : (Cond.classLink own ik cls).before args s = true) (hini : (Cond.initialized cls).before args s = true) (hstr : vk_R own is text sa s) (hat : ∀ w ∈ vx_atS own ic cls names, w.before args s = true)
    (hgood : ∀ w ∈ Cond.classLink own ik cls :: Cond.initialized cls :: vx_atS own ic cls names, vx_ot w = true)
    (hU : vx_Zq Bundle.tN "UNASSIGNED_STACK" Bundle.steD A s s.heap) (hN : vx_Zq Bundle.tN "SUPPRESSED_SENTINEL" Bundle.listD A s s.heap) (hS : va_S A s.heap H locs) (hsize : ls.size = c.maxLocals)
    (d0 : decode cc pc = .ok (.new ik, 3)) (d3 : decode cc (pc + 3) = .ok (.dup, 1)) (d4 : decode cc (pc + 4) = .ok (.ldc_w is, 3)) (d7 : decode cc (pc + 7) = .ok (.invokespecial ic, 3)) (d10 : decode cc (pc + 10) = .ok (.athrow, 1))
    (hout : ∀ x ∈ c.exceptionTable.toList, covers x (pc + 10) = false)
    (hRframes : names.length + 3 < R.frames) (hRlocals : (rest.map fun v => v.category).sum + (13 * (names.length + 1) + 43) ≤ R.locals) (hRcells : cells + 1 ≤ R.cells) (hRslots : slots + 6 ≤ R.slots) (hlocks : meth.locks = false)
    (hx : ∀ t : State, s.vm.Alike t.vm → H.size ≤ t.heap.size → (∀ q : Nat, q < H.size → t.heap[q]? = H[q]?) → XC cls s t)
    (hf : ∀ z ∈ locs, free z.base) (hc : cells + 1 ≤ mc) (hs : slots + 6 ≤ ms) :
    W p l e R s m args below meth c H locs cells slots (vx_MQ below Qc XC args s mc ms free) (F0 m pc ls rest) := by
  intro T hT X
  have htr : e.platform.stackTraces = false := (show e.platform.stackTraces = l.stackTraces by rw [X.admits.platform]).trans hl
  have Y := vx_rebase X (R' := { frames := R.frames, locals := R.locals, cells := 1, slots := 6 }) (Nat.le_refl _) (Nat.le_refl _) hRcells hRslots
  obtain ⟨s', hA⟩ : ∃ z, z = (T.setVm s.vm).setFrames (.invoking m args :: below) := ⟨_, rfl⟩
  rw [← hA] at Y
  have hvm : s'.vm = s.vm := by rw [hA]; rfl
  have hhp : s'.heap = H := by rw [hA]; exact hT
  have hW0 : s.WarmedH s'.vm := by rw [hvm]; exact State.WarmedH.refl s
  have hat' : ∀ w ∈ vx_atS own ic cls names, w.before args s' = true := fun w hw => vx_ot_at hW0 hvm.symm (hgood w (List.mem_cons_of_mem _ (List.mem_cons_of_mem _ hw))) (hat w hw)
  have hk' : (Cond.classLink own ik cls).before args s' = true := vx_ot_at hW0 hvm.symm (hgood _ List.mem_cons_self) hk
  have hini' : (Cond.initialized cls).before args s' = true := vx_ot_at hW0 hvm.symm (hgood _ (List.mem_cons_of_mem _ List.mem_cons_self)) hini
  have hU' : vx_Zq Bundle.tN "UNASSIGNED_STACK" Bundle.steD A s' s'.heap := by rw [hhp]; exact vx_Zq.moved hW0.alike (hU.kept hS.2.1)
  have hN' : vx_Zq Bundle.tN "SUPPRESSED_SENTINEL" Bundle.listD A s' s'.heap := by rw [hhp]; exact vx_Zq.moved hW0.alike (hN.kept hS.2.1)
  have h : ∀ w ∈ Bundle.ownAtoms own ic cls names, w.before args s' = true := vx_own hat' (vx_isRefq hU'.1) (vx_isRefq hN'.1) hU'.2.word hN'.2.word
  have hown' : s'.vm.findClass own = some m.cls := by rw [hvm]; exact hown
  have hins : (Cond.instantiable cls 6).before args s' = true := h _ (by simp [Bundle.ownAtoms])
  obtain ⟨vm₁, cX, kX, hfX, hkX, -, -, X₁, st1⟩ := Y.newCold hexec (own := own) (C := cls) (index := ik) (n := 6) hown' hk' hins hini'
    (g := F0 m pc ls rest) rfl (by rw [hb]; exact d0) (Nat.le_refl _) (Nat.le_refl _)
  generalize hT1 : (T.setVm vm₁).pushCell { cls := cX, slots := kX.instanceTypes.map defaultValue, vm := .none } = T1 at X₁ st1
  have hcat : (Value.ref T.heap.size).category = 1 := rfl
  have hcellA : T1.heap[T.heap.size]? = some (freshCell cX kX) := by rw [← hT1]; exact State.heap_pushCell_size _ _
  have d3' : decode c.code (pc + 3) = .ok (.dup, 1) := by rw [hb]; exact d3
  have d4' : decode c.code (pc + 4) = .ok (.ldc_w is, 3) := by rw [hb]; exact d4
  have hstr' : vk_R own is text sa s' := vk_R.warm hW0 hstr
  obtain ⟨U, hsteps, hrun, hend, hW, hsame, ce, hce, hO⟩ := X₁.ctorThrowS hexec htr (own := own) (cls := cls) (names := names) (ic := ic) hown' hcls hnames h (fun x hx => nomatch hx) hfX hkX hcellA (by rw [hhp, hT]; exact Nat.le_refl _) (msg := .ref sa) rfl
    (g := { method := m, pc := pc + 7, locals := ls, stack := .ref sa :: .ref T.heap.size :: .ref T.heap.size :: rest, locked := none }) rfl hsize rfl rfl (rest := rest) rfl
    (by rw [hb]; exact d7) (by rw [hb]; exact d10) hout hRframes (by simp only [List.map_cons, List.sum_cons, hcat]; omega) hlocks
  obtain ⟨f1, f2⟩ := vx_frame hsame
  rw [hhp] at f1 f2
  have hWs : s.WarmedH U.vm := State.WarmedH.trans hW0 hW
  have hcl : s.vm.findClass cls = some ce.cls := by
    have h9 := hO.cls
    rw [hvm] at h9
    exact h9
  have hall : s.sameButNew ({ U with vm := s.vm } : State) locs mc ms := by
    subst hA
    obtain ⟨e1, e2⟩ := hsame
    rw [State.setFrames_setFrames] at e1
    have h2 : (T.setVm s.vm).sameButNew ({ U with vm := s.vm } : State) [] (0 + 1) (0 + 6) := ⟨e1, e2⟩
    have h3 := X.same.trans h2
    rw [List.append_nil] at h3
    exact h3.mono hc hs
  refine ⟨U, ?_, .threw T.heap.size, hrun, hend, Or.inr ⟨T.heap.size, rfl, cls, ce, locs, hx U hWs.alike f1 (fun q hq => f2 q hq (fun z hz => nomatch hz)), hce, hO.vm, hcl, hWs, hall, hf⟩⟩
  refine st1 _ ?_
  show Steps p.tables e below (T1.setTop { method := m, pc := pc + 3, locals := ls, stack := .ref T.heap.size :: rest, locked := none }) _
  jvm_step X₁.here [X₁.here.top, hexec, d3', Value.category]
  exact X₁.ldcStringW hexec (own := own) (text := text) (index := is) (a := sa) hown' hstr'.1 hstr'.2
    (g := { method := m, pc := pc + 4, locals := ls, stack := .ref T.heap.size :: .ref T.heap.size :: rest, locked := none }) rfl d4' _ hsteps
end Ends
section Bodies
variable {l : Launch}
theorem vx_ofW {y : MethodName} {ws ws' : List Cond} {rm : Room} {Pc : Array Value → State → Prop} {Qc : Array Value → State → Outcome → State → Prop} {XC : String → State → State → Prop} {mc ms : Nat} {free : Addr → Prop} {cc : ByteArray} {maxL : Nat} {ret : Option FieldType}
    (hy : plainName y.cls = true) (hw : ws = Cond.code y cc maxL ret :: ws')
    (body : ∀ p e s m args below meth c s₁, BodyLoose p l y (headSpec ws rm) cc maxL ret e s m args below meth c s₁ → c.maxLocals = maxL → (∀ x ∈ c.exceptionTable.toList, False) → Pc args s →
      W p l e (headSpec ws rm).room s m args below meth c s.heap [] 0 0 (vx_MQ below Qc XC args s mc ms free) (entryFrame m args maxL)) : vx_Met l y ws rm Pc Qc XC mc ms free := by
  refine MetFree.of_bodyS (code := cc) (maxLocals := maxL) (ret := ret) hy ?_ ?_
  · intro args s m h hn
    obtain ⟨meth, c, h1, h2, h3, h4, h5, h6, -, -⟩ := Cond.code_spec hn (atoms_spec (ws := ws) h _ (by rw [hw]; exact List.mem_cons_self))
    exact ⟨meth, c, h1, h2, h3, h4, h5, h6⟩
  · intro p e s m args below meth c s₁ B hml hP _
    have hh0 : s₁.heap = s.heap := by rw [B.state]; rfl
    have ht : ∀ x ∈ c.exceptionTable.toList, False := by
      obtain ⟨meth9, c9, h1, h2, -, -, -, -, h7, -⟩ := Cond.code_spec B.named (atoms_spec (ws := ws) B.pre _ (by rw [hw]; exact List.mem_cons_self))
      cases Option.some.inj (h1.symm.trans B.method)
      cases Option.some.inj (h2.symm.trans (Stand.of_body B).code)
      intro x hx
      rw [Array.isEmpty_iff.mp h7] at hx
      cases hx
    obtain ⟨t, a1, o, b1, b2, b3⟩ := body p e s m args below meth c s₁ B hml ht hP s₁ hh0 (Stand.of_body B)
    exact ⟨t, o, a1, b1, b2, b3⟩
/-- the table of a body with handlers -/
theorem vx_table {p : Program} {x y : MethodName} {S : Spec} {cc bytes : ByteArray} {maxL maxL' : Nat} {ret ret' : Option FieldType} {e : Env} {s s₁ : State} {m : MethodId} {args : Array Value} {below : List Frame} {meth : Method} {c : Code} {hh : List (Nat × Nat × Nat × Nat)}
    (B : BodyLoose p l y S cc maxL ret e s m args below meth c s₁) (h : (Cond.codeWith y bytes maxL' ret' hh).before args s = true) : c.exceptionTable.toList = tableOf hh := by
  obtain ⟨m9, meth9, c9, hn9, h1, h2, -, -, h6, -⟩ := Cond.codeWith_spec h
  cases Option.some.inj (hn9.symm.trans B.named)
  cases Option.some.inj (h1.symm.trans B.method)
  cases Option.some.inj (h2.symm.trans (Stand.of_body B).code)
  rw [← h6, table_eq]
end Bodies
end VXA
/-! ===== END ===== -/
/-! ===== BEGIN a static call of a method with an exception table ===== -/
section VXS
variable {p : Program} {l : Launch} {e : Env} {R : Room} {s : State} {m : MethodId} {args : Array Value} {below : List Frame} {meth : Method} {c : Code} {T : State} {H : Heap} {locs : List Loc} {cells slots : Nat}
abbrev vx_CSW (R : Room) (s : State) (args : Array Value) (own : String) (index : Nat) (y : MethodName) (bytes : ByteArray) (maxL : Nat) (ret : Option FieldType) (hh : List (Nat × Nat × Nat × Nat)) (ws : List Cond) (rm : Room) (mc ms n : Nat) : Prop :=
  (rm.cells = mc ∧ rm.slots = ms ∧ rm.frames + 1 ≤ R.frames ∧ 8 + (maxL + 11) + rm.locals ≤ R.locals ∧ (∀ w ∈ ws, ∀ (a' : Array Value) (U : State), s.WarmedH U.vm → w.before a' U = true) ∧ Cond.codeWith y bytes maxL ret hh ∈ ws) ∧
  (Cond.codeWith y bytes maxL ret hh).before args s = true ∧ (Cond.initialized y.cls).before args s = true ∧ (y.cls ≠ "java/lang/invoke/MethodHandle" ∧ y.cls ≠ "java/lang/invoke/VarHandle") ∧
  (∀ sig, parseMethodDescriptor y.desc = some sig → n = sig.parameters.length) ∧ (Cond.methodLink own index y).before args s = true ∧ (Cond.static y).before args s = true
theorem vx_cwSW {own : String} {index maxL mc ms : Nat} {y : MethodName} {bytes : ByteArray} {ret : Option FieldType} {hh : List (Nat × Nat × Nat × Nat)} {Ts ws ws' : List Cond} {rm : Room} (n : Nat) (ht : ∀ w ∈ Ts, w.before args s = true) (hT : GoodIn Ts (va_wsS own index y ws)) (hw : ws = Cond.codeWith y bytes maxL ret hh :: ws') (hrc : rm.cells = mc) (hrs : rm.slots = ms)
    (hd : y.cls ≠ "java/lang/invoke/MethodHandle" ∧ y.cls ≠ "java/lang/invoke/VarHandle" ∧ (parseMethodDescriptor y.desc).map (fun d => d.parameters.length) = some n) (hR : rm.frames + 1 ≤ R.frames ∧ 8 + (maxL + 11) + rm.locals ≤ R.locals) :
    vx_CSW R s args own index y bytes maxL ret hh ws rm mc ms n := by
  have ok : ∀ w ∈ va_wsS own index y ws, w.before args s = true := fun w h => ht w (hT w h).1
  have hG : GoodIn Ts ws := fun w h => hT w (by unfold va_wsS; exact List.mem_append_right _ h)
  have hc : Cond.codeWith y bytes maxL ret hh ∈ ws := by rw [hw]; exact List.mem_cons_self
  refine ⟨⟨hrc, hrs, hR.1, hR.2, pay_in ht hG, hc⟩, ht _ (hG _ hc).1, ok _ (by simp [va_wsS]), ⟨hd.1, hd.2.1⟩, fun sig h => ?_, ok _ (by simp [va_wsS]), ok _ (by simp [va_wsS])⟩
  have h2 := hd.2.2
  rw [h] at h2
  exact (Option.some.inj h2).symm
theorem vx_callSW (X : Stand p l e R s m args below meth c T locs cells slots) (hexec : p.tables.exec = Jvm.exec) {own : String} {index : Nat} {y : MethodName} {bytes : ByteArray} {maxL : Nat} {ret : Option FieldType} {hh : List (Nat × Nat × Nat × Nat)}
    (hown : s.vm.findClass own = some m.cls) (hlink : (Cond.methodLink own index y).before args s = true) (hstat : (Cond.static y).before args s = true) (hinit : (Cond.initialized y.cls).before args s = true)
    (hcode : (Cond.codeWith y bytes maxL ret hh).before args s = true) (hy : y.cls ≠ "java/lang/invoke/MethodHandle" ∧ y.cls ≠ "java/lang/invoke/VarHandle")
    {W9 : Nat} {Pre : Pt → Array Value → Prop} {Post : Pt → Array Value → Option Value → Pt → Prop} (hK : Back l R p e below s args y 3 W9 Pre Post)
    {g : JFrame} (hg : g.method = m) (hsize : g.locals.size = c.maxLocals) {argsL rest : List Value} (hlen : ∀ sig, parseMethodDescriptor y.desc = some sig → argsL.length = sig.parameters.length)
    (hstack : g.stack = argsL.reverse ++ rest) (hW : 2 * g.monitorRoom + (rest.map fun v => v.category).sum ≤ W9) (hdg : decode c.code g.pc = .ok (.invokestatic index, 3))
    (hpre : ∀ vm₁, s.WarmedH vm₁ → Pre ⟨T.setVm vm₁, locs, cells, slots⟩ argsL.toArray) :
    ∃ (v : Option Value) (vm₁ : Vm) (B : Pt), s.WarmedH vm₁ ∧ Stand p l e R s m args below meth c B.U B.locs B.cells B.slots ∧ Post ⟨T.setVm vm₁, locs, cells, slots⟩ argsL.toArray v B ∧
      ∀ target, Steps p.tables e below (B.U.setTop { g with pc := g.pc + 3, stack := v.toList ++ rest }) target → Steps p.tables e below (T.setTop g) target := by
  obtain ⟨mk, methM, cM, hnamed, hmethM, -, -, -, -, -, -, hsigM⟩ := Cond.codeWith_spec hcode
  have hstatic : methM.isStatic = true := Cond.static_spec hnamed hmethM hstat
  obtain ⟨kP, hkP, -⟩ := className_of_methodNamed hnamed
  have hinitP : kP.init = .initialized := Cond.initialized_spec (findClass_of_methodNamed hnamed) hkP hinit
  obtain ⟨vm₁, X₁, hstep₁⟩ := X.invokestatic hexec hown hlink hnamed hmethM hstatic hkP hinitP hy (g := g) hg (argsL := argsL) (rest := rest) (hlen _ hsigM) hstack hdg
  obtain ⟨v, B, X', hpost, hsteps⟩ := hK m meth c ⟨T.setVm vm₁, locs, cells, slots⟩ { g with stack := rest } (.invokestatic index) mk argsL.toArray X₁ hg hsize hdg hW (X₁.named hnamed) (hpre vm₁ X₁.warmed)
  exact ⟨v, vm₁, B, X₁.warmed, X', hpost, fun target h => hstep₁ _ fun acts => by rw [doInvoke_state]; exact hsteps.trans h⟩
theorem vx_runSW {y : MethodName} {bytes cc : ByteArray} {maxL nL mc ms n index : Nat} {ret : Option FieldType} {hh : List (Nat × Nat × Nat × Nat)} {ws : List Cond} {rm : Room} {Pc : Array Value → State → Prop} {Qc : Array Value → State → Outcome → State → Prop} {free : Addr → Prop} {Ts : List Cond} {own : String} {As rest : List Value} {g : JFrame}
    (S : CallFix p m c cc nL s args Ts own) (hM : Met l y ws rm Pc Qc mc ms free) (cw : vx_CSW R s args own index y bytes maxL ret hh ws rm mc ms n) (hp : PreS s H Pc As)
    (hg : g.method = m) (hn : As.length = n) (hsize : g.locals.size = nL) (hstack : g.stack = As.reverse ++ rest) (hW : 2 * g.monitorRoom + (rest.map fun v => v.category).sum ≤ 8) (hdg : decode cc g.pc = .ok (.invokestatic index, 3)) (hf : cells + mc ≤ R.cells ∧ slots + ms ≤ R.slots) :
    va_Run p l e R s m args below meth c H locs cells slots mc ms g rest (Qc As.toArray) (free) := by
  obtain ⟨⟨hrc, hrs, hfr, hlo, hws, hcw⟩, hcode, hini, hy, hlen, hl, hstt⟩ := cw
  have hK : Back l R p e below s args y 3 8 (PreOf R mc ms Pc) (PostOf Qc mc ms free) := va_backW (hh := hh) (bytes := bytes) (maxL := maxL) (ret := ret) hM hp.1 hrc hrs hfr hlo hws hcw (fun a' U hW => word_at hW (Or.inl (by first | rfl | simp [Cond.onTables, Cond.keeps, Cond.steady])) hini)
  obtain ⟨hx, hb, hml, ho, -⟩ := S
  intro T hT X
  obtain ⟨v, vm₁, ⟨U', l2, c2, s2⟩, hW₁, X', ⟨g', mk, t, L, e1, e2, hq, h1, hL, h2, h3⟩, st⟩ := vx_callSW X hx (hh := hh) (bytes := bytes) (maxL := maxL) (ret := ret) ho hl hstt hini hcode hy hK hg (hsize.trans hml.symm) (argsL := As) (rest := rest) (fun sig h => hn.trans (hlen sig h)) hstack hW (by rw [hb]; exact hdg)
    (fun vm₁ hW₁ => ⟨hf.1, hf.2, hp.2 (T.setVm vm₁) hT hW₁⟩)
  dsimp only [Pt.U, Pt.locs, Pt.cells, Pt.slots] at X' e1 e2 h1 h2 h3 st
  subst h1; subst h2; subst h3
  exact ⟨v, (T.setVm vm₁).calling g' mk As.toArray, t, U', L, hT, X', hL, e1, e2, hq, st⟩
theorem vx_lt {D : va_G} {cl : List vw_C} {ws : va_W} {H1 : Heap} (h : va_P D cl ws H1) {k : Nat} {q : Nat × va_E} (hk : ws[k]? = some q) : q.1 < H1.size := (h k q hk).lt
end VXS
/-! ===== END ===== -/
/-! ===== BEGIN methods with a table of their own: called by a name, returning or throwing ===== -/
section VXH
/-! vx_backW, vx_callVX, vx_callSX, vx_callVW, vx_runVW, vx_runVX, vx_runSX, vx_ofWH follow the same proofs as their sisters above (Free/Laws.lean, Shelf42/LK1.lean); vx_outP calls Shelf42/NT130.lean (outThrough). -/
section
variable {l : Launch} {R : Room} {p : Program} {e : Env} {below : List Frame} {s : State} {sargs : Array Value} {y : MethodName} {len W9 : Nat}
theorem vx_backW {ws : List Cond} {rm : Room} {Pc : Array Value → State → Prop} {Qc : Array Value → State → Outcome → State → Prop} {XC : String → State → State → Prop} {mc ms : Nat} {free : Addr → Prop} {bytes : ByteArray} {maxL : Nat} {ret : Option FieldType} {hh : List (Nat × Nat × Nat × Nat)}
    (hM : vx_Met l y ws rm Pc Qc XC mc ms free) (hblind : FrameBlind Pc) (hrc : rm.cells = mc) (hrs : rm.slots = ms)
    (hframes : rm.frames + 1 ≤ R.frames) (hlocals : W9 + (maxL + 11) + rm.locals ≤ R.locals)
    (hws : ∀ w ∈ ws, ∀ a' U, s.WarmedH U.vm → w.before a' U = true) (hcode : Cond.codeWith y bytes maxL ret hh ∈ ws) (hinit : ∀ a' U, s.WarmedH U.vm → (Cond.initialized y.cls).before a' U = true) :
    vx_Back l R p e below s sargs y len W9 (PreOf R mc ms Pc) (PostOf Qc mc ms free) (vx_Post XC mc ms free) := by
  intro m meth c A g ig mk a X hg hsize hdg hW hn hp
  have h1 : (headSpec ws rm).pre.before a A.U = true := atoms_intro fun w hw => hws w hw _ _ X.warmed
  have h2 : (Cond.codeWith y bytes maxL ret hh).before a A.U = true := hws _ hcode _ _ X.warmed
  have h3 : (Cond.initialized y.cls).before a A.U = true := hinit _ _ X.warmed
  have h4 : A.cells + (headSpec ws rm).room.cells ≤ R.cells := by rw [show (headSpec ws rm).room.cells = mc from hrc]; exact hp.1
  have h5 : A.slots + (headSpec ws rm).room.slots ≤ R.slots := by rw [show (headSpec ws rm).room.slots = ms from hrs]; exact hp.2.1
  have hPc : Pc a (A.U.calling g mk a) := hblind _ _ _ _ hp.2.2
  obtain ⟨U, Ls, c0, s0⟩ := A
  dsimp only [Pt.U, Pt.locs, Pt.cells, Pt.slots] at h1 h2 h3 h4 h5 X hn hPc ⊢
  obtain ⟨m9, methY, cY, hn9, hmY, hcY, -, hlY, -⟩ := Cond.codeWith_spec h2
  cases Option.some.inj (hn9.symm.trans hn)
  obtain ⟨kY, hkY, -⟩ := className_of_methodNamed hn
  have hinitY : kY.init = .initialized := Cond.initialized_spec (findClass_of_methodNamed hn) hkY h3
  have h : At U g.method c below := by rw [hg]; exact X.here
  have hlocals9 : W9 + (maxL + 11) + (headSpec ws rm).room.locals ≤ R.locals := hlocals
  have happ : (headSpec ws rm).appliesLoose y e.platform (U.calling g mk a) = true :=
    Spec.appliesLoose_calling (g := g) h hdg hn hkY hinitY
      (X.room_calling (g := g) (R' := (headSpec ws rm).room) hsize hmY hcY hframes (by rw [hlY]; omega) h4 h5) h1
  obtain ⟨mid, hmid⟩ := h.above
  have hfr : (U.setTop g).frames = (.java g :: mid) ++ below := by rw [State.frames_setTop' g h.top, hmid]; rfl
  obtain ⟨o, s₂, hsteps, -, hend, hq⟩ := Steps.callFree hM p X.admits X.cas X.clock (acts := []) hfr happ hPc trivial
  have hq' : vx_Q Qc XC mc ms free a (U.calling g mk a) o s₂ := hq
  rw [State.frames_setTop' g h.top] at hend
  obtain ⟨g₀, hg0⟩ := Option.isSome_iff_exists.mp h.top
  obtain ⟨r, hr⟩ := State.topJava?_eq_some.mp hg0
  have hr' : (({ U with heap := s₂.heap, slotsUsed := s₂.slotsUsed } : State).setVm s₂.vm).frames = .java g₀ :: r := hr
  rcases hq' with ⟨hqc, L, hfe, hL⟩ | ⟨q, rfl, E, ce, L, hx, hce, hcv, hcl, hW₂, hsm, hL⟩
  · obtain ⟨⟨v, rfl⟩, hW₂, e2, q2, q3, q4, q5, q6⟩ := id hfe
    have e3 : s₂ = ({ (U.calling g mk a).setFrames s₂.frames with heap := s₂.heap, slotsUsed := s₂.slotsUsed } : State).setVm s₂.vm := by
      have : s₂ = ({ s₂ with vm := (U.calling g mk a).vm } : State).setVm s₂.vm := rfl
      rw [e2] at this
      exact this
    obtain ⟨c₂, i₂, len₂, hc₂, hd₂, hf₂⟩ := hend
    have hW' : U.WarmedH s₂.vm := hW₂
    have hcc : c₂ = c := by
      have h1 : s₂.code? g.method = U.code? g.method := by
        rw [State.code?_eq, State.code?_eq, hW'.alike.method?]
      exact Option.some.inj (hc₂.symm.trans (h1.trans h.code))
    subst hcc
    have hlen : len₂ = len := by rw [hdg] at hd₂; cases hd₂; rfl
    subst hlen
    have hs₂ : s₂ = (({ U with heap := s₂.heap, slotsUsed := s₂.slotsUsed } : State).setVm s₂.vm).setTop { g with pc := g.pc + len₂, stack := v.toList ++ g.stack } := by
      refine e3.trans ?_
      rw [hf₂, State.calling_eq h.top, State.setFrames_setFrames, State.setTop_of_frames _ hr', hr]
      rfl
    have hsame : U.sameButNew ({ U with heap := s₂.heap, slotsUsed := s₂.slotsUsed } : State) L mc ms := by
      refine ⟨?_, q2, q3, q4, q5, q6⟩
      obtain ⟨t, ht, -⟩ := State.frames_cons hr
      show ({ U with heap := s₂.heap, slotsUsed := s₂.slotsUsed } : State) = { U.setFrames U.frames with heap := s₂.heap, slotsUsed := s₂.slotsUsed }
      rw [State.setFrames_self ht]
    subst hg
    refine Or.inl ⟨v, ⟨(({ U with heap := s₂.heap, slotsUsed := s₂.slotsUsed } : State).setVm s₂.vm), Ls ++ L, c0 + mc, s0 + ms⟩,
      ⟨X.admits, X.cas, X.clock, X.frames, X.room, X.hears, X.method, X.code, (X.here.setHeapUsed s₂.heap s₂.slotsUsed).setVm hW'.alike, X.tail, State.WarmedH.trans X.warmed hW', X.limits, X.bytes, X.same.trans (hsame.setVm s.vm)⟩,
      ⟨g, mk, s₂, L, rfl, rfl, hqc, rfl, hL, rfl, rfl⟩, ?_⟩
    show Steps p.tables e below _ ((({ U with heap := s₂.heap, slotsUsed := s₂.slotsUsed } : State).setVm s₂.vm).setTop { g with pc := g.pc + len₂, stack := v.toList ++ g.stack })
    rw [← hs₂]
    exact hsteps
  · obtain ⟨e2, q2, q3, q4, q5, q6⟩ := id hsm
    have e3 : s₂ = ({ (U.calling g mk a).setFrames s₂.frames with heap := s₂.heap, slotsUsed := s₂.slotsUsed } : State).setVm s₂.vm := by
      have : s₂ = ({ s₂ with vm := (U.calling g mk a).vm } : State).setVm s₂.vm := rfl
      rw [e2] at this
      exact this
    have hf₂ : s₂.frames = .throwing q :: .java g :: U.frames.tail := hend
    have hW' : U.WarmedH s₂.vm := hW₂
    have hs₂ : s₂ = ((({ U with heap := s₂.heap, slotsUsed := s₂.slotsUsed } : State).setVm s₂.vm).setTop g).pushFrame (.throwing q) := by
      refine e3.trans ?_
      rw [hf₂, State.calling_eq h.top, State.setFrames_setFrames, State.pushFrame, State.frames_setTop _ hr', State.setTop_of_frames _ hr', State.setFrames_setFrames, hr]
      rfl
    have hsame : U.sameButNew ({ U with heap := s₂.heap, slotsUsed := s₂.slotsUsed } : State) L mc ms := by
      refine ⟨?_, q2, q3, q4, q5, q6⟩
      obtain ⟨t, ht, -⟩ := State.frames_cons hr
      show ({ U with heap := s₂.heap, slotsUsed := s₂.slotsUsed } : State) = { U.setFrames U.frames with heap := s₂.heap, slotsUsed := s₂.slotsUsed }
      rw [State.setFrames_self ht]
    subst hg
    refine Or.inr ⟨q, ⟨(({ U with heap := s₂.heap, slotsUsed := s₂.slotsUsed } : State).setVm s₂.vm), Ls ++ L, c0 + mc, s0 + ms⟩,
      ⟨X.admits, X.cas, X.clock, X.frames, X.room, X.hears, X.method, X.code, (X.here.setHeapUsed s₂.heap s₂.slotsUsed).setVm hW'.alike, X.tail, State.WarmedH.trans X.warmed hW', X.limits, X.bytes, X.same.trans (hsame.setVm s.vm)⟩,
      ⟨g, mk, s₂, L, E, ce, rfl, rfl, hx, hce, hcv, hcl, rfl, hL, rfl, rfl⟩, ?_⟩
    show Steps p.tables e below _ (((({ U with heap := s₂.heap, slotsUsed := s₂.slotsUsed } : State).setVm s₂.vm).setTop g).pushFrame (.throwing q))
    rw [← hs₂]
    exact hsteps
end
variable {p : Program} {l : Launch} {e : Env} {R : Room} {s : State} {m : MethodId} {args : Array Value} {below : List Frame} {meth : Method} {c : Code} {T : State} {H : Heap} {locs : List Loc} {cells slots : Nat}
theorem vx_callVX (X : Stand p l e R s m args below meth c T locs cells slots) (hexec : p.tables.exec = Jvm.exec) {own C : String} {index : Nat} {y : MethodName} {bytes : ByteArray} {maxL : Nat} {ret : Option FieldType} {hh : List (Nat × Nat × Nat × Nat)}
    (hown : s.vm.findClass own = some m.cls) (hlink : (Cond.methodLink own index y).before args s = true) (hinst : (Cond.instanceMethod y).before args s = true) (hsel : (Cond.selects C y y).before args s = true)
    (hcode : (Cond.codeWith y bytes maxL ret hh).before args s = true) (hy : y.cls ≠ "java/lang/invoke/MethodHandle" ∧ y.cls ≠ "java/lang/invoke/VarHandle")
    {W9 : Nat} {Pre : Pt → Array Value → Prop} {Post : Pt → Array Value → Option Value → Pt → Prop} {PostX : Pt → Array Value → Addr → Pt → Prop} (hK : vx_Back l R p e below s args y 3 W9 Pre Post PostX)
    {b : Addr} {cellB : Cell} (hcell : T.heap[b]? = some cellB) (hobj : cellB.vm.isStatics = false) (hcls : s.vm.findClass C = some cellB.cls)
    {g : JFrame} (hg : g.method = m) (hsize : g.locals.size = c.maxLocals) {argsL rest : List Value} (hlen : ∀ sig, parseMethodDescriptor y.desc = some sig → argsL.length = sig.parameters.length)
    (hstack : g.stack = argsL.reverse ++ .ref b :: rest) (hW : 2 * g.monitorRoom + (rest.map fun v => v.category).sum ≤ W9) (hdg : decode c.code g.pc = .ok (.invokevirtual index, 3))
    (hpre : ∀ vm₁, s.WarmedH vm₁ → Pre ⟨T.setVm vm₁, locs, cells, slots⟩ (Value.ref b :: argsL).toArray) :
    (∃ (v : Option Value) (vm₁ : Vm) (B : Pt), s.WarmedH vm₁ ∧ Stand p l e R s m args below meth c B.U B.locs B.cells B.slots ∧ Post ⟨T.setVm vm₁, locs, cells, slots⟩ (Value.ref b :: argsL).toArray v B ∧
      ∀ target, Steps p.tables e below (B.U.setTop { g with pc := g.pc + 3, stack := v.toList ++ rest }) target → Steps p.tables e below (T.setTop g) target) ∨
    (∃ (q : Addr) (vm₁ : Vm) (B : Pt), s.WarmedH vm₁ ∧ Stand p l e R s m args below meth c B.U B.locs B.cells B.slots ∧ PostX ⟨T.setVm vm₁, locs, cells, slots⟩ (Value.ref b :: argsL).toArray q B ∧
      Steps p.tables e below (T.setTop g) ((B.U.setTop { g with stack := rest }).pushFrame (.throwing q))) := by
  obtain ⟨mk, methM, hnamed, hmethM, hstM, habM⟩ := Cond.instanceMethod_spec hinst
  obtain ⟨m8, methM', cM, hn8, hmethM', -, -, -, -, -, -, hsigM⟩ := Cond.codeWith_spec hcode
  cases Option.some.inj (hn8.symm.trans hnamed)
  cases hmethM.symm.trans hmethM'
  obtain ⟨c2, r2, m2, q1, q2, q3, q4, kP, hkP, hkPi⟩ := Cond.selects_spec hsel
  cases hcls.symm.trans q1
  cases (State.methodFound?_of_named hnamed hy).symm.trans q2
  cases hnamed.symm.trans q3
  have hselP : selectMethod e.platform s.vm cellB.cls mk = .method mk := by rw [Launch.admits_selectMethod X.admits]; exact q4
  obtain ⟨vm₁, X₁, hstep₁⟩ := X.invokevirtual hexec hown hlink hnamed hmethM hstM hkP hkPi hy (a := b) (cell := cellB) hcell
    (fun z h => by rw [h] at hobj; cases hobj) hselP hmethM habM hkP hkPi (g := g) hg (argsL := argsL) (rest := rest) (hlen _ hsigM) hstack hdg
  rcases hK m meth c ⟨T.setVm vm₁, locs, cells, slots⟩ { g with stack := rest } (.invokevirtual index) mk (Value.ref b :: argsL).toArray X₁ hg hsize hdg hW (X₁.named hnamed) (hpre vm₁ X₁.warmed) with ⟨v, B, X', hpost, hsteps⟩ | ⟨q, B, X', hpost, hsteps⟩
  · exact Or.inl ⟨v, vm₁, B, X₁.warmed, X', hpost, fun target h => hstep₁ _ fun acts => by rw [doInvoke_state]; exact hsteps.trans h⟩
  · exact Or.inr ⟨q, vm₁, B, X₁.warmed, X', hpost, hstep₁ _ fun acts => by rw [doInvoke_state]; exact hsteps⟩
theorem vx_callSX (X : Stand p l e R s m args below meth c T locs cells slots) (hexec : p.tables.exec = Jvm.exec) {own : String} {index : Nat} {y : MethodName} {bytes : ByteArray} {maxL : Nat} {ret : Option FieldType} {hh : List (Nat × Nat × Nat × Nat)}
    (hown : s.vm.findClass own = some m.cls) (hlink : (Cond.methodLink own index y).before args s = true) (hstat : (Cond.static y).before args s = true) (hinit : (Cond.initialized y.cls).before args s = true)
    (hcode : (Cond.codeWith y bytes maxL ret hh).before args s = true) (hy : y.cls ≠ "java/lang/invoke/MethodHandle" ∧ y.cls ≠ "java/lang/invoke/VarHandle")
    {W9 : Nat} {Pre : Pt → Array Value → Prop} {Post : Pt → Array Value → Option Value → Pt → Prop} {PostX : Pt → Array Value → Addr → Pt → Prop} (hK : vx_Back l R p e below s args y 3 W9 Pre Post PostX)
    {g : JFrame} (hg : g.method = m) (hsize : g.locals.size = c.maxLocals) {argsL rest : List Value} (hlen : ∀ sig, parseMethodDescriptor y.desc = some sig → argsL.length = sig.parameters.length)
    (hstack : g.stack = argsL.reverse ++ rest) (hW : 2 * g.monitorRoom + (rest.map fun v => v.category).sum ≤ W9) (hdg : decode c.code g.pc = .ok (.invokestatic index, 3))
    (hpre : ∀ vm₁, s.WarmedH vm₁ → Pre ⟨T.setVm vm₁, locs, cells, slots⟩ argsL.toArray) :
    (∃ (v : Option Value) (vm₁ : Vm) (B : Pt), s.WarmedH vm₁ ∧ Stand p l e R s m args below meth c B.U B.locs B.cells B.slots ∧ Post ⟨T.setVm vm₁, locs, cells, slots⟩ argsL.toArray v B ∧
      ∀ target, Steps p.tables e below (B.U.setTop { g with pc := g.pc + 3, stack := v.toList ++ rest }) target → Steps p.tables e below (T.setTop g) target) ∨
    (∃ (q : Addr) (vm₁ : Vm) (B : Pt), s.WarmedH vm₁ ∧ Stand p l e R s m args below meth c B.U B.locs B.cells B.slots ∧ PostX ⟨T.setVm vm₁, locs, cells, slots⟩ argsL.toArray q B ∧
      Steps p.tables e below (T.setTop g) ((B.U.setTop { g with stack := rest }).pushFrame (.throwing q))) := by
  obtain ⟨mk, methM, cM, hnamed, hmethM, -, -, -, -, -, -, hsigM⟩ := Cond.codeWith_spec hcode
  have hstatic : methM.isStatic = true := Cond.static_spec hnamed hmethM hstat
  obtain ⟨kP, hkP, -⟩ := className_of_methodNamed hnamed
  have hinitP : kP.init = .initialized := Cond.initialized_spec (findClass_of_methodNamed hnamed) hkP hinit
  obtain ⟨vm₁, X₁, hstep₁⟩ := X.invokestatic hexec hown hlink hnamed hmethM hstatic hkP hinitP hy (g := g) hg (argsL := argsL) (rest := rest) (hlen _ hsigM) hstack hdg
  rcases hK m meth c ⟨T.setVm vm₁, locs, cells, slots⟩ { g with stack := rest } (.invokestatic index) mk argsL.toArray X₁ hg hsize hdg hW (X₁.named hnamed) (hpre vm₁ X₁.warmed) with ⟨v, B, X', hpost, hsteps⟩ | ⟨q, B, X', hpost, hsteps⟩
  · exact Or.inl ⟨v, vm₁, B, X₁.warmed, X', hpost, fun target h => hstep₁ _ fun acts => by rw [doInvoke_state]; exact hsteps.trans h⟩
  · exact Or.inr ⟨q, vm₁, B, X₁.warmed, X', hpost, hstep₁ _ fun acts => by rw [doInvoke_state]; exact hsteps⟩
theorem vx_callVW (X : Stand p l e R s m args below meth c T locs cells slots) (hexec : p.tables.exec = Jvm.exec) {own C : String} {index : Nat} {y : MethodName} {bytes : ByteArray} {maxL : Nat} {ret : Option FieldType} {hh : List (Nat × Nat × Nat × Nat)}
    (hown : s.vm.findClass own = some m.cls) (hlink : (Cond.methodLink own index y).before args s = true) (hinst : (Cond.instanceMethod y).before args s = true) (hsel : (Cond.selects C y y).before args s = true)
    (hcode : (Cond.codeWith y bytes maxL ret hh).before args s = true) (hy : y.cls ≠ "java/lang/invoke/MethodHandle" ∧ y.cls ≠ "java/lang/invoke/VarHandle")
    {W9 : Nat} {Pre : Pt → Array Value → Prop} {Post : Pt → Array Value → Option Value → Pt → Prop} (hK : Back l R p e below s args y 3 W9 Pre Post)
    {b : Addr} {cellB : Cell} (hcell : T.heap[b]? = some cellB) (hobj : cellB.vm.isStatics = false) (hcls : s.vm.findClass C = some cellB.cls)
    {g : JFrame} (hg : g.method = m) (hsize : g.locals.size = c.maxLocals) {argsL rest : List Value} (hlen : ∀ sig, parseMethodDescriptor y.desc = some sig → argsL.length = sig.parameters.length)
    (hstack : g.stack = argsL.reverse ++ .ref b :: rest) (hW : 2 * g.monitorRoom + (rest.map fun v => v.category).sum ≤ W9) (hdg : decode c.code g.pc = .ok (.invokevirtual index, 3))
    (hpre : ∀ vm₁, s.WarmedH vm₁ → Pre ⟨T.setVm vm₁, locs, cells, slots⟩ (Value.ref b :: argsL).toArray) :
    ∃ (v : Option Value) (vm₁ : Vm) (B : Pt), s.WarmedH vm₁ ∧ Stand p l e R s m args below meth c B.U B.locs B.cells B.slots ∧ Post ⟨T.setVm vm₁, locs, cells, slots⟩ (Value.ref b :: argsL).toArray v B ∧
      ∀ target, Steps p.tables e below (B.U.setTop { g with pc := g.pc + 3, stack := v.toList ++ rest }) target → Steps p.tables e below (T.setTop g) target := by
  obtain ⟨mk, methM, hnamed, hmethM, hstM, habM⟩ := Cond.instanceMethod_spec hinst
  obtain ⟨m8, methM', cM, hn8, hmethM', -, -, -, -, -, -, hsigM⟩ := Cond.codeWith_spec hcode
  cases Option.some.inj (hn8.symm.trans hnamed)
  cases hmethM.symm.trans hmethM'
  obtain ⟨c2, r2, m2, q1, q2, q3, q4, kP, hkP, hkPi⟩ := Cond.selects_spec hsel
  cases hcls.symm.trans q1
  cases (State.methodFound?_of_named hnamed hy).symm.trans q2
  cases hnamed.symm.trans q3
  have hselP : selectMethod e.platform s.vm cellB.cls mk = .method mk := by rw [Launch.admits_selectMethod X.admits]; exact q4
  obtain ⟨vm₁, X₁, hstep₁⟩ := X.invokevirtual hexec hown hlink hnamed hmethM hstM hkP hkPi hy (a := b) (cell := cellB) hcell
    (fun z h => by rw [h] at hobj; cases hobj) hselP hmethM habM hkP hkPi (g := g) hg (argsL := argsL) (rest := rest) (hlen _ hsigM) hstack hdg
  obtain ⟨v, B, X', hpost, hsteps⟩ := hK m meth c ⟨T.setVm vm₁, locs, cells, slots⟩ { g with stack := rest } (.invokevirtual index) mk (Value.ref b :: argsL).toArray X₁ hg hsize hdg hW (X₁.named hnamed) (hpre vm₁ X₁.warmed)
  exact ⟨v, vm₁, B, X₁.warmed, X', hpost, fun target h => hstep₁ _ fun acts => by rw [doInvoke_state]; exact hsteps.trans h⟩
abbrev vx_CVW (R : Room) (s : State) (args : Array Value) (own C : String) (index : Nat) (y : MethodName) (bytes : ByteArray) (maxL : Nat) (ret : Option FieldType) (hh : List (Nat × Nat × Nat × Nat)) (ws : List Cond) (rm : Room) (mc ms n : Nat) : Prop :=
  (rm.cells = mc ∧ rm.slots = ms ∧ rm.frames + 1 ≤ R.frames ∧ 8 + (maxL + 11) + rm.locals ≤ R.locals ∧ (∀ w ∈ ws, ∀ (a' : Array Value) (U : State), s.WarmedH U.vm → w.before a' U = true) ∧ Cond.codeWith y bytes maxL ret hh ∈ ws) ∧
  (Cond.codeWith y bytes maxL ret hh).before args s = true ∧ (Cond.initialized y.cls).before args s = true ∧ (y.cls ≠ "java/lang/invoke/MethodHandle" ∧ y.cls ≠ "java/lang/invoke/VarHandle") ∧
  (∀ sig, parseMethodDescriptor y.desc = some sig → n = sig.parameters.length) ∧ (Cond.methodLink own index y).before args s = true ∧ (Cond.instanceMethod y).before args s = true ∧ (Cond.selects C y y).before args s = true
theorem vx_cwVW {own C : String} {index maxL mc ms : Nat} {y : MethodName} {bytes : ByteArray} {ret : Option FieldType} {hh : List (Nat × Nat × Nat × Nat)} {Ts ws ws' : List Cond} {rm : Room} (n : Nat) (ht : ∀ w ∈ Ts, w.before args s = true) (hT : GoodIn Ts (wsV own index C y ws)) (hw : ws = Cond.codeWith y bytes maxL ret hh :: ws') (hrc : rm.cells = mc) (hrs : rm.slots = ms)
    (hd : y.cls = C ∧ y.cls ≠ "java/lang/invoke/MethodHandle" ∧ y.cls ≠ "java/lang/invoke/VarHandle" ∧ (parseMethodDescriptor y.desc).map (fun d => d.parameters.length) = some n) (hR : rm.frames + 1 ≤ R.frames ∧ 8 + (maxL + 11) + rm.locals ≤ R.locals) :
    vx_CVW R s args own C index y bytes maxL ret hh ws rm mc ms n := by
  obtain ⟨hC, hd⟩ := hd
  subst hC
  have ok : ∀ w ∈ wsV own index y.cls y ws, w.before args s = true := fun w h => ht w (hT w h).1
  have hG : GoodIn Ts ws := fun w h => hT w (by unfold wsV; exact List.mem_append_right _ h)
  have hc : Cond.codeWith y bytes maxL ret hh ∈ ws := by rw [hw]; exact List.mem_cons_self
  refine ⟨⟨hrc, hrs, hR.1, hR.2, pay_in ht hG, hc⟩, ht _ (hG _ hc).1, ok _ (by simp [wsV]), ⟨hd.1, hd.2.1⟩, fun sig h => ?_, ok _ (by simp [wsV]), ok _ (by simp [wsV]), ok _ (by simp [wsV])⟩
  have h2 := hd.2.2
  rw [h] at h2
  exact (Option.some.inj h2).symm
theorem vx_runVW {y : MethodName} {bytes cc : ByteArray} {maxL nL mc ms n index : Nat} {ret : Option FieldType} {hh : List (Nat × Nat × Nat × Nat)} {ws : List Cond} {rm : Room} {Pc : Array Value → State → Prop} {Qc : Array Value → State → Outcome → State → Prop} {free : Addr → Prop} {Ts : List Cond} {own C : String} {b : Addr} {As rest : List Value} {g : JFrame}
    (S : CallFix p m c cc nL s args Ts own) (hM : Met l y ws rm Pc Qc mc ms free) (cw : vx_CVW R s args own C index y bytes maxL ret hh ws rm mc ms n) (hp : PreV s H C b Pc As)
    (hg : g.method = m) (hn : As.length = n) (hsize : g.locals.size = nL) (hstack : g.stack = As.reverse ++ .ref b :: rest) (hW : 2 * g.monitorRoom + (rest.map fun v => v.category).sum ≤ 8) (hdg : decode cc g.pc = .ok (.invokevirtual index, 3)) (hf : cells + mc ≤ R.cells ∧ slots + ms ≤ R.slots) :
    va_Run p l e R s m args below meth c H locs cells slots mc ms g rest (Qc (Value.ref b :: As).toArray) free := by
  obtain ⟨⟨hrc, hrs, hfr, hlo, hws, hcw⟩, hcode, hini, hy, hlen, hl, hin, hse⟩ := cw
  have hK : Back l R p e below s args y 3 8 (PreOf R mc ms Pc) (PostOf Qc mc ms free) := va_backW (hh := hh) (bytes := bytes) (maxL := maxL) (ret := ret) hM hp.1 hrc hrs hfr hlo hws hcw (fun a' U hW => word_at hW (Or.inl (by first | rfl | simp [Cond.onTables, Cond.keeps, Cond.steady])) hini)
  obtain ⟨hx, hb, hml, ho, -⟩ := S
  obtain ⟨-, ⟨cellB, hcB, hoB, hclB⟩, hPc⟩ := hp
  intro T hT X
  obtain ⟨v, vm₁, ⟨U', l2, c2, s2⟩, hW₁, X', ⟨g', mk, t, L, e1, e2, hq, h1, hL, h2, h3⟩, st⟩ := vx_callVW X hx (C := C) (hh := hh) (bytes := bytes) (maxL := maxL) (ret := ret) ho hl hin hse hcode hy hK (by rw [hT]; exact hcB) hoB hclB hg (hsize.trans hml.symm) (argsL := As) (rest := rest) (fun sig h => hn.trans (hlen sig h)) hstack hW (by rw [hb]; exact hdg)
    (fun vm₁ hW₁ => ⟨hf.1, hf.2, hPc (T.setVm vm₁) hT hW₁⟩)
  dsimp only [Pt.U, Pt.locs, Pt.cells, Pt.slots] at X' e1 e2 h1 h2 h3 st
  subst h1; subst h2; subst h3
  exact ⟨v, (T.setVm vm₁).calling g' mk (Value.ref b :: As).toArray, t, U', L, hT, X', hL, e1, e2, hq, st⟩
section
variable {y : MethodName} {bytes cc : ByteArray} {maxL nL mc ms n index : Nat} {ret : Option FieldType} {ws : List Cond} {rm : Room} {Pc : Array Value → State → Prop} {Qc : Array Value → State → Outcome → State → Prop} {XC : String → State → State → Prop} {free : Addr → Prop} {Ts : List Cond} {own C : String} {b : Addr} {As rest : List Value} {g : JFrame}
theorem vx_runVX {hh : List (Nat × Nat × Nat × Nat)} (S : CallFix p m c cc nL s args Ts own) (hM : vx_Met l y ws rm Pc Qc XC mc ms free) (cw : vx_CVW R s args own C index y bytes maxL ret hh ws rm mc ms n) (hp : PreV s H C b Pc As)
    (hg : g.method = m) (hn : As.length = n) (hsize : g.locals.size = nL) (hstack : g.stack = As.reverse ++ .ref b :: rest) (hW : 2 * g.monitorRoom + (rest.map fun v => v.category).sum ≤ 8) (hdg : decode cc g.pc = .ok (.invokevirtual index, 3)) (hf : cells + mc ≤ R.cells ∧ slots + ms ≤ R.slots) :
    vx_Run p l e R s m args below meth c H locs cells slots mc ms g rest (Qc (Value.ref b :: As).toArray) XC free := by
  obtain ⟨⟨hrc, hrs, hfr, hlo, hws, hcw⟩, hcode, hini, hy, hlen, hl, hin, hse⟩ := cw
  have hK : vx_Back l R p e below s args y 3 8 (PreOf R mc ms Pc) (PostOf Qc mc ms free) (vx_Post XC mc ms free) := vx_backW (hh := hh) (bytes := bytes) (maxL := maxL) (ret := ret) hM hp.1 hrc hrs hfr hlo hws hcw (fun a' U hW => word_at hW (Or.inl (by first | rfl | simp [Cond.onTables, Cond.keeps, Cond.steady])) hini)
  obtain ⟨hx, hb, hml, ho, -⟩ := S
  obtain ⟨-, ⟨cellB, hcB, hoB, hclB⟩, hPc⟩ := hp
  intro T hT X
  rcases vx_callVX X hx (C := C) (hh := hh) (bytes := bytes) (maxL := maxL) (ret := ret) ho hl hin hse hcode hy hK (by rw [hT]; exact hcB) hoB hclB hg (hsize.trans hml.symm) (argsL := As) (rest := rest) (fun sig h => hn.trans (hlen sig h)) hstack hW (by rw [hb]; exact hdg)
    (fun vm₁ hW₁ => ⟨hf.1, hf.2, hPc (T.setVm vm₁) hT hW₁⟩) with ⟨v, vm₁, ⟨U', l2, c2, s2⟩, hW₁, X', ⟨g', mk, t, L, e1, e2, hq, h1, hL, h2, h3⟩, st⟩ | ⟨q, vm₁, ⟨U', l2, c2, s2⟩, hW₁, X', ⟨g', mk, t, L, E, ce, e1, e2, hq, hce, hcv, hcl, h1, hL, h2, h3⟩, st⟩
  · dsimp only [Pt.U, Pt.locs, Pt.cells, Pt.slots] at X' e1 e2 h1 h2 h3 st
    subst h1; subst h2; subst h3
    exact Or.inl ⟨v, (T.setVm vm₁).calling g' mk (Value.ref b :: As).toArray, t, U', L, hT, X', hL, e1, e2, hq, st⟩
  · dsimp only [Pt.U, Pt.locs, Pt.cells, Pt.slots] at X' e1 e2 h1 h2 h3 st hcl
    subst h1; subst h2; subst h3
    exact Or.inr ⟨q, (T.setVm vm₁).calling g' mk (Value.ref b :: As).toArray, t, U', L, E, ce, hT, X', hL, e1, e2, hq, hce, hcv, vx_cls hW₁ hcl, st⟩
theorem vx_runSX {hh : List (Nat × Nat × Nat × Nat)} (S : CallFix p m c cc nL s args Ts own) (hM : vx_Met l y ws rm Pc Qc XC mc ms free) (cw : vx_CSW R s args own index y bytes maxL ret hh ws rm mc ms n) (hp : PreS s H Pc As)
    (hg : g.method = m) (hn : As.length = n) (hsize : g.locals.size = nL) (hstack : g.stack = As.reverse ++ rest) (hW : 2 * g.monitorRoom + (rest.map fun v => v.category).sum ≤ 8) (hdg : decode cc g.pc = .ok (.invokestatic index, 3)) (hf : cells + mc ≤ R.cells ∧ slots + ms ≤ R.slots) :
    vx_Run p l e R s m args below meth c H locs cells slots mc ms g rest (Qc As.toArray) XC free := by
  obtain ⟨⟨hrc, hrs, hfr, hlo, hws, hcw⟩, hcode, hini, hy, hlen, hl, hstt⟩ := cw
  have hK : vx_Back l R p e below s args y 3 8 (PreOf R mc ms Pc) (PostOf Qc mc ms free) (vx_Post XC mc ms free) := vx_backW (hh := hh) (bytes := bytes) (maxL := maxL) (ret := ret) hM hp.1 hrc hrs hfr hlo hws hcw (fun a' U hW => word_at hW (Or.inl (by first | rfl | simp [Cond.onTables, Cond.keeps, Cond.steady])) hini)
  obtain ⟨hx, hb, hml, ho, -⟩ := S
  intro T hT X
  rcases vx_callSX X hx (hh := hh) (bytes := bytes) (maxL := maxL) (ret := ret) ho hl hstt hini hcode hy hK hg (hsize.trans hml.symm) (argsL := As) (rest := rest) (fun sig h => hn.trans (hlen sig h)) hstack hW (by rw [hb]; exact hdg)
    (fun vm₁ hW₁ => ⟨hf.1, hf.2, hp.2 (T.setVm vm₁) hT hW₁⟩) with ⟨v, vm₁, ⟨U', l2, c2, s2⟩, hW₁, X', ⟨g', mk, t, L, e1, e2, hq, h1, hL, h2, h3⟩, st⟩ | ⟨q, vm₁, ⟨U', l2, c2, s2⟩, hW₁, X', ⟨g', mk, t, L, E, ce, e1, e2, hq, hce, hcv, hcl, h1, hL, h2, h3⟩, st⟩
  · dsimp only [Pt.U, Pt.locs, Pt.cells, Pt.slots] at X' e1 e2 h1 h2 h3 st
    subst h1; subst h2; subst h3
    exact Or.inl ⟨v, (T.setVm vm₁).calling g' mk As.toArray, t, U', L, hT, X', hL, e1, e2, hq, st⟩
  · dsimp only [Pt.U, Pt.locs, Pt.cells, Pt.slots] at X' e1 e2 h1 h2 h3 st hcl
    subst h1; subst h2; subst h3
    exact Or.inr ⟨q, (T.setVm vm₁).calling g' mk As.toArray, t, U', L, E, ce, hT, X', hL, e1, e2, hq, hce, hcv, vx_cls hW₁ hcl, st⟩
end
end VXH
theorem vx_ofWH {l : Launch} {y : MethodName} {ws ws' : List Cond} {rm : Room} {Pc : Array Value → State → Prop} {Qc : Array Value → State → Outcome → State → Prop} {XC : String → State → State → Prop} {mc ms : Nat} {free : Addr → Prop} {cc : ByteArray} {maxL : Nat} {ret : Option FieldType} {hh : List (Nat × Nat × Nat × Nat)}
    (hy : plainName y.cls = true) (hw : ws = Cond.codeWith y cc maxL ret hh :: ws')
    (body : ∀ p e s m args below meth c s₁, BodyLoose p l y (headSpec ws rm) cc maxL ret e s m args below meth c s₁ → c.maxLocals = maxL → Pc args s →
      W p l e (headSpec ws rm).room s m args below meth c s.heap [] 0 0 (vx_MQ below Qc XC args s mc ms free) (entryFrame m args maxL)) : vx_Met l y ws rm Pc Qc XC mc ms free := by
  refine MetFree.of_bodyS (code := cc) (maxLocals := maxL) (ret := ret) hy ?_ ?_
  · intro args s m h hn
    obtain ⟨m9, meth, c, hn9, h1, h2, h3, h4, -, h5, h6, -⟩ := Cond.codeWith_spec (atoms_spec (ws := ws) h _ (by rw [hw]; exact List.mem_cons_self))
    cases hn.symm.trans hn9
    exact ⟨meth, c, h1, h2, h3, h4, h5, h6⟩
  · intro p e s m args below meth c s₁ B hml hP _
    have hh0 : s₁.heap = s.heap := by rw [B.state]; rfl
    obtain ⟨t, a1, o, b1, b2, b3⟩ := body p e s m args below meth c s₁ B hml hP s₁ hh0 (Stand.of_body B)
    exact ⟨t, o, a1, b1, b2, b3⟩
/-! ===== END ===== -/
end
section
/-! ===== BEGIN printed: names, fields, word lists, decode rows ===== -/
def RX0 : String := "SkiShots$Entry"
def TX0 : u_T := fun k => match k with
  | 0 => ("SkiShots$Entry", "racer", "I", true)
  | 1 => ("SkiShots$Entry", "latest", "LSkiShots$Event;", false)
  | 2 => ("SkiShots$Entry", "start", "I", false)
  | 3 => ("SkiShots$Entry", "low", "I", false)
  | 4 => ("SkiShots$Entry", "high", "I", false)
  | 5 => ("SkiShots$Entry", "struck", "Z", false)
  | 6 => ("SkiShots$Entry", "fewestMisses", "I", false)
  | 7 => ("SkiShots$Entry", "mostMisses", "I", false)
  | 8 => ("SkiShots$Entry", "leastPenalty", "I", false)
  | _ => ("SkiShots$Entry", "greatestPenalty", "I", false)
def tyX0 : Nat → FieldType := fun k => match k with
  | 0 => .int
  | 1 => .object "SkiShots$Event"
  | 2 => .int
  | 3 => .int
  | 4 => .int
  | 5 => .boolean
  | 6 => .int
  | 7 => .int
  | 8 => .int
  | _ => .int
abbrev wsX00 : List Cond := u_ws RX0 TX0 10
theorem nmX0 : ∀ a, a < 10 → ∀ b, b < 10 → a ≠ b → (TX0 a).2.1 ≠ (TX0 b).2.1 := by decide +kernel
theorem tyX0_ok : ∀ k, k < 10 → parseFieldDescriptor (TX0 k).2.2.1 = some (tyX0 k) := by decide +kernel
abbrev cX0_init : ByteArray := prog_2_method_1_code
def yX0_init : MethodName := ⟨RX0, "<init>", "(I)V"⟩
abbrev cX0_known : ByteArray := prog_2_method_2_code
def yX0_known : MethodName := ⟨RX0, "known", "(III)I"⟩
abbrev cX0_sinceStart : ByteArray := prog_2_method_3_code
def yX0_sinceStart : MethodName := ⟨RX0, "sinceStart", "(I)I"⟩
abbrev cX0_hasTime : ByteArray := prog_2_method_4_code
def yX0_hasTime : MethodName := ⟨RX0, "hasTime", "()Z"⟩
abbrev cX0_workOut : ByteArray := prog_2_method_5_code
def yX0_workOut : MethodName := ⟨RX0, "workOut", "(LSkiShots$Format;II)V"⟩
abbrev cX0_addShooting : ByteArray := prog_2_method_6_code
def yX0_addShooting : MethodName := ⟨RX0, "addShooting", "(LSkiShots$Format;II)V"⟩
def RX1 : String := "SkiShots$Event"
def TX1 : u_T := fun k => match k with
  | 0 => ("SkiShots$Event", "day", "I", true)
  | 1 => ("SkiShots$Event", "sort", "I", true)
  | 2 => ("SkiShots$Event", "k", "I", true)
  | 3 => ("SkiShots$Event", "v", "I", true)
  | _ => ("SkiShots$Event", "before", "LSkiShots$Event;", true)
def tyX1 : Nat → FieldType := fun k => match k with
  | 0 => .int
  | 1 => .int
  | 2 => .int
  | 3 => .int
  | _ => .object "SkiShots$Event"
abbrev wsX10 : List Cond := u_ws RX1 TX1 5
theorem nmX1 : ∀ a, a < 5 → ∀ b, b < 5 → a ≠ b → (TX1 a).2.1 ≠ (TX1 b).2.1 := by decide +kernel
theorem tyX1_ok : ∀ k, k < 5 → parseFieldDescriptor (TX1 k).2.2.1 = some (tyX1 k) := by decide +kernel
abbrev cX1_init : ByteArray := prog_3_method_1_code
def yX1_init : MethodName := ⟨RX1, "<init>", "(IIIILSkiShots$Event;)V"⟩
def RX2 : String := "SkiShots$Format"
def TX2 : u_T := fun k => match k with
  | 0 => ("SkiShots$Format", "name", "I", true)
  | 1 => ("SkiShots$Format", "laps", "I", false)
  | 2 => ("SkiShots$Format", "shootings", "I", false)
  | 3 => ("SkiShots$Format", "spares", "I", false)
  | 4 => ("SkiShots$Format", "loops", "Z", false)
  | 5 => ("SkiShots$Format", "missSeconds", "I", false)
  | 6 => ("SkiShots$Format", "startSort", "I", false)
  | _ => ("SkiShots$Format", "startSeconds", "I", false)
def tyX2 : Nat → FieldType := fun k => match k with
  | 0 => .int
  | 1 => .int
  | 2 => .int
  | 3 => .int
  | 4 => .boolean
  | 5 => .int
  | 6 => .int
  | _ => .int
abbrev wsX20 : List Cond := u_ws RX2 TX2 8
theorem nmX2 : ∀ a, a < 8 → ∀ b, b < 8 → a ≠ b → (TX2 a).2.1 ≠ (TX2 b).2.1 := by decide +kernel
theorem tyX2_ok : ∀ k, k < 8 → parseFieldDescriptor (TX2 k).2.2.1 = some (tyX2 k) := by decide +kernel
abbrev cX2_init : ByteArray := prog_4_method_1_code
def yX2_init : MethodName := ⟨RX2, "<init>", "(I)V"⟩
abbrev cX2_hasEvent : ByteArray := prog_4_method_2_code
def yX2_hasEvent : MethodName := ⟨RX2, "hasEvent", "(II)Z"⟩
def RX3 : String := "SkiShots$Race"
def TX3 : u_T := fun k => match k with
  | 0 => ("SkiShots$Race", "format", "LSkiShots$Format;", true)
  | 1 => ("SkiShots$Race", "by", "LSkiShots$Race;", true)
  | 2 => ("SkiShots$Race", "byNumber", "I", true)
  | 3 => ("SkiShots$Race", "entries", "[LSkiShots$Entry;", true)
  | 4 => ("SkiShots$Race", "entryCount", "I", false)
  | 5 => ("SkiShots$Race", "told", "I", false)
  | _ => ("SkiShots$Race", "leastLow", "I", false)
def tyX3 : Nat → FieldType := fun k => match k with
  | 0 => .object "SkiShots$Format"
  | 1 => .object "SkiShots$Race"
  | 2 => .int
  | 3 => .array (.object "SkiShots$Entry")
  | 4 => .int
  | 5 => .int
  | _ => .int
abbrev wsX30 : List Cond := u_ws RX3 TX3 7
theorem nmX3 : ∀ a, a < 7 → ∀ b, b < 7 → a ≠ b → (TX3 a).2.1 ≠ (TX3 b).2.1 := by decide +kernel
theorem tyX3_ok : ∀ k, k < 7 → parseFieldDescriptor (TX3 k).2.2.1 = some (tyX3 k) := by decide +kernel
abbrev cX3_init : ByteArray := prog_5_method_1_code
def yX3_init : MethodName := ⟨RX3, "<init>", "(LSkiShots$Format;LSkiShots$Race;I)V"⟩
abbrev cX3_add : ByteArray := prog_5_method_2_code
def yX3_add : MethodName := ⟨RX3, "add", "(I)V"⟩
abbrev cX3_entryOf : ByteArray := prog_5_method_3_code
def yX3_entryOf : MethodName := ⟨RX3, "entryOf", "(I)LSkiShots$Entry;"⟩
abbrev cX3_workOut : ByteArray := prog_5_method_4_code
def yX3_workOut : MethodName := ⟨RX3, "workOut", "(I)V"⟩
abbrev cX3_startOf : ByteArray := prog_5_method_5_code
def yX3_startOf : MethodName := ⟨RX3, "startOf", "(I)I"⟩
abbrev cX3_chaseStart : ByteArray := prog_5_method_6_code
def yX3_chaseStart : MethodName := ⟨RX3, "chaseStart", "(I)I"⟩
abbrev cX3_firstPlace : ByteArray := prog_5_method_7_code
def yX3_firstPlace : MethodName := ⟨RX3, "firstPlace", "(LSkiShots$Entry;)I"⟩
abbrev cX3_lastPlace : ByteArray := prog_5_method_8_code
def yX3_lastPlace : MethodName := ⟨RX3, "lastPlace", "(LSkiShots$Entry;)I"⟩
abbrev cX3_aheadInOrder : ByteArray := prog_5_method_9_code
def yX3_aheadInOrder : MethodName := ⟨RX3, "aheadInOrder", "(I)I"⟩
def RX4 : String := "SkiShots$Reader"
def TX4 : u_T := fun k => match k with
  | 0 => ("SkiShots$Reader", "text", "[B", true)
  | 1 => ("SkiShots$Reader", "length", "I", true)
  | 2 => ("SkiShots$Reader", "found", "[LSkiShots$Format;", true)
  | 3 => ("SkiShots$Reader", "foundCount", "I", false)
  | 4 => ("SkiShots$Reader", "fault", "I", false)
  | 5 => ("SkiShots$Reader", "faultPlace", "I", false)
  | 6 => ("SkiShots$Reader", "sort", "I", false)
  | 7 => ("SkiShots$Reader", "place", "I", false)
  | 8 => ("SkiShots$Reader", "behind", "I", false)
  | _ => ("SkiShots$Reader", "number", "I", false)
def tyX4 : Nat → FieldType := fun k => match k with
  | 0 => .array .byte
  | 1 => .int
  | 2 => .array (.object "SkiShots$Format")
  | 3 => .int
  | 4 => .int
  | 5 => .int
  | 6 => .int
  | 7 => .int
  | 8 => .int
  | _ => .int
abbrev wsX40 : List Cond := u_ws RX4 TX4 10
theorem nmX4 : ∀ a, a < 10 → ∀ b, b < 10 → a ≠ b → (TX4 a).2.1 ≠ (TX4 b).2.1 := by decide +kernel
theorem tyX4_ok : ∀ k, k < 10 → parseFieldDescriptor (TX4 k).2.2.1 = some (tyX4 k) := by decide +kernel
abbrev cX4_init : ByteArray := prog_6_method_1_code
def yX4_init : MethodName := ⟨RX4, "<init>", "([BI)V"⟩
abbrev cX4_readFormats : ByteArray := prog_6_method_2_code
def yX4_readFormats : MethodName := ⟨RX4, "readFormats", "()Z"⟩
abbrev cX4_readFormat : ByteArray := prog_6_method_3_code
def yX4_readFormat : MethodName := ⟨RX4, "readFormat", "()Z"⟩
abbrev cX4_readLaps : ByteArray := prog_6_method_4_code
def yX4_readLaps : MethodName := ⟨RX4, "readLaps", "(LSkiShots$Format;)Z"⟩
abbrev cX4_readShootings : ByteArray := prog_6_method_5_code
def yX4_readShootings : MethodName := ⟨RX4, "readShootings", "(LSkiShots$Format;)Z"⟩
abbrev cX4_readSpares : ByteArray := prog_6_method_6_code
def yX4_readSpares : MethodName := ⟨RX4, "readSpares", "(LSkiShots$Format;)Z"⟩
abbrev cX4_readMiss : ByteArray := prog_6_method_7_code
def yX4_readMiss : MethodName := ⟨RX4, "readMiss", "(LSkiShots$Format;)Z"⟩
abbrev cX4_readStart : ByteArray := prog_6_method_8_code
def yX4_readStart : MethodName := ⟨RX4, "readStart", "(LSkiShots$Format;)Z"⟩
abbrev cX4_readWord : ByteArray := prog_6_method_9_code
def yX4_readWord : MethodName := ⟨RX4, "readWord", "(Ljava/lang/String;)Z"⟩
abbrev cX4_readSign : ByteArray := prog_6_method_10_code
def yX4_readSign : MethodName := ⟨RX4, "readSign", "(C)Z"⟩
abbrev cX4_readNumber : ByteArray := prog_6_method_11_code
def yX4_readNumber : MethodName := ⟨RX4, "readNumber", "(II)Z"⟩
abbrev cX4_fail : ByteArray := prog_6_method_12_code
def yX4_fail : MethodName := ⟨RX4, "fail", "(I)Z"⟩
abbrev cX4_isWord : ByteArray := prog_6_method_13_code
def yX4_isWord : MethodName := ⟨RX4, "isWord", "(Ljava/lang/String;)Z"⟩
abbrev cX4_step : ByteArray := prog_6_method_14_code
def yX4_step : MethodName := ⟨RX4, "step", "()V"⟩
abbrev cX4_sortAt : ByteArray := prog_6_method_15_code
def yX4_sortAt : MethodName := ⟨RX4, "sortAt", "(I)I"⟩
def RX5 : String := "SkiShots"
def TX5 : u_T := fun k => match k with
  | 0 => ("SkiShots", "tape", "[B", true)
  | 1 => ("SkiShots", "tapeLength", "I", false)
  | 2 => ("SkiShots", "formatsByName", "[LSkiShots$Format;", false)
  | 3 => ("SkiShots", "formatCount", "I", false)
  | 4 => ("SkiShots", "latestFault", "I", false)
  | 5 => ("SkiShots", "latestFaultPlace", "I", false)
  | 6 => ("SkiShots", "today", "I", false)
  | 7 => ("SkiShots", "nations", "[I", true)
  | 8 => ("SkiShots", "racerCount", "I", false)
  | 9 => ("SkiShots", "races", "[LSkiShots$Race;", true)
  | 10 => ("SkiShots", "raceCount", "I", false)
  | 11 => ("SkiShots", "eventCount", "I", false)
  | _ => ("SkiShots", "cup", "[I", true)
def tyX5 : Nat → FieldType := fun k => match k with
  | 0 => .array .byte
  | 1 => .int
  | 2 => .array (.object "SkiShots$Format")
  | 3 => .int
  | 4 => .int
  | 5 => .int
  | 6 => .int
  | 7 => .array .int
  | 8 => .int
  | 9 => .array (.object "SkiShots$Race")
  | 10 => .int
  | 11 => .int
  | _ => .array .int
abbrev wsX50 : List Cond := u_ws RX5 TX5 13
theorem nmX5 : ∀ a, a < 13 → ∀ b, b < 13 → a ≠ b → (TX5 a).2.1 ≠ (TX5 b).2.1 := by decide +kernel
theorem tyX5_ok : ∀ k, k < 13 → parseFieldDescriptor (TX5 k).2.2.1 = some (tyX5 k) := by decide +kernel
abbrev cX5_init : ByteArray := prog_1_method_1_code
def yX5_init : MethodName := ⟨RX5, "<init>", "()V"⟩
abbrev cX5_feed : ByteArray := prog_1_method_2_code
def yX5_feed : MethodName := ⟨RX5, "feed", "(IIIII)I"⟩
abbrev cX5_putOnTape : ByteArray := prog_1_method_3_code
def yX5_putOnTape : MethodName := ⟨RX5, "putOnTape", "(I)V"⟩
abbrev cX5_formats : ByteArray := prog_1_method_4_code
def yX5_formats : MethodName := ⟨RX5, "formats", "(I)I"⟩
abbrev cX5_fault : ByteArray := prog_1_method_5_code
def yX5_fault : MethodName := ⟨RX5, "fault", "(I)I"⟩
abbrev cX5_pass : ByteArray := prog_1_method_6_code
def yX5_pass : MethodName := ⟨RX5, "pass", "(I)I"⟩
abbrev cX5_racer : ByteArray := prog_1_method_7_code
def yX5_racer : MethodName := ⟨RX5, "racer", "(I)I"⟩
abbrev cX5_race : ByteArray := prog_1_method_8_code
def yX5_race : MethodName := ⟨RX5, "race", "(II)I"⟩
abbrev cX5_enter : ByteArray := prog_1_method_9_code
def yX5_enter : MethodName := ⟨RX5, "enter", "(II)I"⟩
abbrev cX5_tell : ByteArray := prog_1_method_10_code
def yX5_tell : MethodName := ⟨RX5, "tell", "(IIIII)I"⟩
abbrev cX5_look : ByteArray := prog_1_method_11_code
def yX5_look : MethodName := ⟨RX5, "look", "(II)I"⟩
abbrev cX5_entry : ByteArray := prog_1_method_12_code
def yX5_entry : MethodName := ⟨RX5, "entry", "(II)I"⟩
abbrev cX5_time : ByteArray := prog_1_method_13_code
def yX5_time : MethodName := ⟨RX5, "time", "(IIII)I"⟩
abbrev cX5_split : ByteArray := prog_1_method_14_code
def yX5_split : MethodName := ⟨RX5, "split", "(IIII)I"⟩
abbrev cX5_order : ByteArray := prog_1_method_15_code
def yX5_order : MethodName := ⟨RX5, "order", "(III)I"⟩
abbrev cX5_points : ByteArray := prog_1_method_16_code
def yX5_points : MethodName := ⟨RX5, "points", "(II)I"⟩
abbrev cX5_standing : ByteArray := prog_1_method_17_code
def yX5_standing : MethodName := ⟨RX5, "standing", "(II)I"⟩
abbrev cX5_starters : ByteArray := prog_1_method_18_code
def yX5_starters : MethodName := ⟨RX5, "starters", "(II)I"⟩
abbrev cX5_count : ByteArray := prog_1_method_19_code
def yX5_count : MethodName := ⟨RX5, "count", "(I)I"⟩
abbrev cX5_raceAt : ByteArray := prog_1_method_20_code
def yX5_raceAt : MethodName := ⟨RX5, "raceAt", "(I)LSkiShots$Race;"⟩
abbrev cX5_isRacer : ByteArray := prog_1_method_21_code
def yX5_isRacer : MethodName := ⟨RX5, "isRacer", "(I)Z"⟩
abbrev cX5_isDay : ByteArray := prog_1_method_22_code
def yX5_isDay : MethodName := ⟨RX5, "isDay", "(I)Z"⟩
abbrev cX5_isNation : ByteArray := prog_1_method_23_code
def yX5_isNation : MethodName := ⟨RX5, "isNation", "(I)Z"⟩
abbrev cX5_isValue : ByteArray := prog_1_method_24_code
def yX5_isValue : MethodName := ⟨RX5, "isValue", "(II)Z"⟩
abbrev cX5_workOut : ByteArray := prog_1_method_25_code
def yX5_workOut : MethodName := ⟨RX5, "workOut", "(II)V"⟩
abbrev cX5_addUpCup : ByteArray := prog_1_method_26_code
def yX5_addUpCup : MethodName := ⟨RX5, "addUpCup", "(I)V"⟩
abbrev cX5_addToCup : ByteArray := prog_1_method_27_code
def yX5_addToCup : MethodName := ⟨RX5, "addToCup", "(LSkiShots$Race;)V"⟩
abbrev cX5_standingInCup : ByteArray := prog_1_method_28_code
def yX5_standingInCup : MethodName := ⟨RX5, "standingInCup", "(I)I"⟩
def RX6 : String := "SkiShotsModel"
def TX6 : u_T := fun k => match k with
  | 0 => ("SkiShotsModel", "tape", "[I", true)
  | 1 => ("SkiShotsModel", "tapeSize", "I", false)
  | 2 => ("SkiShotsModel", "thrown", "I", false)
  | 3 => ("SkiShotsModel", "today", "I", false)
  | 4 => ("SkiShotsModel", "formatMany", "I", false)
  | 5 => ("SkiShotsModel", "laps", "[I", true)
  | 6 => ("SkiShotsModel", "shootMany", "[I", true)
  | 7 => ("SkiShotsModel", "shoot", "[I", true)
  | 8 => ("SkiShotsModel", "spares", "[I", true)
  | 9 => ("SkiShotsModel", "isLoop", "[Z", true)
  | 10 => ("SkiShotsModel", "cost", "[I", true)
  | 11 => ("SkiShotsModel", "startHow", "[I", true)
  | 12 => ("SkiShotsModel", "startNumber", "[I", true)
  | 13 => ("SkiShotsModel", "fault", "I", false)
  | 14 => ("SkiShotsModel", "faultPlace", "I", false)
  | 15 => ("SkiShotsModel", "racers", "I", false)
  | 16 => ("SkiShotsModel", "nation", "[I", true)
  | 17 => ("SkiShotsModel", "races", "I", false)
  | 18 => ("SkiShotsModel", "rName", "[I", true)
  | 19 => ("SkiShotsModel", "rLaps", "[I", true)
  | 20 => ("SkiShotsModel", "rShoots", "[I", true)
  | 21 => ("SkiShotsModel", "rSpares", "[I", true)
  | 22 => ("SkiShotsModel", "rLoop", "[Z", true)
  | 23 => ("SkiShotsModel", "rCost", "[I", true)
  | 24 => ("SkiShotsModel", "rHow", "[I", true)
  | 25 => ("SkiShotsModel", "rNumber", "[I", true)
  | 26 => ("SkiShotsModel", "rBy", "[I", true)
  | 27 => ("SkiShotsModel", "rEntries", "[I", true)
  | 28 => ("SkiShotsModel", "rEvents", "[I", true)
  | 29 => ("SkiShotsModel", "entries", "[I", true)
  | 30 => ("SkiShotsModel", "entryOf", "[I", true)
  | 31 => ("SkiShotsModel", "told", "I", false)
  | 32 => ("SkiShotsModel", "tRace", "[I", true)
  | 33 => ("SkiShotsModel", "tRacer", "[I", true)
  | 34 => ("SkiShotsModel", "tSort", "[I", true)
  | 35 => ("SkiShotsModel", "tK", "[I", true)
  | 36 => ("SkiShotsModel", "tV", "[I", true)
  | 37 => ("SkiShotsModel", "tDay", "[I", true)
  | 38 => ("SkiShotsModel", "words", "[I", true)
  | 39 => ("SkiShotsModel", "size", "I", false)
  | 40 => ("SkiShotsModel", "next", "I", false)
  | 41 => ("SkiShotsModel", "kind", "I", false)
  | 42 => ("SkiShotsModel", "which", "I", false)
  | 43 => ("SkiShotsModel", "place", "I", false)
  | 44 => ("SkiShotsModel", "read", "I", false)
  | 45 => ("SkiShotsModel", "start", "[I", true)
  | 46 => ("SkiShotsModel", "low", "[I", true)
  | 47 => ("SkiShotsModel", "high", "[I", true)
  | 48 => ("SkiShotsModel", "missLow", "[I", true)
  | 49 => ("SkiShotsModel", "missHigh", "[I", true)
  | 50 => ("SkiShotsModel", "line", "[I", true)
  | _ => ("SkiShotsModel", "sums", "[I", true)
def tyX6 : Nat → FieldType := fun k => match k with
  | 0 => .array .int
  | 1 => .int
  | 2 => .int
  | 3 => .int
  | 4 => .int
  | 5 => .array .int
  | 6 => .array .int
  | 7 => .array .int
  | 8 => .array .int
  | 9 => .array .boolean
  | 10 => .array .int
  | 11 => .array .int
  | 12 => .array .int
  | 13 => .int
  | 14 => .int
  | 15 => .int
  | 16 => .array .int
  | 17 => .int
  | 18 => .array .int
  | 19 => .array .int
  | 20 => .array .int
  | 21 => .array .int
  | 22 => .array .boolean
  | 23 => .array .int
  | 24 => .array .int
  | 25 => .array .int
  | 26 => .array .int
  | 27 => .array .int
  | 28 => .array .int
  | 29 => .array .int
  | 30 => .array .int
  | 31 => .int
  | 32 => .array .int
  | 33 => .array .int
  | 34 => .array .int
  | 35 => .array .int
  | 36 => .array .int
  | 37 => .array .int
  | 38 => .array .int
  | 39 => .int
  | 40 => .int
  | 41 => .int
  | 42 => .int
  | 43 => .int
  | 44 => .int
  | 45 => .array .int
  | 46 => .array .int
  | 47 => .array .int
  | 48 => .array .int
  | 49 => .array .int
  | 50 => .array .int
  | _ => .array .int
abbrev wsX60 : List Cond := u_ws RX6 TX6 52
theorem nmX6 : ∀ a, a < 52 → ∀ b, b < 52 → a ≠ b → (TX6 a).2.1 ≠ (TX6 b).2.1 := by decide +kernel
theorem tyX6_ok : ∀ k, k < 52 → parseFieldDescriptor (TX6 k).2.2.1 = some (tyX6 k) := by decide +kernel
abbrev cX6_init : ByteArray := prog_8_method_1_code
def yX6_init : MethodName := ⟨RX6, "<init>", "()V"⟩
abbrev cX6_thrown : ByteArray := prog_8_method_2_code
def yX6_thrown : MethodName := ⟨RX6, "thrown", "()I"⟩
abbrev cX6_feed : ByteArray := prog_8_method_3_code
def yX6_feed : MethodName := ⟨RX6, "feed", "(IIIII)I"⟩
abbrev cX6_wrong : ByteArray := prog_8_method_4_code
def yX6_wrong : MethodName := ⟨RX6, "wrong", "(II)Z"⟩
abbrev cX6_wordAt : ByteArray := prog_8_method_5_code
def yX6_wordAt : MethodName := ⟨RX6, "wordAt", "(II)I"⟩
abbrev cX6_isSmall : ByteArray := prog_8_method_6_code
def yX6_isSmall : MethodName := ⟨RX6, "isSmall", "(I)Z"⟩
abbrev cX6_isDigit : ByteArray := prog_8_method_7_code
def yX6_isDigit : MethodName := ⟨RX6, "isDigit", "(I)Z"⟩
abbrev cX6_take : ByteArray := prog_8_method_8_code
def yX6_take : MethodName := ⟨RX6, "take", "()V"⟩
abbrev cX6_word : ByteArray := prog_8_method_9_code
def yX6_word : MethodName := ⟨RX6, "word", "(I)Z"⟩
abbrev cX6_sign : ByteArray := prog_8_method_10_code
def yX6_sign : MethodName := ⟨RX6, "sign", "(I)Z"⟩
abbrev cX6_number : ByteArray := prog_8_method_11_code
def yX6_number : MethodName := ⟨RX6, "number", "(II)Z"⟩
abbrev cX6_shots : ByteArray := prog_8_method_12_code
def yX6_shots : MethodName := ⟨RX6, "shots", "(I)Z"⟩
abbrev cX6_starts : ByteArray := prog_8_method_13_code
def yX6_starts : MethodName := ⟨RX6, "starts", "(I)Z"⟩
abbrev cX6_format : ByteArray := prog_8_method_14_code
def yX6_format : MethodName := ⟨RX6, "format", "()Z"⟩
abbrev cX6_formats : ByteArray := prog_8_method_15_code
def yX6_formats : MethodName := ⟨RX6, "formats", "(I)I"⟩
abbrev cX6_fault : ByteArray := prog_8_method_16_code
def yX6_fault : MethodName := ⟨RX6, "fault", "(I)I"⟩
abbrev cX6_pass : ByteArray := prog_8_method_17_code
def yX6_pass : MethodName := ⟨RX6, "pass", "(I)I"⟩
abbrev cX6_racer : ByteArray := prog_8_method_18_code
def yX6_racer : MethodName := ⟨RX6, "racer", "(I)I"⟩
abbrev cX6_isRace : ByteArray := prog_8_method_19_code
def yX6_isRace : MethodName := ⟨RX6, "isRace", "(I)Z"⟩
abbrev cX6_isRacer : ByteArray := prog_8_method_20_code
def yX6_isRacer : MethodName := ⟨RX6, "isRacer", "(I)Z"⟩
abbrev cX6_race : ByteArray := prog_8_method_21_code
def yX6_race : MethodName := ⟨RX6, "race", "(II)I"⟩
abbrev cX6_enter : ByteArray := prog_8_method_22_code
def yX6_enter : MethodName := ⟨RX6, "enter", "(II)I"⟩
abbrev cX6_isIn : ByteArray := prog_8_method_23_code
def yX6_isIn : MethodName := ⟨RX6, "isIn", "(II)Z"⟩
abbrev cX6_can : ByteArray := prog_8_method_24_code
def yX6_can : MethodName := ⟨RX6, "can", "(IIII)Z"⟩
abbrev cX6_tell : ByteArray := prog_8_method_25_code
def yX6_tell : MethodName := ⟨RX6, "tell", "(IIIII)I"⟩
abbrev cX6_fails : ByteArray := prog_8_method_26_code
def yX6_fails : MethodName := ⟨RX6, "fails", "(I)I"⟩
abbrev cX6_look : ByteArray := prog_8_method_27_code
def yX6_look : MethodName := ⟨RX6, "look", "(II)I"⟩
abbrev cX6_entry : ByteArray := prog_8_method_28_code
def yX6_entry : MethodName := ⟨RX6, "entry", "(II)I"⟩
abbrev cX6_known : ByteArray := prog_8_method_29_code
def yX6_known : MethodName := ⟨RX6, "known", "(IIIII)I"⟩
abbrev cX6_hits : ByteArray := prog_8_method_30_code
def yX6_hits : MethodName := ⟨RX6, "hits", "(I)I"⟩
abbrev cX6_least : ByteArray := prog_8_method_31_code
def yX6_least : MethodName := ⟨RX6, "least", "(I)I"⟩
abbrev cX6_startOf : ByteArray := prog_8_method_32_code
def yX6_startOf : MethodName := ⟨RX6, "startOf", "(II)I"⟩
abbrev cX6_work : ByteArray := prog_8_method_33_code
def yX6_work : MethodName := ⟨RX6, "work", "(III)V"⟩
abbrev cX6_workAll : ByteArray := prog_8_method_34_code
def yX6_workAll : MethodName := ⟨RX6, "workAll", "(II)V"⟩
abbrev cX6_placed : ByteArray := prog_8_method_35_code
def yX6_placed : MethodName := ⟨RX6, "placed", "(IIZ)I"⟩
abbrev cX6_isDay : ByteArray := prog_8_method_36_code
def yX6_isDay : MethodName := ⟨RX6, "isDay", "(I)Z"⟩
abbrev cX6_time : ByteArray := prog_8_method_37_code
def yX6_time : MethodName := ⟨RX6, "time", "(IIII)I"⟩
abbrev cX6_split : ByteArray := prog_8_method_38_code
def yX6_split : MethodName := ⟨RX6, "split", "(IIII)I"⟩
abbrev cX6_order : ByteArray := prog_8_method_39_code
def yX6_order : MethodName := ⟨RX6, "order", "(III)I"⟩
abbrev cX6_cup : ByteArray := prog_8_method_40_code
def yX6_cup : MethodName := ⟨RX6, "cup", "(I)V"⟩
abbrev cX6_stands : ByteArray := prog_8_method_41_code
def yX6_stands : MethodName := ⟨RX6, "stands", "(I)I"⟩
abbrev cX6_points : ByteArray := prog_8_method_42_code
def yX6_points : MethodName := ⟨RX6, "points", "(II)I"⟩
abbrev cX6_standing : ByteArray := prog_8_method_43_code
def yX6_standing : MethodName := ⟨RX6, "standing", "(II)I"⟩
abbrev cX6_starters : ByteArray := prog_8_method_44_code
def yX6_starters : MethodName := ⟨RX6, "starters", "(II)I"⟩
abbrev cX6_count : ByteArray := prog_8_method_45_code
def yX6_count : MethodName := ⟨RX6, "count", "(I)I"⟩
def RJ6 : String := "java/lang/Integer"
def TJ6 : u_T := fun k => match k with
  | _ => ("", "", "", false)
def tyJ6 : Nat → FieldType := fun k => match k with
  | _ => .int
abbrev wsJ60 : List Cond := u_ws RJ6 TJ6 0
theorem nmJ6 : ∀ a, a < 0 → ∀ b, b < 0 → a ≠ b → (TJ6 a).2.1 ≠ (TJ6 b).2.1 := by decide +kernel
theorem tyJ6_ok : ∀ k, k < 0 → parseFieldDescriptor (TJ6 k).2.2.1 = some (tyJ6 k) := by decide +kernel
abbrev cJ6_bitCount_0f7a4 : ByteArray := prog_11_method_49_code
def yJ6_bitCount_0f7a4 : MethodName := ⟨RJ6, "bitCount", "(I)I"⟩
def RJ9 : String := "java/lang/Math"
def TJ9 : u_T := fun k => match k with
  | _ => ("", "", "", false)
def tyJ9 : Nat → FieldType := fun k => match k with
  | _ => .int
abbrev wsJ90 : List Cond := u_ws RJ9 TJ9 0
theorem nmJ9 : ∀ a, a < 0 → ∀ b, b < 0 → a ≠ b → (TJ9 a).2.1 ≠ (TJ9 b).2.1 := by decide +kernel
theorem tyJ9_ok : ∀ k, k < 0 → parseFieldDescriptor (TJ9 k).2.2.1 = some (tyJ9 k) := by decide +kernel
abbrev cJ9_max_7cf53 : ByteArray := prog_12_method_65_code
def yJ9_max_7cf53 : MethodName := ⟨RJ9, "max", "(II)I"⟩
abbrev cJ9_min_7cf53 : ByteArray := prog_12_method_69_code
def yJ9_min_7cf53 : MethodName := ⟨RJ9, "min", "(II)I"⟩
def RJ0 : String := "java/lang/String"
def TJ0 : u_T := fun k => match k with
  | _ => ("", "", "", false)
def tyJ0 : Nat → FieldType := fun k => match k with
  | _ => .int
abbrev wsJ00 : List Cond := u_ws RJ0 TJ0 0
theorem nmJ0 : ∀ a, a < 0 → ∀ b, b < 0 → a ≠ b → (TJ0 a).2.1 ≠ (TJ0 b).2.1 := by decide +kernel
theorem tyJ0_ok : ∀ k, k < 0 → parseFieldDescriptor (TJ0 k).2.2.1 = some (tyJ0 k) := by decide +kernel
abbrev cJ0_length_8abf5 : ByteArray := prog_14_method_54_code
def yJ0_length_8abf5 : MethodName := ⟨RJ0, "length", "()I"⟩
abbrev cJ0_charAt_5068e : ByteArray := prog_14_method_56_code
def yJ0_charAt_5068e : MethodName := ⟨RJ0, "charAt", "(I)C"⟩
abbrev cJ0_coder_7d493 : ByteArray := prog_14_method_152_code
def yJ0_coder_7d493 : MethodName := ⟨RJ0, "coder", "()B"⟩
abbrev cJ0_isLatin1_aae02 : ByteArray := prog_14_method_154_code
def yJ0_isLatin1_aae02 : MethodName := ⟨RJ0, "isLatin1", "()Z"⟩
abbrev cJ0_checkIndex_df160 : ByteArray := prog_14_method_155_code
def yJ0_checkIndex_df160 : MethodName := ⟨RJ0, "checkIndex", "(II)V"⟩
def RJ1 : String := "java/lang/StringLatin1"
def TJ1 : u_T := fun k => match k with
  | _ => ("", "", "", false)
def tyJ1 : Nat → FieldType := fun k => match k with
  | _ => .int
abbrev wsJ10 : List Cond := u_ws RJ1 TJ1 0
theorem nmJ1 : ∀ a, a < 0 → ∀ b, b < 0 → a ≠ b → (TJ1 a).2.1 ≠ (TJ1 b).2.1 := by decide +kernel
theorem tyJ1_ok : ∀ k, k < 0 → parseFieldDescriptor (TJ1 k).2.2.1 = some (tyJ1 k) := by decide +kernel
abbrev cJ1_charAt_3b067 : ByteArray := prog_15_method_2_code
def yJ1_charAt_3b067 : MethodName := ⟨RJ1, "charAt", "([BI)C"⟩
def RJ2 : String := "java/lang/StringUTF16"
def TJ2 : u_T := fun k => match k with
  | _ => ("", "", "", false)
def tyJ2 : Nat → FieldType := fun k => match k with
  | _ => .int
abbrev wsJ20 : List Cond := u_ws RJ2 TJ2 0
theorem nmJ2 : ∀ a, a < 0 → ∀ b, b < 0 → a ≠ b → (TJ2 a).2.1 ≠ (TJ2 b).2.1 := by decide +kernel
theorem tyJ2_ok : ∀ k, k < 0 → parseFieldDescriptor (TJ2 k).2.2.1 = some (tyJ2 k) := by decide +kernel
abbrev cJ2_getChar_3b067 : ByteArray := prog_16_method_5_code
def yJ2_getChar_3b067 : MethodName := ⟨RJ2, "getChar", "([BI)C"⟩
abbrev cJ2_length_9d52b : ByteArray := prog_16_method_6_code
def yJ2_length_9d52b : MethodName := ⟨RJ2, "length", "([B)I"⟩
abbrev cJ2_charAt_3b067 : ByteArray := prog_16_method_83_code
def yJ2_charAt_3b067 : MethodName := ⟨RJ2, "charAt", "([BI)C"⟩
abbrev cJ2_checkIndex_2214a : ByteArray := prog_16_method_91_code
def yJ2_checkIndex_2214a : MethodName := ⟨RJ2, "checkIndex", "(I[B)V"⟩
def RJ3 : String := "jdk/internal/util/Preconditions"
def TJ3 : u_T := fun k => match k with
  | _ => ("", "", "", false)
def tyJ3 : Nat → FieldType := fun k => match k with
  | _ => .int
abbrev wsJ30 : List Cond := u_ws RJ3 TJ3 0
theorem nmJ3 : ∀ a, a < 0 → ∀ b, b < 0 → a ≠ b → (TJ3 a).2.1 ≠ (TJ3 b).2.1 := by decide +kernel
theorem tyJ3_ok : ∀ k, k < 0 → parseFieldDescriptor (TJ3 k).2.2.1 = some (tyJ3 k) := by decide +kernel
abbrev cJ3_checkIndex_8e157 : ByteArray := prog_19_method_11_code
def yJ3_checkIndex_8e157 : MethodName := ⟨RJ3, "checkIndex", "(IILjava/util/function/BiFunction;)I"⟩
def RL : String := "SkiShotsLaw"
abbrev cL_look : ByteArray := method_3_code
def yL_look : MethodName := ⟨RL, "look", "(LSkiShots;II[J)I"⟩
abbrev cL_law : ByteArray := code
def yL_law : MethodName := ⟨RL, "law", "([I)Z"⟩
def wsX0_init : List Cond := .code yX0_init cX0_init 2 none :: ([.methodLink RX0 3 objectInit, .instanceMethod objectInit, .code objectInit ⟨#[0xb1]⟩ 1 none, .fieldLink RX0 9 "SkiShots$Entry" "racer" "I"] ++ wsX00)
def wsX0_known : List Cond := .code yX0_known cX0_known 5 (some .int) :: ([.fieldLink RX0 15 "SkiShots$Entry" "latest" "LSkiShots$Event;", .fieldLink RX0 19 "SkiShots$Event" "day" "I", .fieldLink RX0 24 "SkiShots$Event" "sort" "I", .fieldLink RX0 27 "SkiShots$Event" "k" "I", .fieldLink RX0 30 "SkiShots$Event" "v" "I", .fieldLink RX0 33 "SkiShots$Event" "before" "LSkiShots$Event;"] ++ wsX00 ++ wsX10)
def wsX0_sinceStart : List Cond := .code yX0_sinceStart cX0_sinceStart 2 (some .int) :: ([.fieldLink RX0 36 "SkiShots$Entry" "start" "I"] ++ wsX00)
def wsX0_hasTime : List Cond := .code yX0_hasTime cX0_hasTime 1 (some .boolean) :: ([.fieldLink RX0 39 "SkiShots$Entry" "low" "I"] ++ wsX00)
def wsJ6_bitCount_0f7a4 : List Cond := .code yJ6_bitCount_0f7a4 cJ6_bitCount_0f7a4 1 (some .int) :: ([.constant RJ6 265 (1431655765), .constant RJ6 266 (858993459), .constant RJ6 267 (252645135)])
def wsX0_addShooting_r1 : List Cond := [Cond.fieldLink RX0 86 "SkiShots$Format" "loops" "Z", Cond.fieldLink RX0 89 "SkiShots$Format" "missSeconds" "I", Cond.fieldLink RX0 50 "SkiShots$Entry" "fewestMisses" "I", Cond.fieldLink RX0 53 "SkiShots$Entry" "mostMisses" "I", Cond.fieldLink RX0 56 "SkiShots$Entry" "leastPenalty" "I", Cond.methodLink RX0 92 Lib.Math.max.name, Cond.static Lib.Math.max.name, Cond.initialized "java/lang/Math", Cond.code Lib.Math.max.name Lib.Math.max.code 2 (some .int), Cond.fieldLink RX0 59 "SkiShots$Entry" "greatestPenalty" "I", Cond.methodLink RX0 42 yX0_known, Cond.instanceMethod yX0_known, Cond.selects RX0 yX0_known yX0_known, Cond.initialized RX0, Cond.code yX0_known cX0_known 5 (some .int), Cond.fieldLink RX0 15 "SkiShots$Entry" "latest" "LSkiShots$Event;", Cond.fieldLink RX0 19 "SkiShots$Event" "day" "I", Cond.fieldLink RX0 24 "SkiShots$Event" "sort" "I", Cond.fieldLink RX0 27 "SkiShots$Event" "k" "I", Cond.fieldLink RX0 30 "SkiShots$Event" "v" "I", Cond.fieldLink RX0 33 "SkiShots$Event" "before" "LSkiShots$Event;", Cond.methodLink RX0 81 yJ6_bitCount_0f7a4, Cond.static yJ6_bitCount_0f7a4, Cond.initialized RJ6]
def wsX0_addShooting_r2 : List Cond := [Cond.code yJ6_bitCount_0f7a4 cJ6_bitCount_0f7a4 1 (some .int), Cond.constant RJ6 265 (1431655765), Cond.constant RJ6 266 (858993459), Cond.constant RJ6 267 (252645135)]
def wsX0_addShooting : List Cond := .code yX0_addShooting cX0_addShooting 11 none :: ((wsX0_addShooting_r1 ++ wsX0_addShooting_r2) ++ wsX20 ++ wsX00 ++ wsX10)
def wsX0_workOut_r1 : List Cond := [Cond.fieldLink RX0 36 "SkiShots$Entry" "start" "I", Cond.fieldLink RX0 46 "SkiShots$Entry" "struck" "Z", Cond.fieldLink RX0 50 "SkiShots$Entry" "fewestMisses" "I", Cond.fieldLink RX0 53 "SkiShots$Entry" "mostMisses" "I", Cond.fieldLink RX0 56 "SkiShots$Entry" "leastPenalty" "I", Cond.fieldLink RX0 59 "SkiShots$Entry" "greatestPenalty" "I", Cond.fieldLink RX0 62 "SkiShots$Format" "shootings" "I", Cond.fieldLink RX0 71 "SkiShots$Format" "laps" "I", Cond.fieldLink RX0 39 "SkiShots$Entry" "low" "I", Cond.fieldLink RX0 78 "SkiShots$Entry" "high" "I", Cond.methodLink RX0 42 yX0_known, Cond.instanceMethod yX0_known, Cond.selects RX0 yX0_known yX0_known, Cond.initialized RX0, Cond.code yX0_known cX0_known 5 (some .int), Cond.fieldLink RX0 15 "SkiShots$Entry" "latest" "LSkiShots$Event;", Cond.fieldLink RX0 19 "SkiShots$Event" "day" "I", Cond.fieldLink RX0 24 "SkiShots$Event" "sort" "I", Cond.fieldLink RX0 27 "SkiShots$Event" "k" "I", Cond.fieldLink RX0 30 "SkiShots$Event" "v" "I", Cond.fieldLink RX0 33 "SkiShots$Event" "before" "LSkiShots$Event;", Cond.methodLink RX0 67 yX0_addShooting, Cond.instanceMethod yX0_addShooting, Cond.selects RX0 yX0_addShooting yX0_addShooting]
def wsX0_workOut_r2 : List Cond := [Cond.code yX0_addShooting cX0_addShooting 11 none, Cond.fieldLink RX0 86 "SkiShots$Format" "loops" "Z", Cond.fieldLink RX0 89 "SkiShots$Format" "missSeconds" "I", Cond.methodLink RX0 92 Lib.Math.max.name, Cond.static Lib.Math.max.name, Cond.initialized "java/lang/Math", Cond.code Lib.Math.max.name Lib.Math.max.code 2 (some .int), Cond.methodLink RX0 81 yJ6_bitCount_0f7a4, Cond.static yJ6_bitCount_0f7a4, Cond.initialized RJ6, Cond.code yJ6_bitCount_0f7a4 cJ6_bitCount_0f7a4 1 (some .int), Cond.constant RJ6 265 (1431655765), Cond.constant RJ6 266 (858993459), Cond.constant RJ6 267 (252645135), Cond.methodLink RX0 74 yX0_sinceStart, Cond.instanceMethod yX0_sinceStart, Cond.selects RX0 yX0_sinceStart yX0_sinceStart, Cond.code yX0_sinceStart cX0_sinceStart 2 (some .int)]
def wsX0_workOut : List Cond := .code yX0_workOut cX0_workOut 5 none :: ((wsX0_workOut_r1 ++ wsX0_workOut_r2) ++ wsX00 ++ wsX20 ++ wsX10)
def wsX1_init : List Cond := .code yX1_init cX1_init 6 none :: ([.methodLink RX1 1 objectInit, .instanceMethod objectInit, .code objectInit ⟨#[0xb1]⟩ 1 none, .fieldLink RX1 7 "SkiShots$Event" "day" "I", .fieldLink RX1 13 "SkiShots$Event" "sort" "I", .fieldLink RX1 16 "SkiShots$Event" "k" "I", .fieldLink RX1 19 "SkiShots$Event" "v" "I", .fieldLink RX1 22 "SkiShots$Event" "before" "LSkiShots$Event;"] ++ wsX10)
def wsX2_init : List Cond := .code yX2_init cX2_init 2 none :: ([.methodLink RX2 3 objectInit, .instanceMethod objectInit, .code objectInit ⟨#[0xb1]⟩ 1 none, .fieldLink RX2 9 "SkiShots$Format" "name" "I"] ++ wsX20)
def wsX2_hasEvent : List Cond := .code yX2_hasEvent cX2_hasEvent 3 (some .boolean) :: ([.fieldLink RX2 15 "SkiShots$Format" "laps" "I", .fieldLink RX2 18 "SkiShots$Format" "shootings" "I"] ++ wsX20)
def wsX3_init : List Cond := .code yX3_init cX3_init 4 none :: ([.methodLink RX3 3 objectInit, .instanceMethod objectInit, .code objectInit ⟨#[0xb1]⟩ 1 none, .fieldLink RX3 9 "SkiShots$Race" "format" "LSkiShots$Format;", .fieldLink RX3 15 "SkiShots$Race" "by" "LSkiShots$Race;", .fieldLink RX3 19 "SkiShots$Race" "byNumber" "I", .classLink RX3 23 RX0, .fieldLink RX3 25 "SkiShots$Race" "entries" "[LSkiShots$Entry;"] ++ wsX30)
def wsX3_add : List Cond := .code yX3_add cX3_add 2 none :: ([.fieldLink RX3 29 "SkiShots$Race" "entryCount" "I", .fieldLink RX3 25 "SkiShots$Race" "entries" "[LSkiShots$Entry;", .classLink RX3 23 RX0, .instantiable RX0 10, .initialized RX0, .methodLink RX3 32 yX0_init, .instanceMethod yX0_init, .code yX0_init cX0_init 2 none, .methodLink RX0 3 objectInit, .instanceMethod objectInit, .code objectInit ⟨#[0xb1]⟩ 1 none, .fieldLink RX0 9 "SkiShots$Entry" "racer" "I"] ++ wsX30 ++ wsX00)
def wsX3_entryOf : List Cond := .code yX3_entryOf cX3_entryOf 3 (some (.object "SkiShots$Entry")) :: ([.fieldLink RX3 29 "SkiShots$Race" "entryCount" "I", .fieldLink RX3 25 "SkiShots$Race" "entries" "[LSkiShots$Entry;", .fieldLink RX3 35 "SkiShots$Entry" "racer" "I"] ++ wsX30 ++ wsX00)
def wsX3_chaseStart : List Cond := .code yX3_chaseStart cX3_chaseStart 4 (some .int) :: ([.fieldLink RX3 15 "SkiShots$Race" "by" "LSkiShots$Race;", .fieldLink RX3 53 "SkiShots$Entry" "low" "I", .fieldLink RX3 38 "SkiShots$Race" "leastLow" "I", .fieldLink RX3 9 "SkiShots$Race" "format" "LSkiShots$Format;", .fieldLink RX3 61 "SkiShots$Format" "startSeconds" "I", .methodLink RX3 71 Lib.Math.min.name, .static Lib.Math.min.name, .initialized "java/lang/Math", .code Lib.Math.min.name Lib.Math.min.code 2 (some .int), .methodLink RX3 67 yX3_entryOf, .instanceMethod yX3_entryOf, .selects RX3 yX3_entryOf yX3_entryOf, .initialized RX3, .code yX3_entryOf cX3_entryOf 3 (some (.object "SkiShots$Entry")), .fieldLink RX3 29 "SkiShots$Race" "entryCount" "I", .fieldLink RX3 25 "SkiShots$Race" "entries" "[LSkiShots$Entry;", .fieldLink RX3 35 "SkiShots$Entry" "racer" "I", .methodLink RX3 49 yX0_hasTime, .instanceMethod yX0_hasTime, .selects RX0 yX0_hasTime yX0_hasTime, .initialized RX0, .code yX0_hasTime cX0_hasTime 1 (some .boolean), .fieldLink RX0 39 "SkiShots$Entry" "low" "I"] ++ wsX30 ++ wsX00 ++ wsX20)
def wsX3_startOf_r1 : List Cond := [Cond.fieldLink RX3 9 "SkiShots$Race" "format" "LSkiShots$Format;", Cond.fieldLink RX3 56 "SkiShots$Format" "startSort" "I", Cond.fieldLink RX3 61 "SkiShots$Format" "startSeconds" "I", Cond.fieldLink RX3 25 "SkiShots$Race" "entries" "[LSkiShots$Entry;", Cond.fieldLink RX3 35 "SkiShots$Entry" "racer" "I", Cond.methodLink RX3 64 yX3_chaseStart, Cond.instanceMethod yX3_chaseStart, Cond.selects RX3 yX3_chaseStart yX3_chaseStart, Cond.initialized RX3, Cond.code yX3_chaseStart cX3_chaseStart 4 (some .int), Cond.fieldLink RX3 15 "SkiShots$Race" "by" "LSkiShots$Race;", Cond.fieldLink RX3 53 "SkiShots$Entry" "low" "I", Cond.fieldLink RX3 38 "SkiShots$Race" "leastLow" "I", Cond.methodLink RX3 71 Lib.Math.min.name, Cond.static Lib.Math.min.name, Cond.initialized "java/lang/Math", Cond.code Lib.Math.min.name Lib.Math.min.code 2 (some .int), Cond.methodLink RX3 67 yX3_entryOf, Cond.instanceMethod yX3_entryOf, Cond.selects RX3 yX3_entryOf yX3_entryOf, Cond.code yX3_entryOf cX3_entryOf 3 (some (.object "SkiShots$Entry")), Cond.fieldLink RX3 29 "SkiShots$Race" "entryCount" "I", Cond.methodLink RX3 49 yX0_hasTime, Cond.instanceMethod yX0_hasTime]
def wsX3_startOf_r2 : List Cond := [Cond.selects RX0 yX0_hasTime yX0_hasTime, Cond.initialized RX0, Cond.code yX0_hasTime cX0_hasTime 1 (some .boolean), Cond.fieldLink RX0 39 "SkiShots$Entry" "low" "I"]
def wsX3_startOf : List Cond := .code yX3_startOf cX3_startOf 2 (some .int) :: ((wsX3_startOf_r1 ++ wsX3_startOf_r2) ++ wsX30 ++ wsX20 ++ wsX00)
def wsX3_workOut_r1 : List Cond := [Cond.fieldLink RX3 38 "SkiShots$Race" "leastLow" "I", Cond.fieldLink RX3 29 "SkiShots$Race" "entryCount" "I", Cond.fieldLink RX3 25 "SkiShots$Race" "entries" "[LSkiShots$Entry;", Cond.fieldLink RX3 9 "SkiShots$Race" "format" "LSkiShots$Format;", Cond.fieldLink RX3 53 "SkiShots$Entry" "low" "I", Cond.methodLink RX3 41 yX3_startOf, Cond.instanceMethod yX3_startOf, Cond.selects RX3 yX3_startOf yX3_startOf, Cond.initialized RX3, Cond.code yX3_startOf cX3_startOf 2 (some .int), Cond.fieldLink RX3 56 "SkiShots$Format" "startSort" "I", Cond.fieldLink RX3 61 "SkiShots$Format" "startSeconds" "I", Cond.fieldLink RX3 35 "SkiShots$Entry" "racer" "I", Cond.methodLink RX3 64 yX3_chaseStart, Cond.instanceMethod yX3_chaseStart, Cond.selects RX3 yX3_chaseStart yX3_chaseStart, Cond.code yX3_chaseStart cX3_chaseStart 4 (some .int), Cond.fieldLink RX3 15 "SkiShots$Race" "by" "LSkiShots$Race;", Cond.methodLink RX3 71 Lib.Math.min.name, Cond.static Lib.Math.min.name, Cond.initialized "java/lang/Math", Cond.code Lib.Math.min.name Lib.Math.min.code 2 (some .int), Cond.methodLink RX3 67 yX3_entryOf, Cond.instanceMethod yX3_entryOf]
def wsX3_workOut_r2 : List Cond := [Cond.selects RX3 yX3_entryOf yX3_entryOf, Cond.code yX3_entryOf cX3_entryOf 3 (some (.object "SkiShots$Entry")), Cond.methodLink RX3 49 yX0_hasTime, Cond.instanceMethod yX0_hasTime, Cond.selects RX0 yX0_hasTime yX0_hasTime, Cond.initialized RX0, Cond.code yX0_hasTime cX0_hasTime 1 (some .boolean), Cond.fieldLink RX0 39 "SkiShots$Entry" "low" "I", Cond.methodLink RX3 45 yX0_workOut, Cond.instanceMethod yX0_workOut, Cond.selects RX0 yX0_workOut yX0_workOut, Cond.code yX0_workOut cX0_workOut 5 none, Cond.fieldLink RX0 36 "SkiShots$Entry" "start" "I", Cond.fieldLink RX0 46 "SkiShots$Entry" "struck" "Z", Cond.fieldLink RX0 50 "SkiShots$Entry" "fewestMisses" "I", Cond.fieldLink RX0 53 "SkiShots$Entry" "mostMisses" "I", Cond.fieldLink RX0 56 "SkiShots$Entry" "leastPenalty" "I", Cond.fieldLink RX0 59 "SkiShots$Entry" "greatestPenalty" "I", Cond.fieldLink RX0 62 "SkiShots$Format" "shootings" "I", Cond.fieldLink RX0 71 "SkiShots$Format" "laps" "I", Cond.fieldLink RX0 78 "SkiShots$Entry" "high" "I", Cond.methodLink RX0 42 yX0_known, Cond.instanceMethod yX0_known, Cond.selects RX0 yX0_known yX0_known]
def wsX3_workOut_r3 : List Cond := [Cond.code yX0_known cX0_known 5 (some .int), Cond.fieldLink RX0 15 "SkiShots$Entry" "latest" "LSkiShots$Event;", Cond.fieldLink RX0 19 "SkiShots$Event" "day" "I", Cond.fieldLink RX0 24 "SkiShots$Event" "sort" "I", Cond.fieldLink RX0 27 "SkiShots$Event" "k" "I", Cond.fieldLink RX0 30 "SkiShots$Event" "v" "I", Cond.fieldLink RX0 33 "SkiShots$Event" "before" "LSkiShots$Event;", Cond.methodLink RX0 67 yX0_addShooting, Cond.instanceMethod yX0_addShooting, Cond.selects RX0 yX0_addShooting yX0_addShooting, Cond.code yX0_addShooting cX0_addShooting 11 none, Cond.fieldLink RX0 86 "SkiShots$Format" "loops" "Z", Cond.fieldLink RX0 89 "SkiShots$Format" "missSeconds" "I", Cond.methodLink RX0 92 Lib.Math.max.name, Cond.static Lib.Math.max.name, Cond.code Lib.Math.max.name Lib.Math.max.code 2 (some .int), Cond.methodLink RX0 81 yJ6_bitCount_0f7a4, Cond.static yJ6_bitCount_0f7a4, Cond.initialized RJ6, Cond.code yJ6_bitCount_0f7a4 cJ6_bitCount_0f7a4 1 (some .int), Cond.constant RJ6 265 (1431655765), Cond.constant RJ6 266 (858993459), Cond.constant RJ6 267 (252645135), Cond.methodLink RX0 74 yX0_sinceStart]
def wsX3_workOut_r4 : List Cond := [Cond.instanceMethod yX0_sinceStart, Cond.selects RX0 yX0_sinceStart yX0_sinceStart, Cond.code yX0_sinceStart cX0_sinceStart 2 (some .int)]
def wsX3_workOut : List Cond := .code yX3_workOut cX3_workOut 4 none :: ((wsX3_workOut_r1 ++ (wsX3_workOut_r2 ++ (wsX3_workOut_r3 ++ wsX3_workOut_r4))) ++ wsX30 ++ wsX00 ++ wsX20 ++ wsX10)
def wsX3_firstPlace : List Cond := .code yX3_firstPlace cX3_firstPlace 5 (some .int) :: ([.fieldLink RX3 29 "SkiShots$Race" "entryCount" "I", .fieldLink RX3 25 "SkiShots$Race" "entries" "[LSkiShots$Entry;", .fieldLink RX3 77 "SkiShots$Entry" "high" "I", .fieldLink RX3 53 "SkiShots$Entry" "low" "I", .methodLink RX3 49 yX0_hasTime, .instanceMethod yX0_hasTime, .selects RX0 yX0_hasTime yX0_hasTime, .initialized RX0, .code yX0_hasTime cX0_hasTime 1 (some .boolean), .fieldLink RX0 39 "SkiShots$Entry" "low" "I"] ++ wsX30 ++ wsX00)
def wsX3_lastPlace : List Cond := .code yX3_lastPlace cX3_lastPlace 5 (some .int) :: ([.fieldLink RX3 29 "SkiShots$Race" "entryCount" "I", .fieldLink RX3 25 "SkiShots$Race" "entries" "[LSkiShots$Entry;", .fieldLink RX3 53 "SkiShots$Entry" "low" "I", .fieldLink RX3 77 "SkiShots$Entry" "high" "I", .methodLink RX3 49 yX0_hasTime, .instanceMethod yX0_hasTime, .selects RX0 yX0_hasTime yX0_hasTime, .initialized RX0, .code yX0_hasTime cX0_hasTime 1 (some .boolean), .fieldLink RX0 39 "SkiShots$Entry" "low" "I"] ++ wsX30 ++ wsX00)
def wsX3_aheadInOrder : List Cond := .code yX3_aheadInOrder cX3_aheadInOrder 5 (some .int) :: ([.fieldLink RX3 29 "SkiShots$Race" "entryCount" "I", .fieldLink RX3 25 "SkiShots$Race" "entries" "[LSkiShots$Entry;", .fieldLink RX3 53 "SkiShots$Entry" "low" "I"] ++ wsX30 ++ wsX00)
def wsX4_init : List Cond := .code yX4_init cX4_init 3 none :: ([.methodLink RX4 3 objectInit, .instanceMethod objectInit, .code objectInit ⟨#[0xb1]⟩ 1 none, .fieldLink RX4 9 "SkiShots$Reader" "text" "[B", .methodLink RX4 15 Lib.Math.min.name, .static Lib.Math.min.name, .initialized "java/lang/Math", .code Lib.Math.min.name Lib.Math.min.code 2 (some .int), .fieldLink RX4 21 "SkiShots$Reader" "length" "I", .classLink RX4 25 RX2, .fieldLink RX4 27 "SkiShots$Reader" "found" "[LSkiShots$Format;", .fieldLink RX4 31 "SkiShots$Reader" "faultPlace" "I"] ++ wsX40)
def wsX4_sortAt : List Cond := .code yX4_sortAt cX4_sortAt 3 (some .int) :: ([.fieldLink RX4 21 "SkiShots$Reader" "length" "I", .fieldLink RX4 9 "SkiShots$Reader" "text" "[B"] ++ wsX40)
def wsX4_step : List Cond := .code yX4_step cX4_step 1 none :: ([.fieldLink RX4 133 "SkiShots$Reader" "behind" "I", .fieldLink RX4 54 "SkiShots$Reader" "place" "I", .fieldLink RX4 21 "SkiShots$Reader" "length" "I", .fieldLink RX4 37 "SkiShots$Reader" "sort" "I", .methodLink RX4 15 Lib.Math.min.name, .static Lib.Math.min.name, .initialized "java/lang/Math", .code Lib.Math.min.name Lib.Math.min.code 2 (some .int), .methodLink RX4 149 yX4_sortAt, .instanceMethod yX4_sortAt, .selects RX4 yX4_sortAt yX4_sortAt, .initialized RX4, .code yX4_sortAt cX4_sortAt 3 (some .int), .fieldLink RX4 9 "SkiShots$Reader" "text" "[B"] ++ wsX40)
def wsJ0_coder_7d493 : List Cond := .code yJ0_coder_7d493 cJ0_coder_7d493 1 (some .byte) :: ([.fieldLink RJ0 38 "java/lang/String" "COMPACT_STRINGS" "Z", .fieldLink RJ0 15 "java/lang/String" "coder" "B"])
def wsJ0_length_8abf5 : List Cond := .code yJ0_length_8abf5 cJ0_length_8abf5 1 (some .int) :: ([.fieldLink RJ0 9 "java/lang/String" "value" "[B", .methodLink RJ0 335 yJ0_coder_7d493, .instanceMethod yJ0_coder_7d493, .selects RJ0 yJ0_coder_7d493 yJ0_coder_7d493, .initialized RJ0, .code yJ0_coder_7d493 cJ0_coder_7d493 1 (some .byte), .fieldLink RJ0 38 "java/lang/String" "COMPACT_STRINGS" "Z", .fieldLink RJ0 15 "java/lang/String" "coder" "B"])
def wsJ0_isLatin1_aae02 : List Cond := .code yJ0_isLatin1_aae02 cJ0_isLatin1_aae02 1 (some .boolean) :: ([.fieldLink RJ0 38 "java/lang/String" "COMPACT_STRINGS" "Z", .fieldLink RJ0 15 "java/lang/String" "coder" "B"])
def wsJ3_checkIndex_8e157 : List Cond := .code yJ3_checkIndex_8e157 cJ3_checkIndex_8e157 3 (some .int) :: ([])
def wsJ0_checkIndex_df160 : List Cond := .code yJ0_checkIndex_df160 cJ0_checkIndex_df160 2 none :: ([.fieldLink RJ0 1053 "jdk/internal/util/Preconditions" "SIOOBE_FORMATTER" "Ljava/util/function/BiFunction;", .methodLink RJ0 1059 yJ3_checkIndex_8e157, .static yJ3_checkIndex_8e157, .initialized RJ3, .code yJ3_checkIndex_8e157 cJ3_checkIndex_8e157 3 (some .int)])
def wsJ1_charAt_3b067 : List Cond := .code yJ1_charAt_3b067 cJ1_charAt_3b067 2 (some .char) :: ([.methodLink RJ1 9 yJ0_checkIndex_df160, .static yJ0_checkIndex_df160, .initialized RJ0, .code yJ0_checkIndex_df160 cJ0_checkIndex_df160 2 none, .fieldLink RJ0 1053 "jdk/internal/util/Preconditions" "SIOOBE_FORMATTER" "Ljava/util/function/BiFunction;", .methodLink RJ0 1059 yJ3_checkIndex_8e157, .static yJ3_checkIndex_8e157, .initialized RJ3, .code yJ3_checkIndex_8e157 cJ3_checkIndex_8e157 3 (some .int)])
def wsJ2_length_9d52b : List Cond := .code yJ2_length_9d52b cJ2_length_9d52b 1 (some .int) :: ([])
def wsJ2_checkIndex_2214a : List Cond := .code yJ2_checkIndex_2214a cJ2_checkIndex_2214a 2 none :: ([.methodLink RJ2 48 yJ2_length_9d52b, .static yJ2_length_9d52b, .initialized RJ2, .code yJ2_length_9d52b cJ2_length_9d52b 1 (some .int), .methodLink RJ2 414 yJ0_checkIndex_df160, .static yJ0_checkIndex_df160, .initialized RJ0, .code yJ0_checkIndex_df160 cJ0_checkIndex_df160 2 none, .fieldLink RJ0 1053 "jdk/internal/util/Preconditions" "SIOOBE_FORMATTER" "Ljava/util/function/BiFunction;", .methodLink RJ0 1059 yJ3_checkIndex_8e157, .static yJ3_checkIndex_8e157, .initialized RJ3, .code yJ3_checkIndex_8e157 cJ3_checkIndex_8e157 3 (some .int)])
def wsJ2_getChar_3b067 : List Cond := .code yJ2_getChar_3b067 cJ2_getChar_3b067 2 (some .char) :: ([.fieldLink RJ2 44 "java/lang/StringUTF16" "$assertionsDisabled" "Z", .fieldLink RJ2 59 "java/lang/StringUTF16" "HI_BYTE_SHIFT" "I", .fieldLink RJ2 63 "java/lang/StringUTF16" "LO_BYTE_SHIFT" "I", .methodLink RJ2 48 yJ2_length_9d52b, .static yJ2_length_9d52b, .initialized RJ2, .code yJ2_length_9d52b cJ2_length_9d52b 1 (some .int)])
def wsJ2_charAt_3b067 : List Cond := .code yJ2_charAt_3b067 cJ2_charAt_3b067 2 (some .char) :: ([.methodLink RJ2 67 yJ2_checkIndex_2214a, .static yJ2_checkIndex_2214a, .initialized RJ2, .code yJ2_checkIndex_2214a cJ2_checkIndex_2214a 2 none, .methodLink RJ2 48 yJ2_length_9d52b, .static yJ2_length_9d52b, .code yJ2_length_9d52b cJ2_length_9d52b 1 (some .int), .methodLink RJ2 414 yJ0_checkIndex_df160, .static yJ0_checkIndex_df160, .initialized RJ0, .code yJ0_checkIndex_df160 cJ0_checkIndex_df160 2 none, .fieldLink RJ0 1053 "jdk/internal/util/Preconditions" "SIOOBE_FORMATTER" "Ljava/util/function/BiFunction;", .methodLink RJ0 1059 yJ3_checkIndex_8e157, .static yJ3_checkIndex_8e157, .initialized RJ3, .code yJ3_checkIndex_8e157 cJ3_checkIndex_8e157 3 (some .int), .methodLink RJ2 71 yJ2_getChar_3b067, .static yJ2_getChar_3b067, .code yJ2_getChar_3b067 cJ2_getChar_3b067 2 (some .char), .fieldLink RJ2 44 "java/lang/StringUTF16" "$assertionsDisabled" "Z", .fieldLink RJ2 59 "java/lang/StringUTF16" "HI_BYTE_SHIFT" "I", .fieldLink RJ2 63 "java/lang/StringUTF16" "LO_BYTE_SHIFT" "I"])
def wsJ0_charAt_5068e_r1 : List Cond := [Cond.fieldLink RJ0 9 "java/lang/String" "value" "[B", Cond.methodLink RJ0 492 yJ0_isLatin1_aae02, Cond.instanceMethod yJ0_isLatin1_aae02, Cond.selects RJ0 yJ0_isLatin1_aae02 yJ0_isLatin1_aae02, Cond.initialized RJ0, Cond.code yJ0_isLatin1_aae02 cJ0_isLatin1_aae02 1 (some .boolean), Cond.fieldLink RJ0 38 "java/lang/String" "COMPACT_STRINGS" "Z", Cond.fieldLink RJ0 15 "java/lang/String" "coder" "B", Cond.methodLink RJ0 495 yJ1_charAt_3b067, Cond.static yJ1_charAt_3b067, Cond.initialized RJ1, Cond.code yJ1_charAt_3b067 cJ1_charAt_3b067 2 (some .char), Cond.methodLink RJ1 9 yJ0_checkIndex_df160, Cond.static yJ0_checkIndex_df160, Cond.code yJ0_checkIndex_df160 cJ0_checkIndex_df160 2 none, Cond.fieldLink RJ0 1053 "jdk/internal/util/Preconditions" "SIOOBE_FORMATTER" "Ljava/util/function/BiFunction;", Cond.methodLink RJ0 1059 yJ3_checkIndex_8e157, Cond.static yJ3_checkIndex_8e157, Cond.initialized RJ3, Cond.code yJ3_checkIndex_8e157 cJ3_checkIndex_8e157 3 (some .int), Cond.methodLink RJ0 498 yJ2_charAt_3b067, Cond.static yJ2_charAt_3b067, Cond.initialized RJ2, Cond.code yJ2_charAt_3b067 cJ2_charAt_3b067 2 (some .char)]
def wsJ0_charAt_5068e_r2 : List Cond := [Cond.methodLink RJ2 67 yJ2_checkIndex_2214a, Cond.static yJ2_checkIndex_2214a, Cond.code yJ2_checkIndex_2214a cJ2_checkIndex_2214a 2 none, Cond.methodLink RJ2 48 yJ2_length_9d52b, Cond.static yJ2_length_9d52b, Cond.code yJ2_length_9d52b cJ2_length_9d52b 1 (some .int), Cond.methodLink RJ2 414 yJ0_checkIndex_df160, Cond.methodLink RJ2 71 yJ2_getChar_3b067, Cond.static yJ2_getChar_3b067, Cond.code yJ2_getChar_3b067 cJ2_getChar_3b067 2 (some .char), Cond.fieldLink RJ2 44 "java/lang/StringUTF16" "$assertionsDisabled" "Z", Cond.fieldLink RJ2 59 "java/lang/StringUTF16" "HI_BYTE_SHIFT" "I", Cond.fieldLink RJ2 63 "java/lang/StringUTF16" "LO_BYTE_SHIFT" "I"]
def wsJ0_charAt_5068e : List Cond := .code yJ0_charAt_5068e cJ0_charAt_5068e 2 (some .char) :: ((wsJ0_charAt_5068e_r1 ++ wsJ0_charAt_5068e_r2))
def wsX4_isWord_r1 : List Cond := [Cond.fieldLink RX4 37 "SkiShots$Reader" "sort" "I", Cond.fieldLink RX4 133 "SkiShots$Reader" "behind" "I", Cond.fieldLink RX4 54 "SkiShots$Reader" "place" "I", Cond.fieldLink RX4 9 "SkiShots$Reader" "text" "[B", Cond.methodLink RX4 140 yJ0_length_8abf5, Cond.instanceMethod yJ0_length_8abf5, Cond.selects RJ0 yJ0_length_8abf5 yJ0_length_8abf5, Cond.initialized RJ0, Cond.code yJ0_length_8abf5 cJ0_length_8abf5 1 (some .int), Cond.fieldLink RJ0 9 "java/lang/String" "value" "[B", Cond.methodLink RJ0 335 yJ0_coder_7d493, Cond.instanceMethod yJ0_coder_7d493, Cond.selects RJ0 yJ0_coder_7d493 yJ0_coder_7d493, Cond.code yJ0_coder_7d493 cJ0_coder_7d493 1 (some .byte), Cond.fieldLink RJ0 38 "java/lang/String" "COMPACT_STRINGS" "Z", Cond.fieldLink RJ0 15 "java/lang/String" "coder" "B", Cond.methodLink RX4 145 yJ0_charAt_5068e, Cond.instanceMethod yJ0_charAt_5068e, Cond.selects RJ0 yJ0_charAt_5068e yJ0_charAt_5068e, Cond.code yJ0_charAt_5068e cJ0_charAt_5068e 2 (some .char), Cond.methodLink RJ0 492 yJ0_isLatin1_aae02, Cond.instanceMethod yJ0_isLatin1_aae02, Cond.selects RJ0 yJ0_isLatin1_aae02 yJ0_isLatin1_aae02, Cond.code yJ0_isLatin1_aae02 cJ0_isLatin1_aae02 1 (some .boolean)]
def wsX4_isWord_r2 : List Cond := [Cond.methodLink RJ0 495 yJ1_charAt_3b067, Cond.static yJ1_charAt_3b067, Cond.initialized RJ1, Cond.code yJ1_charAt_3b067 cJ1_charAt_3b067 2 (some .char), Cond.methodLink RJ1 9 yJ0_checkIndex_df160, Cond.static yJ0_checkIndex_df160, Cond.code yJ0_checkIndex_df160 cJ0_checkIndex_df160 2 none, Cond.fieldLink RJ0 1053 "jdk/internal/util/Preconditions" "SIOOBE_FORMATTER" "Ljava/util/function/BiFunction;", Cond.methodLink RJ0 1059 yJ3_checkIndex_8e157, Cond.static yJ3_checkIndex_8e157, Cond.initialized RJ3, Cond.code yJ3_checkIndex_8e157 cJ3_checkIndex_8e157 3 (some .int), Cond.methodLink RJ0 498 yJ2_charAt_3b067, Cond.static yJ2_charAt_3b067, Cond.initialized RJ2, Cond.code yJ2_charAt_3b067 cJ2_charAt_3b067 2 (some .char), Cond.methodLink RJ2 67 yJ2_checkIndex_2214a, Cond.static yJ2_checkIndex_2214a, Cond.code yJ2_checkIndex_2214a cJ2_checkIndex_2214a 2 none, Cond.methodLink RJ2 48 yJ2_length_9d52b, Cond.static yJ2_length_9d52b, Cond.code yJ2_length_9d52b cJ2_length_9d52b 1 (some .int), Cond.methodLink RJ2 414 yJ0_checkIndex_df160, Cond.methodLink RJ2 71 yJ2_getChar_3b067]
def wsX4_isWord_r3 : List Cond := [Cond.static yJ2_getChar_3b067, Cond.code yJ2_getChar_3b067 cJ2_getChar_3b067 2 (some .char), Cond.fieldLink RJ2 44 "java/lang/StringUTF16" "$assertionsDisabled" "Z", Cond.fieldLink RJ2 59 "java/lang/StringUTF16" "HI_BYTE_SHIFT" "I", Cond.fieldLink RJ2 63 "java/lang/StringUTF16" "LO_BYTE_SHIFT" "I"]
def wsX4_isWord : List Cond := .code yX4_isWord cX4_isWord 3 (some .boolean) :: ((wsX4_isWord_r1 ++ (wsX4_isWord_r2 ++ wsX4_isWord_r3)) ++ wsX40)
def wsX4_fail : List Cond := .code yX4_fail cX4_fail 2 (some .boolean) :: ([.fieldLink RX4 137 "SkiShots$Reader" "fault" "I", .fieldLink RX4 54 "SkiShots$Reader" "place" "I", .fieldLink RX4 31 "SkiShots$Reader" "faultPlace" "I"] ++ wsX40)
def wsX4_readWord_r1 : List Cond := [Cond.methodLink RX4 107 yX4_isWord, Cond.instanceMethod yX4_isWord, Cond.selects RX4 yX4_isWord yX4_isWord, Cond.initialized RX4, Cond.code yX4_isWord cX4_isWord 3 (some .boolean), Cond.fieldLink RX4 37 "SkiShots$Reader" "sort" "I", Cond.fieldLink RX4 133 "SkiShots$Reader" "behind" "I", Cond.fieldLink RX4 54 "SkiShots$Reader" "place" "I", Cond.fieldLink RX4 9 "SkiShots$Reader" "text" "[B", Cond.methodLink RX4 140 yJ0_length_8abf5, Cond.instanceMethod yJ0_length_8abf5, Cond.selects RJ0 yJ0_length_8abf5 yJ0_length_8abf5, Cond.initialized RJ0, Cond.code yJ0_length_8abf5 cJ0_length_8abf5 1 (some .int), Cond.fieldLink RJ0 9 "java/lang/String" "value" "[B", Cond.methodLink RJ0 335 yJ0_coder_7d493, Cond.instanceMethod yJ0_coder_7d493, Cond.selects RJ0 yJ0_coder_7d493 yJ0_coder_7d493, Cond.code yJ0_coder_7d493 cJ0_coder_7d493 1 (some .byte), Cond.fieldLink RJ0 38 "java/lang/String" "COMPACT_STRINGS" "Z", Cond.fieldLink RJ0 15 "java/lang/String" "coder" "B", Cond.methodLink RX4 145 yJ0_charAt_5068e, Cond.instanceMethod yJ0_charAt_5068e, Cond.selects RJ0 yJ0_charAt_5068e yJ0_charAt_5068e]
def wsX4_readWord_r2 : List Cond := [Cond.code yJ0_charAt_5068e cJ0_charAt_5068e 2 (some .char), Cond.methodLink RJ0 492 yJ0_isLatin1_aae02, Cond.instanceMethod yJ0_isLatin1_aae02, Cond.selects RJ0 yJ0_isLatin1_aae02 yJ0_isLatin1_aae02, Cond.code yJ0_isLatin1_aae02 cJ0_isLatin1_aae02 1 (some .boolean), Cond.methodLink RJ0 495 yJ1_charAt_3b067, Cond.static yJ1_charAt_3b067, Cond.initialized RJ1, Cond.code yJ1_charAt_3b067 cJ1_charAt_3b067 2 (some .char), Cond.methodLink RJ1 9 yJ0_checkIndex_df160, Cond.static yJ0_checkIndex_df160, Cond.code yJ0_checkIndex_df160 cJ0_checkIndex_df160 2 none, Cond.fieldLink RJ0 1053 "jdk/internal/util/Preconditions" "SIOOBE_FORMATTER" "Ljava/util/function/BiFunction;", Cond.methodLink RJ0 1059 yJ3_checkIndex_8e157, Cond.static yJ3_checkIndex_8e157, Cond.initialized RJ3, Cond.code yJ3_checkIndex_8e157 cJ3_checkIndex_8e157 3 (some .int), Cond.methodLink RJ0 498 yJ2_charAt_3b067, Cond.static yJ2_charAt_3b067, Cond.initialized RJ2, Cond.code yJ2_charAt_3b067 cJ2_charAt_3b067 2 (some .char), Cond.methodLink RJ2 67 yJ2_checkIndex_2214a, Cond.static yJ2_checkIndex_2214a, Cond.code yJ2_checkIndex_2214a cJ2_checkIndex_2214a 2 none]
def wsX4_readWord_r3 : List Cond := [Cond.methodLink RJ2 48 yJ2_length_9d52b, Cond.static yJ2_length_9d52b, Cond.code yJ2_length_9d52b cJ2_length_9d52b 1 (some .int), Cond.methodLink RJ2 414 yJ0_checkIndex_df160, Cond.methodLink RJ2 71 yJ2_getChar_3b067, Cond.static yJ2_getChar_3b067, Cond.code yJ2_getChar_3b067 cJ2_getChar_3b067 2 (some .char), Cond.fieldLink RJ2 44 "java/lang/StringUTF16" "$assertionsDisabled" "Z", Cond.fieldLink RJ2 59 "java/lang/StringUTF16" "HI_BYTE_SHIFT" "I", Cond.fieldLink RJ2 63 "java/lang/StringUTF16" "LO_BYTE_SHIFT" "I", Cond.methodLink RX4 44 yX4_fail, Cond.instanceMethod yX4_fail, Cond.selects RX4 yX4_fail yX4_fail, Cond.code yX4_fail cX4_fail 2 (some .boolean), Cond.fieldLink RX4 137 "SkiShots$Reader" "fault" "I", Cond.fieldLink RX4 31 "SkiShots$Reader" "faultPlace" "I", Cond.methodLink RX4 34 yX4_step, Cond.instanceMethod yX4_step, Cond.selects RX4 yX4_step yX4_step, Cond.code yX4_step cX4_step 1 none, Cond.fieldLink RX4 21 "SkiShots$Reader" "length" "I", Cond.methodLink RX4 15 Lib.Math.min.name, Cond.static Lib.Math.min.name, Cond.initialized "java/lang/Math"]
def wsX4_readWord_r4 : List Cond := [Cond.code Lib.Math.min.name Lib.Math.min.code 2 (some .int), Cond.methodLink RX4 149 yX4_sortAt, Cond.instanceMethod yX4_sortAt, Cond.selects RX4 yX4_sortAt yX4_sortAt, Cond.code yX4_sortAt cX4_sortAt 3 (some .int)]
def wsX4_readWord : List Cond := .code yX4_readWord cX4_readWord 2 (some .boolean) :: ((wsX4_readWord_r1 ++ (wsX4_readWord_r2 ++ (wsX4_readWord_r3 ++ wsX4_readWord_r4))) ++ wsX40)
def wsX4_readSign : List Cond := .code yX4_readSign cX4_readSign 2 (some .boolean) :: ([.fieldLink RX4 37 "SkiShots$Reader" "sort" "I", .fieldLink RX4 9 "SkiShots$Reader" "text" "[B", .fieldLink RX4 54 "SkiShots$Reader" "place" "I", .methodLink RX4 44 yX4_fail, .instanceMethod yX4_fail, .selects RX4 yX4_fail yX4_fail, .initialized RX4, .code yX4_fail cX4_fail 2 (some .boolean), .fieldLink RX4 137 "SkiShots$Reader" "fault" "I", .fieldLink RX4 31 "SkiShots$Reader" "faultPlace" "I", .methodLink RX4 34 yX4_step, .instanceMethod yX4_step, .selects RX4 yX4_step yX4_step, .code yX4_step cX4_step 1 none, .fieldLink RX4 133 "SkiShots$Reader" "behind" "I", .fieldLink RX4 21 "SkiShots$Reader" "length" "I", .methodLink RX4 15 Lib.Math.min.name, .static Lib.Math.min.name, .initialized "java/lang/Math", .code Lib.Math.min.name Lib.Math.min.code 2 (some .int), .methodLink RX4 149 yX4_sortAt, .instanceMethod yX4_sortAt, .selects RX4 yX4_sortAt yX4_sortAt, .code yX4_sortAt cX4_sortAt 3 (some .int)] ++ wsX40)
def wsX4_readNumber_r1 : List Cond := [Cond.fieldLink RX4 37 "SkiShots$Reader" "sort" "I", Cond.fieldLink RX4 89 "SkiShots$Reader" "number" "I", Cond.fieldLink RX4 54 "SkiShots$Reader" "place" "I", Cond.fieldLink RX4 133 "SkiShots$Reader" "behind" "I", Cond.fieldLink RX4 9 "SkiShots$Reader" "text" "[B", Cond.constant RX4 136 (100000), Cond.methodLink RX4 15 Lib.Math.min.name, Cond.static Lib.Math.min.name, Cond.initialized "java/lang/Math", Cond.code Lib.Math.min.name Lib.Math.min.code 2 (some .int), Cond.methodLink RX4 44 yX4_fail, Cond.instanceMethod yX4_fail, Cond.selects RX4 yX4_fail yX4_fail, Cond.initialized RX4, Cond.code yX4_fail cX4_fail 2 (some .boolean), Cond.fieldLink RX4 137 "SkiShots$Reader" "fault" "I", Cond.fieldLink RX4 31 "SkiShots$Reader" "faultPlace" "I", Cond.methodLink RX4 34 yX4_step, Cond.instanceMethod yX4_step, Cond.selects RX4 yX4_step yX4_step, Cond.code yX4_step cX4_step 1 none, Cond.fieldLink RX4 21 "SkiShots$Reader" "length" "I", Cond.methodLink RX4 149 yX4_sortAt, Cond.instanceMethod yX4_sortAt]
def wsX4_readNumber_r2 : List Cond := [Cond.selects RX4 yX4_sortAt yX4_sortAt, Cond.code yX4_sortAt cX4_sortAt 3 (some .int)]
def wsX4_readNumber : List Cond := .code yX4_readNumber cX4_readNumber 4 (some .boolean) :: ((wsX4_readNumber_r1 ++ wsX4_readNumber_r2) ++ wsX40)
def wsX4_readLaps_r1 : List Cond := [Cond.fieldLink RX4 89 "SkiShots$Reader" "number" "I", Cond.fieldLink RX4 92 "SkiShots$Format" "laps" "I", Cond.methodLink RX4 50 yX4_readWord, Cond.instanceMethod yX4_readWord, Cond.selects RX4 yX4_readWord yX4_readWord, Cond.initialized RX4, Cond.code yX4_readWord cX4_readWord 2 (some .boolean), Cond.methodLink RX4 107 yX4_isWord, Cond.instanceMethod yX4_isWord, Cond.selects RX4 yX4_isWord yX4_isWord, Cond.code yX4_isWord cX4_isWord 3 (some .boolean), Cond.fieldLink RX4 37 "SkiShots$Reader" "sort" "I", Cond.fieldLink RX4 133 "SkiShots$Reader" "behind" "I", Cond.fieldLink RX4 54 "SkiShots$Reader" "place" "I", Cond.fieldLink RX4 9 "SkiShots$Reader" "text" "[B", Cond.methodLink RX4 140 yJ0_length_8abf5, Cond.instanceMethod yJ0_length_8abf5, Cond.selects RJ0 yJ0_length_8abf5 yJ0_length_8abf5, Cond.initialized RJ0, Cond.code yJ0_length_8abf5 cJ0_length_8abf5 1 (some .int), Cond.fieldLink RJ0 9 "java/lang/String" "value" "[B", Cond.methodLink RJ0 335 yJ0_coder_7d493, Cond.instanceMethod yJ0_coder_7d493, Cond.selects RJ0 yJ0_coder_7d493 yJ0_coder_7d493]
def wsX4_readLaps_r2 : List Cond := [Cond.code yJ0_coder_7d493 cJ0_coder_7d493 1 (some .byte), Cond.fieldLink RJ0 38 "java/lang/String" "COMPACT_STRINGS" "Z", Cond.fieldLink RJ0 15 "java/lang/String" "coder" "B", Cond.methodLink RX4 145 yJ0_charAt_5068e, Cond.instanceMethod yJ0_charAt_5068e, Cond.selects RJ0 yJ0_charAt_5068e yJ0_charAt_5068e, Cond.code yJ0_charAt_5068e cJ0_charAt_5068e 2 (some .char), Cond.methodLink RJ0 492 yJ0_isLatin1_aae02, Cond.instanceMethod yJ0_isLatin1_aae02, Cond.selects RJ0 yJ0_isLatin1_aae02 yJ0_isLatin1_aae02, Cond.code yJ0_isLatin1_aae02 cJ0_isLatin1_aae02 1 (some .boolean), Cond.methodLink RJ0 495 yJ1_charAt_3b067, Cond.static yJ1_charAt_3b067, Cond.initialized RJ1, Cond.code yJ1_charAt_3b067 cJ1_charAt_3b067 2 (some .char), Cond.methodLink RJ1 9 yJ0_checkIndex_df160, Cond.static yJ0_checkIndex_df160, Cond.code yJ0_checkIndex_df160 cJ0_checkIndex_df160 2 none, Cond.fieldLink RJ0 1053 "jdk/internal/util/Preconditions" "SIOOBE_FORMATTER" "Ljava/util/function/BiFunction;", Cond.methodLink RJ0 1059 yJ3_checkIndex_8e157, Cond.static yJ3_checkIndex_8e157, Cond.initialized RJ3, Cond.code yJ3_checkIndex_8e157 cJ3_checkIndex_8e157 3 (some .int), Cond.methodLink RJ0 498 yJ2_charAt_3b067]
def wsX4_readLaps_r3 : List Cond := [Cond.static yJ2_charAt_3b067, Cond.initialized RJ2, Cond.code yJ2_charAt_3b067 cJ2_charAt_3b067 2 (some .char), Cond.methodLink RJ2 67 yJ2_checkIndex_2214a, Cond.static yJ2_checkIndex_2214a, Cond.code yJ2_checkIndex_2214a cJ2_checkIndex_2214a 2 none, Cond.methodLink RJ2 48 yJ2_length_9d52b, Cond.static yJ2_length_9d52b, Cond.code yJ2_length_9d52b cJ2_length_9d52b 1 (some .int), Cond.methodLink RJ2 414 yJ0_checkIndex_df160, Cond.methodLink RJ2 71 yJ2_getChar_3b067, Cond.static yJ2_getChar_3b067, Cond.code yJ2_getChar_3b067 cJ2_getChar_3b067 2 (some .char), Cond.fieldLink RJ2 44 "java/lang/StringUTF16" "$assertionsDisabled" "Z", Cond.fieldLink RJ2 59 "java/lang/StringUTF16" "HI_BYTE_SHIFT" "I", Cond.fieldLink RJ2 63 "java/lang/StringUTF16" "LO_BYTE_SHIFT" "I", Cond.methodLink RX4 44 yX4_fail, Cond.instanceMethod yX4_fail, Cond.selects RX4 yX4_fail yX4_fail, Cond.code yX4_fail cX4_fail 2 (some .boolean), Cond.fieldLink RX4 137 "SkiShots$Reader" "fault" "I", Cond.fieldLink RX4 31 "SkiShots$Reader" "faultPlace" "I", Cond.methodLink RX4 34 yX4_step, Cond.instanceMethod yX4_step]
def wsX4_readLaps_r4 : List Cond := [Cond.selects RX4 yX4_step yX4_step, Cond.code yX4_step cX4_step 1 none, Cond.fieldLink RX4 21 "SkiShots$Reader" "length" "I", Cond.methodLink RX4 15 Lib.Math.min.name, Cond.static Lib.Math.min.name, Cond.initialized "java/lang/Math", Cond.code Lib.Math.min.name Lib.Math.min.code 2 (some .int), Cond.methodLink RX4 149 yX4_sortAt, Cond.instanceMethod yX4_sortAt, Cond.selects RX4 yX4_sortAt yX4_sortAt, Cond.code yX4_sortAt cX4_sortAt 3 (some .int), Cond.methodLink RX4 85 yX4_readNumber, Cond.instanceMethod yX4_readNumber, Cond.selects RX4 yX4_readNumber yX4_readNumber, Cond.code yX4_readNumber cX4_readNumber 4 (some .boolean), Cond.constant RX4 136 (100000)]
def wsX4_readLaps : List Cond := .code yX4_readLaps cX4_readLaps 2 (some .boolean) :: ((wsX4_readLaps_r1 ++ (wsX4_readLaps_r2 ++ (wsX4_readLaps_r3 ++ wsX4_readLaps_r4))) ++ wsX40 ++ wsX20)
def wsX4_readShootings_r1 : List Cond := [Cond.fieldLink RX4 37 "SkiShots$Reader" "sort" "I", Cond.fieldLink RX4 92 "SkiShots$Format" "laps" "I", Cond.fieldLink RX4 89 "SkiShots$Reader" "number" "I", Cond.fieldLink RX4 96 "SkiShots$Format" "shootings" "I", Cond.methodLink RX4 50 yX4_readWord, Cond.instanceMethod yX4_readWord, Cond.selects RX4 yX4_readWord yX4_readWord, Cond.initialized RX4, Cond.code yX4_readWord cX4_readWord 2 (some .boolean), Cond.methodLink RX4 107 yX4_isWord, Cond.instanceMethod yX4_isWord, Cond.selects RX4 yX4_isWord yX4_isWord, Cond.code yX4_isWord cX4_isWord 3 (some .boolean), Cond.fieldLink RX4 133 "SkiShots$Reader" "behind" "I", Cond.fieldLink RX4 54 "SkiShots$Reader" "place" "I", Cond.fieldLink RX4 9 "SkiShots$Reader" "text" "[B", Cond.methodLink RX4 140 yJ0_length_8abf5, Cond.instanceMethod yJ0_length_8abf5, Cond.selects RJ0 yJ0_length_8abf5 yJ0_length_8abf5, Cond.initialized RJ0, Cond.code yJ0_length_8abf5 cJ0_length_8abf5 1 (some .int), Cond.fieldLink RJ0 9 "java/lang/String" "value" "[B", Cond.methodLink RJ0 335 yJ0_coder_7d493, Cond.instanceMethod yJ0_coder_7d493]
def wsX4_readShootings_r2 : List Cond := [Cond.selects RJ0 yJ0_coder_7d493 yJ0_coder_7d493, Cond.code yJ0_coder_7d493 cJ0_coder_7d493 1 (some .byte), Cond.fieldLink RJ0 38 "java/lang/String" "COMPACT_STRINGS" "Z", Cond.fieldLink RJ0 15 "java/lang/String" "coder" "B", Cond.methodLink RX4 145 yJ0_charAt_5068e, Cond.instanceMethod yJ0_charAt_5068e, Cond.selects RJ0 yJ0_charAt_5068e yJ0_charAt_5068e, Cond.code yJ0_charAt_5068e cJ0_charAt_5068e 2 (some .char), Cond.methodLink RJ0 492 yJ0_isLatin1_aae02, Cond.instanceMethod yJ0_isLatin1_aae02, Cond.selects RJ0 yJ0_isLatin1_aae02 yJ0_isLatin1_aae02, Cond.code yJ0_isLatin1_aae02 cJ0_isLatin1_aae02 1 (some .boolean), Cond.methodLink RJ0 495 yJ1_charAt_3b067, Cond.static yJ1_charAt_3b067, Cond.initialized RJ1, Cond.code yJ1_charAt_3b067 cJ1_charAt_3b067 2 (some .char), Cond.methodLink RJ1 9 yJ0_checkIndex_df160, Cond.static yJ0_checkIndex_df160, Cond.code yJ0_checkIndex_df160 cJ0_checkIndex_df160 2 none, Cond.fieldLink RJ0 1053 "jdk/internal/util/Preconditions" "SIOOBE_FORMATTER" "Ljava/util/function/BiFunction;", Cond.methodLink RJ0 1059 yJ3_checkIndex_8e157, Cond.static yJ3_checkIndex_8e157, Cond.initialized RJ3, Cond.code yJ3_checkIndex_8e157 cJ3_checkIndex_8e157 3 (some .int)]
def wsX4_readShootings_r3 : List Cond := [Cond.methodLink RJ0 498 yJ2_charAt_3b067, Cond.static yJ2_charAt_3b067, Cond.initialized RJ2, Cond.code yJ2_charAt_3b067 cJ2_charAt_3b067 2 (some .char), Cond.methodLink RJ2 67 yJ2_checkIndex_2214a, Cond.static yJ2_checkIndex_2214a, Cond.code yJ2_checkIndex_2214a cJ2_checkIndex_2214a 2 none, Cond.methodLink RJ2 48 yJ2_length_9d52b, Cond.static yJ2_length_9d52b, Cond.code yJ2_length_9d52b cJ2_length_9d52b 1 (some .int), Cond.methodLink RJ2 414 yJ0_checkIndex_df160, Cond.methodLink RJ2 71 yJ2_getChar_3b067, Cond.static yJ2_getChar_3b067, Cond.code yJ2_getChar_3b067 cJ2_getChar_3b067 2 (some .char), Cond.fieldLink RJ2 44 "java/lang/StringUTF16" "$assertionsDisabled" "Z", Cond.fieldLink RJ2 59 "java/lang/StringUTF16" "HI_BYTE_SHIFT" "I", Cond.fieldLink RJ2 63 "java/lang/StringUTF16" "LO_BYTE_SHIFT" "I", Cond.methodLink RX4 44 yX4_fail, Cond.instanceMethod yX4_fail, Cond.selects RX4 yX4_fail yX4_fail, Cond.code yX4_fail cX4_fail 2 (some .boolean), Cond.fieldLink RX4 137 "SkiShots$Reader" "fault" "I", Cond.fieldLink RX4 31 "SkiShots$Reader" "faultPlace" "I", Cond.methodLink RX4 34 yX4_step]
def wsX4_readShootings_r4 : List Cond := [Cond.instanceMethod yX4_step, Cond.selects RX4 yX4_step yX4_step, Cond.code yX4_step cX4_step 1 none, Cond.fieldLink RX4 21 "SkiShots$Reader" "length" "I", Cond.methodLink RX4 15 Lib.Math.min.name, Cond.static Lib.Math.min.name, Cond.initialized "java/lang/Math", Cond.code Lib.Math.min.name Lib.Math.min.code 2 (some .int), Cond.methodLink RX4 149 yX4_sortAt, Cond.instanceMethod yX4_sortAt, Cond.selects RX4 yX4_sortAt yX4_sortAt, Cond.code yX4_sortAt cX4_sortAt 3 (some .int), Cond.methodLink RX4 85 yX4_readNumber, Cond.instanceMethod yX4_readNumber, Cond.selects RX4 yX4_readNumber yX4_readNumber, Cond.code yX4_readNumber cX4_readNumber 4 (some .boolean), Cond.constant RX4 136 (100000)]
def wsX4_readShootings : List Cond := .code yX4_readShootings cX4_readShootings 4 (some .boolean) :: ((wsX4_readShootings_r1 ++ (wsX4_readShootings_r2 ++ (wsX4_readShootings_r3 ++ wsX4_readShootings_r4))) ++ wsX40 ++ wsX20)
def wsX4_readSpares_r1 : List Cond := [Cond.fieldLink RX4 89 "SkiShots$Reader" "number" "I", Cond.fieldLink RX4 101 "SkiShots$Format" "spares" "I", Cond.methodLink RX4 50 yX4_readWord, Cond.instanceMethod yX4_readWord, Cond.selects RX4 yX4_readWord yX4_readWord, Cond.initialized RX4, Cond.code yX4_readWord cX4_readWord 2 (some .boolean), Cond.methodLink RX4 107 yX4_isWord, Cond.instanceMethod yX4_isWord, Cond.selects RX4 yX4_isWord yX4_isWord, Cond.code yX4_isWord cX4_isWord 3 (some .boolean), Cond.fieldLink RX4 37 "SkiShots$Reader" "sort" "I", Cond.fieldLink RX4 133 "SkiShots$Reader" "behind" "I", Cond.fieldLink RX4 54 "SkiShots$Reader" "place" "I", Cond.fieldLink RX4 9 "SkiShots$Reader" "text" "[B", Cond.methodLink RX4 140 yJ0_length_8abf5, Cond.instanceMethod yJ0_length_8abf5, Cond.selects RJ0 yJ0_length_8abf5 yJ0_length_8abf5, Cond.initialized RJ0, Cond.code yJ0_length_8abf5 cJ0_length_8abf5 1 (some .int), Cond.fieldLink RJ0 9 "java/lang/String" "value" "[B", Cond.methodLink RJ0 335 yJ0_coder_7d493, Cond.instanceMethod yJ0_coder_7d493, Cond.selects RJ0 yJ0_coder_7d493 yJ0_coder_7d493]
def wsX4_readSpares_r2 : List Cond := [Cond.code yJ0_coder_7d493 cJ0_coder_7d493 1 (some .byte), Cond.fieldLink RJ0 38 "java/lang/String" "COMPACT_STRINGS" "Z", Cond.fieldLink RJ0 15 "java/lang/String" "coder" "B", Cond.methodLink RX4 145 yJ0_charAt_5068e, Cond.instanceMethod yJ0_charAt_5068e, Cond.selects RJ0 yJ0_charAt_5068e yJ0_charAt_5068e, Cond.code yJ0_charAt_5068e cJ0_charAt_5068e 2 (some .char), Cond.methodLink RJ0 492 yJ0_isLatin1_aae02, Cond.instanceMethod yJ0_isLatin1_aae02, Cond.selects RJ0 yJ0_isLatin1_aae02 yJ0_isLatin1_aae02, Cond.code yJ0_isLatin1_aae02 cJ0_isLatin1_aae02 1 (some .boolean), Cond.methodLink RJ0 495 yJ1_charAt_3b067, Cond.static yJ1_charAt_3b067, Cond.initialized RJ1, Cond.code yJ1_charAt_3b067 cJ1_charAt_3b067 2 (some .char), Cond.methodLink RJ1 9 yJ0_checkIndex_df160, Cond.static yJ0_checkIndex_df160, Cond.code yJ0_checkIndex_df160 cJ0_checkIndex_df160 2 none, Cond.fieldLink RJ0 1053 "jdk/internal/util/Preconditions" "SIOOBE_FORMATTER" "Ljava/util/function/BiFunction;", Cond.methodLink RJ0 1059 yJ3_checkIndex_8e157, Cond.static yJ3_checkIndex_8e157, Cond.initialized RJ3, Cond.code yJ3_checkIndex_8e157 cJ3_checkIndex_8e157 3 (some .int), Cond.methodLink RJ0 498 yJ2_charAt_3b067]
def wsX4_readSpares_r3 : List Cond := [Cond.static yJ2_charAt_3b067, Cond.initialized RJ2, Cond.code yJ2_charAt_3b067 cJ2_charAt_3b067 2 (some .char), Cond.methodLink RJ2 67 yJ2_checkIndex_2214a, Cond.static yJ2_checkIndex_2214a, Cond.code yJ2_checkIndex_2214a cJ2_checkIndex_2214a 2 none, Cond.methodLink RJ2 48 yJ2_length_9d52b, Cond.static yJ2_length_9d52b, Cond.code yJ2_length_9d52b cJ2_length_9d52b 1 (some .int), Cond.methodLink RJ2 414 yJ0_checkIndex_df160, Cond.methodLink RJ2 71 yJ2_getChar_3b067, Cond.static yJ2_getChar_3b067, Cond.code yJ2_getChar_3b067 cJ2_getChar_3b067 2 (some .char), Cond.fieldLink RJ2 44 "java/lang/StringUTF16" "$assertionsDisabled" "Z", Cond.fieldLink RJ2 59 "java/lang/StringUTF16" "HI_BYTE_SHIFT" "I", Cond.fieldLink RJ2 63 "java/lang/StringUTF16" "LO_BYTE_SHIFT" "I", Cond.methodLink RX4 44 yX4_fail, Cond.instanceMethod yX4_fail, Cond.selects RX4 yX4_fail yX4_fail, Cond.code yX4_fail cX4_fail 2 (some .boolean), Cond.fieldLink RX4 137 "SkiShots$Reader" "fault" "I", Cond.fieldLink RX4 31 "SkiShots$Reader" "faultPlace" "I", Cond.methodLink RX4 34 yX4_step, Cond.instanceMethod yX4_step]
def wsX4_readSpares_r4 : List Cond := [Cond.selects RX4 yX4_step yX4_step, Cond.code yX4_step cX4_step 1 none, Cond.fieldLink RX4 21 "SkiShots$Reader" "length" "I", Cond.methodLink RX4 15 Lib.Math.min.name, Cond.static Lib.Math.min.name, Cond.initialized "java/lang/Math", Cond.code Lib.Math.min.name Lib.Math.min.code 2 (some .int), Cond.methodLink RX4 149 yX4_sortAt, Cond.instanceMethod yX4_sortAt, Cond.selects RX4 yX4_sortAt yX4_sortAt, Cond.code yX4_sortAt cX4_sortAt 3 (some .int), Cond.methodLink RX4 85 yX4_readNumber, Cond.instanceMethod yX4_readNumber, Cond.selects RX4 yX4_readNumber yX4_readNumber, Cond.code yX4_readNumber cX4_readNumber 4 (some .boolean), Cond.constant RX4 136 (100000)]
def wsX4_readSpares : List Cond := .code yX4_readSpares cX4_readSpares 2 (some .boolean) :: ((wsX4_readSpares_r1 ++ (wsX4_readSpares_r2 ++ (wsX4_readSpares_r3 ++ wsX4_readSpares_r4))) ++ wsX40 ++ wsX20)
def wsX4_readMiss_r1 : List Cond := [Cond.fieldLink RX4 110 "SkiShots$Format" "loops" "Z", Cond.fieldLink RX4 89 "SkiShots$Reader" "number" "I", Cond.fieldLink RX4 116 "SkiShots$Format" "missSeconds" "I", Cond.methodLink RX4 50 yX4_readWord, Cond.instanceMethod yX4_readWord, Cond.selects RX4 yX4_readWord yX4_readWord, Cond.initialized RX4, Cond.code yX4_readWord cX4_readWord 2 (some .boolean), Cond.methodLink RX4 107 yX4_isWord, Cond.instanceMethod yX4_isWord, Cond.selects RX4 yX4_isWord yX4_isWord, Cond.code yX4_isWord cX4_isWord 3 (some .boolean), Cond.fieldLink RX4 37 "SkiShots$Reader" "sort" "I", Cond.fieldLink RX4 133 "SkiShots$Reader" "behind" "I", Cond.fieldLink RX4 54 "SkiShots$Reader" "place" "I", Cond.fieldLink RX4 9 "SkiShots$Reader" "text" "[B", Cond.methodLink RX4 140 yJ0_length_8abf5, Cond.instanceMethod yJ0_length_8abf5, Cond.selects RJ0 yJ0_length_8abf5 yJ0_length_8abf5, Cond.initialized RJ0, Cond.code yJ0_length_8abf5 cJ0_length_8abf5 1 (some .int), Cond.fieldLink RJ0 9 "java/lang/String" "value" "[B", Cond.methodLink RJ0 335 yJ0_coder_7d493, Cond.instanceMethod yJ0_coder_7d493]
def wsX4_readMiss_r2 : List Cond := [Cond.selects RJ0 yJ0_coder_7d493 yJ0_coder_7d493, Cond.code yJ0_coder_7d493 cJ0_coder_7d493 1 (some .byte), Cond.fieldLink RJ0 38 "java/lang/String" "COMPACT_STRINGS" "Z", Cond.fieldLink RJ0 15 "java/lang/String" "coder" "B", Cond.methodLink RX4 145 yJ0_charAt_5068e, Cond.instanceMethod yJ0_charAt_5068e, Cond.selects RJ0 yJ0_charAt_5068e yJ0_charAt_5068e, Cond.code yJ0_charAt_5068e cJ0_charAt_5068e 2 (some .char), Cond.methodLink RJ0 492 yJ0_isLatin1_aae02, Cond.instanceMethod yJ0_isLatin1_aae02, Cond.selects RJ0 yJ0_isLatin1_aae02 yJ0_isLatin1_aae02, Cond.code yJ0_isLatin1_aae02 cJ0_isLatin1_aae02 1 (some .boolean), Cond.methodLink RJ0 495 yJ1_charAt_3b067, Cond.static yJ1_charAt_3b067, Cond.initialized RJ1, Cond.code yJ1_charAt_3b067 cJ1_charAt_3b067 2 (some .char), Cond.methodLink RJ1 9 yJ0_checkIndex_df160, Cond.static yJ0_checkIndex_df160, Cond.code yJ0_checkIndex_df160 cJ0_checkIndex_df160 2 none, Cond.fieldLink RJ0 1053 "jdk/internal/util/Preconditions" "SIOOBE_FORMATTER" "Ljava/util/function/BiFunction;", Cond.methodLink RJ0 1059 yJ3_checkIndex_8e157, Cond.static yJ3_checkIndex_8e157, Cond.initialized RJ3, Cond.code yJ3_checkIndex_8e157 cJ3_checkIndex_8e157 3 (some .int)]
def wsX4_readMiss_r3 : List Cond := [Cond.methodLink RJ0 498 yJ2_charAt_3b067, Cond.static yJ2_charAt_3b067, Cond.initialized RJ2, Cond.code yJ2_charAt_3b067 cJ2_charAt_3b067 2 (some .char), Cond.methodLink RJ2 67 yJ2_checkIndex_2214a, Cond.static yJ2_checkIndex_2214a, Cond.code yJ2_checkIndex_2214a cJ2_checkIndex_2214a 2 none, Cond.methodLink RJ2 48 yJ2_length_9d52b, Cond.static yJ2_length_9d52b, Cond.code yJ2_length_9d52b cJ2_length_9d52b 1 (some .int), Cond.methodLink RJ2 414 yJ0_checkIndex_df160, Cond.methodLink RJ2 71 yJ2_getChar_3b067, Cond.static yJ2_getChar_3b067, Cond.code yJ2_getChar_3b067 cJ2_getChar_3b067 2 (some .char), Cond.fieldLink RJ2 44 "java/lang/StringUTF16" "$assertionsDisabled" "Z", Cond.fieldLink RJ2 59 "java/lang/StringUTF16" "HI_BYTE_SHIFT" "I", Cond.fieldLink RJ2 63 "java/lang/StringUTF16" "LO_BYTE_SHIFT" "I", Cond.methodLink RX4 44 yX4_fail, Cond.instanceMethod yX4_fail, Cond.selects RX4 yX4_fail yX4_fail, Cond.code yX4_fail cX4_fail 2 (some .boolean), Cond.fieldLink RX4 137 "SkiShots$Reader" "fault" "I", Cond.fieldLink RX4 31 "SkiShots$Reader" "faultPlace" "I", Cond.methodLink RX4 34 yX4_step]
def wsX4_readMiss_r4 : List Cond := [Cond.instanceMethod yX4_step, Cond.selects RX4 yX4_step yX4_step, Cond.code yX4_step cX4_step 1 none, Cond.fieldLink RX4 21 "SkiShots$Reader" "length" "I", Cond.methodLink RX4 15 Lib.Math.min.name, Cond.static Lib.Math.min.name, Cond.initialized "java/lang/Math", Cond.code Lib.Math.min.name Lib.Math.min.code 2 (some .int), Cond.methodLink RX4 149 yX4_sortAt, Cond.instanceMethod yX4_sortAt, Cond.selects RX4 yX4_sortAt yX4_sortAt, Cond.code yX4_sortAt cX4_sortAt 3 (some .int), Cond.methodLink RX4 85 yX4_readNumber, Cond.instanceMethod yX4_readNumber, Cond.selects RX4 yX4_readNumber yX4_readNumber, Cond.code yX4_readNumber cX4_readNumber 4 (some .boolean), Cond.constant RX4 136 (100000)]
def wsX4_readMiss : List Cond := .code yX4_readMiss cX4_readMiss 2 (some .boolean) :: ((wsX4_readMiss_r1 ++ (wsX4_readMiss_r2 ++ (wsX4_readMiss_r3 ++ wsX4_readMiss_r4))) ++ wsX20 ++ wsX40)
def wsX4_readStart_r1 : List Cond := [Cond.fieldLink RX4 123 "SkiShots$Format" "startSort" "I", Cond.fieldLink RX4 89 "SkiShots$Reader" "number" "I", Cond.fieldLink RX4 130 "SkiShots$Format" "startSeconds" "I", Cond.methodLink RX4 50 yX4_readWord, Cond.instanceMethod yX4_readWord, Cond.selects RX4 yX4_readWord yX4_readWord, Cond.initialized RX4, Cond.code yX4_readWord cX4_readWord 2 (some .boolean), Cond.methodLink RX4 107 yX4_isWord, Cond.instanceMethod yX4_isWord, Cond.selects RX4 yX4_isWord yX4_isWord, Cond.code yX4_isWord cX4_isWord 3 (some .boolean), Cond.fieldLink RX4 37 "SkiShots$Reader" "sort" "I", Cond.fieldLink RX4 133 "SkiShots$Reader" "behind" "I", Cond.fieldLink RX4 54 "SkiShots$Reader" "place" "I", Cond.fieldLink RX4 9 "SkiShots$Reader" "text" "[B", Cond.methodLink RX4 140 yJ0_length_8abf5, Cond.instanceMethod yJ0_length_8abf5, Cond.selects RJ0 yJ0_length_8abf5 yJ0_length_8abf5, Cond.initialized RJ0, Cond.code yJ0_length_8abf5 cJ0_length_8abf5 1 (some .int), Cond.fieldLink RJ0 9 "java/lang/String" "value" "[B", Cond.methodLink RJ0 335 yJ0_coder_7d493, Cond.instanceMethod yJ0_coder_7d493]
def wsX4_readStart_r2 : List Cond := [Cond.selects RJ0 yJ0_coder_7d493 yJ0_coder_7d493, Cond.code yJ0_coder_7d493 cJ0_coder_7d493 1 (some .byte), Cond.fieldLink RJ0 38 "java/lang/String" "COMPACT_STRINGS" "Z", Cond.fieldLink RJ0 15 "java/lang/String" "coder" "B", Cond.methodLink RX4 145 yJ0_charAt_5068e, Cond.instanceMethod yJ0_charAt_5068e, Cond.selects RJ0 yJ0_charAt_5068e yJ0_charAt_5068e, Cond.code yJ0_charAt_5068e cJ0_charAt_5068e 2 (some .char), Cond.methodLink RJ0 492 yJ0_isLatin1_aae02, Cond.instanceMethod yJ0_isLatin1_aae02, Cond.selects RJ0 yJ0_isLatin1_aae02 yJ0_isLatin1_aae02, Cond.code yJ0_isLatin1_aae02 cJ0_isLatin1_aae02 1 (some .boolean), Cond.methodLink RJ0 495 yJ1_charAt_3b067, Cond.static yJ1_charAt_3b067, Cond.initialized RJ1, Cond.code yJ1_charAt_3b067 cJ1_charAt_3b067 2 (some .char), Cond.methodLink RJ1 9 yJ0_checkIndex_df160, Cond.static yJ0_checkIndex_df160, Cond.code yJ0_checkIndex_df160 cJ0_checkIndex_df160 2 none, Cond.fieldLink RJ0 1053 "jdk/internal/util/Preconditions" "SIOOBE_FORMATTER" "Ljava/util/function/BiFunction;", Cond.methodLink RJ0 1059 yJ3_checkIndex_8e157, Cond.static yJ3_checkIndex_8e157, Cond.initialized RJ3, Cond.code yJ3_checkIndex_8e157 cJ3_checkIndex_8e157 3 (some .int)]
def wsX4_readStart_r3 : List Cond := [Cond.methodLink RJ0 498 yJ2_charAt_3b067, Cond.static yJ2_charAt_3b067, Cond.initialized RJ2, Cond.code yJ2_charAt_3b067 cJ2_charAt_3b067 2 (some .char), Cond.methodLink RJ2 67 yJ2_checkIndex_2214a, Cond.static yJ2_checkIndex_2214a, Cond.code yJ2_checkIndex_2214a cJ2_checkIndex_2214a 2 none, Cond.methodLink RJ2 48 yJ2_length_9d52b, Cond.static yJ2_length_9d52b, Cond.code yJ2_length_9d52b cJ2_length_9d52b 1 (some .int), Cond.methodLink RJ2 414 yJ0_checkIndex_df160, Cond.methodLink RJ2 71 yJ2_getChar_3b067, Cond.static yJ2_getChar_3b067, Cond.code yJ2_getChar_3b067 cJ2_getChar_3b067 2 (some .char), Cond.fieldLink RJ2 44 "java/lang/StringUTF16" "$assertionsDisabled" "Z", Cond.fieldLink RJ2 59 "java/lang/StringUTF16" "HI_BYTE_SHIFT" "I", Cond.fieldLink RJ2 63 "java/lang/StringUTF16" "LO_BYTE_SHIFT" "I", Cond.methodLink RX4 44 yX4_fail, Cond.instanceMethod yX4_fail, Cond.selects RX4 yX4_fail yX4_fail, Cond.code yX4_fail cX4_fail 2 (some .boolean), Cond.fieldLink RX4 137 "SkiShots$Reader" "fault" "I", Cond.fieldLink RX4 31 "SkiShots$Reader" "faultPlace" "I", Cond.methodLink RX4 34 yX4_step]
def wsX4_readStart_r4 : List Cond := [Cond.instanceMethod yX4_step, Cond.selects RX4 yX4_step yX4_step, Cond.code yX4_step cX4_step 1 none, Cond.fieldLink RX4 21 "SkiShots$Reader" "length" "I", Cond.methodLink RX4 15 Lib.Math.min.name, Cond.static Lib.Math.min.name, Cond.initialized "java/lang/Math", Cond.code Lib.Math.min.name Lib.Math.min.code 2 (some .int), Cond.methodLink RX4 149 yX4_sortAt, Cond.instanceMethod yX4_sortAt, Cond.selects RX4 yX4_sortAt yX4_sortAt, Cond.code yX4_sortAt cX4_sortAt 3 (some .int), Cond.methodLink RX4 85 yX4_readNumber, Cond.instanceMethod yX4_readNumber, Cond.selects RX4 yX4_readNumber yX4_readNumber, Cond.code yX4_readNumber cX4_readNumber 4 (some .boolean), Cond.constant RX4 136 (100000)]
def wsX4_readStart : List Cond := .code yX4_readStart cX4_readStart 3 (some .boolean) :: ((wsX4_readStart_r1 ++ (wsX4_readStart_r2 ++ (wsX4_readStart_r3 ++ wsX4_readStart_r4))) ++ wsX20 ++ wsX40)
def wsX4_readFormat_r1 : List Cond := [Cond.fieldLink RX4 37 "SkiShots$Reader" "sort" "I", Cond.fieldLink RX4 9 "SkiShots$Reader" "text" "[B", Cond.fieldLink RX4 54 "SkiShots$Reader" "place" "I", Cond.fieldLink RX4 27 "SkiShots$Reader" "found" "[LSkiShots$Format;", Cond.classLink RX4 25 RX2, Cond.instantiable RX2 8, Cond.initialized RX2, Cond.fieldLink RX4 60 "SkiShots$Reader" "foundCount" "I", Cond.methodLink RX4 50 yX4_readWord, Cond.instanceMethod yX4_readWord, Cond.selects RX4 yX4_readWord yX4_readWord, Cond.initialized RX4, Cond.code yX4_readWord cX4_readWord 2 (some .boolean), Cond.methodLink RX4 107 yX4_isWord, Cond.instanceMethod yX4_isWord, Cond.selects RX4 yX4_isWord yX4_isWord, Cond.code yX4_isWord cX4_isWord 3 (some .boolean), Cond.fieldLink RX4 133 "SkiShots$Reader" "behind" "I", Cond.methodLink RX4 140 yJ0_length_8abf5, Cond.instanceMethod yJ0_length_8abf5, Cond.selects RJ0 yJ0_length_8abf5 yJ0_length_8abf5, Cond.initialized RJ0, Cond.code yJ0_length_8abf5 cJ0_length_8abf5 1 (some .int), Cond.fieldLink RJ0 9 "java/lang/String" "value" "[B"]
def wsX4_readFormat_r2 : List Cond := [Cond.methodLink RJ0 335 yJ0_coder_7d493, Cond.instanceMethod yJ0_coder_7d493, Cond.selects RJ0 yJ0_coder_7d493 yJ0_coder_7d493, Cond.code yJ0_coder_7d493 cJ0_coder_7d493 1 (some .byte), Cond.fieldLink RJ0 38 "java/lang/String" "COMPACT_STRINGS" "Z", Cond.fieldLink RJ0 15 "java/lang/String" "coder" "B", Cond.methodLink RX4 145 yJ0_charAt_5068e, Cond.instanceMethod yJ0_charAt_5068e, Cond.selects RJ0 yJ0_charAt_5068e yJ0_charAt_5068e, Cond.code yJ0_charAt_5068e cJ0_charAt_5068e 2 (some .char), Cond.methodLink RJ0 492 yJ0_isLatin1_aae02, Cond.instanceMethod yJ0_isLatin1_aae02, Cond.selects RJ0 yJ0_isLatin1_aae02 yJ0_isLatin1_aae02, Cond.code yJ0_isLatin1_aae02 cJ0_isLatin1_aae02 1 (some .boolean), Cond.methodLink RJ0 495 yJ1_charAt_3b067, Cond.static yJ1_charAt_3b067, Cond.initialized RJ1, Cond.code yJ1_charAt_3b067 cJ1_charAt_3b067 2 (some .char), Cond.methodLink RJ1 9 yJ0_checkIndex_df160, Cond.static yJ0_checkIndex_df160, Cond.code yJ0_checkIndex_df160 cJ0_checkIndex_df160 2 none, Cond.fieldLink RJ0 1053 "jdk/internal/util/Preconditions" "SIOOBE_FORMATTER" "Ljava/util/function/BiFunction;", Cond.methodLink RJ0 1059 yJ3_checkIndex_8e157, Cond.static yJ3_checkIndex_8e157]
def wsX4_readFormat_r3 : List Cond := [Cond.initialized RJ3, Cond.code yJ3_checkIndex_8e157 cJ3_checkIndex_8e157 3 (some .int), Cond.methodLink RJ0 498 yJ2_charAt_3b067, Cond.static yJ2_charAt_3b067, Cond.initialized RJ2, Cond.code yJ2_charAt_3b067 cJ2_charAt_3b067 2 (some .char), Cond.methodLink RJ2 67 yJ2_checkIndex_2214a, Cond.static yJ2_checkIndex_2214a, Cond.code yJ2_checkIndex_2214a cJ2_checkIndex_2214a 2 none, Cond.methodLink RJ2 48 yJ2_length_9d52b, Cond.static yJ2_length_9d52b, Cond.code yJ2_length_9d52b cJ2_length_9d52b 1 (some .int), Cond.methodLink RJ2 414 yJ0_checkIndex_df160, Cond.methodLink RJ2 71 yJ2_getChar_3b067, Cond.static yJ2_getChar_3b067, Cond.code yJ2_getChar_3b067 cJ2_getChar_3b067 2 (some .char), Cond.fieldLink RJ2 44 "java/lang/StringUTF16" "$assertionsDisabled" "Z", Cond.fieldLink RJ2 59 "java/lang/StringUTF16" "HI_BYTE_SHIFT" "I", Cond.fieldLink RJ2 63 "java/lang/StringUTF16" "LO_BYTE_SHIFT" "I", Cond.methodLink RX4 44 yX4_fail, Cond.instanceMethod yX4_fail, Cond.selects RX4 yX4_fail yX4_fail, Cond.code yX4_fail cX4_fail 2 (some .boolean), Cond.fieldLink RX4 137 "SkiShots$Reader" "fault" "I"]
def wsX4_readFormat_r4 : List Cond := [Cond.fieldLink RX4 31 "SkiShots$Reader" "faultPlace" "I", Cond.methodLink RX4 34 yX4_step, Cond.instanceMethod yX4_step, Cond.selects RX4 yX4_step yX4_step, Cond.code yX4_step cX4_step 1 none, Cond.fieldLink RX4 21 "SkiShots$Reader" "length" "I", Cond.methodLink RX4 15 Lib.Math.min.name, Cond.static Lib.Math.min.name, Cond.initialized "java/lang/Math", Cond.code Lib.Math.min.name Lib.Math.min.code 2 (some .int), Cond.methodLink RX4 149 yX4_sortAt, Cond.instanceMethod yX4_sortAt, Cond.selects RX4 yX4_sortAt yX4_sortAt, Cond.code yX4_sortAt cX4_sortAt 3 (some .int), Cond.methodLink RX4 57 yX2_init, Cond.instanceMethod yX2_init, Cond.code yX2_init cX2_init 2 none, Cond.methodLink RX2 3 objectInit, Cond.instanceMethod objectInit, Cond.code objectInit ⟨#[0xb1]⟩ 1 none, Cond.fieldLink RX2 9 "SkiShots$Format" "name" "I", Cond.methodLink RX4 63 yX4_readSign, Cond.instanceMethod yX4_readSign, Cond.selects RX4 yX4_readSign yX4_readSign]
def wsX4_readFormat_r5 : List Cond := [Cond.code yX4_readSign cX4_readSign 2 (some .boolean), Cond.methodLink RX4 67 yX4_readLaps, Cond.instanceMethod yX4_readLaps, Cond.selects RX4 yX4_readLaps yX4_readLaps, Cond.code yX4_readLaps cX4_readLaps 2 (some .boolean), Cond.fieldLink RX4 89 "SkiShots$Reader" "number" "I", Cond.fieldLink RX4 92 "SkiShots$Format" "laps" "I", Cond.methodLink RX4 85 yX4_readNumber, Cond.instanceMethod yX4_readNumber, Cond.selects RX4 yX4_readNumber yX4_readNumber, Cond.code yX4_readNumber cX4_readNumber 4 (some .boolean), Cond.constant RX4 136 (100000), Cond.methodLink RX4 71 yX4_readShootings, Cond.instanceMethod yX4_readShootings, Cond.selects RX4 yX4_readShootings yX4_readShootings, Cond.code yX4_readShootings cX4_readShootings 4 (some .boolean), Cond.fieldLink RX4 96 "SkiShots$Format" "shootings" "I", Cond.methodLink RX4 74 yX4_readSpares, Cond.instanceMethod yX4_readSpares, Cond.selects RX4 yX4_readSpares yX4_readSpares, Cond.code yX4_readSpares cX4_readSpares 2 (some .boolean), Cond.fieldLink RX4 101 "SkiShots$Format" "spares" "I", Cond.methodLink RX4 77 yX4_readMiss, Cond.instanceMethod yX4_readMiss]
def wsX4_readFormat_r6 : List Cond := [Cond.selects RX4 yX4_readMiss yX4_readMiss, Cond.code yX4_readMiss cX4_readMiss 2 (some .boolean), Cond.fieldLink RX4 110 "SkiShots$Format" "loops" "Z", Cond.fieldLink RX4 116 "SkiShots$Format" "missSeconds" "I", Cond.methodLink RX4 80 yX4_readStart, Cond.instanceMethod yX4_readStart, Cond.selects RX4 yX4_readStart yX4_readStart, Cond.code yX4_readStart cX4_readStart 3 (some .boolean), Cond.fieldLink RX4 123 "SkiShots$Format" "startSort" "I", Cond.fieldLink RX4 130 "SkiShots$Format" "startSeconds" "I"]
def wsX4_readFormat : List Cond := .code yX4_readFormat cX4_readFormat 3 (some .boolean) :: ((wsX4_readFormat_r1 ++ (wsX4_readFormat_r2 ++ (wsX4_readFormat_r3 ++ (wsX4_readFormat_r4 ++ (wsX4_readFormat_r5 ++ wsX4_readFormat_r6))))) ++ wsX40 ++ wsX20)
def wsX4_readFormats_r1 : List Cond := [Cond.fieldLink RX4 37 "SkiShots$Reader" "sort" "I", Cond.methodLink RX4 34 yX4_step, Cond.instanceMethod yX4_step, Cond.selects RX4 yX4_step yX4_step, Cond.initialized RX4, Cond.code yX4_step cX4_step 1 none, Cond.fieldLink RX4 133 "SkiShots$Reader" "behind" "I", Cond.fieldLink RX4 54 "SkiShots$Reader" "place" "I", Cond.fieldLink RX4 21 "SkiShots$Reader" "length" "I", Cond.methodLink RX4 15 Lib.Math.min.name, Cond.static Lib.Math.min.name, Cond.initialized "java/lang/Math", Cond.code Lib.Math.min.name Lib.Math.min.code 2 (some .int), Cond.methodLink RX4 149 yX4_sortAt, Cond.instanceMethod yX4_sortAt, Cond.selects RX4 yX4_sortAt yX4_sortAt, Cond.code yX4_sortAt cX4_sortAt 3 (some .int), Cond.fieldLink RX4 9 "SkiShots$Reader" "text" "[B", Cond.methodLink RX4 40 yX4_readFormat, Cond.instanceMethod yX4_readFormat, Cond.selects RX4 yX4_readFormat yX4_readFormat, Cond.code yX4_readFormat cX4_readFormat 3 (some .boolean), Cond.fieldLink RX4 27 "SkiShots$Reader" "found" "[LSkiShots$Format;", Cond.classLink RX4 25 RX2]
def wsX4_readFormats_r2 : List Cond := [Cond.instantiable RX2 8, Cond.initialized RX2, Cond.fieldLink RX4 60 "SkiShots$Reader" "foundCount" "I", Cond.methodLink RX4 50 yX4_readWord, Cond.instanceMethod yX4_readWord, Cond.selects RX4 yX4_readWord yX4_readWord, Cond.code yX4_readWord cX4_readWord 2 (some .boolean), Cond.methodLink RX4 107 yX4_isWord, Cond.instanceMethod yX4_isWord, Cond.selects RX4 yX4_isWord yX4_isWord, Cond.code yX4_isWord cX4_isWord 3 (some .boolean), Cond.methodLink RX4 140 yJ0_length_8abf5, Cond.instanceMethod yJ0_length_8abf5, Cond.selects RJ0 yJ0_length_8abf5 yJ0_length_8abf5, Cond.initialized RJ0, Cond.code yJ0_length_8abf5 cJ0_length_8abf5 1 (some .int), Cond.fieldLink RJ0 9 "java/lang/String" "value" "[B", Cond.methodLink RJ0 335 yJ0_coder_7d493, Cond.instanceMethod yJ0_coder_7d493, Cond.selects RJ0 yJ0_coder_7d493 yJ0_coder_7d493, Cond.code yJ0_coder_7d493 cJ0_coder_7d493 1 (some .byte), Cond.fieldLink RJ0 38 "java/lang/String" "COMPACT_STRINGS" "Z", Cond.fieldLink RJ0 15 "java/lang/String" "coder" "B", Cond.methodLink RX4 145 yJ0_charAt_5068e]
def wsX4_readFormats_r3 : List Cond := [Cond.instanceMethod yJ0_charAt_5068e, Cond.selects RJ0 yJ0_charAt_5068e yJ0_charAt_5068e, Cond.code yJ0_charAt_5068e cJ0_charAt_5068e 2 (some .char), Cond.methodLink RJ0 492 yJ0_isLatin1_aae02, Cond.instanceMethod yJ0_isLatin1_aae02, Cond.selects RJ0 yJ0_isLatin1_aae02 yJ0_isLatin1_aae02, Cond.code yJ0_isLatin1_aae02 cJ0_isLatin1_aae02 1 (some .boolean), Cond.methodLink RJ0 495 yJ1_charAt_3b067, Cond.static yJ1_charAt_3b067, Cond.initialized RJ1, Cond.code yJ1_charAt_3b067 cJ1_charAt_3b067 2 (some .char), Cond.methodLink RJ1 9 yJ0_checkIndex_df160, Cond.static yJ0_checkIndex_df160, Cond.code yJ0_checkIndex_df160 cJ0_checkIndex_df160 2 none, Cond.fieldLink RJ0 1053 "jdk/internal/util/Preconditions" "SIOOBE_FORMATTER" "Ljava/util/function/BiFunction;", Cond.methodLink RJ0 1059 yJ3_checkIndex_8e157, Cond.static yJ3_checkIndex_8e157, Cond.initialized RJ3, Cond.code yJ3_checkIndex_8e157 cJ3_checkIndex_8e157 3 (some .int), Cond.methodLink RJ0 498 yJ2_charAt_3b067, Cond.static yJ2_charAt_3b067, Cond.initialized RJ2, Cond.code yJ2_charAt_3b067 cJ2_charAt_3b067 2 (some .char), Cond.methodLink RJ2 67 yJ2_checkIndex_2214a]
def wsX4_readFormats_r4 : List Cond := [Cond.static yJ2_checkIndex_2214a, Cond.code yJ2_checkIndex_2214a cJ2_checkIndex_2214a 2 none, Cond.methodLink RJ2 48 yJ2_length_9d52b, Cond.static yJ2_length_9d52b, Cond.code yJ2_length_9d52b cJ2_length_9d52b 1 (some .int), Cond.methodLink RJ2 414 yJ0_checkIndex_df160, Cond.methodLink RJ2 71 yJ2_getChar_3b067, Cond.static yJ2_getChar_3b067, Cond.code yJ2_getChar_3b067 cJ2_getChar_3b067 2 (some .char), Cond.fieldLink RJ2 44 "java/lang/StringUTF16" "$assertionsDisabled" "Z", Cond.fieldLink RJ2 59 "java/lang/StringUTF16" "HI_BYTE_SHIFT" "I", Cond.fieldLink RJ2 63 "java/lang/StringUTF16" "LO_BYTE_SHIFT" "I", Cond.methodLink RX4 44 yX4_fail, Cond.instanceMethod yX4_fail, Cond.selects RX4 yX4_fail yX4_fail, Cond.code yX4_fail cX4_fail 2 (some .boolean), Cond.fieldLink RX4 137 "SkiShots$Reader" "fault" "I", Cond.fieldLink RX4 31 "SkiShots$Reader" "faultPlace" "I", Cond.methodLink RX4 57 yX2_init, Cond.instanceMethod yX2_init, Cond.code yX2_init cX2_init 2 none, Cond.methodLink RX2 3 objectInit, Cond.instanceMethod objectInit, Cond.code objectInit ⟨#[0xb1]⟩ 1 none]
def wsX4_readFormats_r5 : List Cond := [Cond.fieldLink RX2 9 "SkiShots$Format" "name" "I", Cond.methodLink RX4 63 yX4_readSign, Cond.instanceMethod yX4_readSign, Cond.selects RX4 yX4_readSign yX4_readSign, Cond.code yX4_readSign cX4_readSign 2 (some .boolean), Cond.methodLink RX4 67 yX4_readLaps, Cond.instanceMethod yX4_readLaps, Cond.selects RX4 yX4_readLaps yX4_readLaps, Cond.code yX4_readLaps cX4_readLaps 2 (some .boolean), Cond.fieldLink RX4 89 "SkiShots$Reader" "number" "I", Cond.fieldLink RX4 92 "SkiShots$Format" "laps" "I", Cond.methodLink RX4 85 yX4_readNumber, Cond.instanceMethod yX4_readNumber, Cond.selects RX4 yX4_readNumber yX4_readNumber, Cond.code yX4_readNumber cX4_readNumber 4 (some .boolean), Cond.constant RX4 136 (100000), Cond.methodLink RX4 71 yX4_readShootings, Cond.instanceMethod yX4_readShootings, Cond.selects RX4 yX4_readShootings yX4_readShootings, Cond.code yX4_readShootings cX4_readShootings 4 (some .boolean), Cond.fieldLink RX4 96 "SkiShots$Format" "shootings" "I", Cond.methodLink RX4 74 yX4_readSpares, Cond.instanceMethod yX4_readSpares, Cond.selects RX4 yX4_readSpares yX4_readSpares]
def wsX4_readFormats_r6 : List Cond := [Cond.code yX4_readSpares cX4_readSpares 2 (some .boolean), Cond.fieldLink RX4 101 "SkiShots$Format" "spares" "I", Cond.methodLink RX4 77 yX4_readMiss, Cond.instanceMethod yX4_readMiss, Cond.selects RX4 yX4_readMiss yX4_readMiss, Cond.code yX4_readMiss cX4_readMiss 2 (some .boolean), Cond.fieldLink RX4 110 "SkiShots$Format" "loops" "Z", Cond.fieldLink RX4 116 "SkiShots$Format" "missSeconds" "I", Cond.methodLink RX4 80 yX4_readStart, Cond.instanceMethod yX4_readStart, Cond.selects RX4 yX4_readStart yX4_readStart, Cond.code yX4_readStart cX4_readStart 3 (some .boolean), Cond.fieldLink RX4 123 "SkiShots$Format" "startSort" "I", Cond.fieldLink RX4 130 "SkiShots$Format" "startSeconds" "I"]
def wsX4_readFormats : List Cond := .code yX4_readFormats cX4_readFormats 2 (some .boolean) :: ((wsX4_readFormats_r1 ++ (wsX4_readFormats_r2 ++ (wsX4_readFormats_r3 ++ (wsX4_readFormats_r4 ++ (wsX4_readFormats_r5 ++ wsX4_readFormats_r6))))) ++ wsX40 ++ wsX20)
def wsX5_init : List Cond := .code yX5_init cX5_init 1 none :: ([.methodLink RX5 1 objectInit, .instanceMethod objectInit, .code objectInit ⟨#[0xb1]⟩ 1 none, .arrayClass .byte, .fieldLink RX5 9 "SkiShots" "tape" "[B", .classLink RX5 13 RX2, .fieldLink RX5 15 "SkiShots" "formatsByName" "[LSkiShots$Format;", .fieldLink RX5 19 "SkiShots" "latestFaultPlace" "I", .arrayClass .int, .fieldLink RX5 23 "SkiShots" "nations" "[I", .classLink RX5 27 RX3, .fieldLink RX5 29 "SkiShots" "races" "[LSkiShots$Race;", .fieldLink RX5 33 "SkiShots" "cup" "[I"] ++ wsX50)
def wsX5_putOnTape : List Cond := .code yX5_putOnTape cX5_putOnTape 3 none :: ([.fieldLink RX5 36 "SkiShots" "tapeLength" "I", .fieldLink RX5 9 "SkiShots" "tape" "[B"] ++ wsX50)
def wsX5_feed : List Cond := .code yX5_feed cX5_feed 6 (some .int) :: ([.fieldLink RX5 36 "SkiShots" "tapeLength" "I", .methodLink RX5 39 yX5_putOnTape, .instanceMethod yX5_putOnTape, .selects RX5 yX5_putOnTape yX5_putOnTape, .initialized RX5, .code yX5_putOnTape cX5_putOnTape 3 none, .fieldLink RX5 9 "SkiShots" "tape" "[B"] ++ wsX50)
def wsX5_formats_r1 : List Cond := [Cond.fieldLink RX5 36 "SkiShots" "tapeLength" "I", Cond.classLink RX5 43 RX4, Cond.instantiable RX4 10, Cond.initialized RX4, Cond.fieldLink RX5 9 "SkiShots" "tape" "[B", Cond.fieldLink RX5 52 "SkiShots$Reader" "fault" "I", Cond.fieldLink RX5 55 "SkiShots" "latestFault" "I", Cond.fieldLink RX5 58 "SkiShots$Reader" "faultPlace" "I", Cond.fieldLink RX5 19 "SkiShots" "latestFaultPlace" "I", Cond.fieldLink RX5 61 "SkiShots$Reader" "found" "[LSkiShots$Format;", Cond.fieldLink RX5 15 "SkiShots" "formatsByName" "[LSkiShots$Format;", Cond.fieldLink RX5 64 "SkiShots$Reader" "foundCount" "I", Cond.fieldLink RX5 67 "SkiShots" "formatCount" "I", Cond.methodLink RX5 45 yX4_init, Cond.instanceMethod yX4_init, Cond.code yX4_init cX4_init 3 none, Cond.methodLink RX4 3 objectInit, Cond.instanceMethod objectInit, Cond.code objectInit ⟨#[0xb1]⟩ 1 none, Cond.fieldLink RX4 9 "SkiShots$Reader" "text" "[B", Cond.methodLink RX4 15 Lib.Math.min.name, Cond.static Lib.Math.min.name, Cond.initialized "java/lang/Math", Cond.code Lib.Math.min.name Lib.Math.min.code 2 (some .int)]
def wsX5_formats_r2 : List Cond := [Cond.fieldLink RX4 21 "SkiShots$Reader" "length" "I", Cond.classLink RX4 25 RX2, Cond.fieldLink RX4 27 "SkiShots$Reader" "found" "[LSkiShots$Format;", Cond.fieldLink RX4 31 "SkiShots$Reader" "faultPlace" "I", Cond.methodLink RX5 48 yX4_readFormats, Cond.instanceMethod yX4_readFormats, Cond.selects RX4 yX4_readFormats yX4_readFormats, Cond.code yX4_readFormats cX4_readFormats 2 (some .boolean), Cond.fieldLink RX4 37 "SkiShots$Reader" "sort" "I", Cond.methodLink RX4 34 yX4_step, Cond.instanceMethod yX4_step, Cond.selects RX4 yX4_step yX4_step, Cond.code yX4_step cX4_step 1 none, Cond.fieldLink RX4 133 "SkiShots$Reader" "behind" "I", Cond.fieldLink RX4 54 "SkiShots$Reader" "place" "I", Cond.methodLink RX4 149 yX4_sortAt, Cond.instanceMethod yX4_sortAt, Cond.selects RX4 yX4_sortAt yX4_sortAt, Cond.code yX4_sortAt cX4_sortAt 3 (some .int), Cond.methodLink RX4 40 yX4_readFormat, Cond.instanceMethod yX4_readFormat, Cond.selects RX4 yX4_readFormat yX4_readFormat, Cond.code yX4_readFormat cX4_readFormat 3 (some .boolean), Cond.instantiable RX2 8]
def wsX5_formats_r3 : List Cond := [Cond.initialized RX2, Cond.fieldLink RX4 60 "SkiShots$Reader" "foundCount" "I", Cond.methodLink RX4 50 yX4_readWord, Cond.instanceMethod yX4_readWord, Cond.selects RX4 yX4_readWord yX4_readWord, Cond.code yX4_readWord cX4_readWord 2 (some .boolean), Cond.methodLink RX4 107 yX4_isWord, Cond.instanceMethod yX4_isWord, Cond.selects RX4 yX4_isWord yX4_isWord, Cond.code yX4_isWord cX4_isWord 3 (some .boolean), Cond.methodLink RX4 140 yJ0_length_8abf5, Cond.instanceMethod yJ0_length_8abf5, Cond.selects RJ0 yJ0_length_8abf5 yJ0_length_8abf5, Cond.initialized RJ0, Cond.code yJ0_length_8abf5 cJ0_length_8abf5 1 (some .int), Cond.fieldLink RJ0 9 "java/lang/String" "value" "[B", Cond.methodLink RJ0 335 yJ0_coder_7d493, Cond.instanceMethod yJ0_coder_7d493, Cond.selects RJ0 yJ0_coder_7d493 yJ0_coder_7d493, Cond.code yJ0_coder_7d493 cJ0_coder_7d493 1 (some .byte), Cond.fieldLink RJ0 38 "java/lang/String" "COMPACT_STRINGS" "Z", Cond.fieldLink RJ0 15 "java/lang/String" "coder" "B", Cond.methodLink RX4 145 yJ0_charAt_5068e, Cond.instanceMethod yJ0_charAt_5068e]
def wsX5_formats_r4 : List Cond := [Cond.selects RJ0 yJ0_charAt_5068e yJ0_charAt_5068e, Cond.code yJ0_charAt_5068e cJ0_charAt_5068e 2 (some .char), Cond.methodLink RJ0 492 yJ0_isLatin1_aae02, Cond.instanceMethod yJ0_isLatin1_aae02, Cond.selects RJ0 yJ0_isLatin1_aae02 yJ0_isLatin1_aae02, Cond.code yJ0_isLatin1_aae02 cJ0_isLatin1_aae02 1 (some .boolean), Cond.methodLink RJ0 495 yJ1_charAt_3b067, Cond.static yJ1_charAt_3b067, Cond.initialized RJ1, Cond.code yJ1_charAt_3b067 cJ1_charAt_3b067 2 (some .char), Cond.methodLink RJ1 9 yJ0_checkIndex_df160, Cond.static yJ0_checkIndex_df160, Cond.code yJ0_checkIndex_df160 cJ0_checkIndex_df160 2 none, Cond.fieldLink RJ0 1053 "jdk/internal/util/Preconditions" "SIOOBE_FORMATTER" "Ljava/util/function/BiFunction;", Cond.methodLink RJ0 1059 yJ3_checkIndex_8e157, Cond.static yJ3_checkIndex_8e157, Cond.initialized RJ3, Cond.code yJ3_checkIndex_8e157 cJ3_checkIndex_8e157 3 (some .int), Cond.methodLink RJ0 498 yJ2_charAt_3b067, Cond.static yJ2_charAt_3b067, Cond.initialized RJ2, Cond.code yJ2_charAt_3b067 cJ2_charAt_3b067 2 (some .char), Cond.methodLink RJ2 67 yJ2_checkIndex_2214a, Cond.static yJ2_checkIndex_2214a]
def wsX5_formats_r5 : List Cond := [Cond.code yJ2_checkIndex_2214a cJ2_checkIndex_2214a 2 none, Cond.methodLink RJ2 48 yJ2_length_9d52b, Cond.static yJ2_length_9d52b, Cond.code yJ2_length_9d52b cJ2_length_9d52b 1 (some .int), Cond.methodLink RJ2 414 yJ0_checkIndex_df160, Cond.methodLink RJ2 71 yJ2_getChar_3b067, Cond.static yJ2_getChar_3b067, Cond.code yJ2_getChar_3b067 cJ2_getChar_3b067 2 (some .char), Cond.fieldLink RJ2 44 "java/lang/StringUTF16" "$assertionsDisabled" "Z", Cond.fieldLink RJ2 59 "java/lang/StringUTF16" "HI_BYTE_SHIFT" "I", Cond.fieldLink RJ2 63 "java/lang/StringUTF16" "LO_BYTE_SHIFT" "I", Cond.methodLink RX4 44 yX4_fail, Cond.instanceMethod yX4_fail, Cond.selects RX4 yX4_fail yX4_fail, Cond.code yX4_fail cX4_fail 2 (some .boolean), Cond.fieldLink RX4 137 "SkiShots$Reader" "fault" "I", Cond.methodLink RX4 57 yX2_init, Cond.instanceMethod yX2_init, Cond.code yX2_init cX2_init 2 none, Cond.methodLink RX2 3 objectInit, Cond.fieldLink RX2 9 "SkiShots$Format" "name" "I", Cond.methodLink RX4 63 yX4_readSign, Cond.instanceMethod yX4_readSign, Cond.selects RX4 yX4_readSign yX4_readSign]
def wsX5_formats_r6 : List Cond := [Cond.code yX4_readSign cX4_readSign 2 (some .boolean), Cond.methodLink RX4 67 yX4_readLaps, Cond.instanceMethod yX4_readLaps, Cond.selects RX4 yX4_readLaps yX4_readLaps, Cond.code yX4_readLaps cX4_readLaps 2 (some .boolean), Cond.fieldLink RX4 89 "SkiShots$Reader" "number" "I", Cond.fieldLink RX4 92 "SkiShots$Format" "laps" "I", Cond.methodLink RX4 85 yX4_readNumber, Cond.instanceMethod yX4_readNumber, Cond.selects RX4 yX4_readNumber yX4_readNumber, Cond.code yX4_readNumber cX4_readNumber 4 (some .boolean), Cond.constant RX4 136 (100000), Cond.methodLink RX4 71 yX4_readShootings, Cond.instanceMethod yX4_readShootings, Cond.selects RX4 yX4_readShootings yX4_readShootings, Cond.code yX4_readShootings cX4_readShootings 4 (some .boolean), Cond.fieldLink RX4 96 "SkiShots$Format" "shootings" "I", Cond.methodLink RX4 74 yX4_readSpares, Cond.instanceMethod yX4_readSpares, Cond.selects RX4 yX4_readSpares yX4_readSpares, Cond.code yX4_readSpares cX4_readSpares 2 (some .boolean), Cond.fieldLink RX4 101 "SkiShots$Format" "spares" "I", Cond.methodLink RX4 77 yX4_readMiss, Cond.instanceMethod yX4_readMiss]
def wsX5_formats_r7 : List Cond := [Cond.selects RX4 yX4_readMiss yX4_readMiss, Cond.code yX4_readMiss cX4_readMiss 2 (some .boolean), Cond.fieldLink RX4 110 "SkiShots$Format" "loops" "Z", Cond.fieldLink RX4 116 "SkiShots$Format" "missSeconds" "I", Cond.methodLink RX4 80 yX4_readStart, Cond.instanceMethod yX4_readStart, Cond.selects RX4 yX4_readStart yX4_readStart, Cond.code yX4_readStart cX4_readStart 3 (some .boolean), Cond.fieldLink RX4 123 "SkiShots$Format" "startSort" "I", Cond.fieldLink RX4 130 "SkiShots$Format" "startSeconds" "I"]
def wsX5_formats : List Cond := .code yX5_formats cX5_formats 4 (some .int) :: ((wsX5_formats_r1 ++ (wsX5_formats_r2 ++ (wsX5_formats_r3 ++ (wsX5_formats_r4 ++ (wsX5_formats_r5 ++ (wsX5_formats_r6 ++ wsX5_formats_r7)))))) ++ wsX50 ++ wsX40 ++ wsX20)
def wsX5_fault : List Cond := .code yX5_fault cX5_fault 2 (some .int) :: ([.fieldLink RX5 55 "SkiShots" "latestFault" "I", .fieldLink RX5 19 "SkiShots" "latestFaultPlace" "I"] ++ wsX50)
def wsX5_pass : List Cond := .code yX5_pass cX5_pass 2 (some .int) :: ([.fieldLink RX5 70 "SkiShots" "today" "I"] ++ wsX50)
def wsX5_isNation : List Cond := .code yX5_isNation cX5_isNation 1 (some .boolean) :: ([])
def wsX5_racer : List Cond := .code yX5_racer cX5_racer 2 (some .int) :: ([.fieldLink RX5 77 "SkiShots" "racerCount" "I", .fieldLink RX5 23 "SkiShots" "nations" "[I", .methodLink RX5 73 yX5_isNation, .static yX5_isNation, .initialized RX5, .code yX5_isNation cX5_isNation 1 (some .boolean)] ++ wsX50)
def wsX5_raceAt : List Cond := .code yX5_raceAt cX5_raceAt 2 (some (.object "SkiShots$Race")) :: ([.fieldLink RX5 80 "SkiShots" "raceCount" "I", .fieldLink RX5 29 "SkiShots" "races" "[LSkiShots$Race;"] ++ wsX50)
def wsX5_race : List Cond := .code yX5_race cX5_race 6 (some .int) :: ([.fieldLink RX5 80 "SkiShots" "raceCount" "I", .fieldLink RX5 15 "SkiShots" "formatsByName" "[LSkiShots$Format;", .fieldLink RX5 87 "SkiShots$Format" "startSort" "I", .fieldLink RX5 29 "SkiShots" "races" "[LSkiShots$Race;", .classLink RX5 27 RX3, .instantiable RX3 7, .initialized RX3, .methodLink RX5 83 yX5_raceAt, .instanceMethod yX5_raceAt, .selects RX5 yX5_raceAt yX5_raceAt, .initialized RX5, .code yX5_raceAt cX5_raceAt 2 (some (.object "SkiShots$Race")), .methodLink RX5 90 yX3_init, .instanceMethod yX3_init, .code yX3_init cX3_init 4 none, .methodLink RX3 3 objectInit, .instanceMethod objectInit, .code objectInit ⟨#[0xb1]⟩ 1 none, .fieldLink RX3 9 "SkiShots$Race" "format" "LSkiShots$Format;", .fieldLink RX3 15 "SkiShots$Race" "by" "LSkiShots$Race;", .fieldLink RX3 19 "SkiShots$Race" "byNumber" "I", .classLink RX3 23 RX0, .fieldLink RX3 25 "SkiShots$Race" "entries" "[LSkiShots$Entry;"] ++ wsX50 ++ wsX20 ++ wsX30)
def wsX5_isRacer : List Cond := .code yX5_isRacer cX5_isRacer 2 (some .boolean) :: ([.fieldLink RX5 77 "SkiShots" "racerCount" "I"] ++ wsX50)
def wsX5_enter_r1 : List Cond := [Cond.fieldLink RX5 96 "SkiShots$Race" "told" "I", Cond.fieldLink RX5 106 "SkiShots$Race" "entryCount" "I", Cond.methodLink RX5 83 yX5_raceAt, Cond.instanceMethod yX5_raceAt, Cond.selects RX5 yX5_raceAt yX5_raceAt, Cond.initialized RX5, Cond.code yX5_raceAt cX5_raceAt 2 (some (.object "SkiShots$Race")), Cond.fieldLink RX5 80 "SkiShots" "raceCount" "I", Cond.fieldLink RX5 29 "SkiShots" "races" "[LSkiShots$Race;", Cond.methodLink RX5 93 yX5_isRacer, Cond.instanceMethod yX5_isRacer, Cond.selects RX5 yX5_isRacer yX5_isRacer, Cond.code yX5_isRacer cX5_isRacer 2 (some .boolean), Cond.fieldLink RX5 77 "SkiShots" "racerCount" "I", Cond.methodLink RX5 99 yX3_entryOf, Cond.instanceMethod yX3_entryOf, Cond.selects RX3 yX3_entryOf yX3_entryOf, Cond.initialized RX3, Cond.code yX3_entryOf cX3_entryOf 3 (some (.object "SkiShots$Entry")), Cond.fieldLink RX3 29 "SkiShots$Race" "entryCount" "I", Cond.fieldLink RX3 25 "SkiShots$Race" "entries" "[LSkiShots$Entry;", Cond.fieldLink RX3 35 "SkiShots$Entry" "racer" "I", Cond.methodLink RX5 103 yX3_add, Cond.instanceMethod yX3_add]
def wsX5_enter_r2 : List Cond := [Cond.selects RX3 yX3_add yX3_add, Cond.code yX3_add cX3_add 2 none, Cond.classLink RX3 23 RX0, Cond.instantiable RX0 10, Cond.initialized RX0, Cond.methodLink RX3 32 yX0_init, Cond.instanceMethod yX0_init, Cond.code yX0_init cX0_init 2 none, Cond.methodLink RX0 3 objectInit, Cond.instanceMethod objectInit, Cond.code objectInit ⟨#[0xb1]⟩ 1 none, Cond.fieldLink RX0 9 "SkiShots$Entry" "racer" "I"]
def wsX5_enter : List Cond := .code yX5_enter cX5_enter 4 (some .int) :: ((wsX5_enter_r1 ++ wsX5_enter_r2) ++ wsX30 ++ wsX50 ++ wsX00)
def wsX5_isValue : List Cond := .code yX5_isValue cX5_isValue 2 (some .boolean) :: ([.constant RX5 227 (200000)])
def wsX5_tell_r1 : List Cond := [Cond.fieldLink RX5 109 "SkiShots" "eventCount" "I", Cond.fieldLink RX5 112 "SkiShots$Race" "format" "LSkiShots$Format;", Cond.classLink RX5 123 RX1, Cond.instantiable RX1 5, Cond.initialized RX1, Cond.fieldLink RX5 70 "SkiShots" "today" "I", Cond.fieldLink RX5 125 "SkiShots$Entry" "latest" "LSkiShots$Event;", Cond.fieldLink RX5 96 "SkiShots$Race" "told" "I", Cond.methodLink RX5 83 yX5_raceAt, Cond.instanceMethod yX5_raceAt, Cond.selects RX5 yX5_raceAt yX5_raceAt, Cond.initialized RX5, Cond.code yX5_raceAt cX5_raceAt 2 (some (.object "SkiShots$Race")), Cond.fieldLink RX5 80 "SkiShots" "raceCount" "I", Cond.fieldLink RX5 29 "SkiShots" "races" "[LSkiShots$Race;", Cond.methodLink RX5 99 yX3_entryOf, Cond.instanceMethod yX3_entryOf, Cond.selects RX3 yX3_entryOf yX3_entryOf, Cond.initialized RX3, Cond.code yX3_entryOf cX3_entryOf 3 (some (.object "SkiShots$Entry")), Cond.fieldLink RX3 29 "SkiShots$Race" "entryCount" "I", Cond.fieldLink RX3 25 "SkiShots$Race" "entries" "[LSkiShots$Entry;", Cond.fieldLink RX3 35 "SkiShots$Entry" "racer" "I", Cond.methodLink RX5 116 yX2_hasEvent]
def wsX5_tell_r2 : List Cond := [Cond.instanceMethod yX2_hasEvent, Cond.selects RX2 yX2_hasEvent yX2_hasEvent, Cond.initialized RX2, Cond.code yX2_hasEvent cX2_hasEvent 3 (some .boolean), Cond.fieldLink RX2 15 "SkiShots$Format" "laps" "I", Cond.fieldLink RX2 18 "SkiShots$Format" "shootings" "I", Cond.methodLink RX5 120 yX5_isValue, Cond.static yX5_isValue, Cond.code yX5_isValue cX5_isValue 2 (some .boolean), Cond.constant RX5 227 (200000), Cond.methodLink RX5 131 yX1_init, Cond.instanceMethod yX1_init, Cond.code yX1_init cX1_init 6 none, Cond.methodLink RX1 1 objectInit, Cond.instanceMethod objectInit, Cond.code objectInit ⟨#[0xb1]⟩ 1 none, Cond.fieldLink RX1 7 "SkiShots$Event" "day" "I", Cond.fieldLink RX1 13 "SkiShots$Event" "sort" "I", Cond.fieldLink RX1 16 "SkiShots$Event" "k" "I", Cond.fieldLink RX1 19 "SkiShots$Event" "v" "I", Cond.fieldLink RX1 22 "SkiShots$Event" "before" "LSkiShots$Event;"]
def wsX5_tell : List Cond := .code yX5_tell cX5_tell 8 (some .int) :: ((wsX5_tell_r1 ++ wsX5_tell_r2) ++ wsX50 ++ wsX30 ++ wsX10 ++ wsX00 ++ wsX20)
def wsX5_look : List Cond := .code yX5_look cX5_look 4 (some .int) :: ([.classLink RX5 134 "java/lang/IndexOutOfBoundsException", .initialized "java/lang/IndexOutOfBoundsException", .classLink RX5 156 "java/util/NoSuchElementException", .initialized "java/util/NoSuchElementException", .fieldLink RX5 112 "SkiShots$Race" "format" "LSkiShots$Format;", .fieldLink RX5 141 "SkiShots$Format" "name" "I", .fieldLink RX5 144 "SkiShots$Format" "laps" "I", .fieldLink RX5 147 "SkiShots$Format" "shootings" "I", .fieldLink RX5 150 "SkiShots$Format" "spares" "I", .fieldLink RX5 153 "SkiShots$Race" "byNumber" "I", .fieldLink RX5 106 "SkiShots$Race" "entryCount" "I", .fieldLink RX5 96 "SkiShots$Race" "told" "I", .methodLink RX5 83 yX5_raceAt, .instanceMethod yX5_raceAt, .selects RX5 yX5_raceAt yX5_raceAt, .initialized RX5, .code yX5_raceAt cX5_raceAt 2 (some (.object "SkiShots$Race")), .fieldLink RX5 80 "SkiShots" "raceCount" "I", .fieldLink RX5 29 "SkiShots" "races" "[LSkiShots$Race;"] ++ wsX30 ++ wsX20 ++ wsX50 ++ (vx_atS RX5 138 "java/lang/IndexOutOfBoundsException" ["java/lang/RuntimeException", "java/lang/Exception"]).filter goodWord ++ (vx_atS RX5 160 "java/util/NoSuchElementException" ["java/lang/RuntimeException", "java/lang/Exception"]).filter goodWord)
def wsX5_entry : List Cond := .code yX5_entry cX5_entry 4 (some .int) :: ([.fieldLink RX5 106 "SkiShots$Race" "entryCount" "I", .fieldLink RX5 161 "SkiShots$Race" "entries" "[LSkiShots$Entry;", .fieldLink RX5 165 "SkiShots$Entry" "racer" "I", .methodLink RX5 83 yX5_raceAt, .instanceMethod yX5_raceAt, .selects RX5 yX5_raceAt yX5_raceAt, .initialized RX5, .code yX5_raceAt cX5_raceAt 2 (some (.object "SkiShots$Race")), .fieldLink RX5 80 "SkiShots" "raceCount" "I", .fieldLink RX5 29 "SkiShots" "races" "[LSkiShots$Race;"] ++ wsX30 ++ wsX00 ++ wsX50)
def wsX5_isDay : List Cond := .code yX5_isDay cX5_isDay 2 (some .boolean) :: ([.fieldLink RX5 70 "SkiShots" "today" "I"] ++ wsX50)
def wsX5_workOut_r1 : List Cond := [Cond.fieldLink RX5 80 "SkiShots" "raceCount" "I", Cond.fieldLink RX5 29 "SkiShots" "races" "[LSkiShots$Race;", Cond.methodLink RX5 228 yX3_workOut, Cond.instanceMethod yX3_workOut, Cond.selects RX3 yX3_workOut yX3_workOut, Cond.initialized RX3, Cond.code yX3_workOut cX3_workOut 4 none, Cond.fieldLink RX3 38 "SkiShots$Race" "leastLow" "I", Cond.fieldLink RX3 29 "SkiShots$Race" "entryCount" "I", Cond.fieldLink RX3 25 "SkiShots$Race" "entries" "[LSkiShots$Entry;", Cond.fieldLink RX3 9 "SkiShots$Race" "format" "LSkiShots$Format;", Cond.fieldLink RX3 53 "SkiShots$Entry" "low" "I", Cond.methodLink RX3 41 yX3_startOf, Cond.instanceMethod yX3_startOf, Cond.selects RX3 yX3_startOf yX3_startOf, Cond.code yX3_startOf cX3_startOf 2 (some .int), Cond.fieldLink RX3 56 "SkiShots$Format" "startSort" "I", Cond.fieldLink RX3 61 "SkiShots$Format" "startSeconds" "I", Cond.fieldLink RX3 35 "SkiShots$Entry" "racer" "I", Cond.methodLink RX3 64 yX3_chaseStart, Cond.instanceMethod yX3_chaseStart, Cond.selects RX3 yX3_chaseStart yX3_chaseStart, Cond.code yX3_chaseStart cX3_chaseStart 4 (some .int), Cond.fieldLink RX3 15 "SkiShots$Race" "by" "LSkiShots$Race;"]
def wsX5_workOut_r2 : List Cond := [Cond.methodLink RX3 71 Lib.Math.min.name, Cond.static Lib.Math.min.name, Cond.initialized "java/lang/Math", Cond.code Lib.Math.min.name Lib.Math.min.code 2 (some .int), Cond.methodLink RX3 67 yX3_entryOf, Cond.instanceMethod yX3_entryOf, Cond.selects RX3 yX3_entryOf yX3_entryOf, Cond.code yX3_entryOf cX3_entryOf 3 (some (.object "SkiShots$Entry")), Cond.methodLink RX3 49 yX0_hasTime, Cond.instanceMethod yX0_hasTime, Cond.selects RX0 yX0_hasTime yX0_hasTime, Cond.initialized RX0, Cond.code yX0_hasTime cX0_hasTime 1 (some .boolean), Cond.fieldLink RX0 39 "SkiShots$Entry" "low" "I", Cond.methodLink RX3 45 yX0_workOut, Cond.instanceMethod yX0_workOut, Cond.selects RX0 yX0_workOut yX0_workOut, Cond.code yX0_workOut cX0_workOut 5 none, Cond.fieldLink RX0 36 "SkiShots$Entry" "start" "I", Cond.fieldLink RX0 46 "SkiShots$Entry" "struck" "Z", Cond.fieldLink RX0 50 "SkiShots$Entry" "fewestMisses" "I", Cond.fieldLink RX0 53 "SkiShots$Entry" "mostMisses" "I", Cond.fieldLink RX0 56 "SkiShots$Entry" "leastPenalty" "I", Cond.fieldLink RX0 59 "SkiShots$Entry" "greatestPenalty" "I"]
def wsX5_workOut_r3 : List Cond := [Cond.fieldLink RX0 62 "SkiShots$Format" "shootings" "I", Cond.fieldLink RX0 71 "SkiShots$Format" "laps" "I", Cond.fieldLink RX0 78 "SkiShots$Entry" "high" "I", Cond.methodLink RX0 42 yX0_known, Cond.instanceMethod yX0_known, Cond.selects RX0 yX0_known yX0_known, Cond.code yX0_known cX0_known 5 (some .int), Cond.fieldLink RX0 15 "SkiShots$Entry" "latest" "LSkiShots$Event;", Cond.fieldLink RX0 19 "SkiShots$Event" "day" "I", Cond.fieldLink RX0 24 "SkiShots$Event" "sort" "I", Cond.fieldLink RX0 27 "SkiShots$Event" "k" "I", Cond.fieldLink RX0 30 "SkiShots$Event" "v" "I", Cond.fieldLink RX0 33 "SkiShots$Event" "before" "LSkiShots$Event;", Cond.methodLink RX0 67 yX0_addShooting, Cond.instanceMethod yX0_addShooting, Cond.selects RX0 yX0_addShooting yX0_addShooting, Cond.code yX0_addShooting cX0_addShooting 11 none, Cond.fieldLink RX0 86 "SkiShots$Format" "loops" "Z", Cond.fieldLink RX0 89 "SkiShots$Format" "missSeconds" "I", Cond.methodLink RX0 92 Lib.Math.max.name, Cond.static Lib.Math.max.name, Cond.code Lib.Math.max.name Lib.Math.max.code 2 (some .int), Cond.methodLink RX0 81 yJ6_bitCount_0f7a4, Cond.static yJ6_bitCount_0f7a4]
def wsX5_workOut_r4 : List Cond := [Cond.initialized RJ6, Cond.code yJ6_bitCount_0f7a4 cJ6_bitCount_0f7a4 1 (some .int), Cond.constant RJ6 265 (1431655765), Cond.constant RJ6 266 (858993459), Cond.constant RJ6 267 (252645135), Cond.methodLink RX0 74 yX0_sinceStart, Cond.instanceMethod yX0_sinceStart, Cond.selects RX0 yX0_sinceStart yX0_sinceStart, Cond.code yX0_sinceStart cX0_sinceStart 2 (some .int)]
def wsX5_workOut : List Cond := .code yX5_workOut cX5_workOut 4 none :: ((wsX5_workOut_r1 ++ (wsX5_workOut_r2 ++ (wsX5_workOut_r3 ++ wsX5_workOut_r4))) ++ wsX50 ++ wsX30 ++ wsX00 ++ wsX20 ++ wsX10)
def wsX5_time_r1 : List Cond := [Cond.fieldLink RX5 175 "SkiShots$Entry" "start" "I", Cond.fieldLink RX5 178 "SkiShots$Entry" "low" "I", Cond.fieldLink RX5 181 "SkiShots$Entry" "high" "I", Cond.fieldLink RX5 191 "SkiShots$Entry" "struck" "Z", Cond.fieldLink RX5 195 "SkiShots$Entry" "fewestMisses" "I", Cond.fieldLink RX5 198 "SkiShots$Entry" "mostMisses" "I", Cond.methodLink RX5 83 yX5_raceAt, Cond.instanceMethod yX5_raceAt, Cond.selects RX5 yX5_raceAt yX5_raceAt, Cond.initialized RX5, Cond.code yX5_raceAt cX5_raceAt 2 (some (.object "SkiShots$Race")), Cond.fieldLink RX5 80 "SkiShots" "raceCount" "I", Cond.fieldLink RX5 29 "SkiShots" "races" "[LSkiShots$Race;", Cond.methodLink RX5 168 yX5_isDay, Cond.instanceMethod yX5_isDay, Cond.selects RX5 yX5_isDay yX5_isDay, Cond.code yX5_isDay cX5_isDay 2 (some .boolean), Cond.fieldLink RX5 70 "SkiShots" "today" "I", Cond.methodLink RX5 99 yX3_entryOf, Cond.instanceMethod yX3_entryOf, Cond.selects RX3 yX3_entryOf yX3_entryOf, Cond.initialized RX3, Cond.code yX3_entryOf cX3_entryOf 3 (some (.object "SkiShots$Entry")), Cond.fieldLink RX3 29 "SkiShots$Race" "entryCount" "I"]
def wsX5_time_r2 : List Cond := [Cond.fieldLink RX3 25 "SkiShots$Race" "entries" "[LSkiShots$Entry;", Cond.fieldLink RX3 35 "SkiShots$Entry" "racer" "I", Cond.methodLink RX5 171 yX5_workOut, Cond.instanceMethod yX5_workOut, Cond.selects RX5 yX5_workOut yX5_workOut, Cond.code yX5_workOut cX5_workOut 4 none, Cond.methodLink RX5 228 yX3_workOut, Cond.instanceMethod yX3_workOut, Cond.selects RX3 yX3_workOut yX3_workOut, Cond.code yX3_workOut cX3_workOut 4 none, Cond.fieldLink RX3 38 "SkiShots$Race" "leastLow" "I", Cond.fieldLink RX3 9 "SkiShots$Race" "format" "LSkiShots$Format;", Cond.fieldLink RX3 53 "SkiShots$Entry" "low" "I", Cond.methodLink RX3 41 yX3_startOf, Cond.instanceMethod yX3_startOf, Cond.selects RX3 yX3_startOf yX3_startOf, Cond.code yX3_startOf cX3_startOf 2 (some .int), Cond.fieldLink RX3 56 "SkiShots$Format" "startSort" "I", Cond.fieldLink RX3 61 "SkiShots$Format" "startSeconds" "I", Cond.methodLink RX3 64 yX3_chaseStart, Cond.instanceMethod yX3_chaseStart, Cond.selects RX3 yX3_chaseStart yX3_chaseStart, Cond.code yX3_chaseStart cX3_chaseStart 4 (some .int), Cond.fieldLink RX3 15 "SkiShots$Race" "by" "LSkiShots$Race;"]
def wsX5_time_r3 : List Cond := [Cond.methodLink RX3 71 Lib.Math.min.name, Cond.static Lib.Math.min.name, Cond.initialized "java/lang/Math", Cond.code Lib.Math.min.name Lib.Math.min.code 2 (some .int), Cond.methodLink RX3 67 yX3_entryOf, Cond.methodLink RX3 49 yX0_hasTime, Cond.instanceMethod yX0_hasTime, Cond.selects RX0 yX0_hasTime yX0_hasTime, Cond.initialized RX0, Cond.code yX0_hasTime cX0_hasTime 1 (some .boolean), Cond.fieldLink RX0 39 "SkiShots$Entry" "low" "I", Cond.methodLink RX3 45 yX0_workOut, Cond.instanceMethod yX0_workOut, Cond.selects RX0 yX0_workOut yX0_workOut, Cond.code yX0_workOut cX0_workOut 5 none, Cond.fieldLink RX0 36 "SkiShots$Entry" "start" "I", Cond.fieldLink RX0 46 "SkiShots$Entry" "struck" "Z", Cond.fieldLink RX0 50 "SkiShots$Entry" "fewestMisses" "I", Cond.fieldLink RX0 53 "SkiShots$Entry" "mostMisses" "I", Cond.fieldLink RX0 56 "SkiShots$Entry" "leastPenalty" "I", Cond.fieldLink RX0 59 "SkiShots$Entry" "greatestPenalty" "I", Cond.fieldLink RX0 62 "SkiShots$Format" "shootings" "I", Cond.fieldLink RX0 71 "SkiShots$Format" "laps" "I", Cond.fieldLink RX0 78 "SkiShots$Entry" "high" "I"]
def wsX5_time_r4 : List Cond := [Cond.methodLink RX0 42 yX0_known, Cond.instanceMethod yX0_known, Cond.selects RX0 yX0_known yX0_known, Cond.code yX0_known cX0_known 5 (some .int), Cond.fieldLink RX0 15 "SkiShots$Entry" "latest" "LSkiShots$Event;", Cond.fieldLink RX0 19 "SkiShots$Event" "day" "I", Cond.fieldLink RX0 24 "SkiShots$Event" "sort" "I", Cond.fieldLink RX0 27 "SkiShots$Event" "k" "I", Cond.fieldLink RX0 30 "SkiShots$Event" "v" "I", Cond.fieldLink RX0 33 "SkiShots$Event" "before" "LSkiShots$Event;", Cond.methodLink RX0 67 yX0_addShooting, Cond.instanceMethod yX0_addShooting, Cond.selects RX0 yX0_addShooting yX0_addShooting, Cond.code yX0_addShooting cX0_addShooting 11 none, Cond.fieldLink RX0 86 "SkiShots$Format" "loops" "Z", Cond.fieldLink RX0 89 "SkiShots$Format" "missSeconds" "I", Cond.methodLink RX0 92 Lib.Math.max.name, Cond.static Lib.Math.max.name, Cond.code Lib.Math.max.name Lib.Math.max.code 2 (some .int), Cond.methodLink RX0 81 yJ6_bitCount_0f7a4, Cond.static yJ6_bitCount_0f7a4, Cond.initialized RJ6, Cond.code yJ6_bitCount_0f7a4 cJ6_bitCount_0f7a4 1 (some .int), Cond.constant RJ6 265 (1431655765)]
def wsX5_time_r5 : List Cond := [Cond.constant RJ6 266 (858993459), Cond.constant RJ6 267 (252645135), Cond.methodLink RX0 74 yX0_sinceStart, Cond.instanceMethod yX0_sinceStart, Cond.selects RX0 yX0_sinceStart yX0_sinceStart, Cond.code yX0_sinceStart cX0_sinceStart 2 (some .int), Cond.methodLink RX5 184 yX3_firstPlace, Cond.instanceMethod yX3_firstPlace, Cond.selects RX3 yX3_firstPlace yX3_firstPlace, Cond.code yX3_firstPlace cX3_firstPlace 5 (some .int), Cond.fieldLink RX3 77 "SkiShots$Entry" "high" "I", Cond.methodLink RX5 188 yX3_lastPlace, Cond.instanceMethod yX3_lastPlace, Cond.selects RX3 yX3_lastPlace yX3_lastPlace, Cond.code yX3_lastPlace cX3_lastPlace 5 (some .int)]
def wsX5_time : List Cond := .code yX5_time cX5_time 7 (some .int) :: ((wsX5_time_r1 ++ (wsX5_time_r2 ++ (wsX5_time_r3 ++ (wsX5_time_r4 ++ wsX5_time_r5)))) ++ wsX00 ++ wsX50 ++ wsX30 ++ wsX20 ++ wsX10)
def wsX5_split_r1 : List Cond := [Cond.fieldLink RX5 112 "SkiShots$Race" "format" "LSkiShots$Format;", Cond.methodLink RX5 83 yX5_raceAt, Cond.instanceMethod yX5_raceAt, Cond.selects RX5 yX5_raceAt yX5_raceAt, Cond.initialized RX5, Cond.code yX5_raceAt cX5_raceAt 2 (some (.object "SkiShots$Race")), Cond.fieldLink RX5 80 "SkiShots" "raceCount" "I", Cond.fieldLink RX5 29 "SkiShots" "races" "[LSkiShots$Race;", Cond.methodLink RX5 168 yX5_isDay, Cond.instanceMethod yX5_isDay, Cond.selects RX5 yX5_isDay yX5_isDay, Cond.code yX5_isDay cX5_isDay 2 (some .boolean), Cond.fieldLink RX5 70 "SkiShots" "today" "I", Cond.methodLink RX5 116 yX2_hasEvent, Cond.instanceMethod yX2_hasEvent, Cond.selects RX2 yX2_hasEvent yX2_hasEvent, Cond.initialized RX2, Cond.code yX2_hasEvent cX2_hasEvent 3 (some .boolean), Cond.fieldLink RX2 15 "SkiShots$Format" "laps" "I", Cond.fieldLink RX2 18 "SkiShots$Format" "shootings" "I", Cond.methodLink RX5 99 yX3_entryOf, Cond.instanceMethod yX3_entryOf, Cond.selects RX3 yX3_entryOf yX3_entryOf, Cond.initialized RX3]
def wsX5_split_r2 : List Cond := [Cond.code yX3_entryOf cX3_entryOf 3 (some (.object "SkiShots$Entry")), Cond.fieldLink RX3 29 "SkiShots$Race" "entryCount" "I", Cond.fieldLink RX3 25 "SkiShots$Race" "entries" "[LSkiShots$Entry;", Cond.fieldLink RX3 35 "SkiShots$Entry" "racer" "I", Cond.methodLink RX5 171 yX5_workOut, Cond.instanceMethod yX5_workOut, Cond.selects RX5 yX5_workOut yX5_workOut, Cond.code yX5_workOut cX5_workOut 4 none, Cond.methodLink RX5 228 yX3_workOut, Cond.instanceMethod yX3_workOut, Cond.selects RX3 yX3_workOut yX3_workOut, Cond.code yX3_workOut cX3_workOut 4 none, Cond.fieldLink RX3 38 "SkiShots$Race" "leastLow" "I", Cond.fieldLink RX3 9 "SkiShots$Race" "format" "LSkiShots$Format;", Cond.fieldLink RX3 53 "SkiShots$Entry" "low" "I", Cond.methodLink RX3 41 yX3_startOf, Cond.instanceMethod yX3_startOf, Cond.selects RX3 yX3_startOf yX3_startOf, Cond.code yX3_startOf cX3_startOf 2 (some .int), Cond.fieldLink RX3 56 "SkiShots$Format" "startSort" "I", Cond.fieldLink RX3 61 "SkiShots$Format" "startSeconds" "I", Cond.methodLink RX3 64 yX3_chaseStart, Cond.instanceMethod yX3_chaseStart, Cond.selects RX3 yX3_chaseStart yX3_chaseStart]
def wsX5_split_r3 : List Cond := [Cond.code yX3_chaseStart cX3_chaseStart 4 (some .int), Cond.fieldLink RX3 15 "SkiShots$Race" "by" "LSkiShots$Race;", Cond.methodLink RX3 71 Lib.Math.min.name, Cond.static Lib.Math.min.name, Cond.initialized "java/lang/Math", Cond.code Lib.Math.min.name Lib.Math.min.code 2 (some .int), Cond.methodLink RX3 67 yX3_entryOf, Cond.methodLink RX3 49 yX0_hasTime, Cond.instanceMethod yX0_hasTime, Cond.selects RX0 yX0_hasTime yX0_hasTime, Cond.initialized RX0, Cond.code yX0_hasTime cX0_hasTime 1 (some .boolean), Cond.fieldLink RX0 39 "SkiShots$Entry" "low" "I", Cond.methodLink RX3 45 yX0_workOut, Cond.instanceMethod yX0_workOut, Cond.selects RX0 yX0_workOut yX0_workOut, Cond.code yX0_workOut cX0_workOut 5 none, Cond.fieldLink RX0 36 "SkiShots$Entry" "start" "I", Cond.fieldLink RX0 46 "SkiShots$Entry" "struck" "Z", Cond.fieldLink RX0 50 "SkiShots$Entry" "fewestMisses" "I", Cond.fieldLink RX0 53 "SkiShots$Entry" "mostMisses" "I", Cond.fieldLink RX0 56 "SkiShots$Entry" "leastPenalty" "I", Cond.fieldLink RX0 59 "SkiShots$Entry" "greatestPenalty" "I", Cond.fieldLink RX0 62 "SkiShots$Format" "shootings" "I"]
def wsX5_split_r4 : List Cond := [Cond.fieldLink RX0 71 "SkiShots$Format" "laps" "I", Cond.fieldLink RX0 78 "SkiShots$Entry" "high" "I", Cond.methodLink RX0 42 yX0_known, Cond.instanceMethod yX0_known, Cond.selects RX0 yX0_known yX0_known, Cond.code yX0_known cX0_known 5 (some .int), Cond.fieldLink RX0 15 "SkiShots$Entry" "latest" "LSkiShots$Event;", Cond.fieldLink RX0 19 "SkiShots$Event" "day" "I", Cond.fieldLink RX0 24 "SkiShots$Event" "sort" "I", Cond.fieldLink RX0 27 "SkiShots$Event" "k" "I", Cond.fieldLink RX0 30 "SkiShots$Event" "v" "I", Cond.fieldLink RX0 33 "SkiShots$Event" "before" "LSkiShots$Event;", Cond.methodLink RX0 67 yX0_addShooting, Cond.instanceMethod yX0_addShooting, Cond.selects RX0 yX0_addShooting yX0_addShooting, Cond.code yX0_addShooting cX0_addShooting 11 none, Cond.fieldLink RX0 86 "SkiShots$Format" "loops" "Z", Cond.fieldLink RX0 89 "SkiShots$Format" "missSeconds" "I", Cond.methodLink RX0 92 Lib.Math.max.name, Cond.static Lib.Math.max.name, Cond.code Lib.Math.max.name Lib.Math.max.code 2 (some .int), Cond.methodLink RX0 81 yJ6_bitCount_0f7a4, Cond.static yJ6_bitCount_0f7a4, Cond.initialized RJ6]
def wsX5_split_r5 : List Cond := [Cond.code yJ6_bitCount_0f7a4 cJ6_bitCount_0f7a4 1 (some .int), Cond.constant RJ6 265 (1431655765), Cond.constant RJ6 266 (858993459), Cond.constant RJ6 267 (252645135), Cond.methodLink RX0 74 yX0_sinceStart, Cond.instanceMethod yX0_sinceStart, Cond.selects RX0 yX0_sinceStart yX0_sinceStart, Cond.code yX0_sinceStart cX0_sinceStart 2 (some .int), Cond.methodLink RX5 201 yX0_known, Cond.methodLink RX5 205 yX0_sinceStart]
def wsX5_split : List Cond := .code yX5_split cX5_split 7 (some .int) :: ((wsX5_split_r1 ++ (wsX5_split_r2 ++ (wsX5_split_r3 ++ (wsX5_split_r4 ++ wsX5_split_r5)))) ++ wsX30 ++ wsX50 ++ wsX20 ++ wsX00 ++ wsX10)
def wsX5_order_r1 : List Cond := [Cond.fieldLink RX5 106 "SkiShots$Race" "entryCount" "I", Cond.fieldLink RX5 161 "SkiShots$Race" "entries" "[LSkiShots$Entry;", Cond.fieldLink RX5 165 "SkiShots$Entry" "racer" "I", Cond.methodLink RX5 83 yX5_raceAt, Cond.instanceMethod yX5_raceAt, Cond.selects RX5 yX5_raceAt yX5_raceAt, Cond.initialized RX5, Cond.code yX5_raceAt cX5_raceAt 2 (some (.object "SkiShots$Race")), Cond.fieldLink RX5 80 "SkiShots" "raceCount" "I", Cond.fieldLink RX5 29 "SkiShots" "races" "[LSkiShots$Race;", Cond.methodLink RX5 168 yX5_isDay, Cond.instanceMethod yX5_isDay, Cond.selects RX5 yX5_isDay yX5_isDay, Cond.code yX5_isDay cX5_isDay 2 (some .boolean), Cond.fieldLink RX5 70 "SkiShots" "today" "I", Cond.methodLink RX5 171 yX5_workOut, Cond.instanceMethod yX5_workOut, Cond.selects RX5 yX5_workOut yX5_workOut, Cond.code yX5_workOut cX5_workOut 4 none, Cond.methodLink RX5 228 yX3_workOut, Cond.instanceMethod yX3_workOut, Cond.selects RX3 yX3_workOut yX3_workOut, Cond.initialized RX3, Cond.code yX3_workOut cX3_workOut 4 none]
def wsX5_order_r2 : List Cond := [Cond.fieldLink RX3 38 "SkiShots$Race" "leastLow" "I", Cond.fieldLink RX3 29 "SkiShots$Race" "entryCount" "I", Cond.fieldLink RX3 25 "SkiShots$Race" "entries" "[LSkiShots$Entry;", Cond.fieldLink RX3 9 "SkiShots$Race" "format" "LSkiShots$Format;", Cond.fieldLink RX3 53 "SkiShots$Entry" "low" "I", Cond.methodLink RX3 41 yX3_startOf, Cond.instanceMethod yX3_startOf, Cond.selects RX3 yX3_startOf yX3_startOf, Cond.code yX3_startOf cX3_startOf 2 (some .int), Cond.fieldLink RX3 56 "SkiShots$Format" "startSort" "I", Cond.fieldLink RX3 61 "SkiShots$Format" "startSeconds" "I", Cond.fieldLink RX3 35 "SkiShots$Entry" "racer" "I", Cond.methodLink RX3 64 yX3_chaseStart, Cond.instanceMethod yX3_chaseStart, Cond.selects RX3 yX3_chaseStart yX3_chaseStart, Cond.code yX3_chaseStart cX3_chaseStart 4 (some .int), Cond.fieldLink RX3 15 "SkiShots$Race" "by" "LSkiShots$Race;", Cond.methodLink RX3 71 Lib.Math.min.name, Cond.static Lib.Math.min.name, Cond.initialized "java/lang/Math", Cond.code Lib.Math.min.name Lib.Math.min.code 2 (some .int), Cond.methodLink RX3 67 yX3_entryOf, Cond.instanceMethod yX3_entryOf, Cond.selects RX3 yX3_entryOf yX3_entryOf]
def wsX5_order_r3 : List Cond := [Cond.code yX3_entryOf cX3_entryOf 3 (some (.object "SkiShots$Entry")), Cond.methodLink RX3 49 yX0_hasTime, Cond.instanceMethod yX0_hasTime, Cond.selects RX0 yX0_hasTime yX0_hasTime, Cond.initialized RX0, Cond.code yX0_hasTime cX0_hasTime 1 (some .boolean), Cond.fieldLink RX0 39 "SkiShots$Entry" "low" "I", Cond.methodLink RX3 45 yX0_workOut, Cond.instanceMethod yX0_workOut, Cond.selects RX0 yX0_workOut yX0_workOut, Cond.code yX0_workOut cX0_workOut 5 none, Cond.fieldLink RX0 36 "SkiShots$Entry" "start" "I", Cond.fieldLink RX0 46 "SkiShots$Entry" "struck" "Z", Cond.fieldLink RX0 50 "SkiShots$Entry" "fewestMisses" "I", Cond.fieldLink RX0 53 "SkiShots$Entry" "mostMisses" "I", Cond.fieldLink RX0 56 "SkiShots$Entry" "leastPenalty" "I", Cond.fieldLink RX0 59 "SkiShots$Entry" "greatestPenalty" "I", Cond.fieldLink RX0 62 "SkiShots$Format" "shootings" "I", Cond.fieldLink RX0 71 "SkiShots$Format" "laps" "I", Cond.fieldLink RX0 78 "SkiShots$Entry" "high" "I", Cond.methodLink RX0 42 yX0_known, Cond.instanceMethod yX0_known, Cond.selects RX0 yX0_known yX0_known, Cond.code yX0_known cX0_known 5 (some .int)]
def wsX5_order_r4 : List Cond := [Cond.fieldLink RX0 15 "SkiShots$Entry" "latest" "LSkiShots$Event;", Cond.fieldLink RX0 19 "SkiShots$Event" "day" "I", Cond.fieldLink RX0 24 "SkiShots$Event" "sort" "I", Cond.fieldLink RX0 27 "SkiShots$Event" "k" "I", Cond.fieldLink RX0 30 "SkiShots$Event" "v" "I", Cond.fieldLink RX0 33 "SkiShots$Event" "before" "LSkiShots$Event;", Cond.methodLink RX0 67 yX0_addShooting, Cond.instanceMethod yX0_addShooting, Cond.selects RX0 yX0_addShooting yX0_addShooting, Cond.code yX0_addShooting cX0_addShooting 11 none, Cond.fieldLink RX0 86 "SkiShots$Format" "loops" "Z", Cond.fieldLink RX0 89 "SkiShots$Format" "missSeconds" "I", Cond.methodLink RX0 92 Lib.Math.max.name, Cond.static Lib.Math.max.name, Cond.code Lib.Math.max.name Lib.Math.max.code 2 (some .int), Cond.methodLink RX0 81 yJ6_bitCount_0f7a4, Cond.static yJ6_bitCount_0f7a4, Cond.initialized RJ6, Cond.code yJ6_bitCount_0f7a4 cJ6_bitCount_0f7a4 1 (some .int), Cond.constant RJ6 265 (1431655765), Cond.constant RJ6 266 (858993459), Cond.constant RJ6 267 (252645135), Cond.methodLink RX0 74 yX0_sinceStart, Cond.instanceMethod yX0_sinceStart]
def wsX5_order_r5 : List Cond := [Cond.selects RX0 yX0_sinceStart yX0_sinceStart, Cond.code yX0_sinceStart cX0_sinceStart 2 (some .int), Cond.methodLink RX5 209 yX0_hasTime, Cond.methodLink RX5 212 yX3_aheadInOrder, Cond.instanceMethod yX3_aheadInOrder, Cond.selects RX3 yX3_aheadInOrder yX3_aheadInOrder, Cond.code yX3_aheadInOrder cX3_aheadInOrder 5 (some .int)]
def wsX5_order : List Cond := .code yX5_order cX5_order 6 (some .int) :: ((wsX5_order_r1 ++ (wsX5_order_r2 ++ (wsX5_order_r3 ++ (wsX5_order_r4 ++ wsX5_order_r5)))) ++ wsX30 ++ wsX00 ++ wsX50 ++ wsX20 ++ wsX10)
def wsX5_addToCup : List Cond := .code yX5_addToCup cX5_addToCup 4 none :: ([.fieldLink RX5 106 "SkiShots$Race" "entryCount" "I", .fieldLink RX5 161 "SkiShots$Race" "entries" "[LSkiShots$Entry;", .fieldLink RX5 33 "SkiShots" "cup" "[I", .fieldLink RX5 165 "SkiShots$Entry" "racer" "I", .methodLink RX5 234 Lib.Math.max.name, .static Lib.Math.max.name, .initialized "java/lang/Math", .code Lib.Math.max.name Lib.Math.max.code 2 (some .int), .methodLink RX5 209 yX0_hasTime, .instanceMethod yX0_hasTime, .selects RX0 yX0_hasTime yX0_hasTime, .initialized RX0, .code yX0_hasTime cX0_hasTime 1 (some .boolean), .fieldLink RX0 39 "SkiShots$Entry" "low" "I", .methodLink RX5 188 yX3_lastPlace, .instanceMethod yX3_lastPlace, .selects RX3 yX3_lastPlace yX3_lastPlace, .initialized RX3, .code yX3_lastPlace cX3_lastPlace 5 (some .int), .fieldLink RX3 29 "SkiShots$Race" "entryCount" "I", .fieldLink RX3 25 "SkiShots$Race" "entries" "[LSkiShots$Entry;", .fieldLink RX3 53 "SkiShots$Entry" "low" "I", .fieldLink RX3 77 "SkiShots$Entry" "high" "I", .methodLink RX3 49 yX0_hasTime] ++ wsX30 ++ wsX50 ++ wsX00)
def wsX5_addUpCup_r1 : List Cond := [Cond.fieldLink RX5 80 "SkiShots" "raceCount" "I", Cond.fieldLink RX5 77 "SkiShots" "racerCount" "I", Cond.fieldLink RX5 33 "SkiShots" "cup" "[I", Cond.fieldLink RX5 29 "SkiShots" "races" "[LSkiShots$Race;", Cond.methodLink RX5 171 yX5_workOut, Cond.instanceMethod yX5_workOut, Cond.selects RX5 yX5_workOut yX5_workOut, Cond.initialized RX5, Cond.code yX5_workOut cX5_workOut 4 none, Cond.methodLink RX5 228 yX3_workOut, Cond.instanceMethod yX3_workOut, Cond.selects RX3 yX3_workOut yX3_workOut, Cond.initialized RX3, Cond.code yX3_workOut cX3_workOut 4 none, Cond.fieldLink RX3 38 "SkiShots$Race" "leastLow" "I", Cond.fieldLink RX3 29 "SkiShots$Race" "entryCount" "I", Cond.fieldLink RX3 25 "SkiShots$Race" "entries" "[LSkiShots$Entry;", Cond.fieldLink RX3 9 "SkiShots$Race" "format" "LSkiShots$Format;", Cond.fieldLink RX3 53 "SkiShots$Entry" "low" "I", Cond.methodLink RX3 41 yX3_startOf, Cond.instanceMethod yX3_startOf, Cond.selects RX3 yX3_startOf yX3_startOf, Cond.code yX3_startOf cX3_startOf 2 (some .int), Cond.fieldLink RX3 56 "SkiShots$Format" "startSort" "I"]
def wsX5_addUpCup_r2 : List Cond := [Cond.fieldLink RX3 61 "SkiShots$Format" "startSeconds" "I", Cond.fieldLink RX3 35 "SkiShots$Entry" "racer" "I", Cond.methodLink RX3 64 yX3_chaseStart, Cond.instanceMethod yX3_chaseStart, Cond.selects RX3 yX3_chaseStart yX3_chaseStart, Cond.code yX3_chaseStart cX3_chaseStart 4 (some .int), Cond.fieldLink RX3 15 "SkiShots$Race" "by" "LSkiShots$Race;", Cond.methodLink RX3 71 Lib.Math.min.name, Cond.static Lib.Math.min.name, Cond.initialized "java/lang/Math", Cond.code Lib.Math.min.name Lib.Math.min.code 2 (some .int), Cond.methodLink RX3 67 yX3_entryOf, Cond.instanceMethod yX3_entryOf, Cond.selects RX3 yX3_entryOf yX3_entryOf, Cond.code yX3_entryOf cX3_entryOf 3 (some (.object "SkiShots$Entry")), Cond.methodLink RX3 49 yX0_hasTime, Cond.instanceMethod yX0_hasTime, Cond.selects RX0 yX0_hasTime yX0_hasTime, Cond.initialized RX0, Cond.code yX0_hasTime cX0_hasTime 1 (some .boolean), Cond.fieldLink RX0 39 "SkiShots$Entry" "low" "I", Cond.methodLink RX3 45 yX0_workOut, Cond.instanceMethod yX0_workOut, Cond.selects RX0 yX0_workOut yX0_workOut]
def wsX5_addUpCup_r3 : List Cond := [Cond.code yX0_workOut cX0_workOut 5 none, Cond.fieldLink RX0 36 "SkiShots$Entry" "start" "I", Cond.fieldLink RX0 46 "SkiShots$Entry" "struck" "Z", Cond.fieldLink RX0 50 "SkiShots$Entry" "fewestMisses" "I", Cond.fieldLink RX0 53 "SkiShots$Entry" "mostMisses" "I", Cond.fieldLink RX0 56 "SkiShots$Entry" "leastPenalty" "I", Cond.fieldLink RX0 59 "SkiShots$Entry" "greatestPenalty" "I", Cond.fieldLink RX0 62 "SkiShots$Format" "shootings" "I", Cond.fieldLink RX0 71 "SkiShots$Format" "laps" "I", Cond.fieldLink RX0 78 "SkiShots$Entry" "high" "I", Cond.methodLink RX0 42 yX0_known, Cond.instanceMethod yX0_known, Cond.selects RX0 yX0_known yX0_known, Cond.code yX0_known cX0_known 5 (some .int), Cond.fieldLink RX0 15 "SkiShots$Entry" "latest" "LSkiShots$Event;", Cond.fieldLink RX0 19 "SkiShots$Event" "day" "I", Cond.fieldLink RX0 24 "SkiShots$Event" "sort" "I", Cond.fieldLink RX0 27 "SkiShots$Event" "k" "I", Cond.fieldLink RX0 30 "SkiShots$Event" "v" "I", Cond.fieldLink RX0 33 "SkiShots$Event" "before" "LSkiShots$Event;", Cond.methodLink RX0 67 yX0_addShooting, Cond.instanceMethod yX0_addShooting, Cond.selects RX0 yX0_addShooting yX0_addShooting, Cond.code yX0_addShooting cX0_addShooting 11 none]
def wsX5_addUpCup_r4 : List Cond := [Cond.fieldLink RX0 86 "SkiShots$Format" "loops" "Z", Cond.fieldLink RX0 89 "SkiShots$Format" "missSeconds" "I", Cond.methodLink RX0 92 Lib.Math.max.name, Cond.static Lib.Math.max.name, Cond.code Lib.Math.max.name Lib.Math.max.code 2 (some .int), Cond.methodLink RX0 81 yJ6_bitCount_0f7a4, Cond.static yJ6_bitCount_0f7a4, Cond.initialized RJ6, Cond.code yJ6_bitCount_0f7a4 cJ6_bitCount_0f7a4 1 (some .int), Cond.constant RJ6 265 (1431655765), Cond.constant RJ6 266 (858993459), Cond.constant RJ6 267 (252645135), Cond.methodLink RX0 74 yX0_sinceStart, Cond.instanceMethod yX0_sinceStart, Cond.selects RX0 yX0_sinceStart yX0_sinceStart, Cond.code yX0_sinceStart cX0_sinceStart 2 (some .int), Cond.methodLink RX5 230 yX5_addToCup, Cond.instanceMethod yX5_addToCup, Cond.selects RX5 yX5_addToCup yX5_addToCup, Cond.code yX5_addToCup cX5_addToCup 4 none, Cond.fieldLink RX5 106 "SkiShots$Race" "entryCount" "I", Cond.fieldLink RX5 161 "SkiShots$Race" "entries" "[LSkiShots$Entry;", Cond.fieldLink RX5 165 "SkiShots$Entry" "racer" "I", Cond.methodLink RX5 234 Lib.Math.max.name]
def wsX5_addUpCup_r5 : List Cond := [Cond.methodLink RX5 209 yX0_hasTime, Cond.methodLink RX5 188 yX3_lastPlace, Cond.instanceMethod yX3_lastPlace, Cond.selects RX3 yX3_lastPlace yX3_lastPlace, Cond.code yX3_lastPlace cX3_lastPlace 5 (some .int), Cond.fieldLink RX3 77 "SkiShots$Entry" "high" "I"]
def wsX5_addUpCup : List Cond := .code yX5_addUpCup cX5_addUpCup 3 none :: ((wsX5_addUpCup_r1 ++ (wsX5_addUpCup_r2 ++ (wsX5_addUpCup_r3 ++ (wsX5_addUpCup_r4 ++ wsX5_addUpCup_r5)))) ++ wsX50 ++ wsX30 ++ wsX00 ++ wsX20 ++ wsX10)
def wsX5_points_r1 : List Cond := [Cond.fieldLink RX5 33 "SkiShots" "cup" "[I", Cond.methodLink RX5 93 yX5_isRacer, Cond.instanceMethod yX5_isRacer, Cond.selects RX5 yX5_isRacer yX5_isRacer, Cond.initialized RX5, Cond.code yX5_isRacer cX5_isRacer 2 (some .boolean), Cond.fieldLink RX5 77 "SkiShots" "racerCount" "I", Cond.methodLink RX5 168 yX5_isDay, Cond.instanceMethod yX5_isDay, Cond.selects RX5 yX5_isDay yX5_isDay, Cond.code yX5_isDay cX5_isDay 2 (some .boolean), Cond.fieldLink RX5 70 "SkiShots" "today" "I", Cond.methodLink RX5 215 yX5_addUpCup, Cond.instanceMethod yX5_addUpCup, Cond.selects RX5 yX5_addUpCup yX5_addUpCup, Cond.code yX5_addUpCup cX5_addUpCup 3 none, Cond.fieldLink RX5 80 "SkiShots" "raceCount" "I", Cond.fieldLink RX5 29 "SkiShots" "races" "[LSkiShots$Race;", Cond.methodLink RX5 171 yX5_workOut, Cond.instanceMethod yX5_workOut, Cond.selects RX5 yX5_workOut yX5_workOut, Cond.code yX5_workOut cX5_workOut 4 none, Cond.methodLink RX5 228 yX3_workOut, Cond.instanceMethod yX3_workOut]
def wsX5_points_r2 : List Cond := [Cond.selects RX3 yX3_workOut yX3_workOut, Cond.initialized RX3, Cond.code yX3_workOut cX3_workOut 4 none, Cond.fieldLink RX3 38 "SkiShots$Race" "leastLow" "I", Cond.fieldLink RX3 29 "SkiShots$Race" "entryCount" "I", Cond.fieldLink RX3 25 "SkiShots$Race" "entries" "[LSkiShots$Entry;", Cond.fieldLink RX3 9 "SkiShots$Race" "format" "LSkiShots$Format;", Cond.fieldLink RX3 53 "SkiShots$Entry" "low" "I", Cond.methodLink RX3 41 yX3_startOf, Cond.instanceMethod yX3_startOf, Cond.selects RX3 yX3_startOf yX3_startOf, Cond.code yX3_startOf cX3_startOf 2 (some .int), Cond.fieldLink RX3 56 "SkiShots$Format" "startSort" "I", Cond.fieldLink RX3 61 "SkiShots$Format" "startSeconds" "I", Cond.fieldLink RX3 35 "SkiShots$Entry" "racer" "I", Cond.methodLink RX3 64 yX3_chaseStart, Cond.instanceMethod yX3_chaseStart, Cond.selects RX3 yX3_chaseStart yX3_chaseStart, Cond.code yX3_chaseStart cX3_chaseStart 4 (some .int), Cond.fieldLink RX3 15 "SkiShots$Race" "by" "LSkiShots$Race;", Cond.methodLink RX3 71 Lib.Math.min.name, Cond.static Lib.Math.min.name, Cond.initialized "java/lang/Math", Cond.code Lib.Math.min.name Lib.Math.min.code 2 (some .int)]
def wsX5_points_r3 : List Cond := [Cond.methodLink RX3 67 yX3_entryOf, Cond.instanceMethod yX3_entryOf, Cond.selects RX3 yX3_entryOf yX3_entryOf, Cond.code yX3_entryOf cX3_entryOf 3 (some (.object "SkiShots$Entry")), Cond.methodLink RX3 49 yX0_hasTime, Cond.instanceMethod yX0_hasTime, Cond.selects RX0 yX0_hasTime yX0_hasTime, Cond.initialized RX0, Cond.code yX0_hasTime cX0_hasTime 1 (some .boolean), Cond.fieldLink RX0 39 "SkiShots$Entry" "low" "I", Cond.methodLink RX3 45 yX0_workOut, Cond.instanceMethod yX0_workOut, Cond.selects RX0 yX0_workOut yX0_workOut, Cond.code yX0_workOut cX0_workOut 5 none, Cond.fieldLink RX0 36 "SkiShots$Entry" "start" "I", Cond.fieldLink RX0 46 "SkiShots$Entry" "struck" "Z", Cond.fieldLink RX0 50 "SkiShots$Entry" "fewestMisses" "I", Cond.fieldLink RX0 53 "SkiShots$Entry" "mostMisses" "I", Cond.fieldLink RX0 56 "SkiShots$Entry" "leastPenalty" "I", Cond.fieldLink RX0 59 "SkiShots$Entry" "greatestPenalty" "I", Cond.fieldLink RX0 62 "SkiShots$Format" "shootings" "I", Cond.fieldLink RX0 71 "SkiShots$Format" "laps" "I", Cond.fieldLink RX0 78 "SkiShots$Entry" "high" "I", Cond.methodLink RX0 42 yX0_known]
def wsX5_points_r4 : List Cond := [Cond.instanceMethod yX0_known, Cond.selects RX0 yX0_known yX0_known, Cond.code yX0_known cX0_known 5 (some .int), Cond.fieldLink RX0 15 "SkiShots$Entry" "latest" "LSkiShots$Event;", Cond.fieldLink RX0 19 "SkiShots$Event" "day" "I", Cond.fieldLink RX0 24 "SkiShots$Event" "sort" "I", Cond.fieldLink RX0 27 "SkiShots$Event" "k" "I", Cond.fieldLink RX0 30 "SkiShots$Event" "v" "I", Cond.fieldLink RX0 33 "SkiShots$Event" "before" "LSkiShots$Event;", Cond.methodLink RX0 67 yX0_addShooting, Cond.instanceMethod yX0_addShooting, Cond.selects RX0 yX0_addShooting yX0_addShooting, Cond.code yX0_addShooting cX0_addShooting 11 none, Cond.fieldLink RX0 86 "SkiShots$Format" "loops" "Z", Cond.fieldLink RX0 89 "SkiShots$Format" "missSeconds" "I", Cond.methodLink RX0 92 Lib.Math.max.name, Cond.static Lib.Math.max.name, Cond.code Lib.Math.max.name Lib.Math.max.code 2 (some .int), Cond.methodLink RX0 81 yJ6_bitCount_0f7a4, Cond.static yJ6_bitCount_0f7a4, Cond.initialized RJ6, Cond.code yJ6_bitCount_0f7a4 cJ6_bitCount_0f7a4 1 (some .int), Cond.constant RJ6 265 (1431655765), Cond.constant RJ6 266 (858993459)]
def wsX5_points_r5 : List Cond := [Cond.constant RJ6 267 (252645135), Cond.methodLink RX0 74 yX0_sinceStart, Cond.instanceMethod yX0_sinceStart, Cond.selects RX0 yX0_sinceStart yX0_sinceStart, Cond.code yX0_sinceStart cX0_sinceStart 2 (some .int), Cond.methodLink RX5 230 yX5_addToCup, Cond.instanceMethod yX5_addToCup, Cond.selects RX5 yX5_addToCup yX5_addToCup, Cond.code yX5_addToCup cX5_addToCup 4 none, Cond.fieldLink RX5 106 "SkiShots$Race" "entryCount" "I", Cond.fieldLink RX5 161 "SkiShots$Race" "entries" "[LSkiShots$Entry;", Cond.fieldLink RX5 165 "SkiShots$Entry" "racer" "I", Cond.methodLink RX5 234 Lib.Math.max.name, Cond.methodLink RX5 209 yX0_hasTime, Cond.methodLink RX5 188 yX3_lastPlace, Cond.instanceMethod yX3_lastPlace, Cond.selects RX3 yX3_lastPlace yX3_lastPlace, Cond.code yX3_lastPlace cX3_lastPlace 5 (some .int), Cond.fieldLink RX3 77 "SkiShots$Entry" "high" "I"]
def wsX5_points : List Cond := .code yX5_points cX5_points 3 (some .int) :: ((wsX5_points_r1 ++ (wsX5_points_r2 ++ (wsX5_points_r3 ++ (wsX5_points_r4 ++ wsX5_points_r5)))) ++ wsX50 ++ wsX30 ++ wsX00 ++ wsX20 ++ wsX10)
def wsX5_standingInCup : List Cond := .code yX5_standingInCup cX5_standingInCup 4 (some .int) :: ([.fieldLink RX5 77 "SkiShots" "racerCount" "I", .fieldLink RX5 33 "SkiShots" "cup" "[I"] ++ wsX50)
def wsX5_standing_r1 : List Cond := [Cond.methodLink RX5 93 yX5_isRacer, Cond.instanceMethod yX5_isRacer, Cond.selects RX5 yX5_isRacer yX5_isRacer, Cond.initialized RX5, Cond.code yX5_isRacer cX5_isRacer 2 (some .boolean), Cond.fieldLink RX5 77 "SkiShots" "racerCount" "I", Cond.methodLink RX5 168 yX5_isDay, Cond.instanceMethod yX5_isDay, Cond.selects RX5 yX5_isDay yX5_isDay, Cond.code yX5_isDay cX5_isDay 2 (some .boolean), Cond.fieldLink RX5 70 "SkiShots" "today" "I", Cond.methodLink RX5 215 yX5_addUpCup, Cond.instanceMethod yX5_addUpCup, Cond.selects RX5 yX5_addUpCup yX5_addUpCup, Cond.code yX5_addUpCup cX5_addUpCup 3 none, Cond.fieldLink RX5 80 "SkiShots" "raceCount" "I", Cond.fieldLink RX5 33 "SkiShots" "cup" "[I", Cond.fieldLink RX5 29 "SkiShots" "races" "[LSkiShots$Race;", Cond.methodLink RX5 171 yX5_workOut, Cond.instanceMethod yX5_workOut, Cond.selects RX5 yX5_workOut yX5_workOut, Cond.code yX5_workOut cX5_workOut 4 none, Cond.methodLink RX5 228 yX3_workOut, Cond.instanceMethod yX3_workOut]
def wsX5_standing_r2 : List Cond := [Cond.selects RX3 yX3_workOut yX3_workOut, Cond.initialized RX3, Cond.code yX3_workOut cX3_workOut 4 none, Cond.fieldLink RX3 38 "SkiShots$Race" "leastLow" "I", Cond.fieldLink RX3 29 "SkiShots$Race" "entryCount" "I", Cond.fieldLink RX3 25 "SkiShots$Race" "entries" "[LSkiShots$Entry;", Cond.fieldLink RX3 9 "SkiShots$Race" "format" "LSkiShots$Format;", Cond.fieldLink RX3 53 "SkiShots$Entry" "low" "I", Cond.methodLink RX3 41 yX3_startOf, Cond.instanceMethod yX3_startOf, Cond.selects RX3 yX3_startOf yX3_startOf, Cond.code yX3_startOf cX3_startOf 2 (some .int), Cond.fieldLink RX3 56 "SkiShots$Format" "startSort" "I", Cond.fieldLink RX3 61 "SkiShots$Format" "startSeconds" "I", Cond.fieldLink RX3 35 "SkiShots$Entry" "racer" "I", Cond.methodLink RX3 64 yX3_chaseStart, Cond.instanceMethod yX3_chaseStart, Cond.selects RX3 yX3_chaseStart yX3_chaseStart, Cond.code yX3_chaseStart cX3_chaseStart 4 (some .int), Cond.fieldLink RX3 15 "SkiShots$Race" "by" "LSkiShots$Race;", Cond.methodLink RX3 71 Lib.Math.min.name, Cond.static Lib.Math.min.name, Cond.initialized "java/lang/Math", Cond.code Lib.Math.min.name Lib.Math.min.code 2 (some .int)]
def wsX5_standing_r3 : List Cond := [Cond.methodLink RX3 67 yX3_entryOf, Cond.instanceMethod yX3_entryOf, Cond.selects RX3 yX3_entryOf yX3_entryOf, Cond.code yX3_entryOf cX3_entryOf 3 (some (.object "SkiShots$Entry")), Cond.methodLink RX3 49 yX0_hasTime, Cond.instanceMethod yX0_hasTime, Cond.selects RX0 yX0_hasTime yX0_hasTime, Cond.initialized RX0, Cond.code yX0_hasTime cX0_hasTime 1 (some .boolean), Cond.fieldLink RX0 39 "SkiShots$Entry" "low" "I", Cond.methodLink RX3 45 yX0_workOut, Cond.instanceMethod yX0_workOut, Cond.selects RX0 yX0_workOut yX0_workOut, Cond.code yX0_workOut cX0_workOut 5 none, Cond.fieldLink RX0 36 "SkiShots$Entry" "start" "I", Cond.fieldLink RX0 46 "SkiShots$Entry" "struck" "Z", Cond.fieldLink RX0 50 "SkiShots$Entry" "fewestMisses" "I", Cond.fieldLink RX0 53 "SkiShots$Entry" "mostMisses" "I", Cond.fieldLink RX0 56 "SkiShots$Entry" "leastPenalty" "I", Cond.fieldLink RX0 59 "SkiShots$Entry" "greatestPenalty" "I", Cond.fieldLink RX0 62 "SkiShots$Format" "shootings" "I", Cond.fieldLink RX0 71 "SkiShots$Format" "laps" "I", Cond.fieldLink RX0 78 "SkiShots$Entry" "high" "I", Cond.methodLink RX0 42 yX0_known]
def wsX5_standing_r4 : List Cond := [Cond.instanceMethod yX0_known, Cond.selects RX0 yX0_known yX0_known, Cond.code yX0_known cX0_known 5 (some .int), Cond.fieldLink RX0 15 "SkiShots$Entry" "latest" "LSkiShots$Event;", Cond.fieldLink RX0 19 "SkiShots$Event" "day" "I", Cond.fieldLink RX0 24 "SkiShots$Event" "sort" "I", Cond.fieldLink RX0 27 "SkiShots$Event" "k" "I", Cond.fieldLink RX0 30 "SkiShots$Event" "v" "I", Cond.fieldLink RX0 33 "SkiShots$Event" "before" "LSkiShots$Event;", Cond.methodLink RX0 67 yX0_addShooting, Cond.instanceMethod yX0_addShooting, Cond.selects RX0 yX0_addShooting yX0_addShooting, Cond.code yX0_addShooting cX0_addShooting 11 none, Cond.fieldLink RX0 86 "SkiShots$Format" "loops" "Z", Cond.fieldLink RX0 89 "SkiShots$Format" "missSeconds" "I", Cond.methodLink RX0 92 Lib.Math.max.name, Cond.static Lib.Math.max.name, Cond.code Lib.Math.max.name Lib.Math.max.code 2 (some .int), Cond.methodLink RX0 81 yJ6_bitCount_0f7a4, Cond.static yJ6_bitCount_0f7a4, Cond.initialized RJ6, Cond.code yJ6_bitCount_0f7a4 cJ6_bitCount_0f7a4 1 (some .int), Cond.constant RJ6 265 (1431655765), Cond.constant RJ6 266 (858993459)]
def wsX5_standing_r5 : List Cond := [Cond.constant RJ6 267 (252645135), Cond.methodLink RX0 74 yX0_sinceStart, Cond.instanceMethod yX0_sinceStart, Cond.selects RX0 yX0_sinceStart yX0_sinceStart, Cond.code yX0_sinceStart cX0_sinceStart 2 (some .int), Cond.methodLink RX5 230 yX5_addToCup, Cond.instanceMethod yX5_addToCup, Cond.selects RX5 yX5_addToCup yX5_addToCup, Cond.code yX5_addToCup cX5_addToCup 4 none, Cond.fieldLink RX5 106 "SkiShots$Race" "entryCount" "I", Cond.fieldLink RX5 161 "SkiShots$Race" "entries" "[LSkiShots$Entry;", Cond.fieldLink RX5 165 "SkiShots$Entry" "racer" "I", Cond.methodLink RX5 234 Lib.Math.max.name, Cond.methodLink RX5 209 yX0_hasTime, Cond.methodLink RX5 188 yX3_lastPlace, Cond.instanceMethod yX3_lastPlace, Cond.selects RX3 yX3_lastPlace yX3_lastPlace, Cond.code yX3_lastPlace cX3_lastPlace 5 (some .int), Cond.fieldLink RX3 77 "SkiShots$Entry" "high" "I", Cond.methodLink RX5 218 yX5_standingInCup, Cond.instanceMethod yX5_standingInCup, Cond.selects RX5 yX5_standingInCup yX5_standingInCup, Cond.code yX5_standingInCup cX5_standingInCup 4 (some .int)]
def wsX5_standing : List Cond := .code yX5_standing cX5_standing 3 (some .int) :: ((wsX5_standing_r1 ++ (wsX5_standing_r2 ++ (wsX5_standing_r3 ++ (wsX5_standing_r4 ++ wsX5_standing_r5)))) ++ wsX50 ++ wsX30 ++ wsX00 ++ wsX20 ++ wsX10)
def wsX5_starters_r1 : List Cond := [Cond.fieldLink RX5 77 "SkiShots" "racerCount" "I", Cond.fieldLink RX5 23 "SkiShots" "nations" "[I", Cond.fieldLink RX5 33 "SkiShots" "cup" "[I", Cond.methodLink RX5 221 Lib.Math.min.name, Cond.static Lib.Math.min.name, Cond.initialized "java/lang/Math", Cond.code Lib.Math.min.name Lib.Math.min.code 2 (some .int), Cond.methodLink RX5 73 yX5_isNation, Cond.static yX5_isNation, Cond.initialized RX5, Cond.code yX5_isNation cX5_isNation 1 (some .boolean), Cond.methodLink RX5 168 yX5_isDay, Cond.instanceMethod yX5_isDay, Cond.selects RX5 yX5_isDay yX5_isDay, Cond.code yX5_isDay cX5_isDay 2 (some .boolean), Cond.fieldLink RX5 70 "SkiShots" "today" "I", Cond.methodLink RX5 215 yX5_addUpCup, Cond.instanceMethod yX5_addUpCup, Cond.selects RX5 yX5_addUpCup yX5_addUpCup, Cond.code yX5_addUpCup cX5_addUpCup 3 none, Cond.fieldLink RX5 80 "SkiShots" "raceCount" "I", Cond.fieldLink RX5 29 "SkiShots" "races" "[LSkiShots$Race;", Cond.methodLink RX5 171 yX5_workOut, Cond.instanceMethod yX5_workOut]
def wsX5_starters_r2 : List Cond := [Cond.selects RX5 yX5_workOut yX5_workOut, Cond.code yX5_workOut cX5_workOut 4 none, Cond.methodLink RX5 228 yX3_workOut, Cond.instanceMethod yX3_workOut, Cond.selects RX3 yX3_workOut yX3_workOut, Cond.initialized RX3, Cond.code yX3_workOut cX3_workOut 4 none, Cond.fieldLink RX3 38 "SkiShots$Race" "leastLow" "I", Cond.fieldLink RX3 29 "SkiShots$Race" "entryCount" "I", Cond.fieldLink RX3 25 "SkiShots$Race" "entries" "[LSkiShots$Entry;", Cond.fieldLink RX3 9 "SkiShots$Race" "format" "LSkiShots$Format;", Cond.fieldLink RX3 53 "SkiShots$Entry" "low" "I", Cond.methodLink RX3 41 yX3_startOf, Cond.instanceMethod yX3_startOf, Cond.selects RX3 yX3_startOf yX3_startOf, Cond.code yX3_startOf cX3_startOf 2 (some .int), Cond.fieldLink RX3 56 "SkiShots$Format" "startSort" "I", Cond.fieldLink RX3 61 "SkiShots$Format" "startSeconds" "I", Cond.fieldLink RX3 35 "SkiShots$Entry" "racer" "I", Cond.methodLink RX3 64 yX3_chaseStart, Cond.instanceMethod yX3_chaseStart, Cond.selects RX3 yX3_chaseStart yX3_chaseStart, Cond.code yX3_chaseStart cX3_chaseStart 4 (some .int), Cond.fieldLink RX3 15 "SkiShots$Race" "by" "LSkiShots$Race;"]
def wsX5_starters_r3 : List Cond := [Cond.methodLink RX3 71 Lib.Math.min.name, Cond.methodLink RX3 67 yX3_entryOf, Cond.instanceMethod yX3_entryOf, Cond.selects RX3 yX3_entryOf yX3_entryOf, Cond.code yX3_entryOf cX3_entryOf 3 (some (.object "SkiShots$Entry")), Cond.methodLink RX3 49 yX0_hasTime, Cond.instanceMethod yX0_hasTime, Cond.selects RX0 yX0_hasTime yX0_hasTime, Cond.initialized RX0, Cond.code yX0_hasTime cX0_hasTime 1 (some .boolean), Cond.fieldLink RX0 39 "SkiShots$Entry" "low" "I", Cond.methodLink RX3 45 yX0_workOut, Cond.instanceMethod yX0_workOut, Cond.selects RX0 yX0_workOut yX0_workOut, Cond.code yX0_workOut cX0_workOut 5 none, Cond.fieldLink RX0 36 "SkiShots$Entry" "start" "I", Cond.fieldLink RX0 46 "SkiShots$Entry" "struck" "Z", Cond.fieldLink RX0 50 "SkiShots$Entry" "fewestMisses" "I", Cond.fieldLink RX0 53 "SkiShots$Entry" "mostMisses" "I", Cond.fieldLink RX0 56 "SkiShots$Entry" "leastPenalty" "I", Cond.fieldLink RX0 59 "SkiShots$Entry" "greatestPenalty" "I", Cond.fieldLink RX0 62 "SkiShots$Format" "shootings" "I", Cond.fieldLink RX0 71 "SkiShots$Format" "laps" "I", Cond.fieldLink RX0 78 "SkiShots$Entry" "high" "I"]
def wsX5_starters_r4 : List Cond := [Cond.methodLink RX0 42 yX0_known, Cond.instanceMethod yX0_known, Cond.selects RX0 yX0_known yX0_known, Cond.code yX0_known cX0_known 5 (some .int), Cond.fieldLink RX0 15 "SkiShots$Entry" "latest" "LSkiShots$Event;", Cond.fieldLink RX0 19 "SkiShots$Event" "day" "I", Cond.fieldLink RX0 24 "SkiShots$Event" "sort" "I", Cond.fieldLink RX0 27 "SkiShots$Event" "k" "I", Cond.fieldLink RX0 30 "SkiShots$Event" "v" "I", Cond.fieldLink RX0 33 "SkiShots$Event" "before" "LSkiShots$Event;", Cond.methodLink RX0 67 yX0_addShooting, Cond.instanceMethod yX0_addShooting, Cond.selects RX0 yX0_addShooting yX0_addShooting, Cond.code yX0_addShooting cX0_addShooting 11 none, Cond.fieldLink RX0 86 "SkiShots$Format" "loops" "Z", Cond.fieldLink RX0 89 "SkiShots$Format" "missSeconds" "I", Cond.methodLink RX0 92 Lib.Math.max.name, Cond.static Lib.Math.max.name, Cond.code Lib.Math.max.name Lib.Math.max.code 2 (some .int), Cond.methodLink RX0 81 yJ6_bitCount_0f7a4, Cond.static yJ6_bitCount_0f7a4, Cond.initialized RJ6, Cond.code yJ6_bitCount_0f7a4 cJ6_bitCount_0f7a4 1 (some .int), Cond.constant RJ6 265 (1431655765)]
def wsX5_starters_r5 : List Cond := [Cond.constant RJ6 266 (858993459), Cond.constant RJ6 267 (252645135), Cond.methodLink RX0 74 yX0_sinceStart, Cond.instanceMethod yX0_sinceStart, Cond.selects RX0 yX0_sinceStart yX0_sinceStart, Cond.code yX0_sinceStart cX0_sinceStart 2 (some .int), Cond.methodLink RX5 230 yX5_addToCup, Cond.instanceMethod yX5_addToCup, Cond.selects RX5 yX5_addToCup yX5_addToCup, Cond.code yX5_addToCup cX5_addToCup 4 none, Cond.fieldLink RX5 106 "SkiShots$Race" "entryCount" "I", Cond.fieldLink RX5 161 "SkiShots$Race" "entries" "[LSkiShots$Entry;", Cond.fieldLink RX5 165 "SkiShots$Entry" "racer" "I", Cond.methodLink RX5 234 Lib.Math.max.name, Cond.methodLink RX5 209 yX0_hasTime, Cond.methodLink RX5 188 yX3_lastPlace, Cond.instanceMethod yX3_lastPlace, Cond.selects RX3 yX3_lastPlace yX3_lastPlace, Cond.code yX3_lastPlace cX3_lastPlace 5 (some .int), Cond.fieldLink RX3 77 "SkiShots$Entry" "high" "I", Cond.methodLink RX5 218 yX5_standingInCup, Cond.instanceMethod yX5_standingInCup, Cond.selects RX5 yX5_standingInCup yX5_standingInCup, Cond.code yX5_standingInCup cX5_standingInCup 4 (some .int)]
def wsX5_starters : List Cond := .code yX5_starters cX5_starters 5 (some .int) :: ((wsX5_starters_r1 ++ (wsX5_starters_r2 ++ (wsX5_starters_r3 ++ (wsX5_starters_r4 ++ wsX5_starters_r5)))) ++ wsX50 ++ wsX30 ++ wsX00 ++ wsX20 ++ wsX10)
def wsX5_count : List Cond := .code yX5_count cX5_count 2 (some .int) :: ([.fieldLink RX5 70 "SkiShots" "today" "I", .fieldLink RX5 67 "SkiShots" "formatCount" "I", .fieldLink RX5 77 "SkiShots" "racerCount" "I", .fieldLink RX5 80 "SkiShots" "raceCount" "I", .fieldLink RX5 109 "SkiShots" "eventCount" "I"] ++ wsX50)
def wsX6_init_r1 : List Cond := [Cond.methodLink RX6 1 objectInit, Cond.instanceMethod objectInit, Cond.code objectInit ⟨#[0xb1]⟩ 1 none, Cond.arrayClass .int, Cond.fieldLink RX6 7 "SkiShotsModel" "tape" "[I", Cond.fieldLink RX6 13 "SkiShotsModel" "laps" "[I", Cond.fieldLink RX6 16 "SkiShotsModel" "shootMany" "[I", Cond.fieldLink RX6 19 "SkiShotsModel" "shoot" "[I", Cond.fieldLink RX6 22 "SkiShotsModel" "spares" "[I", Cond.arrayClass .boolean, Cond.fieldLink RX6 25 "SkiShotsModel" "isLoop" "[Z", Cond.fieldLink RX6 29 "SkiShotsModel" "cost" "[I", Cond.fieldLink RX6 32 "SkiShotsModel" "startHow" "[I", Cond.fieldLink RX6 35 "SkiShotsModel" "startNumber" "[I", Cond.fieldLink RX6 38 "SkiShotsModel" "faultPlace" "I", Cond.fieldLink RX6 42 "SkiShotsModel" "nation" "[I", Cond.fieldLink RX6 45 "SkiShotsModel" "rName" "[I", Cond.fieldLink RX6 48 "SkiShotsModel" "rLaps" "[I", Cond.fieldLink RX6 51 "SkiShotsModel" "rShoots" "[I", Cond.fieldLink RX6 54 "SkiShotsModel" "rSpares" "[I", Cond.fieldLink RX6 57 "SkiShotsModel" "rLoop" "[Z", Cond.fieldLink RX6 60 "SkiShotsModel" "rCost" "[I", Cond.fieldLink RX6 63 "SkiShotsModel" "rHow" "[I", Cond.fieldLink RX6 66 "SkiShotsModel" "rNumber" "[I"]
def wsX6_init_r2 : List Cond := [Cond.fieldLink RX6 69 "SkiShotsModel" "rBy" "[I", Cond.fieldLink RX6 72 "SkiShotsModel" "rEntries" "[I", Cond.fieldLink RX6 75 "SkiShotsModel" "rEvents" "[I", Cond.fieldLink RX6 78 "SkiShotsModel" "entries" "[I", Cond.fieldLink RX6 81 "SkiShotsModel" "entryOf" "[I", Cond.fieldLink RX6 84 "SkiShotsModel" "tRace" "[I", Cond.fieldLink RX6 87 "SkiShotsModel" "tRacer" "[I", Cond.fieldLink RX6 90 "SkiShotsModel" "tSort" "[I", Cond.fieldLink RX6 93 "SkiShotsModel" "tK" "[I", Cond.fieldLink RX6 96 "SkiShotsModel" "tV" "[I", Cond.fieldLink RX6 99 "SkiShotsModel" "tDay" "[I", Cond.fieldLink RX6 102 "SkiShotsModel" "words" "[I", Cond.fieldLink RX6 105 "SkiShotsModel" "start" "[I", Cond.fieldLink RX6 108 "SkiShotsModel" "low" "[I", Cond.fieldLink RX6 111 "SkiShotsModel" "high" "[I", Cond.fieldLink RX6 114 "SkiShotsModel" "missLow" "[I", Cond.fieldLink RX6 117 "SkiShotsModel" "missHigh" "[I", Cond.fieldLink RX6 120 "SkiShotsModel" "line" "[I", Cond.fieldLink RX6 123 "SkiShotsModel" "sums" "[I"]
def wsX6_init : List Cond := .code yX6_init cX6_init 2 none :: ((wsX6_init_r1 ++ wsX6_init_r2) ++ wsX60)
def wsX6_thrown : List Cond := .code yX6_thrown cX6_thrown 1 (some .int) :: ([.fieldLink RX6 126 "SkiShotsModel" "thrown" "I"] ++ wsX60)
def wsX6_feed : List Cond := .code yX6_feed cX6_feed 8 (some .int) :: ([.fieldLink RX6 126 "SkiShotsModel" "thrown" "I", .fieldLink RX6 129 "SkiShotsModel" "tapeSize" "I", .fieldLink RX6 7 "SkiShotsModel" "tape" "[I"] ++ wsX60)
def wsX6_wrong : List Cond := .code yX6_wrong cX6_wrong 3 (some .boolean) :: ([.fieldLink RX6 132 "SkiShotsModel" "fault" "I", .fieldLink RX6 38 "SkiShotsModel" "faultPlace" "I"] ++ wsX60)
def wsX6_wordAt : List Cond := .code yX6_wordAt cX6_wordAt 8 (some .int) :: ([.fieldLink RX6 102 "SkiShotsModel" "words" "[I", .fieldLink RX6 7 "SkiShotsModel" "tape" "[I"] ++ wsX60)
def wsX6_isSmall : List Cond := .code yX6_isSmall cX6_isSmall 2 (some .boolean) :: ([.fieldLink RX6 135 "SkiShotsModel" "size" "I", .fieldLink RX6 7 "SkiShotsModel" "tape" "[I"] ++ wsX60)
def wsX6_isDigit : List Cond := .code yX6_isDigit cX6_isDigit 2 (some .boolean) :: ([.fieldLink RX6 135 "SkiShotsModel" "size" "I", .fieldLink RX6 7 "SkiShotsModel" "tape" "[I"] ++ wsX60)
def wsX6_take : List Cond := .code yX6_take cX6_take 1 none :: ([.fieldLink RX6 138 "SkiShotsModel" "next" "I", .fieldLink RX6 135 "SkiShotsModel" "size" "I", .fieldLink RX6 7 "SkiShotsModel" "tape" "[I", .fieldLink RX6 141 "SkiShotsModel" "place" "I", .fieldLink RX6 144 "SkiShotsModel" "kind" "I", .fieldLink RX6 155 "SkiShotsModel" "which" "I", .constant RX6 161 (99999), .methodLink RX6 147 yX6_isSmall, .instanceMethod yX6_isSmall, .selects RX6 yX6_isSmall yX6_isSmall, .initialized RX6, .code yX6_isSmall cX6_isSmall 2 (some .boolean), .methodLink RX6 151 yX6_wordAt, .instanceMethod yX6_wordAt, .selects RX6 yX6_wordAt yX6_wordAt, .code yX6_wordAt cX6_wordAt 8 (some .int), .fieldLink RX6 102 "SkiShotsModel" "words" "[I", .methodLink RX6 158 yX6_isDigit, .instanceMethod yX6_isDigit, .selects RX6 yX6_isDigit yX6_isDigit, .code yX6_isDigit cX6_isDigit 2 (some .boolean)] ++ wsX60)
def wsX6_word_r1 : List Cond := [Cond.fieldLink RX6 144 "SkiShotsModel" "kind" "I", Cond.fieldLink RX6 155 "SkiShotsModel" "which" "I", Cond.fieldLink RX6 141 "SkiShotsModel" "place" "I", Cond.methodLink RX6 162 yX6_wrong, Cond.instanceMethod yX6_wrong, Cond.selects RX6 yX6_wrong yX6_wrong, Cond.initialized RX6, Cond.code yX6_wrong cX6_wrong 3 (some .boolean), Cond.fieldLink RX6 132 "SkiShotsModel" "fault" "I", Cond.fieldLink RX6 38 "SkiShotsModel" "faultPlace" "I", Cond.methodLink RX6 166 yX6_take, Cond.instanceMethod yX6_take, Cond.selects RX6 yX6_take yX6_take, Cond.code yX6_take cX6_take 1 none, Cond.fieldLink RX6 138 "SkiShotsModel" "next" "I", Cond.fieldLink RX6 135 "SkiShotsModel" "size" "I", Cond.fieldLink RX6 7 "SkiShotsModel" "tape" "[I", Cond.constant RX6 161 (99999), Cond.methodLink RX6 147 yX6_isSmall, Cond.instanceMethod yX6_isSmall, Cond.selects RX6 yX6_isSmall yX6_isSmall, Cond.code yX6_isSmall cX6_isSmall 2 (some .boolean), Cond.methodLink RX6 151 yX6_wordAt, Cond.instanceMethod yX6_wordAt]
def wsX6_word_r2 : List Cond := [Cond.selects RX6 yX6_wordAt yX6_wordAt, Cond.code yX6_wordAt cX6_wordAt 8 (some .int), Cond.fieldLink RX6 102 "SkiShotsModel" "words" "[I", Cond.methodLink RX6 158 yX6_isDigit, Cond.instanceMethod yX6_isDigit, Cond.selects RX6 yX6_isDigit yX6_isDigit, Cond.code yX6_isDigit cX6_isDigit 2 (some .boolean)]
def wsX6_word : List Cond := .code yX6_word cX6_word 2 (some .boolean) :: ((wsX6_word_r1 ++ wsX6_word_r2) ++ wsX60)
def wsX6_sign_r1 : List Cond := [Cond.fieldLink RX6 144 "SkiShotsModel" "kind" "I", Cond.fieldLink RX6 155 "SkiShotsModel" "which" "I", Cond.fieldLink RX6 141 "SkiShotsModel" "place" "I", Cond.methodLink RX6 162 yX6_wrong, Cond.instanceMethod yX6_wrong, Cond.selects RX6 yX6_wrong yX6_wrong, Cond.initialized RX6, Cond.code yX6_wrong cX6_wrong 3 (some .boolean), Cond.fieldLink RX6 132 "SkiShotsModel" "fault" "I", Cond.fieldLink RX6 38 "SkiShotsModel" "faultPlace" "I", Cond.methodLink RX6 166 yX6_take, Cond.instanceMethod yX6_take, Cond.selects RX6 yX6_take yX6_take, Cond.code yX6_take cX6_take 1 none, Cond.fieldLink RX6 138 "SkiShotsModel" "next" "I", Cond.fieldLink RX6 135 "SkiShotsModel" "size" "I", Cond.fieldLink RX6 7 "SkiShotsModel" "tape" "[I", Cond.constant RX6 161 (99999), Cond.methodLink RX6 147 yX6_isSmall, Cond.instanceMethod yX6_isSmall, Cond.selects RX6 yX6_isSmall yX6_isSmall, Cond.code yX6_isSmall cX6_isSmall 2 (some .boolean), Cond.methodLink RX6 151 yX6_wordAt, Cond.instanceMethod yX6_wordAt]
def wsX6_sign_r2 : List Cond := [Cond.selects RX6 yX6_wordAt yX6_wordAt, Cond.code yX6_wordAt cX6_wordAt 8 (some .int), Cond.fieldLink RX6 102 "SkiShotsModel" "words" "[I", Cond.methodLink RX6 158 yX6_isDigit, Cond.instanceMethod yX6_isDigit, Cond.selects RX6 yX6_isDigit yX6_isDigit, Cond.code yX6_isDigit cX6_isDigit 2 (some .boolean)]
def wsX6_sign : List Cond := .code yX6_sign cX6_sign 2 (some .boolean) :: ((wsX6_sign_r1 ++ wsX6_sign_r2) ++ wsX60)
def wsX6_number_r1 : List Cond := [Cond.fieldLink RX6 144 "SkiShotsModel" "kind" "I", Cond.fieldLink RX6 141 "SkiShotsModel" "place" "I", Cond.fieldLink RX6 155 "SkiShotsModel" "which" "I", Cond.fieldLink RX6 169 "SkiShotsModel" "read" "I", Cond.methodLink RX6 162 yX6_wrong, Cond.instanceMethod yX6_wrong, Cond.selects RX6 yX6_wrong yX6_wrong, Cond.initialized RX6, Cond.code yX6_wrong cX6_wrong 3 (some .boolean), Cond.fieldLink RX6 132 "SkiShotsModel" "fault" "I", Cond.fieldLink RX6 38 "SkiShotsModel" "faultPlace" "I", Cond.methodLink RX6 166 yX6_take, Cond.instanceMethod yX6_take, Cond.selects RX6 yX6_take yX6_take, Cond.code yX6_take cX6_take 1 none, Cond.fieldLink RX6 138 "SkiShotsModel" "next" "I", Cond.fieldLink RX6 135 "SkiShotsModel" "size" "I", Cond.fieldLink RX6 7 "SkiShotsModel" "tape" "[I", Cond.constant RX6 161 (99999), Cond.methodLink RX6 147 yX6_isSmall, Cond.instanceMethod yX6_isSmall, Cond.selects RX6 yX6_isSmall yX6_isSmall, Cond.code yX6_isSmall cX6_isSmall 2 (some .boolean), Cond.methodLink RX6 151 yX6_wordAt]
def wsX6_number_r2 : List Cond := [Cond.instanceMethod yX6_wordAt, Cond.selects RX6 yX6_wordAt yX6_wordAt, Cond.code yX6_wordAt cX6_wordAt 8 (some .int), Cond.fieldLink RX6 102 "SkiShotsModel" "words" "[I", Cond.methodLink RX6 158 yX6_isDigit, Cond.instanceMethod yX6_isDigit, Cond.selects RX6 yX6_isDigit yX6_isDigit, Cond.code yX6_isDigit cX6_isDigit 2 (some .boolean)]
def wsX6_number : List Cond := .code yX6_number cX6_number 3 (some .boolean) :: ((wsX6_number_r1 ++ wsX6_number_r2) ++ wsX60)
def wsX6_shots_r1 : List Cond := [Cond.fieldLink RX6 16 "SkiShotsModel" "shootMany" "[I", Cond.fieldLink RX6 144 "SkiShotsModel" "kind" "I", Cond.fieldLink RX6 141 "SkiShotsModel" "place" "I", Cond.fieldLink RX6 155 "SkiShotsModel" "which" "I", Cond.fieldLink RX6 13 "SkiShotsModel" "laps" "[I", Cond.fieldLink RX6 19 "SkiShotsModel" "shoot" "[I", Cond.methodLink RX6 162 yX6_wrong, Cond.instanceMethod yX6_wrong, Cond.selects RX6 yX6_wrong yX6_wrong, Cond.initialized RX6, Cond.code yX6_wrong cX6_wrong 3 (some .boolean), Cond.fieldLink RX6 132 "SkiShotsModel" "fault" "I", Cond.fieldLink RX6 38 "SkiShotsModel" "faultPlace" "I", Cond.methodLink RX6 166 yX6_take, Cond.instanceMethod yX6_take, Cond.selects RX6 yX6_take yX6_take, Cond.code yX6_take cX6_take 1 none, Cond.fieldLink RX6 138 "SkiShotsModel" "next" "I", Cond.fieldLink RX6 135 "SkiShotsModel" "size" "I", Cond.fieldLink RX6 7 "SkiShotsModel" "tape" "[I", Cond.constant RX6 161 (99999), Cond.methodLink RX6 147 yX6_isSmall, Cond.instanceMethod yX6_isSmall, Cond.selects RX6 yX6_isSmall yX6_isSmall]
def wsX6_shots_r2 : List Cond := [Cond.code yX6_isSmall cX6_isSmall 2 (some .boolean), Cond.methodLink RX6 151 yX6_wordAt, Cond.instanceMethod yX6_wordAt, Cond.selects RX6 yX6_wordAt yX6_wordAt, Cond.code yX6_wordAt cX6_wordAt 8 (some .int), Cond.fieldLink RX6 102 "SkiShotsModel" "words" "[I", Cond.methodLink RX6 158 yX6_isDigit, Cond.instanceMethod yX6_isDigit, Cond.selects RX6 yX6_isDigit yX6_isDigit, Cond.code yX6_isDigit cX6_isDigit 2 (some .boolean)]
def wsX6_shots : List Cond := .code yX6_shots cX6_shots 4 (some .boolean) :: ((wsX6_shots_r1 ++ wsX6_shots_r2) ++ wsX60)
def wsX6_starts_r1 : List Cond := [Cond.fieldLink RX6 144 "SkiShotsModel" "kind" "I", Cond.fieldLink RX6 155 "SkiShotsModel" "which" "I", Cond.fieldLink RX6 141 "SkiShotsModel" "place" "I", Cond.fieldLink RX6 32 "SkiShotsModel" "startHow" "[I", Cond.fieldLink RX6 35 "SkiShotsModel" "startNumber" "[I", Cond.fieldLink RX6 169 "SkiShotsModel" "read" "I", Cond.methodLink RX6 162 yX6_wrong, Cond.instanceMethod yX6_wrong, Cond.selects RX6 yX6_wrong yX6_wrong, Cond.initialized RX6, Cond.code yX6_wrong cX6_wrong 3 (some .boolean), Cond.fieldLink RX6 132 "SkiShotsModel" "fault" "I", Cond.fieldLink RX6 38 "SkiShotsModel" "faultPlace" "I", Cond.methodLink RX6 166 yX6_take, Cond.instanceMethod yX6_take, Cond.selects RX6 yX6_take yX6_take, Cond.code yX6_take cX6_take 1 none, Cond.fieldLink RX6 138 "SkiShotsModel" "next" "I", Cond.fieldLink RX6 135 "SkiShotsModel" "size" "I", Cond.fieldLink RX6 7 "SkiShotsModel" "tape" "[I", Cond.constant RX6 161 (99999), Cond.methodLink RX6 147 yX6_isSmall, Cond.instanceMethod yX6_isSmall, Cond.selects RX6 yX6_isSmall yX6_isSmall]
def wsX6_starts_r2 : List Cond := [Cond.code yX6_isSmall cX6_isSmall 2 (some .boolean), Cond.methodLink RX6 151 yX6_wordAt, Cond.instanceMethod yX6_wordAt, Cond.selects RX6 yX6_wordAt yX6_wordAt, Cond.code yX6_wordAt cX6_wordAt 8 (some .int), Cond.fieldLink RX6 102 "SkiShotsModel" "words" "[I", Cond.methodLink RX6 158 yX6_isDigit, Cond.instanceMethod yX6_isDigit, Cond.selects RX6 yX6_isDigit yX6_isDigit, Cond.code yX6_isDigit cX6_isDigit 2 (some .boolean), Cond.methodLink RX6 172 yX6_number, Cond.instanceMethod yX6_number, Cond.selects RX6 yX6_number yX6_number, Cond.code yX6_number cX6_number 3 (some .boolean)]
def wsX6_starts : List Cond := .code yX6_starts cX6_starts 3 (some .boolean) :: ((wsX6_starts_r1 ++ wsX6_starts_r2) ++ wsX60)
def wsX6_format_r1 : List Cond := [Cond.fieldLink RX6 144 "SkiShotsModel" "kind" "I", Cond.fieldLink RX6 141 "SkiShotsModel" "place" "I", Cond.fieldLink RX6 155 "SkiShotsModel" "which" "I", Cond.fieldLink RX6 13 "SkiShotsModel" "laps" "[I", Cond.fieldLink RX6 169 "SkiShotsModel" "read" "I", Cond.fieldLink RX6 22 "SkiShotsModel" "spares" "[I", Cond.fieldLink RX6 25 "SkiShotsModel" "isLoop" "[Z", Cond.fieldLink RX6 29 "SkiShotsModel" "cost" "[I", Cond.methodLink RX6 175 yX6_word, Cond.instanceMethod yX6_word, Cond.selects RX6 yX6_word yX6_word, Cond.initialized RX6, Cond.code yX6_word cX6_word 2 (some .boolean), Cond.methodLink RX6 162 yX6_wrong, Cond.instanceMethod yX6_wrong, Cond.selects RX6 yX6_wrong yX6_wrong, Cond.code yX6_wrong cX6_wrong 3 (some .boolean), Cond.fieldLink RX6 132 "SkiShotsModel" "fault" "I", Cond.fieldLink RX6 38 "SkiShotsModel" "faultPlace" "I", Cond.methodLink RX6 166 yX6_take, Cond.instanceMethod yX6_take, Cond.selects RX6 yX6_take yX6_take, Cond.code yX6_take cX6_take 1 none, Cond.fieldLink RX6 138 "SkiShotsModel" "next" "I"]
def wsX6_format_r2 : List Cond := [Cond.fieldLink RX6 135 "SkiShotsModel" "size" "I", Cond.fieldLink RX6 7 "SkiShotsModel" "tape" "[I", Cond.constant RX6 161 (99999), Cond.methodLink RX6 147 yX6_isSmall, Cond.instanceMethod yX6_isSmall, Cond.selects RX6 yX6_isSmall yX6_isSmall, Cond.code yX6_isSmall cX6_isSmall 2 (some .boolean), Cond.methodLink RX6 151 yX6_wordAt, Cond.instanceMethod yX6_wordAt, Cond.selects RX6 yX6_wordAt yX6_wordAt, Cond.code yX6_wordAt cX6_wordAt 8 (some .int), Cond.fieldLink RX6 102 "SkiShotsModel" "words" "[I", Cond.methodLink RX6 158 yX6_isDigit, Cond.instanceMethod yX6_isDigit, Cond.selects RX6 yX6_isDigit yX6_isDigit, Cond.code yX6_isDigit cX6_isDigit 2 (some .boolean), Cond.methodLink RX6 178 yX6_sign, Cond.instanceMethod yX6_sign, Cond.selects RX6 yX6_sign yX6_sign, Cond.code yX6_sign cX6_sign 2 (some .boolean), Cond.methodLink RX6 172 yX6_number, Cond.instanceMethod yX6_number, Cond.selects RX6 yX6_number yX6_number, Cond.code yX6_number cX6_number 3 (some .boolean)]
def wsX6_format_r3 : List Cond := [Cond.methodLink RX6 181 yX6_shots, Cond.instanceMethod yX6_shots, Cond.selects RX6 yX6_shots yX6_shots, Cond.code yX6_shots cX6_shots 4 (some .boolean), Cond.fieldLink RX6 16 "SkiShotsModel" "shootMany" "[I", Cond.fieldLink RX6 19 "SkiShotsModel" "shoot" "[I", Cond.methodLink RX6 184 yX6_starts, Cond.instanceMethod yX6_starts, Cond.selects RX6 yX6_starts yX6_starts, Cond.code yX6_starts cX6_starts 3 (some .boolean), Cond.fieldLink RX6 32 "SkiShotsModel" "startHow" "[I", Cond.fieldLink RX6 35 "SkiShotsModel" "startNumber" "[I"]
def wsX6_format : List Cond := .code yX6_format cX6_format 2 (some .boolean) :: ((wsX6_format_r1 ++ (wsX6_format_r2 ++ wsX6_format_r3)) ++ wsX60)
def wsX6_formats_r1 : List Cond := [Cond.fieldLink RX6 126 "SkiShotsModel" "thrown" "I", Cond.fieldLink RX6 129 "SkiShotsModel" "tapeSize" "I", Cond.fieldLink RX6 135 "SkiShotsModel" "size" "I", Cond.fieldLink RX6 132 "SkiShotsModel" "fault" "I", Cond.fieldLink RX6 38 "SkiShotsModel" "faultPlace" "I", Cond.fieldLink RX6 13 "SkiShotsModel" "laps" "[I", Cond.fieldLink RX6 138 "SkiShotsModel" "next" "I", Cond.fieldLink RX6 144 "SkiShotsModel" "kind" "I", Cond.fieldLink RX6 191 "SkiShotsModel" "formatMany" "I", Cond.fieldLink RX6 16 "SkiShotsModel" "shootMany" "[I", Cond.fieldLink RX6 22 "SkiShotsModel" "spares" "[I", Cond.fieldLink RX6 25 "SkiShotsModel" "isLoop" "[Z", Cond.fieldLink RX6 29 "SkiShotsModel" "cost" "[I", Cond.fieldLink RX6 32 "SkiShotsModel" "startHow" "[I", Cond.fieldLink RX6 35 "SkiShotsModel" "startNumber" "[I", Cond.methodLink RX6 166 yX6_take, Cond.instanceMethod yX6_take, Cond.selects RX6 yX6_take yX6_take, Cond.initialized RX6, Cond.code yX6_take cX6_take 1 none, Cond.fieldLink RX6 7 "SkiShotsModel" "tape" "[I", Cond.fieldLink RX6 141 "SkiShotsModel" "place" "I", Cond.fieldLink RX6 155 "SkiShotsModel" "which" "I", Cond.constant RX6 161 (99999)]
def wsX6_formats_r2 : List Cond := [Cond.methodLink RX6 147 yX6_isSmall, Cond.instanceMethod yX6_isSmall, Cond.selects RX6 yX6_isSmall yX6_isSmall, Cond.code yX6_isSmall cX6_isSmall 2 (some .boolean), Cond.methodLink RX6 151 yX6_wordAt, Cond.instanceMethod yX6_wordAt, Cond.selects RX6 yX6_wordAt yX6_wordAt, Cond.code yX6_wordAt cX6_wordAt 8 (some .int), Cond.fieldLink RX6 102 "SkiShotsModel" "words" "[I", Cond.methodLink RX6 158 yX6_isDigit, Cond.instanceMethod yX6_isDigit, Cond.selects RX6 yX6_isDigit yX6_isDigit, Cond.code yX6_isDigit cX6_isDigit 2 (some .boolean), Cond.methodLink RX6 187 yX6_format, Cond.instanceMethod yX6_format, Cond.selects RX6 yX6_format yX6_format, Cond.code yX6_format cX6_format 2 (some .boolean), Cond.fieldLink RX6 169 "SkiShotsModel" "read" "I", Cond.methodLink RX6 175 yX6_word, Cond.instanceMethod yX6_word, Cond.selects RX6 yX6_word yX6_word, Cond.code yX6_word cX6_word 2 (some .boolean), Cond.methodLink RX6 162 yX6_wrong, Cond.instanceMethod yX6_wrong]
def wsX6_formats_r3 : List Cond := [Cond.selects RX6 yX6_wrong yX6_wrong, Cond.code yX6_wrong cX6_wrong 3 (some .boolean), Cond.methodLink RX6 178 yX6_sign, Cond.instanceMethod yX6_sign, Cond.selects RX6 yX6_sign yX6_sign, Cond.code yX6_sign cX6_sign 2 (some .boolean), Cond.methodLink RX6 172 yX6_number, Cond.instanceMethod yX6_number, Cond.selects RX6 yX6_number yX6_number, Cond.code yX6_number cX6_number 3 (some .boolean), Cond.methodLink RX6 181 yX6_shots, Cond.instanceMethod yX6_shots, Cond.selects RX6 yX6_shots yX6_shots, Cond.code yX6_shots cX6_shots 4 (some .boolean), Cond.fieldLink RX6 19 "SkiShotsModel" "shoot" "[I", Cond.methodLink RX6 184 yX6_starts, Cond.instanceMethod yX6_starts, Cond.selects RX6 yX6_starts yX6_starts, Cond.code yX6_starts cX6_starts 3 (some .boolean)]
def wsX6_formats : List Cond := .code yX6_formats cX6_formats 4 (some .int) :: ((wsX6_formats_r1 ++ (wsX6_formats_r2 ++ wsX6_formats_r3)) ++ wsX60)
def wsX6_fault : List Cond := .code yX6_fault cX6_fault 2 (some .int) :: ([.fieldLink RX6 126 "SkiShotsModel" "thrown" "I", .fieldLink RX6 132 "SkiShotsModel" "fault" "I", .fieldLink RX6 38 "SkiShotsModel" "faultPlace" "I"] ++ wsX60)
def wsX6_pass : List Cond := .code yX6_pass cX6_pass 2 (some .int) :: ([.fieldLink RX6 126 "SkiShotsModel" "thrown" "I", .fieldLink RX6 194 "SkiShotsModel" "today" "I"] ++ wsX60)
def wsX6_racer : List Cond := .code yX6_racer cX6_racer 2 (some .int) :: ([.fieldLink RX6 126 "SkiShotsModel" "thrown" "I", .fieldLink RX6 197 "SkiShotsModel" "racers" "I", .fieldLink RX6 42 "SkiShotsModel" "nation" "[I"] ++ wsX60)
def wsX6_isRace : List Cond := .code yX6_isRace cX6_isRace 2 (some .boolean) :: ([.fieldLink RX6 200 "SkiShotsModel" "races" "I"] ++ wsX60)
def wsX6_isRacer : List Cond := .code yX6_isRacer cX6_isRacer 2 (some .boolean) :: ([.fieldLink RX6 197 "SkiShotsModel" "racers" "I"] ++ wsX60)
def wsX6_race : List Cond := .code yX6_race cX6_race 3 (some .int) :: ([.fieldLink RX6 126 "SkiShotsModel" "thrown" "I", .fieldLink RX6 13 "SkiShotsModel" "laps" "[I", .fieldLink RX6 200 "SkiShotsModel" "races" "I", .fieldLink RX6 32 "SkiShotsModel" "startHow" "[I", .fieldLink RX6 45 "SkiShotsModel" "rName" "[I", .fieldLink RX6 48 "SkiShotsModel" "rLaps" "[I", .fieldLink RX6 51 "SkiShotsModel" "rShoots" "[I", .fieldLink RX6 16 "SkiShotsModel" "shootMany" "[I", .fieldLink RX6 54 "SkiShotsModel" "rSpares" "[I", .fieldLink RX6 22 "SkiShotsModel" "spares" "[I", .fieldLink RX6 57 "SkiShotsModel" "rLoop" "[Z", .fieldLink RX6 25 "SkiShotsModel" "isLoop" "[Z", .fieldLink RX6 60 "SkiShotsModel" "rCost" "[I", .fieldLink RX6 29 "SkiShotsModel" "cost" "[I", .fieldLink RX6 63 "SkiShotsModel" "rHow" "[I", .fieldLink RX6 66 "SkiShotsModel" "rNumber" "[I", .fieldLink RX6 35 "SkiShotsModel" "startNumber" "[I", .fieldLink RX6 69 "SkiShotsModel" "rBy" "[I", .methodLink RX6 203 yX6_isRace, .instanceMethod yX6_isRace, .selects RX6 yX6_isRace yX6_isRace, .initialized RX6, .code yX6_isRace cX6_isRace 2 (some .boolean)] ++ wsX60)
def wsX6_enter : List Cond := .code yX6_enter cX6_enter 3 (some .int) :: ([.fieldLink RX6 126 "SkiShotsModel" "thrown" "I", .fieldLink RX6 81 "SkiShotsModel" "entryOf" "[I", .fieldLink RX6 75 "SkiShotsModel" "rEvents" "[I", .fieldLink RX6 72 "SkiShotsModel" "rEntries" "[I", .fieldLink RX6 78 "SkiShotsModel" "entries" "[I", .methodLink RX6 203 yX6_isRace, .instanceMethod yX6_isRace, .selects RX6 yX6_isRace yX6_isRace, .initialized RX6, .code yX6_isRace cX6_isRace 2 (some .boolean), .fieldLink RX6 200 "SkiShotsModel" "races" "I", .methodLink RX6 206 yX6_isRacer, .instanceMethod yX6_isRacer, .selects RX6 yX6_isRacer yX6_isRacer, .code yX6_isRacer cX6_isRacer 2 (some .boolean), .fieldLink RX6 197 "SkiShotsModel" "racers" "I"] ++ wsX60)
def wsX6_isIn : List Cond := .code yX6_isIn cX6_isIn 3 (some .boolean) :: ([.fieldLink RX6 81 "SkiShotsModel" "entryOf" "[I", .methodLink RX6 203 yX6_isRace, .instanceMethod yX6_isRace, .selects RX6 yX6_isRace yX6_isRace, .initialized RX6, .code yX6_isRace cX6_isRace 2 (some .boolean), .fieldLink RX6 200 "SkiShotsModel" "races" "I", .methodLink RX6 206 yX6_isRacer, .instanceMethod yX6_isRacer, .selects RX6 yX6_isRacer yX6_isRacer, .code yX6_isRacer cX6_isRacer 2 (some .boolean), .fieldLink RX6 197 "SkiShotsModel" "racers" "I"] ++ wsX60)
def wsX6_can : List Cond := .code yX6_can cX6_can 5 (some .boolean) :: ([.fieldLink RX6 48 "SkiShotsModel" "rLaps" "[I", .constant RX6 209 (200000), .fieldLink RX6 51 "SkiShotsModel" "rShoots" "[I"] ++ wsX60)
def wsX6_tell_r1 : List Cond := [Cond.fieldLink RX6 126 "SkiShotsModel" "thrown" "I", Cond.fieldLink RX6 217 "SkiShotsModel" "told" "I", Cond.fieldLink RX6 84 "SkiShotsModel" "tRace" "[I", Cond.fieldLink RX6 87 "SkiShotsModel" "tRacer" "[I", Cond.fieldLink RX6 90 "SkiShotsModel" "tSort" "[I", Cond.fieldLink RX6 93 "SkiShotsModel" "tK" "[I", Cond.fieldLink RX6 96 "SkiShotsModel" "tV" "[I", Cond.fieldLink RX6 99 "SkiShotsModel" "tDay" "[I", Cond.fieldLink RX6 194 "SkiShotsModel" "today" "I", Cond.fieldLink RX6 75 "SkiShotsModel" "rEvents" "[I", Cond.methodLink RX6 210 yX6_isIn, Cond.instanceMethod yX6_isIn, Cond.selects RX6 yX6_isIn yX6_isIn, Cond.initialized RX6, Cond.code yX6_isIn cX6_isIn 3 (some .boolean), Cond.fieldLink RX6 81 "SkiShotsModel" "entryOf" "[I", Cond.methodLink RX6 203 yX6_isRace, Cond.instanceMethod yX6_isRace, Cond.selects RX6 yX6_isRace yX6_isRace, Cond.code yX6_isRace cX6_isRace 2 (some .boolean), Cond.fieldLink RX6 200 "SkiShotsModel" "races" "I", Cond.methodLink RX6 206 yX6_isRacer, Cond.instanceMethod yX6_isRacer, Cond.selects RX6 yX6_isRacer yX6_isRacer]
def wsX6_tell_r2 : List Cond := [Cond.code yX6_isRacer cX6_isRacer 2 (some .boolean), Cond.fieldLink RX6 197 "SkiShotsModel" "racers" "I", Cond.methodLink RX6 213 yX6_can, Cond.instanceMethod yX6_can, Cond.selects RX6 yX6_can yX6_can, Cond.code yX6_can cX6_can 5 (some .boolean), Cond.fieldLink RX6 48 "SkiShotsModel" "rLaps" "[I", Cond.constant RX6 209 (200000), Cond.fieldLink RX6 51 "SkiShotsModel" "rShoots" "[I"]
def wsX6_tell : List Cond := .code yX6_tell cX6_tell 6 (some .int) :: ((wsX6_tell_r1 ++ wsX6_tell_r2) ++ wsX60)
def wsX6_fails : List Cond := .code yX6_fails cX6_fails 2 (some .int) :: ([.fieldLink RX6 126 "SkiShotsModel" "thrown" "I"] ++ wsX60)
def wsX6_look : List Cond := .code yX6_look cX6_look 3 (some .int) :: ([.fieldLink RX6 126 "SkiShotsModel" "thrown" "I", .fieldLink RX6 45 "SkiShotsModel" "rName" "[I", .fieldLink RX6 48 "SkiShotsModel" "rLaps" "[I", .fieldLink RX6 51 "SkiShotsModel" "rShoots" "[I", .fieldLink RX6 54 "SkiShotsModel" "rSpares" "[I", .fieldLink RX6 69 "SkiShotsModel" "rBy" "[I", .fieldLink RX6 72 "SkiShotsModel" "rEntries" "[I", .fieldLink RX6 75 "SkiShotsModel" "rEvents" "[I", .methodLink RX6 203 yX6_isRace, .instanceMethod yX6_isRace, .selects RX6 yX6_isRace yX6_isRace, .initialized RX6, .code yX6_isRace cX6_isRace 2 (some .boolean), .fieldLink RX6 200 "SkiShotsModel" "races" "I", .methodLink RX6 220 yX6_fails, .instanceMethod yX6_fails, .selects RX6 yX6_fails yX6_fails, .code yX6_fails cX6_fails 2 (some .int)] ++ wsX60)
def wsX6_entry : List Cond := .code yX6_entry cX6_entry 3 (some .int) :: ([.fieldLink RX6 126 "SkiShotsModel" "thrown" "I", .fieldLink RX6 72 "SkiShotsModel" "rEntries" "[I", .fieldLink RX6 78 "SkiShotsModel" "entries" "[I", .methodLink RX6 203 yX6_isRace, .instanceMethod yX6_isRace, .selects RX6 yX6_isRace yX6_isRace, .initialized RX6, .code yX6_isRace cX6_isRace 2 (some .boolean), .fieldLink RX6 200 "SkiShotsModel" "races" "I"] ++ wsX60)
def wsX6_known : List Cond := .code yX6_known cX6_known 7 (some .int) :: ([.fieldLink RX6 217 "SkiShotsModel" "told" "I", .fieldLink RX6 99 "SkiShotsModel" "tDay" "[I", .fieldLink RX6 84 "SkiShotsModel" "tRace" "[I", .fieldLink RX6 87 "SkiShotsModel" "tRacer" "[I", .fieldLink RX6 90 "SkiShotsModel" "tSort" "[I", .fieldLink RX6 93 "SkiShotsModel" "tK" "[I", .fieldLink RX6 96 "SkiShotsModel" "tV" "[I"] ++ wsX60)
def wsX6_hits : List Cond := .code yX6_hits cX6_hits 3 (some .int) :: ([])
def wsX6_least : List Cond := .code yX6_least cX6_least 4 (some .int) :: ([.fieldLink RX6 197 "SkiShotsModel" "racers" "I", .fieldLink RX6 81 "SkiShotsModel" "entryOf" "[I", .fieldLink RX6 108 "SkiShotsModel" "low" "[I"] ++ wsX60)
def wsX6_startOf : List Cond := .code yX6_startOf cX6_startOf 5 (some .int) :: ([.fieldLink RX6 63 "SkiShotsModel" "rHow" "[I", .fieldLink RX6 66 "SkiShotsModel" "rNumber" "[I", .fieldLink RX6 81 "SkiShotsModel" "entryOf" "[I", .fieldLink RX6 69 "SkiShotsModel" "rBy" "[I", .fieldLink RX6 108 "SkiShotsModel" "low" "[I", .methodLink RX6 224 yX6_least, .instanceMethod yX6_least, .selects RX6 yX6_least yX6_least, .initialized RX6, .code yX6_least cX6_least 4 (some .int), .fieldLink RX6 197 "SkiShotsModel" "racers" "I"] ++ wsX60)
def wsX6_work_r1 : List Cond := [Cond.fieldLink RX6 105 "SkiShotsModel" "start" "[I", Cond.fieldLink RX6 114 "SkiShotsModel" "missLow" "[I", Cond.fieldLink RX6 117 "SkiShotsModel" "missHigh" "[I", Cond.fieldLink RX6 51 "SkiShotsModel" "rShoots" "[I", Cond.fieldLink RX6 57 "SkiShotsModel" "rLoop" "[Z", Cond.fieldLink RX6 60 "SkiShotsModel" "rCost" "[I", Cond.fieldLink RX6 48 "SkiShotsModel" "rLaps" "[I", Cond.fieldLink RX6 108 "SkiShotsModel" "low" "[I", Cond.fieldLink RX6 111 "SkiShotsModel" "high" "[I", Cond.methodLink RX6 227 yX6_startOf, Cond.instanceMethod yX6_startOf, Cond.selects RX6 yX6_startOf yX6_startOf, Cond.initialized RX6, Cond.code yX6_startOf cX6_startOf 5 (some .int), Cond.fieldLink RX6 63 "SkiShotsModel" "rHow" "[I", Cond.fieldLink RX6 66 "SkiShotsModel" "rNumber" "[I", Cond.fieldLink RX6 81 "SkiShotsModel" "entryOf" "[I", Cond.fieldLink RX6 69 "SkiShotsModel" "rBy" "[I", Cond.methodLink RX6 224 yX6_least, Cond.instanceMethod yX6_least, Cond.selects RX6 yX6_least yX6_least, Cond.code yX6_least cX6_least 4 (some .int), Cond.fieldLink RX6 197 "SkiShotsModel" "racers" "I", Cond.methodLink RX6 230 yX6_known]
def wsX6_work_r2 : List Cond := [Cond.instanceMethod yX6_known, Cond.selects RX6 yX6_known yX6_known, Cond.code yX6_known cX6_known 7 (some .int), Cond.fieldLink RX6 217 "SkiShotsModel" "told" "I", Cond.fieldLink RX6 99 "SkiShotsModel" "tDay" "[I", Cond.fieldLink RX6 84 "SkiShotsModel" "tRace" "[I", Cond.fieldLink RX6 87 "SkiShotsModel" "tRacer" "[I", Cond.fieldLink RX6 90 "SkiShotsModel" "tSort" "[I", Cond.fieldLink RX6 93 "SkiShotsModel" "tK" "[I", Cond.fieldLink RX6 96 "SkiShotsModel" "tV" "[I", Cond.methodLink RX6 234 yX6_hits, Cond.static yX6_hits, Cond.code yX6_hits cX6_hits 3 (some .int)]
def wsX6_work : List Cond := .code yX6_work cX6_work 12 none :: ((wsX6_work_r1 ++ wsX6_work_r2) ++ wsX60)
def wsX6_workAll_r1 : List Cond := [Cond.fieldLink RX6 72 "SkiShotsModel" "rEntries" "[I", Cond.fieldLink RX6 78 "SkiShotsModel" "entries" "[I", Cond.methodLink RX6 237 yX6_work, Cond.instanceMethod yX6_work, Cond.selects RX6 yX6_work yX6_work, Cond.initialized RX6, Cond.code yX6_work cX6_work 12 none, Cond.fieldLink RX6 105 "SkiShotsModel" "start" "[I", Cond.fieldLink RX6 114 "SkiShotsModel" "missLow" "[I", Cond.fieldLink RX6 117 "SkiShotsModel" "missHigh" "[I", Cond.fieldLink RX6 51 "SkiShotsModel" "rShoots" "[I", Cond.fieldLink RX6 57 "SkiShotsModel" "rLoop" "[Z", Cond.fieldLink RX6 60 "SkiShotsModel" "rCost" "[I", Cond.fieldLink RX6 48 "SkiShotsModel" "rLaps" "[I", Cond.fieldLink RX6 108 "SkiShotsModel" "low" "[I", Cond.fieldLink RX6 111 "SkiShotsModel" "high" "[I", Cond.methodLink RX6 227 yX6_startOf, Cond.instanceMethod yX6_startOf, Cond.selects RX6 yX6_startOf yX6_startOf, Cond.code yX6_startOf cX6_startOf 5 (some .int), Cond.fieldLink RX6 63 "SkiShotsModel" "rHow" "[I", Cond.fieldLink RX6 66 "SkiShotsModel" "rNumber" "[I", Cond.fieldLink RX6 81 "SkiShotsModel" "entryOf" "[I", Cond.fieldLink RX6 69 "SkiShotsModel" "rBy" "[I"]
def wsX6_workAll_r2 : List Cond := [Cond.methodLink RX6 224 yX6_least, Cond.instanceMethod yX6_least, Cond.selects RX6 yX6_least yX6_least, Cond.code yX6_least cX6_least 4 (some .int), Cond.fieldLink RX6 197 "SkiShotsModel" "racers" "I", Cond.methodLink RX6 230 yX6_known, Cond.instanceMethod yX6_known, Cond.selects RX6 yX6_known yX6_known, Cond.code yX6_known cX6_known 7 (some .int), Cond.fieldLink RX6 217 "SkiShotsModel" "told" "I", Cond.fieldLink RX6 99 "SkiShotsModel" "tDay" "[I", Cond.fieldLink RX6 84 "SkiShotsModel" "tRace" "[I", Cond.fieldLink RX6 87 "SkiShotsModel" "tRacer" "[I", Cond.fieldLink RX6 90 "SkiShotsModel" "tSort" "[I", Cond.fieldLink RX6 93 "SkiShotsModel" "tK" "[I", Cond.fieldLink RX6 96 "SkiShotsModel" "tV" "[I", Cond.methodLink RX6 234 yX6_hits, Cond.static yX6_hits, Cond.code yX6_hits cX6_hits 3 (some .int)]
def wsX6_workAll : List Cond := .code yX6_workAll cX6_workAll 5 none :: ((wsX6_workAll_r1 ++ wsX6_workAll_r2) ++ wsX60)
def wsX6_placed : List Cond := .code yX6_placed cX6_placed 8 (some .int) :: ([.fieldLink RX6 72 "SkiShotsModel" "rEntries" "[I", .fieldLink RX6 78 "SkiShotsModel" "entries" "[I", .fieldLink RX6 108 "SkiShotsModel" "low" "[I", .fieldLink RX6 111 "SkiShotsModel" "high" "[I"] ++ wsX60)
def wsX6_isDay : List Cond := .code yX6_isDay cX6_isDay 2 (some .boolean) :: ([.fieldLink RX6 194 "SkiShotsModel" "today" "I"] ++ wsX60)
def wsX6_time_r1 : List Cond := [Cond.fieldLink RX6 126 "SkiShotsModel" "thrown" "I", Cond.fieldLink RX6 105 "SkiShotsModel" "start" "[I", Cond.fieldLink RX6 108 "SkiShotsModel" "low" "[I", Cond.fieldLink RX6 111 "SkiShotsModel" "high" "[I", Cond.fieldLink RX6 114 "SkiShotsModel" "missLow" "[I", Cond.fieldLink RX6 117 "SkiShotsModel" "missHigh" "[I", Cond.methodLink RX6 210 yX6_isIn, Cond.instanceMethod yX6_isIn, Cond.selects RX6 yX6_isIn yX6_isIn, Cond.initialized RX6, Cond.code yX6_isIn cX6_isIn 3 (some .boolean), Cond.fieldLink RX6 81 "SkiShotsModel" "entryOf" "[I", Cond.methodLink RX6 203 yX6_isRace, Cond.instanceMethod yX6_isRace, Cond.selects RX6 yX6_isRace yX6_isRace, Cond.code yX6_isRace cX6_isRace 2 (some .boolean), Cond.fieldLink RX6 200 "SkiShotsModel" "races" "I", Cond.methodLink RX6 206 yX6_isRacer, Cond.instanceMethod yX6_isRacer, Cond.selects RX6 yX6_isRacer yX6_isRacer, Cond.code yX6_isRacer cX6_isRacer 2 (some .boolean), Cond.fieldLink RX6 197 "SkiShotsModel" "racers" "I", Cond.methodLink RX6 241 yX6_isDay, Cond.instanceMethod yX6_isDay]
def wsX6_time_r2 : List Cond := [Cond.selects RX6 yX6_isDay yX6_isDay, Cond.code yX6_isDay cX6_isDay 2 (some .boolean), Cond.fieldLink RX6 194 "SkiShotsModel" "today" "I", Cond.methodLink RX6 244 yX6_workAll, Cond.instanceMethod yX6_workAll, Cond.selects RX6 yX6_workAll yX6_workAll, Cond.code yX6_workAll cX6_workAll 5 none, Cond.fieldLink RX6 72 "SkiShotsModel" "rEntries" "[I", Cond.fieldLink RX6 78 "SkiShotsModel" "entries" "[I", Cond.methodLink RX6 237 yX6_work, Cond.instanceMethod yX6_work, Cond.selects RX6 yX6_work yX6_work, Cond.code yX6_work cX6_work 12 none, Cond.fieldLink RX6 51 "SkiShotsModel" "rShoots" "[I", Cond.fieldLink RX6 57 "SkiShotsModel" "rLoop" "[Z", Cond.fieldLink RX6 60 "SkiShotsModel" "rCost" "[I", Cond.fieldLink RX6 48 "SkiShotsModel" "rLaps" "[I", Cond.methodLink RX6 227 yX6_startOf, Cond.instanceMethod yX6_startOf, Cond.selects RX6 yX6_startOf yX6_startOf, Cond.code yX6_startOf cX6_startOf 5 (some .int), Cond.fieldLink RX6 63 "SkiShotsModel" "rHow" "[I", Cond.fieldLink RX6 66 "SkiShotsModel" "rNumber" "[I", Cond.fieldLink RX6 69 "SkiShotsModel" "rBy" "[I"]
def wsX6_time_r3 : List Cond := [Cond.methodLink RX6 224 yX6_least, Cond.instanceMethod yX6_least, Cond.selects RX6 yX6_least yX6_least, Cond.code yX6_least cX6_least 4 (some .int), Cond.methodLink RX6 230 yX6_known, Cond.instanceMethod yX6_known, Cond.selects RX6 yX6_known yX6_known, Cond.code yX6_known cX6_known 7 (some .int), Cond.fieldLink RX6 217 "SkiShotsModel" "told" "I", Cond.fieldLink RX6 99 "SkiShotsModel" "tDay" "[I", Cond.fieldLink RX6 84 "SkiShotsModel" "tRace" "[I", Cond.fieldLink RX6 87 "SkiShotsModel" "tRacer" "[I", Cond.fieldLink RX6 90 "SkiShotsModel" "tSort" "[I", Cond.fieldLink RX6 93 "SkiShotsModel" "tK" "[I", Cond.fieldLink RX6 96 "SkiShotsModel" "tV" "[I", Cond.methodLink RX6 234 yX6_hits, Cond.static yX6_hits, Cond.code yX6_hits cX6_hits 3 (some .int), Cond.methodLink RX6 248 yX6_placed, Cond.instanceMethod yX6_placed, Cond.selects RX6 yX6_placed yX6_placed, Cond.code yX6_placed cX6_placed 8 (some .int)]
def wsX6_time : List Cond := .code yX6_time cX6_time 6 (some .int) :: ((wsX6_time_r1 ++ (wsX6_time_r2 ++ wsX6_time_r3)) ++ wsX60)
def wsX6_split_r1 : List Cond := [Cond.fieldLink RX6 126 "SkiShotsModel" "thrown" "I", Cond.fieldLink RX6 48 "SkiShotsModel" "rLaps" "[I", Cond.fieldLink RX6 105 "SkiShotsModel" "start" "[I", Cond.methodLink RX6 210 yX6_isIn, Cond.instanceMethod yX6_isIn, Cond.selects RX6 yX6_isIn yX6_isIn, Cond.initialized RX6, Cond.code yX6_isIn cX6_isIn 3 (some .boolean), Cond.fieldLink RX6 81 "SkiShotsModel" "entryOf" "[I", Cond.methodLink RX6 203 yX6_isRace, Cond.instanceMethod yX6_isRace, Cond.selects RX6 yX6_isRace yX6_isRace, Cond.code yX6_isRace cX6_isRace 2 (some .boolean), Cond.fieldLink RX6 200 "SkiShotsModel" "races" "I", Cond.methodLink RX6 206 yX6_isRacer, Cond.instanceMethod yX6_isRacer, Cond.selects RX6 yX6_isRacer yX6_isRacer, Cond.code yX6_isRacer cX6_isRacer 2 (some .boolean), Cond.fieldLink RX6 197 "SkiShotsModel" "racers" "I", Cond.methodLink RX6 241 yX6_isDay, Cond.instanceMethod yX6_isDay, Cond.selects RX6 yX6_isDay yX6_isDay, Cond.code yX6_isDay cX6_isDay 2 (some .boolean), Cond.fieldLink RX6 194 "SkiShotsModel" "today" "I"]
def wsX6_split_r2 : List Cond := [Cond.methodLink RX6 244 yX6_workAll, Cond.instanceMethod yX6_workAll, Cond.selects RX6 yX6_workAll yX6_workAll, Cond.code yX6_workAll cX6_workAll 5 none, Cond.fieldLink RX6 72 "SkiShotsModel" "rEntries" "[I", Cond.fieldLink RX6 78 "SkiShotsModel" "entries" "[I", Cond.methodLink RX6 237 yX6_work, Cond.instanceMethod yX6_work, Cond.selects RX6 yX6_work yX6_work, Cond.code yX6_work cX6_work 12 none, Cond.fieldLink RX6 114 "SkiShotsModel" "missLow" "[I", Cond.fieldLink RX6 117 "SkiShotsModel" "missHigh" "[I", Cond.fieldLink RX6 51 "SkiShotsModel" "rShoots" "[I", Cond.fieldLink RX6 57 "SkiShotsModel" "rLoop" "[Z", Cond.fieldLink RX6 60 "SkiShotsModel" "rCost" "[I", Cond.fieldLink RX6 108 "SkiShotsModel" "low" "[I", Cond.fieldLink RX6 111 "SkiShotsModel" "high" "[I", Cond.methodLink RX6 227 yX6_startOf, Cond.instanceMethod yX6_startOf, Cond.selects RX6 yX6_startOf yX6_startOf, Cond.code yX6_startOf cX6_startOf 5 (some .int), Cond.fieldLink RX6 63 "SkiShotsModel" "rHow" "[I", Cond.fieldLink RX6 66 "SkiShotsModel" "rNumber" "[I", Cond.fieldLink RX6 69 "SkiShotsModel" "rBy" "[I"]
def wsX6_split_r3 : List Cond := [Cond.methodLink RX6 224 yX6_least, Cond.instanceMethod yX6_least, Cond.selects RX6 yX6_least yX6_least, Cond.code yX6_least cX6_least 4 (some .int), Cond.methodLink RX6 230 yX6_known, Cond.instanceMethod yX6_known, Cond.selects RX6 yX6_known yX6_known, Cond.code yX6_known cX6_known 7 (some .int), Cond.fieldLink RX6 217 "SkiShotsModel" "told" "I", Cond.fieldLink RX6 99 "SkiShotsModel" "tDay" "[I", Cond.fieldLink RX6 84 "SkiShotsModel" "tRace" "[I", Cond.fieldLink RX6 87 "SkiShotsModel" "tRacer" "[I", Cond.fieldLink RX6 90 "SkiShotsModel" "tSort" "[I", Cond.fieldLink RX6 93 "SkiShotsModel" "tK" "[I", Cond.fieldLink RX6 96 "SkiShotsModel" "tV" "[I", Cond.methodLink RX6 234 yX6_hits, Cond.static yX6_hits, Cond.code yX6_hits cX6_hits 3 (some .int)]
def wsX6_split : List Cond := .code yX6_split cX6_split 7 (some .int) :: ((wsX6_split_r1 ++ (wsX6_split_r2 ++ wsX6_split_r3)) ++ wsX60)
def wsX6_order_r1 : List Cond := [Cond.fieldLink RX6 126 "SkiShotsModel" "thrown" "I", Cond.fieldLink RX6 72 "SkiShotsModel" "rEntries" "[I", Cond.fieldLink RX6 78 "SkiShotsModel" "entries" "[I", Cond.fieldLink RX6 108 "SkiShotsModel" "low" "[I", Cond.fieldLink RX6 120 "SkiShotsModel" "line" "[I", Cond.methodLink RX6 203 yX6_isRace, Cond.instanceMethod yX6_isRace, Cond.selects RX6 yX6_isRace yX6_isRace, Cond.initialized RX6, Cond.code yX6_isRace cX6_isRace 2 (some .boolean), Cond.fieldLink RX6 200 "SkiShotsModel" "races" "I", Cond.methodLink RX6 241 yX6_isDay, Cond.instanceMethod yX6_isDay, Cond.selects RX6 yX6_isDay yX6_isDay, Cond.code yX6_isDay cX6_isDay 2 (some .boolean), Cond.fieldLink RX6 194 "SkiShotsModel" "today" "I", Cond.methodLink RX6 244 yX6_workAll, Cond.instanceMethod yX6_workAll, Cond.selects RX6 yX6_workAll yX6_workAll, Cond.code yX6_workAll cX6_workAll 5 none, Cond.methodLink RX6 237 yX6_work, Cond.instanceMethod yX6_work, Cond.selects RX6 yX6_work yX6_work, Cond.code yX6_work cX6_work 12 none]
def wsX6_order_r2 : List Cond := [Cond.fieldLink RX6 105 "SkiShotsModel" "start" "[I", Cond.fieldLink RX6 114 "SkiShotsModel" "missLow" "[I", Cond.fieldLink RX6 117 "SkiShotsModel" "missHigh" "[I", Cond.fieldLink RX6 51 "SkiShotsModel" "rShoots" "[I", Cond.fieldLink RX6 57 "SkiShotsModel" "rLoop" "[Z", Cond.fieldLink RX6 60 "SkiShotsModel" "rCost" "[I", Cond.fieldLink RX6 48 "SkiShotsModel" "rLaps" "[I", Cond.fieldLink RX6 111 "SkiShotsModel" "high" "[I", Cond.methodLink RX6 227 yX6_startOf, Cond.instanceMethod yX6_startOf, Cond.selects RX6 yX6_startOf yX6_startOf, Cond.code yX6_startOf cX6_startOf 5 (some .int), Cond.fieldLink RX6 63 "SkiShotsModel" "rHow" "[I", Cond.fieldLink RX6 66 "SkiShotsModel" "rNumber" "[I", Cond.fieldLink RX6 81 "SkiShotsModel" "entryOf" "[I", Cond.fieldLink RX6 69 "SkiShotsModel" "rBy" "[I", Cond.methodLink RX6 224 yX6_least, Cond.instanceMethod yX6_least, Cond.selects RX6 yX6_least yX6_least, Cond.code yX6_least cX6_least 4 (some .int), Cond.fieldLink RX6 197 "SkiShotsModel" "racers" "I", Cond.methodLink RX6 230 yX6_known, Cond.instanceMethod yX6_known, Cond.selects RX6 yX6_known yX6_known]
def wsX6_order_r3 : List Cond := [Cond.code yX6_known cX6_known 7 (some .int), Cond.fieldLink RX6 217 "SkiShotsModel" "told" "I", Cond.fieldLink RX6 99 "SkiShotsModel" "tDay" "[I", Cond.fieldLink RX6 84 "SkiShotsModel" "tRace" "[I", Cond.fieldLink RX6 87 "SkiShotsModel" "tRacer" "[I", Cond.fieldLink RX6 90 "SkiShotsModel" "tSort" "[I", Cond.fieldLink RX6 93 "SkiShotsModel" "tK" "[I", Cond.fieldLink RX6 96 "SkiShotsModel" "tV" "[I", Cond.methodLink RX6 234 yX6_hits, Cond.static yX6_hits, Cond.code yX6_hits cX6_hits 3 (some .int)]
def wsX6_order : List Cond := .code yX6_order cX6_order 8 (some .int) :: ((wsX6_order_r1 ++ (wsX6_order_r2 ++ wsX6_order_r3)) ++ wsX60)
def wsX6_cup_r1 : List Cond := [Cond.fieldLink RX6 200 "SkiShotsModel" "races" "I", Cond.fieldLink RX6 123 "SkiShotsModel" "sums" "[I", Cond.fieldLink RX6 72 "SkiShotsModel" "rEntries" "[I", Cond.fieldLink RX6 78 "SkiShotsModel" "entries" "[I", Cond.fieldLink RX6 108 "SkiShotsModel" "low" "[I", Cond.methodLink RX6 244 yX6_workAll, Cond.instanceMethod yX6_workAll, Cond.selects RX6 yX6_workAll yX6_workAll, Cond.initialized RX6, Cond.code yX6_workAll cX6_workAll 5 none, Cond.methodLink RX6 237 yX6_work, Cond.instanceMethod yX6_work, Cond.selects RX6 yX6_work yX6_work, Cond.code yX6_work cX6_work 12 none, Cond.fieldLink RX6 105 "SkiShotsModel" "start" "[I", Cond.fieldLink RX6 114 "SkiShotsModel" "missLow" "[I", Cond.fieldLink RX6 117 "SkiShotsModel" "missHigh" "[I", Cond.fieldLink RX6 51 "SkiShotsModel" "rShoots" "[I", Cond.fieldLink RX6 57 "SkiShotsModel" "rLoop" "[Z", Cond.fieldLink RX6 60 "SkiShotsModel" "rCost" "[I", Cond.fieldLink RX6 48 "SkiShotsModel" "rLaps" "[I", Cond.fieldLink RX6 111 "SkiShotsModel" "high" "[I", Cond.methodLink RX6 227 yX6_startOf, Cond.instanceMethod yX6_startOf]
def wsX6_cup_r2 : List Cond := [Cond.selects RX6 yX6_startOf yX6_startOf, Cond.code yX6_startOf cX6_startOf 5 (some .int), Cond.fieldLink RX6 63 "SkiShotsModel" "rHow" "[I", Cond.fieldLink RX6 66 "SkiShotsModel" "rNumber" "[I", Cond.fieldLink RX6 81 "SkiShotsModel" "entryOf" "[I", Cond.fieldLink RX6 69 "SkiShotsModel" "rBy" "[I", Cond.methodLink RX6 224 yX6_least, Cond.instanceMethod yX6_least, Cond.selects RX6 yX6_least yX6_least, Cond.code yX6_least cX6_least 4 (some .int), Cond.fieldLink RX6 197 "SkiShotsModel" "racers" "I", Cond.methodLink RX6 230 yX6_known, Cond.instanceMethod yX6_known, Cond.selects RX6 yX6_known yX6_known, Cond.code yX6_known cX6_known 7 (some .int), Cond.fieldLink RX6 217 "SkiShotsModel" "told" "I", Cond.fieldLink RX6 99 "SkiShotsModel" "tDay" "[I", Cond.fieldLink RX6 84 "SkiShotsModel" "tRace" "[I", Cond.fieldLink RX6 87 "SkiShotsModel" "tRacer" "[I", Cond.fieldLink RX6 90 "SkiShotsModel" "tSort" "[I", Cond.fieldLink RX6 93 "SkiShotsModel" "tK" "[I", Cond.fieldLink RX6 96 "SkiShotsModel" "tV" "[I", Cond.methodLink RX6 234 yX6_hits, Cond.static yX6_hits]
def wsX6_cup_r3 : List Cond := [Cond.code yX6_hits cX6_hits 3 (some .int), Cond.methodLink RX6 248 yX6_placed, Cond.instanceMethod yX6_placed, Cond.selects RX6 yX6_placed yX6_placed, Cond.code yX6_placed cX6_placed 8 (some .int)]
def wsX6_cup : List Cond := .code yX6_cup cX6_cup 6 none :: ((wsX6_cup_r1 ++ (wsX6_cup_r2 ++ wsX6_cup_r3)) ++ wsX60)
def wsX6_stands : List Cond := .code yX6_stands cX6_stands 4 (some .int) :: ([.fieldLink RX6 197 "SkiShotsModel" "racers" "I", .fieldLink RX6 123 "SkiShotsModel" "sums" "[I"] ++ wsX60)
def wsX6_points_r1 : List Cond := [Cond.fieldLink RX6 126 "SkiShotsModel" "thrown" "I", Cond.fieldLink RX6 123 "SkiShotsModel" "sums" "[I", Cond.methodLink RX6 206 yX6_isRacer, Cond.instanceMethod yX6_isRacer, Cond.selects RX6 yX6_isRacer yX6_isRacer, Cond.initialized RX6, Cond.code yX6_isRacer cX6_isRacer 2 (some .boolean), Cond.fieldLink RX6 197 "SkiShotsModel" "racers" "I", Cond.methodLink RX6 241 yX6_isDay, Cond.instanceMethod yX6_isDay, Cond.selects RX6 yX6_isDay yX6_isDay, Cond.code yX6_isDay cX6_isDay 2 (some .boolean), Cond.fieldLink RX6 194 "SkiShotsModel" "today" "I", Cond.methodLink RX6 252 yX6_cup, Cond.instanceMethod yX6_cup, Cond.selects RX6 yX6_cup yX6_cup, Cond.code yX6_cup cX6_cup 6 none, Cond.fieldLink RX6 200 "SkiShotsModel" "races" "I", Cond.fieldLink RX6 72 "SkiShotsModel" "rEntries" "[I", Cond.fieldLink RX6 78 "SkiShotsModel" "entries" "[I", Cond.fieldLink RX6 108 "SkiShotsModel" "low" "[I", Cond.methodLink RX6 244 yX6_workAll, Cond.instanceMethod yX6_workAll, Cond.selects RX6 yX6_workAll yX6_workAll]
def wsX6_points_r2 : List Cond := [Cond.code yX6_workAll cX6_workAll 5 none, Cond.methodLink RX6 237 yX6_work, Cond.instanceMethod yX6_work, Cond.selects RX6 yX6_work yX6_work, Cond.code yX6_work cX6_work 12 none, Cond.fieldLink RX6 105 "SkiShotsModel" "start" "[I", Cond.fieldLink RX6 114 "SkiShotsModel" "missLow" "[I", Cond.fieldLink RX6 117 "SkiShotsModel" "missHigh" "[I", Cond.fieldLink RX6 51 "SkiShotsModel" "rShoots" "[I", Cond.fieldLink RX6 57 "SkiShotsModel" "rLoop" "[Z", Cond.fieldLink RX6 60 "SkiShotsModel" "rCost" "[I", Cond.fieldLink RX6 48 "SkiShotsModel" "rLaps" "[I", Cond.fieldLink RX6 111 "SkiShotsModel" "high" "[I", Cond.methodLink RX6 227 yX6_startOf, Cond.instanceMethod yX6_startOf, Cond.selects RX6 yX6_startOf yX6_startOf, Cond.code yX6_startOf cX6_startOf 5 (some .int), Cond.fieldLink RX6 63 "SkiShotsModel" "rHow" "[I", Cond.fieldLink RX6 66 "SkiShotsModel" "rNumber" "[I", Cond.fieldLink RX6 81 "SkiShotsModel" "entryOf" "[I", Cond.fieldLink RX6 69 "SkiShotsModel" "rBy" "[I", Cond.methodLink RX6 224 yX6_least, Cond.instanceMethod yX6_least, Cond.selects RX6 yX6_least yX6_least]
def wsX6_points_r3 : List Cond := [Cond.code yX6_least cX6_least 4 (some .int), Cond.methodLink RX6 230 yX6_known, Cond.instanceMethod yX6_known, Cond.selects RX6 yX6_known yX6_known, Cond.code yX6_known cX6_known 7 (some .int), Cond.fieldLink RX6 217 "SkiShotsModel" "told" "I", Cond.fieldLink RX6 99 "SkiShotsModel" "tDay" "[I", Cond.fieldLink RX6 84 "SkiShotsModel" "tRace" "[I", Cond.fieldLink RX6 87 "SkiShotsModel" "tRacer" "[I", Cond.fieldLink RX6 90 "SkiShotsModel" "tSort" "[I", Cond.fieldLink RX6 93 "SkiShotsModel" "tK" "[I", Cond.fieldLink RX6 96 "SkiShotsModel" "tV" "[I", Cond.methodLink RX6 234 yX6_hits, Cond.static yX6_hits, Cond.code yX6_hits cX6_hits 3 (some .int), Cond.methodLink RX6 248 yX6_placed, Cond.instanceMethod yX6_placed, Cond.selects RX6 yX6_placed yX6_placed, Cond.code yX6_placed cX6_placed 8 (some .int)]
def wsX6_points : List Cond := .code yX6_points cX6_points 3 (some .int) :: ((wsX6_points_r1 ++ (wsX6_points_r2 ++ wsX6_points_r3)) ++ wsX60)
def wsX6_standing_r1 : List Cond := [Cond.fieldLink RX6 126 "SkiShotsModel" "thrown" "I", Cond.methodLink RX6 206 yX6_isRacer, Cond.instanceMethod yX6_isRacer, Cond.selects RX6 yX6_isRacer yX6_isRacer, Cond.initialized RX6, Cond.code yX6_isRacer cX6_isRacer 2 (some .boolean), Cond.fieldLink RX6 197 "SkiShotsModel" "racers" "I", Cond.methodLink RX6 241 yX6_isDay, Cond.instanceMethod yX6_isDay, Cond.selects RX6 yX6_isDay yX6_isDay, Cond.code yX6_isDay cX6_isDay 2 (some .boolean), Cond.fieldLink RX6 194 "SkiShotsModel" "today" "I", Cond.methodLink RX6 252 yX6_cup, Cond.instanceMethod yX6_cup, Cond.selects RX6 yX6_cup yX6_cup, Cond.code yX6_cup cX6_cup 6 none, Cond.fieldLink RX6 200 "SkiShotsModel" "races" "I", Cond.fieldLink RX6 123 "SkiShotsModel" "sums" "[I", Cond.fieldLink RX6 72 "SkiShotsModel" "rEntries" "[I", Cond.fieldLink RX6 78 "SkiShotsModel" "entries" "[I", Cond.fieldLink RX6 108 "SkiShotsModel" "low" "[I", Cond.methodLink RX6 244 yX6_workAll, Cond.instanceMethod yX6_workAll, Cond.selects RX6 yX6_workAll yX6_workAll]
def wsX6_standing_r2 : List Cond := [Cond.code yX6_workAll cX6_workAll 5 none, Cond.methodLink RX6 237 yX6_work, Cond.instanceMethod yX6_work, Cond.selects RX6 yX6_work yX6_work, Cond.code yX6_work cX6_work 12 none, Cond.fieldLink RX6 105 "SkiShotsModel" "start" "[I", Cond.fieldLink RX6 114 "SkiShotsModel" "missLow" "[I", Cond.fieldLink RX6 117 "SkiShotsModel" "missHigh" "[I", Cond.fieldLink RX6 51 "SkiShotsModel" "rShoots" "[I", Cond.fieldLink RX6 57 "SkiShotsModel" "rLoop" "[Z", Cond.fieldLink RX6 60 "SkiShotsModel" "rCost" "[I", Cond.fieldLink RX6 48 "SkiShotsModel" "rLaps" "[I", Cond.fieldLink RX6 111 "SkiShotsModel" "high" "[I", Cond.methodLink RX6 227 yX6_startOf, Cond.instanceMethod yX6_startOf, Cond.selects RX6 yX6_startOf yX6_startOf, Cond.code yX6_startOf cX6_startOf 5 (some .int), Cond.fieldLink RX6 63 "SkiShotsModel" "rHow" "[I", Cond.fieldLink RX6 66 "SkiShotsModel" "rNumber" "[I", Cond.fieldLink RX6 81 "SkiShotsModel" "entryOf" "[I", Cond.fieldLink RX6 69 "SkiShotsModel" "rBy" "[I", Cond.methodLink RX6 224 yX6_least, Cond.instanceMethod yX6_least, Cond.selects RX6 yX6_least yX6_least]
def wsX6_standing_r3 : List Cond := [Cond.code yX6_least cX6_least 4 (some .int), Cond.methodLink RX6 230 yX6_known, Cond.instanceMethod yX6_known, Cond.selects RX6 yX6_known yX6_known, Cond.code yX6_known cX6_known 7 (some .int), Cond.fieldLink RX6 217 "SkiShotsModel" "told" "I", Cond.fieldLink RX6 99 "SkiShotsModel" "tDay" "[I", Cond.fieldLink RX6 84 "SkiShotsModel" "tRace" "[I", Cond.fieldLink RX6 87 "SkiShotsModel" "tRacer" "[I", Cond.fieldLink RX6 90 "SkiShotsModel" "tSort" "[I", Cond.fieldLink RX6 93 "SkiShotsModel" "tK" "[I", Cond.fieldLink RX6 96 "SkiShotsModel" "tV" "[I", Cond.methodLink RX6 234 yX6_hits, Cond.static yX6_hits, Cond.code yX6_hits cX6_hits 3 (some .int), Cond.methodLink RX6 248 yX6_placed, Cond.instanceMethod yX6_placed, Cond.selects RX6 yX6_placed yX6_placed, Cond.code yX6_placed cX6_placed 8 (some .int), Cond.methodLink RX6 256 yX6_stands, Cond.instanceMethod yX6_stands, Cond.selects RX6 yX6_stands yX6_stands, Cond.code yX6_stands cX6_stands 4 (some .int)]
def wsX6_standing : List Cond := .code yX6_standing cX6_standing 3 (some .int) :: ((wsX6_standing_r1 ++ (wsX6_standing_r2 ++ wsX6_standing_r3)) ++ wsX60)
def wsX6_starters_r1 : List Cond := [Cond.fieldLink RX6 126 "SkiShotsModel" "thrown" "I", Cond.fieldLink RX6 197 "SkiShotsModel" "racers" "I", Cond.fieldLink RX6 42 "SkiShotsModel" "nation" "[I", Cond.fieldLink RX6 123 "SkiShotsModel" "sums" "[I", Cond.methodLink RX6 241 yX6_isDay, Cond.instanceMethod yX6_isDay, Cond.selects RX6 yX6_isDay yX6_isDay, Cond.initialized RX6, Cond.code yX6_isDay cX6_isDay 2 (some .boolean), Cond.fieldLink RX6 194 "SkiShotsModel" "today" "I", Cond.methodLink RX6 252 yX6_cup, Cond.instanceMethod yX6_cup, Cond.selects RX6 yX6_cup yX6_cup, Cond.code yX6_cup cX6_cup 6 none, Cond.fieldLink RX6 200 "SkiShotsModel" "races" "I", Cond.fieldLink RX6 72 "SkiShotsModel" "rEntries" "[I", Cond.fieldLink RX6 78 "SkiShotsModel" "entries" "[I", Cond.fieldLink RX6 108 "SkiShotsModel" "low" "[I", Cond.methodLink RX6 244 yX6_workAll, Cond.instanceMethod yX6_workAll, Cond.selects RX6 yX6_workAll yX6_workAll, Cond.code yX6_workAll cX6_workAll 5 none, Cond.methodLink RX6 237 yX6_work, Cond.instanceMethod yX6_work]
def wsX6_starters_r2 : List Cond := [Cond.selects RX6 yX6_work yX6_work, Cond.code yX6_work cX6_work 12 none, Cond.fieldLink RX6 105 "SkiShotsModel" "start" "[I", Cond.fieldLink RX6 114 "SkiShotsModel" "missLow" "[I", Cond.fieldLink RX6 117 "SkiShotsModel" "missHigh" "[I", Cond.fieldLink RX6 51 "SkiShotsModel" "rShoots" "[I", Cond.fieldLink RX6 57 "SkiShotsModel" "rLoop" "[Z", Cond.fieldLink RX6 60 "SkiShotsModel" "rCost" "[I", Cond.fieldLink RX6 48 "SkiShotsModel" "rLaps" "[I", Cond.fieldLink RX6 111 "SkiShotsModel" "high" "[I", Cond.methodLink RX6 227 yX6_startOf, Cond.instanceMethod yX6_startOf, Cond.selects RX6 yX6_startOf yX6_startOf, Cond.code yX6_startOf cX6_startOf 5 (some .int), Cond.fieldLink RX6 63 "SkiShotsModel" "rHow" "[I", Cond.fieldLink RX6 66 "SkiShotsModel" "rNumber" "[I", Cond.fieldLink RX6 81 "SkiShotsModel" "entryOf" "[I", Cond.fieldLink RX6 69 "SkiShotsModel" "rBy" "[I", Cond.methodLink RX6 224 yX6_least, Cond.instanceMethod yX6_least, Cond.selects RX6 yX6_least yX6_least, Cond.code yX6_least cX6_least 4 (some .int), Cond.methodLink RX6 230 yX6_known, Cond.instanceMethod yX6_known]
def wsX6_starters_r3 : List Cond := [Cond.selects RX6 yX6_known yX6_known, Cond.code yX6_known cX6_known 7 (some .int), Cond.fieldLink RX6 217 "SkiShotsModel" "told" "I", Cond.fieldLink RX6 99 "SkiShotsModel" "tDay" "[I", Cond.fieldLink RX6 84 "SkiShotsModel" "tRace" "[I", Cond.fieldLink RX6 87 "SkiShotsModel" "tRacer" "[I", Cond.fieldLink RX6 90 "SkiShotsModel" "tSort" "[I", Cond.fieldLink RX6 93 "SkiShotsModel" "tK" "[I", Cond.fieldLink RX6 96 "SkiShotsModel" "tV" "[I", Cond.methodLink RX6 234 yX6_hits, Cond.static yX6_hits, Cond.code yX6_hits cX6_hits 3 (some .int), Cond.methodLink RX6 248 yX6_placed, Cond.instanceMethod yX6_placed, Cond.selects RX6 yX6_placed yX6_placed, Cond.code yX6_placed cX6_placed 8 (some .int), Cond.methodLink RX6 256 yX6_stands, Cond.instanceMethod yX6_stands, Cond.selects RX6 yX6_stands yX6_stands, Cond.code yX6_stands cX6_stands 4 (some .int)]
def wsX6_starters : List Cond := .code yX6_starters cX6_starters 5 (some .int) :: ((wsX6_starters_r1 ++ (wsX6_starters_r2 ++ wsX6_starters_r3)) ++ wsX60)
def wsX6_count : List Cond := .code yX6_count cX6_count 2 (some .int) :: ([.fieldLink RX6 126 "SkiShotsModel" "thrown" "I", .fieldLink RX6 194 "SkiShotsModel" "today" "I", .fieldLink RX6 191 "SkiShotsModel" "formatMany" "I", .fieldLink RX6 197 "SkiShotsModel" "racers" "I", .fieldLink RX6 200 "SkiShotsModel" "races" "I", .fieldLink RX6 217 "SkiShotsModel" "told" "I"] ++ wsX60)
def wsJ9_max_7cf53 : List Cond := .code yJ9_max_7cf53 cJ9_max_7cf53 2 (some .int) :: ([])
def wsJ9_min_7cf53 : List Cond := .code yJ9_min_7cf53 cJ9_min_7cf53 2 (some .int) :: ([])
abbrev vwCl : List vw_C := [(RX0, TX0, 10), (RX1, TX1, 5), (RX2, TX2, 8), (RX3, TX3, 7), (RX4, TX4, 10), (RX5, TX5, 13), (RX6, TX6, 52)]
end
section
/-! a throw that the first row of the method's own table takes (the row's name linked now, or before) -/
section CatchFirst
variable {p : Program} {l : Launch} {e : Env} {R : Room} {s : State} {m : MethodId} {args : Array Value} {below : List Frame} {meth : Method} {c : Code} {H : Heap} {locs : List Loc} {cells slots : Nat} {Q : State → Prop} {pc : Nat} {ls : Array Slot} {rest : List Value}
theorem ct_catch {own name E : String} {ce : Cell} {q : Addr} (hown : s.vm.findClass own = some m.cls) (x : ExceptionTableEntry) (suf : List ExceptionTableEntry) (hsplit : c.exceptionTable.toList = x :: suf) (hx : covers x pc = true) (h0 : x.catchType ≠ 0)
    (hlink : (Cond.classLink own x.catchType name).before args s = true) (hcast : (Cond.castable E name).before args s = true) (hcell : H[q]? = some ce) (hv : ce.vm = .none) (hcl : s.vm.findClass E = some ce.cls)
    (kk : W p l e R s m args below meth c H locs cells slots Q (F0 m x.handlerPc ls [.ref q])) : vx_W p l e R s m args below meth c H locs cells slots Q (F0 m pc ls rest) q := by
  intro T hT X
  have hpl : e.platform.magicAccessors = ({} : Platform).magicAccessors := by rw [X.admits.platform]
  obtain ⟨c3, c4, hc3, hc4, hasg⟩ := Cond.castable_spec hcast
  cases Option.some.inj (hc3.symm.trans hcl)
  obtain ⟨c5, hc5, hlk⟩ := Cond.classLink_spec hown hlink e.platform hpl
  cases Option.some.inj (hc4.symm.trans hc5)
  obtain ⟨dk, _, _, kt, hd, _, _, _, _, hkt, _, hopen⟩ := hlk.here
  have hW' : s.WarmedH (T.vm.noted m.cls x.catchType (.cls c4)) := X.warmed.noted hd hopen (State.rightAt_cls hlk)
  obtain ⟨t, a1, b1⟩ := kk (T.setVm (T.vm.noted m.cls x.catchType (.cls c4))) hT (X.noted hW')
  refine ⟨t, ?_, b1⟩
  have hal := X.warmed.alike
  obtain ⟨k9, hk9, -⟩ := Vm.findClass_spec hcl
  have hfind : ∀ (Z : Handler → Pre) (Y : CtlPost) (d : Bool) (acts : List Action), wp (findHandler (F0 m pc ls rest) q) Z Y e d acts ((T.setTop (F0 m pc ls rest)).pushFrame (.throwing q)) ↔ Z (.found x.handlerPc) d acts (((T.setTop (F0 m pc ls rest)).pushFrame (.throwing q)).setVm (T.vm.noted m.cls x.catchType (.cls c4))) := by
    intro Z Y d acts
    rw [W.findHandler_eq (f := F0 m pc ls rest) (s := (T.setTop (F0 m pc ls rest)).pushFrame (.throwing q)) X.method' X.code, hsplit]
    have hx' := hx
    simp only [covers] at hx'
    obtain ⟨ha, hb⟩ := (resolveClass_links e.toSetting (X.warmed.classLinks hlk)).op (op := VmOp.resolveClass m.cls x.catchType) rfl
    have hal2 : T.vm.Alike (T.vm.noted m.cls x.catchType (.cls c4)) := (Vm.Alike.refl T.vm).noted _ _ _
    obtain ⟨k1, hk1, -⟩ := hal.2.2 _ _ hk9
    obtain ⟨k2, hk2, -⟩ := hal.2.2 _ _ hkt
    obtain ⟨k1', hk1', -⟩ := hal2.2.2 _ _ hk1
    obtain ⟨k2', hk2', -⟩ := hal2.2.2 _ _ hk2
    have hfit : (T.vm.noted m.cls x.catchType (.cls c4)).assignable ce.cls c4 = true := by rw [hal2.assignable, hal.assignable]; exact hasg
    have hcell' : ((T.setTop (F0 m pc ls rest)).pushFrame (.throwing q)).heap[q]? = some ce := by
      show T.heap[q]? = some ce
      rw [hT]; exact hcell
    have hobj : ∀ k, ce.vm ≠ .statics k := fun k h => by rw [hv] at h; cases h
    have hvm' : ((T.setTop (F0 m pc ls rest)).pushFrame (.throwing q)).vm = T.vm := rfl
    simp [findHandler.go, hx', h0, ha, hb, hcell', hobj, hk1', hk2', hfit, VmOp.dirties, VmOp.acts, hvm']
  have hthr : (stepThrowing e ((T.setTop (F0 m pc ls rest)).pushFrame (.throwing q)) q (.java (F0 m pc ls rest) :: T.frames.tail)).Is ((((T.setTop (F0 m pc ls rest)).pushFrame (.throwing q)).setVm (T.vm.noted m.cls x.catchType (.cls c4))).setFrames (.java { F0 m pc ls rest with pc := x.handlerPc, stack := [.ref q] } :: T.frames.tail)) [] := by
    simp only [stepThrowing, searchFrame, vmDo]
    generalize hr : Sem.go _ e false [] _ = res
    obtain ⟨as, rfl, ha⟩ := Sem.eq_ok_of hr (a := Handler.found x.handlerPc) (s' := ((T.setTop (F0 m pc ls rest)).pushFrame (.throwing q)).setVm (T.vm.noted m.cls x.catchType (.cls c4))) (acts' := []) (by simp [hfind _ _ _ _])
    exact ⟨rfl, ha⟩
  obtain ⟨hgo, hw⟩ := X.here.throwing (g := F0 m pc ls rest) q
  refine Steps.head hgo hw ?_
  rw [stepThread_throwing (frames_entered X.here.top _), hthr.1]
  obtain ⟨g₀, hfr⟩ := X.frames_eq
  have hfr' : (T.setVm (T.vm.noted m.cls x.catchType (.cls c4))).frames = .java g₀ :: below := hfr
  rw [State.setTop_of_frames _ hfr'] at a1
  have e1 : ∀ (u : State) (v : Vm) (F G : List Frame), ((u.setFrames F).setVm v).setFrames G = (u.setVm v).setFrames G := fun u v F G => by
    have h1 : (u.setFrames F).setVm v = (u.setVm v).setFrames F := rfl
    rw [h1, State.setFrames_setFrames]
  rw [hfr, List.tail_cons, State.pushFrame, State.setTop_of_frames _ hfr, e1, e1]
  exact a1
end CatchFirst
end
section

end
section
theorem dX4_init_0 : decode cX4_init 0 = .ok (.aload_n 0, 1) := by decide +kernel
theorem dX4_init_1 : decode cX4_init 1 = .ok (.invokespecial 3, 3) := by decide +kernel
theorem dX4_init_4 : decode cX4_init 4 = .ok (.aload_n 0, 1) := by decide +kernel
theorem dX4_init_5 : decode cX4_init 5 = .ok (.aload_n 1, 1) := by decide +kernel
theorem dX4_init_6 : decode cX4_init 6 = .ok (.putfield 9, 3) := by decide +kernel
theorem dX4_init_9 : decode cX4_init 9 = .ok (.aload_n 0, 1) := by decide +kernel
theorem dX4_init_10 : decode cX4_init 10 = .ok (.iload_n 2, 1) := by decide +kernel
theorem dX4_init_11 : decode cX4_init 11 = .ok (.aload_n 1, 1) := by decide +kernel
theorem dX4_init_12 : decode cX4_init 12 = .ok (.arraylength, 1) := by decide +kernel
theorem dX4_init_13 : decode cX4_init 13 = .ok (.invokestatic 15, 3) := by decide +kernel
theorem dX4_init_16 : decode cX4_init 16 = .ok (.putfield 21, 3) := by decide +kernel
theorem dX4_init_19 : decode cX4_init 19 = .ok (.aload_n 0, 1) := by decide +kernel
theorem dX4_init_20 : decode cX4_init 20 = .ok (.bipush 8, 2) := by decide +kernel
theorem dX4_init_22 : decode cX4_init 22 = .ok (.anewarray 25, 3) := by decide +kernel
theorem dX4_init_25 : decode cX4_init 25 = .ok (.putfield 27, 3) := by decide +kernel
theorem dX4_init_28 : decode cX4_init 28 = .ok (.aload_n 0, 1) := by decide +kernel
theorem dX4_init_29 : decode cX4_init 29 = .ok (.iconst (-1), 1) := by decide +kernel
theorem dX4_init_30 : decode cX4_init 30 = .ok (.putfield 31, 3) := by decide +kernel
theorem dX4_init_33 : decode cX4_init 33 = .ok (.return_, 1) := by decide +kernel
theorem dX4_readFormats_0 : decode cX4_readFormats 0 = .ok (.aload_n 0, 1) := by decide +kernel
theorem dX4_readFormats_1 : decode cX4_readFormats 1 = .ok (.invokevirtual 34, 3) := by decide +kernel
theorem dX4_readFormats_4 : decode cX4_readFormats 4 = .ok (.iconst 0, 1) := by decide +kernel
theorem dX4_readFormats_5 : decode cX4_readFormats 5 = .ok (.istore_n 1, 1) := by decide +kernel
theorem dX4_readFormats_6 : decode cX4_readFormats 6 = .ok (.iload_n 1, 1) := by decide +kernel
theorem dX4_readFormats_7 : decode cX4_readFormats 7 = .ok (.bipush 8, 2) := by decide +kernel
theorem dX4_readFormats_9 : decode cX4_readFormats 9 = .ok (.if_icmp .ge 25, 3) := by decide +kernel
theorem dX4_readFormats_12 : decode cX4_readFormats 12 = .ok (.aload_n 0, 1) := by decide +kernel
theorem dX4_readFormats_13 : decode cX4_readFormats 13 = .ok (.getfield 37, 3) := by decide +kernel
theorem dX4_readFormats_16 : decode cX4_readFormats 16 = .ok (.ifCond .eq 18, 3) := by decide +kernel
theorem dX4_readFormats_34 : decode cX4_readFormats 34 = .ok (.aload_n 0, 1) := by decide +kernel
theorem dX4_readFormats_35 : decode cX4_readFormats 35 = .ok (.getfield 37, 3) := by decide +kernel
theorem dX4_readFormats_38 : decode cX4_readFormats 38 = .ok (.ifCond .eq 11, 3) := by decide +kernel
theorem dX4_readFormats_49 : decode cX4_readFormats 49 = .ok (.iconst 1, 1) := by decide +kernel
theorem dX4_readFormats_50 : decode cX4_readFormats 50 = .ok (.goto 4, 3) := by decide +kernel
theorem dX4_readFormats_54 : decode cX4_readFormats 54 = .ok (.ireturn, 1) := by decide +kernel
theorem dX4_step_0 : decode cX4_step 0 = .ok (.aload_n 0, 1) := by decide +kernel
theorem dX4_step_1 : decode cX4_step 1 = .ok (.aload_n 0, 1) := by decide +kernel
theorem dX4_step_2 : decode cX4_step 2 = .ok (.getfield 133, 3) := by decide +kernel
theorem dX4_step_5 : decode cX4_step 5 = .ok (.putfield 54, 3) := by decide +kernel
theorem dX4_step_8 : decode cX4_step 8 = .ok (.aload_n 0, 1) := by decide +kernel
theorem dX4_step_9 : decode cX4_step 9 = .ok (.getfield 54, 3) := by decide +kernel
theorem dX4_step_12 : decode cX4_step 12 = .ok (.aload_n 0, 1) := by decide +kernel
theorem dX4_step_13 : decode cX4_step 13 = .ok (.getfield 21, 3) := by decide +kernel
theorem dX4_step_16 : decode cX4_step 16 = .ok (.if_icmp .ge 28, 3) := by decide +kernel
theorem dX4_step_44 : decode cX4_step 44 = .ok (.aload_n 0, 1) := by decide +kernel
theorem dX4_step_45 : decode cX4_step 45 = .ok (.aload_n 0, 1) := by decide +kernel
theorem dX4_step_46 : decode cX4_step 46 = .ok (.aload_n 0, 1) := by decide +kernel
theorem dX4_step_47 : decode cX4_step 47 = .ok (.getfield 54, 3) := by decide +kernel
theorem dX4_step_50 : decode cX4_step 50 = .ok (.invokevirtual 149, 3) := by decide +kernel
theorem dX4_step_53 : decode cX4_step 53 = .ok (.putfield 37, 3) := by decide +kernel
theorem dX4_step_56 : decode cX4_step 56 = .ok (.aload_n 0, 1) := by decide +kernel
theorem dX4_step_57 : decode cX4_step 57 = .ok (.aload_n 0, 1) := by decide +kernel
theorem dX4_step_58 : decode cX4_step 58 = .ok (.getfield 54, 3) := by decide +kernel
theorem dX4_step_61 : decode cX4_step 61 = .ok (.iconst 1, 1) := by decide +kernel
theorem dX4_step_62 : decode cX4_step 62 = .ok (.iadd, 1) := by decide +kernel
theorem dX4_step_63 : decode cX4_step 63 = .ok (.aload_n 0, 1) := by decide +kernel
theorem dX4_step_64 : decode cX4_step 64 = .ok (.getfield 21, 3) := by decide +kernel
theorem dX4_step_67 : decode cX4_step 67 = .ok (.invokestatic 15, 3) := by decide +kernel
theorem dX4_step_70 : decode cX4_step 70 = .ok (.putfield 133, 3) := by decide +kernel
theorem dX4_step_73 : decode cX4_step 73 = .ok (.aload_n 0, 1) := by decide +kernel
theorem dX4_step_74 : decode cX4_step 74 = .ok (.getfield 37, 3) := by decide +kernel
theorem dX4_step_77 : decode cX4_step 77 = .ok (.iconst 1, 1) := by decide +kernel
theorem dX4_step_78 : decode cX4_step 78 = .ok (.if_icmp .eq 11, 3) := by decide +kernel
theorem dX4_step_81 : decode cX4_step 81 = .ok (.aload_n 0, 1) := by decide +kernel
theorem dX4_step_82 : decode cX4_step 82 = .ok (.getfield 37, 3) := by decide +kernel
theorem dX4_step_85 : decode cX4_step 85 = .ok (.iconst 2, 1) := by decide +kernel
theorem dX4_step_86 : decode cX4_step 86 = .ok (.if_icmp .ne 42, 3) := by decide +kernel
theorem dX4_step_128 : decode cX4_step 128 = .ok (.return_, 1) := by decide +kernel
theorem dX4_sortAt_0 : decode cX4_sortAt 0 = .ok (.iload_n 1, 1) := by decide +kernel
theorem dX4_sortAt_1 : decode cX4_sortAt 1 = .ok (.ifCond .lt 11, 3) := by decide +kernel
theorem dX4_sortAt_4 : decode cX4_sortAt 4 = .ok (.iload_n 1, 1) := by decide +kernel
theorem dX4_sortAt_5 : decode cX4_sortAt 5 = .ok (.aload_n 0, 1) := by decide +kernel
theorem dX4_sortAt_6 : decode cX4_sortAt 6 = .ok (.getfield 21, 3) := by decide +kernel
theorem dX4_sortAt_9 : decode cX4_sortAt 9 = .ok (.if_icmp .lt 5, 3) := by decide +kernel
theorem dX4_sortAt_12 : decode cX4_sortAt 12 = .ok (.iconst 0, 1) := by decide +kernel
theorem dX4_sortAt_13 : decode cX4_sortAt 13 = .ok (.ireturn, 1) := by decide +kernel
theorem dX5_init_0 : decode cX5_init 0 = .ok (.aload_n 0, 1) := by decide +kernel
theorem dX5_init_1 : decode cX5_init 1 = .ok (.invokespecial 1, 3) := by decide +kernel
theorem dX5_init_4 : decode cX5_init 4 = .ok (.aload_n 0, 1) := by decide +kernel
theorem dX5_init_5 : decode cX5_init 5 = .ok (.sipush 1000, 3) := by decide +kernel
theorem dX5_init_8 : decode cX5_init 8 = .ok (.newarray .byte, 2) := by decide +kernel
theorem dX5_init_10 : decode cX5_init 10 = .ok (.putfield 9, 3) := by decide +kernel
theorem dX5_init_13 : decode cX5_init 13 = .ok (.aload_n 0, 1) := by decide +kernel
theorem dX5_init_14 : decode cX5_init 14 = .ok (.bipush 8, 2) := by decide +kernel
theorem dX5_init_16 : decode cX5_init 16 = .ok (.anewarray 13, 3) := by decide +kernel
theorem dX5_init_19 : decode cX5_init 19 = .ok (.putfield 15, 3) := by decide +kernel
theorem dX5_init_22 : decode cX5_init 22 = .ok (.aload_n 0, 1) := by decide +kernel
theorem dX5_init_23 : decode cX5_init 23 = .ok (.iconst (-1), 1) := by decide +kernel
theorem dX5_init_24 : decode cX5_init 24 = .ok (.putfield 19, 3) := by decide +kernel
theorem dX5_init_27 : decode cX5_init 27 = .ok (.aload_n 0, 1) := by decide +kernel
theorem dX5_init_28 : decode cX5_init 28 = .ok (.bipush 16, 2) := by decide +kernel
theorem dX5_init_30 : decode cX5_init 30 = .ok (.newarray .int, 2) := by decide +kernel
theorem dX5_init_32 : decode cX5_init 32 = .ok (.putfield 23, 3) := by decide +kernel
theorem dX5_init_35 : decode cX5_init 35 = .ok (.aload_n 0, 1) := by decide +kernel
theorem dX5_init_36 : decode cX5_init 36 = .ok (.bipush 8, 2) := by decide +kernel
theorem dX5_init_38 : decode cX5_init 38 = .ok (.anewarray 27, 3) := by decide +kernel
theorem dX5_init_41 : decode cX5_init 41 = .ok (.putfield 29, 3) := by decide +kernel
theorem dX5_init_44 : decode cX5_init 44 = .ok (.aload_n 0, 1) := by decide +kernel
theorem dX5_init_45 : decode cX5_init 45 = .ok (.bipush 16, 2) := by decide +kernel
theorem dX5_init_47 : decode cX5_init 47 = .ok (.newarray .int, 2) := by decide +kernel
theorem dX5_init_49 : decode cX5_init 49 = .ok (.putfield 33, 3) := by decide +kernel
theorem dX5_init_52 : decode cX5_init 52 = .ok (.return_, 1) := by decide +kernel
theorem dX5_feed_0 : decode cX5_feed 0 = .ok (.aload_n 0, 1) := by decide +kernel
theorem dX5_feed_1 : decode cX5_feed 1 = .ok (.getfield 36, 3) := by decide +kernel
theorem dX5_feed_4 : decode cX5_feed 4 = .ok (.bipush 20, 2) := by decide +kernel
theorem dX5_feed_6 : decode cX5_feed 6 = .ok (.iadd, 1) := by decide +kernel
theorem dX5_feed_7 : decode cX5_feed 7 = .ok (.sipush 1000, 3) := by decide +kernel
theorem dX5_feed_10 : decode cX5_feed 10 = .ok (.if_icmp .le 5, 3) := by decide +kernel
theorem dX5_feed_15 : decode cX5_feed 15 = .ok (.aload_n 0, 1) := by decide +kernel
theorem dX5_feed_16 : decode cX5_feed 16 = .ok (.iload_n 1, 1) := by decide +kernel
theorem dX5_feed_17 : decode cX5_feed 17 = .ok (.invokevirtual 39, 3) := by decide +kernel
theorem dX5_feed_20 : decode cX5_feed 20 = .ok (.aload_n 0, 1) := by decide +kernel
theorem dX5_feed_21 : decode cX5_feed 21 = .ok (.iload_n 2, 1) := by decide +kernel
theorem dX5_feed_22 : decode cX5_feed 22 = .ok (.invokevirtual 39, 3) := by decide +kernel
theorem dX5_feed_25 : decode cX5_feed 25 = .ok (.aload_n 0, 1) := by decide +kernel
theorem dX5_feed_26 : decode cX5_feed 26 = .ok (.iload_n 3, 1) := by decide +kernel
theorem dX5_feed_27 : decode cX5_feed 27 = .ok (.invokevirtual 39, 3) := by decide +kernel
theorem dX5_feed_30 : decode cX5_feed 30 = .ok (.aload_n 0, 1) := by decide +kernel
theorem dX5_feed_31 : decode cX5_feed 31 = .ok (.iload 4, 2) := by decide +kernel
theorem dX5_feed_33 : decode cX5_feed 33 = .ok (.invokevirtual 39, 3) := by decide +kernel
theorem dX5_feed_36 : decode cX5_feed 36 = .ok (.aload_n 0, 1) := by decide +kernel
theorem dX5_feed_37 : decode cX5_feed 37 = .ok (.iload 5, 2) := by decide +kernel
theorem dX5_feed_39 : decode cX5_feed 39 = .ok (.invokevirtual 39, 3) := by decide +kernel
theorem dX5_feed_42 : decode cX5_feed 42 = .ok (.aload_n 0, 1) := by decide +kernel
theorem dX5_feed_43 : decode cX5_feed 43 = .ok (.getfield 36, 3) := by decide +kernel
theorem dX5_feed_46 : decode cX5_feed 46 = .ok (.ireturn, 1) := by decide +kernel
theorem dX5_putOnTape_0 : decode cX5_putOnTape 0 = .ok (.bipush 24, 2) := by decide +kernel
theorem dX5_putOnTape_2 : decode cX5_putOnTape 2 = .ok (.istore_n 2, 1) := by decide +kernel
theorem dX5_putOnTape_3 : decode cX5_putOnTape 3 = .ok (.iload_n 2, 1) := by decide +kernel
theorem dX5_putOnTape_4 : decode cX5_putOnTape 4 = .ok (.ifCond .lt 42, 3) := by decide +kernel
theorem dX5_putOnTape_7 : decode cX5_putOnTape 7 = .ok (.aload_n 0, 1) := by decide +kernel
theorem dX5_putOnTape_8 : decode cX5_putOnTape 8 = .ok (.getfield 36, 3) := by decide +kernel
theorem dX5_putOnTape_11 : decode cX5_putOnTape 11 = .ok (.sipush 1000, 3) := by decide +kernel
theorem dX5_putOnTape_14 : decode cX5_putOnTape 14 = .ok (.if_icmp .ge 32, 3) := by decide +kernel
theorem dX5_putOnTape_17 : decode cX5_putOnTape 17 = .ok (.aload_n 0, 1) := by decide +kernel
theorem dX5_putOnTape_18 : decode cX5_putOnTape 18 = .ok (.getfield 9, 3) := by decide +kernel
theorem dX5_putOnTape_21 : decode cX5_putOnTape 21 = .ok (.aload_n 0, 1) := by decide +kernel
theorem dX5_putOnTape_22 : decode cX5_putOnTape 22 = .ok (.getfield 36, 3) := by decide +kernel
theorem dX5_putOnTape_25 : decode cX5_putOnTape 25 = .ok (.iload_n 1, 1) := by decide +kernel
theorem dX5_putOnTape_26 : decode cX5_putOnTape 26 = .ok (.iload_n 2, 1) := by decide +kernel
theorem dX5_putOnTape_27 : decode cX5_putOnTape 27 = .ok (.ishr, 1) := by decide +kernel
theorem dX5_putOnTape_28 : decode cX5_putOnTape 28 = .ok (.i2b, 1) := by decide +kernel
theorem dX5_putOnTape_29 : decode cX5_putOnTape 29 = .ok (.bastore, 1) := by decide +kernel
theorem dX5_putOnTape_30 : decode cX5_putOnTape 30 = .ok (.aload_n 0, 1) := by decide +kernel
theorem dX5_putOnTape_31 : decode cX5_putOnTape 31 = .ok (.dup, 1) := by decide +kernel
theorem dX5_putOnTape_32 : decode cX5_putOnTape 32 = .ok (.getfield 36, 3) := by decide +kernel
theorem dX5_putOnTape_35 : decode cX5_putOnTape 35 = .ok (.iconst 1, 1) := by decide +kernel
theorem dX5_putOnTape_36 : decode cX5_putOnTape 36 = .ok (.iadd, 1) := by decide +kernel
theorem dX5_putOnTape_37 : decode cX5_putOnTape 37 = .ok (.putfield 36, 3) := by decide +kernel
theorem dX5_putOnTape_40 : decode cX5_putOnTape 40 = .ok (.iinc 2 (-8), 3) := by decide +kernel
theorem dX5_putOnTape_43 : decode cX5_putOnTape 43 = .ok (.goto (-40), 3) := by decide +kernel
theorem dX5_putOnTape_46 : decode cX5_putOnTape 46 = .ok (.return_, 1) := by decide +kernel
theorem dX5_formats_0 : decode cX5_formats 0 = .ok (.iload_n 1, 1) := by decide +kernel
theorem dX5_formats_1 : decode cX5_formats 1 = .ok (.ifCond .lt 11, 3) := by decide +kernel
theorem dX5_formats_4 : decode cX5_formats 4 = .ok (.iload_n 1, 1) := by decide +kernel
theorem dX5_formats_5 : decode cX5_formats 5 = .ok (.aload_n 0, 1) := by decide +kernel
theorem dX5_formats_6 : decode cX5_formats 6 = .ok (.getfield 36, 3) := by decide +kernel
theorem dX5_formats_9 : decode cX5_formats 9 = .ok (.if_icmp .le 6, 3) := by decide +kernel
theorem dX5_formats_12 : decode cX5_formats 12 = .ok (.bipush (-2), 2) := by decide +kernel
theorem dX5_formats_14 : decode cX5_formats 14 = .ok (.ireturn, 1) := by decide +kernel
theorem dX5_formats_15 : decode cX5_formats 15 = .ok (.new 43, 3) := by decide +kernel
theorem dX5_formats_18 : decode cX5_formats 18 = .ok (.dup, 1) := by decide +kernel
theorem dX5_formats_19 : decode cX5_formats 19 = .ok (.aload_n 0, 1) := by decide +kernel
theorem dX5_formats_20 : decode cX5_formats 20 = .ok (.getfield 9, 3) := by decide +kernel
theorem dX5_formats_23 : decode cX5_formats 23 = .ok (.iload_n 1, 1) := by decide +kernel
theorem dX5_formats_24 : decode cX5_formats 24 = .ok (.invokespecial 45, 3) := by decide +kernel
theorem dX5_formats_27 : decode cX5_formats 27 = .ok (.astore_n 2, 1) := by decide +kernel
theorem dX5_formats_28 : decode cX5_formats 28 = .ok (.aload_n 2, 1) := by decide +kernel
theorem dX5_formats_29 : decode cX5_formats 29 = .ok (.invokevirtual 48, 3) := by decide +kernel
theorem dX5_formats_32 : decode cX5_formats 32 = .ok (.istore_n 3, 1) := by decide +kernel
theorem dX5_formats_33 : decode cX5_formats 33 = .ok (.aload_n 0, 1) := by decide +kernel
theorem dX5_formats_34 : decode cX5_formats 34 = .ok (.iconst 0, 1) := by decide +kernel
theorem dX5_formats_35 : decode cX5_formats 35 = .ok (.putfield 36, 3) := by decide +kernel
theorem dX5_formats_38 : decode cX5_formats 38 = .ok (.aload_n 0, 1) := by decide +kernel
theorem dX5_formats_39 : decode cX5_formats 39 = .ok (.aload_n 2, 1) := by decide +kernel
theorem dX5_formats_40 : decode cX5_formats 40 = .ok (.getfield 52, 3) := by decide +kernel
theorem dX5_formats_43 : decode cX5_formats 43 = .ok (.putfield 55, 3) := by decide +kernel
theorem dX5_formats_46 : decode cX5_formats 46 = .ok (.aload_n 0, 1) := by decide +kernel
theorem dX5_formats_47 : decode cX5_formats 47 = .ok (.aload_n 2, 1) := by decide +kernel
theorem dX5_formats_48 : decode cX5_formats 48 = .ok (.getfield 58, 3) := by decide +kernel
theorem dX5_formats_51 : decode cX5_formats 51 = .ok (.putfield 19, 3) := by decide +kernel
theorem dX5_formats_54 : decode cX5_formats 54 = .ok (.iload_n 3, 1) := by decide +kernel
theorem dX5_formats_55 : decode cX5_formats 55 = .ok (.ifCond .ne 5, 3) := by decide +kernel
theorem dX5_formats_60 : decode cX5_formats 60 = .ok (.aload_n 0, 1) := by decide +kernel
theorem dX5_formats_61 : decode cX5_formats 61 = .ok (.aload_n 2, 1) := by decide +kernel
theorem dX5_formats_62 : decode cX5_formats 62 = .ok (.getfield 61, 3) := by decide +kernel
theorem dX5_formats_65 : decode cX5_formats 65 = .ok (.putfield 15, 3) := by decide +kernel
theorem dX5_formats_68 : decode cX5_formats 68 = .ok (.aload_n 0, 1) := by decide +kernel
theorem dX5_formats_69 : decode cX5_formats 69 = .ok (.aload_n 2, 1) := by decide +kernel
theorem dX5_formats_70 : decode cX5_formats 70 = .ok (.getfield 64, 3) := by decide +kernel
theorem dX5_formats_73 : decode cX5_formats 73 = .ok (.putfield 67, 3) := by decide +kernel
theorem dX5_formats_76 : decode cX5_formats 76 = .ok (.aload_n 0, 1) := by decide +kernel
theorem dX5_formats_77 : decode cX5_formats 77 = .ok (.getfield 67, 3) := by decide +kernel
theorem dX5_formats_80 : decode cX5_formats 80 = .ok (.ireturn, 1) := by decide +kernel
theorem dX5_fault_0 : decode cX5_fault 0 = .ok (.iload_n 1, 1) := by decide +kernel
theorem dX5_fault_1 : decode cX5_fault 1 = .ok (.lookupswitch 37 #[(0, 27), (1, 32)], 27) := by decide +kernel
theorem dX5_fault_28 : decode cX5_fault 28 = .ok (.aload_n 0, 1) := by decide +kernel
theorem dX5_fault_29 : decode cX5_fault 29 = .ok (.getfield 55, 3) := by decide +kernel
theorem dX5_fault_32 : decode cX5_fault 32 = .ok (.ireturn, 1) := by decide +kernel
theorem dX5_fault_33 : decode cX5_fault 33 = .ok (.aload_n 0, 1) := by decide +kernel
theorem dX5_fault_34 : decode cX5_fault 34 = .ok (.getfield 19, 3) := by decide +kernel
theorem dX5_fault_37 : decode cX5_fault 37 = .ok (.ireturn, 1) := by decide +kernel
theorem dX5_fault_38 : decode cX5_fault 38 = .ok (.iconst (-1), 1) := by decide +kernel
theorem dX5_fault_39 : decode cX5_fault 39 = .ok (.ireturn, 1) := by decide +kernel
theorem dX5_pass_0 : decode cX5_pass 0 = .ok (.iload_n 1, 1) := by decide +kernel
theorem dX5_pass_1 : decode cX5_pass 1 = .ok (.ifCond .lt 15, 3) := by decide +kernel
theorem dX5_pass_4 : decode cX5_pass 4 = .ok (.iload_n 1, 1) := by decide +kernel
theorem dX5_pass_5 : decode cX5_pass 5 = .ok (.sipush 200, 3) := by decide +kernel
theorem dX5_pass_8 : decode cX5_pass 8 = .ok (.aload_n 0, 1) := by decide +kernel
theorem dX5_pass_9 : decode cX5_pass 9 = .ok (.getfield 70, 3) := by decide +kernel
theorem dX5_pass_12 : decode cX5_pass 12 = .ok (.isub, 1) := by decide +kernel
theorem dX5_pass_13 : decode cX5_pass 13 = .ok (.if_icmp .le 5, 3) := by decide +kernel
theorem dX5_pass_16 : decode cX5_pass 16 = .ok (.iconst (-1), 1) := by decide +kernel
theorem dX5_pass_17 : decode cX5_pass 17 = .ok (.ireturn, 1) := by decide +kernel
theorem dX5_pass_18 : decode cX5_pass 18 = .ok (.aload_n 0, 1) := by decide +kernel
theorem dX5_pass_19 : decode cX5_pass 19 = .ok (.dup, 1) := by decide +kernel
theorem dX5_pass_20 : decode cX5_pass 20 = .ok (.getfield 70, 3) := by decide +kernel
theorem dX5_pass_23 : decode cX5_pass 23 = .ok (.iload_n 1, 1) := by decide +kernel
theorem dX5_pass_24 : decode cX5_pass 24 = .ok (.iadd, 1) := by decide +kernel
theorem dX5_pass_25 : decode cX5_pass 25 = .ok (.putfield 70, 3) := by decide +kernel
theorem dX5_pass_28 : decode cX5_pass 28 = .ok (.aload_n 0, 1) := by decide +kernel
theorem dX5_pass_29 : decode cX5_pass 29 = .ok (.getfield 70, 3) := by decide +kernel
theorem dX5_pass_32 : decode cX5_pass 32 = .ok (.ireturn, 1) := by decide +kernel
theorem dX5_racer_0 : decode cX5_racer 0 = .ok (.iload_n 1, 1) := by decide +kernel
theorem dX5_racer_1 : decode cX5_racer 1 = .ok (.invokestatic 73, 3) := by decide +kernel
theorem dX5_racer_4 : decode cX5_racer 4 = .ok (.ifCond .eq 12, 3) := by decide +kernel
theorem dX5_racer_7 : decode cX5_racer 7 = .ok (.aload_n 0, 1) := by decide +kernel
theorem dX5_racer_8 : decode cX5_racer 8 = .ok (.getfield 77, 3) := by decide +kernel
theorem dX5_racer_11 : decode cX5_racer 11 = .ok (.bipush 16, 2) := by decide +kernel
theorem dX5_racer_13 : decode cX5_racer 13 = .ok (.if_icmp .lt 5, 3) := by decide +kernel
theorem dX5_racer_16 : decode cX5_racer 16 = .ok (.iconst (-1), 1) := by decide +kernel
theorem dX5_racer_17 : decode cX5_racer 17 = .ok (.ireturn, 1) := by decide +kernel
theorem dX5_racer_18 : decode cX5_racer 18 = .ok (.aload_n 0, 1) := by decide +kernel
theorem dX5_racer_19 : decode cX5_racer 19 = .ok (.getfield 23, 3) := by decide +kernel
theorem dX5_racer_22 : decode cX5_racer 22 = .ok (.aload_n 0, 1) := by decide +kernel
theorem dX5_racer_23 : decode cX5_racer 23 = .ok (.getfield 77, 3) := by decide +kernel
theorem dX5_racer_26 : decode cX5_racer 26 = .ok (.iload_n 1, 1) := by decide +kernel
theorem dX5_racer_27 : decode cX5_racer 27 = .ok (.iastore, 1) := by decide +kernel
theorem dX5_racer_28 : decode cX5_racer 28 = .ok (.aload_n 0, 1) := by decide +kernel
theorem dX5_racer_29 : decode cX5_racer 29 = .ok (.dup, 1) := by decide +kernel
theorem dX5_racer_30 : decode cX5_racer 30 = .ok (.getfield 77, 3) := by decide +kernel
theorem dX5_racer_33 : decode cX5_racer 33 = .ok (.iconst 1, 1) := by decide +kernel
theorem dX5_racer_34 : decode cX5_racer 34 = .ok (.iadd, 1) := by decide +kernel
theorem dX5_racer_35 : decode cX5_racer 35 = .ok (.putfield 77, 3) := by decide +kernel
theorem dX5_racer_38 : decode cX5_racer 38 = .ok (.aload_n 0, 1) := by decide +kernel
theorem dX5_racer_39 : decode cX5_racer 39 = .ok (.getfield 77, 3) := by decide +kernel
theorem dX5_racer_42 : decode cX5_racer 42 = .ok (.iconst 1, 1) := by decide +kernel
theorem dX5_racer_43 : decode cX5_racer 43 = .ok (.isub, 1) := by decide +kernel
theorem dX5_racer_44 : decode cX5_racer 44 = .ok (.ireturn, 1) := by decide +kernel
theorem dX5_race_0 : decode cX5_race 0 = .ok (.iload_n 1, 1) := by decide +kernel
theorem dX5_race_1 : decode cX5_race 1 = .ok (.ifCond .lt 18, 3) := by decide +kernel
theorem dX5_race_4 : decode cX5_race 4 = .ok (.iload_n 1, 1) := by decide +kernel
theorem dX5_race_5 : decode cX5_race 5 = .ok (.bipush 8, 2) := by decide +kernel
theorem dX5_race_7 : decode cX5_race 7 = .ok (.if_icmp .ge 12, 3) := by decide +kernel
theorem dX5_race_10 : decode cX5_race 10 = .ok (.aload_n 0, 1) := by decide +kernel
theorem dX5_race_11 : decode cX5_race 11 = .ok (.getfield 80, 3) := by decide +kernel
theorem dX5_race_14 : decode cX5_race 14 = .ok (.bipush 8, 2) := by decide +kernel
theorem dX5_race_16 : decode cX5_race 16 = .ok (.if_icmp .lt 5, 3) := by decide +kernel
theorem dX5_race_19 : decode cX5_race 19 = .ok (.iconst (-1), 1) := by decide +kernel
theorem dX5_race_20 : decode cX5_race 20 = .ok (.ireturn, 1) := by decide +kernel
theorem dX5_race_21 : decode cX5_race 21 = .ok (.aload_n 0, 1) := by decide +kernel
theorem dX5_race_22 : decode cX5_race 22 = .ok (.getfield 15, 3) := by decide +kernel
theorem dX5_race_25 : decode cX5_race 25 = .ok (.iload_n 1, 1) := by decide +kernel
theorem dX5_race_26 : decode cX5_race 26 = .ok (.aaload, 1) := by decide +kernel
theorem dX5_race_27 : decode cX5_race 27 = .ok (.astore_n 3, 1) := by decide +kernel
theorem dX5_race_28 : decode cX5_race 28 = .ok (.aload_n 3, 1) := by decide +kernel
theorem dX5_race_29 : decode cX5_race 29 = .ok (.ifnonnull 5, 3) := by decide +kernel
theorem dX5_race_32 : decode cX5_race 32 = .ok (.iconst (-1), 1) := by decide +kernel
theorem dX5_race_33 : decode cX5_race 33 = .ok (.ireturn, 1) := by decide +kernel
theorem dX5_enter_0 : decode cX5_enter 0 = .ok (.aload_n 0, 1) := by decide +kernel
theorem dX5_enter_1 : decode cX5_enter 1 = .ok (.iload_n 1, 1) := by decide +kernel
theorem dX5_enter_2 : decode cX5_enter 2 = .ok (.invokevirtual 83, 3) := by decide +kernel
theorem dX5_enter_5 : decode cX5_enter 5 = .ok (.astore_n 3, 1) := by decide +kernel
theorem dX5_enter_6 : decode cX5_enter 6 = .ok (.aload_n 3, 1) := by decide +kernel
theorem dX5_enter_7 : decode cX5_enter 7 = .ok (.ifnull 26, 3) := by decide +kernel
theorem dX5_enter_33 : decode cX5_enter 33 = .ok (.iconst (-1), 1) := by decide +kernel
theorem dX5_enter_34 : decode cX5_enter 34 = .ok (.ireturn, 1) := by decide +kernel
theorem dX5_tell_0 : decode cX5_tell 0 = .ok (.aload_n 0, 1) := by decide +kernel
theorem dX5_tell_1 : decode cX5_tell 1 = .ok (.iload_n 1, 1) := by decide +kernel
theorem dX5_tell_2 : decode cX5_tell 2 = .ok (.invokevirtual 83, 3) := by decide +kernel
theorem dX5_tell_5 : decode cX5_tell 5 = .ok (.astore 6, 2) := by decide +kernel
theorem dX5_tell_7 : decode cX5_tell 7 = .ok (.aload 6, 2) := by decide +kernel
theorem dX5_tell_9 : decode cX5_tell 9 = .ok (.ifnull 13, 3) := by decide +kernel
theorem dX5_tell_22 : decode cX5_tell 22 = .ok (.iconst (-1), 1) := by decide +kernel
theorem dX5_tell_23 : decode cX5_tell 23 = .ok (.ireturn, 1) := by decide +kernel
theorem dX5_entry_0 : decode cX5_entry 0 = .ok (.aload_n 0, 1) := by decide +kernel
theorem dX5_entry_1 : decode cX5_entry 1 = .ok (.iload_n 1, 1) := by decide +kernel
theorem dX5_entry_2 : decode cX5_entry 2 = .ok (.invokevirtual 83, 3) := by decide +kernel
theorem dX5_entry_5 : decode cX5_entry 5 = .ok (.astore_n 3, 1) := by decide +kernel
theorem dX5_entry_6 : decode cX5_entry 6 = .ok (.aload_n 3, 1) := by decide +kernel
theorem dX5_entry_7 : decode cX5_entry 7 = .ok (.ifnull 15, 3) := by decide +kernel
theorem dX5_entry_22 : decode cX5_entry 22 = .ok (.iconst (-1), 1) := by decide +kernel
theorem dX5_entry_23 : decode cX5_entry 23 = .ok (.ireturn, 1) := by decide +kernel
theorem dX5_time_0 : decode cX5_time 0 = .ok (.aload_n 0, 1) := by decide +kernel
theorem dX5_time_1 : decode cX5_time 1 = .ok (.iload_n 1, 1) := by decide +kernel
theorem dX5_time_2 : decode cX5_time 2 = .ok (.invokevirtual 83, 3) := by decide +kernel
theorem dX5_time_5 : decode cX5_time 5 = .ok (.astore 5, 2) := by decide +kernel
theorem dX5_time_7 : decode cX5_time 7 = .ok (.aload 5, 2) := by decide +kernel
theorem dX5_time_9 : decode cX5_time 9 = .ok (.ifnull 11, 3) := by decide +kernel
theorem dX5_time_20 : decode cX5_time 20 = .ok (.bipush (-2), 2) := by decide +kernel
theorem dX5_time_22 : decode cX5_time 22 = .ok (.ireturn, 1) := by decide +kernel
theorem dX5_split_0 : decode cX5_split 0 = .ok (.aload_n 0, 1) := by decide +kernel
theorem dX5_split_1 : decode cX5_split 1 = .ok (.iload_n 1, 1) := by decide +kernel
theorem dX5_split_2 : decode cX5_split 2 = .ok (.invokevirtual 83, 3) := by decide +kernel
theorem dX5_split_5 : decode cX5_split 5 = .ok (.astore 5, 2) := by decide +kernel
theorem dX5_split_7 : decode cX5_split 7 = .ok (.aload 5, 2) := by decide +kernel
theorem dX5_split_9 : decode cX5_split 9 = .ok (.ifnull 25, 3) := by decide +kernel
theorem dX5_split_34 : decode cX5_split 34 = .ok (.bipush (-2), 2) := by decide +kernel
theorem dX5_split_36 : decode cX5_split 36 = .ok (.ireturn, 1) := by decide +kernel
theorem dX5_order_0 : decode cX5_order 0 = .ok (.aload_n 0, 1) := by decide +kernel
theorem dX5_order_1 : decode cX5_order 1 = .ok (.iload_n 1, 1) := by decide +kernel
theorem dX5_order_2 : decode cX5_order 2 = .ok (.invokevirtual 83, 3) := by decide +kernel
theorem dX5_order_5 : decode cX5_order 5 = .ok (.astore 4, 2) := by decide +kernel
theorem dX5_order_7 : decode cX5_order 7 = .ok (.aload 4, 2) := by decide +kernel
theorem dX5_order_9 : decode cX5_order 9 = .ok (.ifnull 11, 3) := by decide +kernel
theorem dX5_order_20 : decode cX5_order 20 = .ok (.iconst (-1), 1) := by decide +kernel
theorem dX5_order_21 : decode cX5_order 21 = .ok (.ireturn, 1) := by decide +kernel
theorem dX5_points_0 : decode cX5_points 0 = .ok (.aload_n 0, 1) := by decide +kernel
theorem dX5_points_1 : decode cX5_points 1 = .ok (.iload_n 1, 1) := by decide +kernel
theorem dX5_points_2 : decode cX5_points 2 = .ok (.invokevirtual 93, 3) := by decide +kernel
theorem dX5_points_5 : decode cX5_points 5 = .ok (.ifCond .eq 11, 3) := by decide +kernel
theorem dX5_points_16 : decode cX5_points 16 = .ok (.iconst (-1), 1) := by decide +kernel
theorem dX5_points_17 : decode cX5_points 17 = .ok (.ireturn, 1) := by decide +kernel
theorem dX5_standing_0 : decode cX5_standing 0 = .ok (.aload_n 0, 1) := by decide +kernel
theorem dX5_standing_1 : decode cX5_standing 1 = .ok (.iload_n 1, 1) := by decide +kernel
theorem dX5_standing_2 : decode cX5_standing 2 = .ok (.invokevirtual 93, 3) := by decide +kernel
theorem dX5_standing_5 : decode cX5_standing 5 = .ok (.ifCond .eq 11, 3) := by decide +kernel
theorem dX5_standing_16 : decode cX5_standing 16 = .ok (.iconst (-1), 1) := by decide +kernel
theorem dX5_standing_17 : decode cX5_standing 17 = .ok (.ireturn, 1) := by decide +kernel
theorem dX5_starters_0 : decode cX5_starters 0 = .ok (.iload_n 1, 1) := by decide +kernel
theorem dX5_starters_1 : decode cX5_starters 1 = .ok (.invokestatic 73, 3) := by decide +kernel
theorem dX5_starters_4 : decode cX5_starters 4 = .ok (.ifCond .eq 11, 3) := by decide +kernel
theorem dX5_starters_7 : decode cX5_starters 7 = .ok (.aload_n 0, 1) := by decide +kernel
theorem dX5_starters_8 : decode cX5_starters 8 = .ok (.iload_n 2, 1) := by decide +kernel
theorem dX5_starters_9 : decode cX5_starters 9 = .ok (.invokevirtual 168, 3) := by decide +kernel
theorem dX5_starters_12 : decode cX5_starters 12 = .ok (.ifCond .ne 5, 3) := by decide +kernel
theorem dX5_starters_15 : decode cX5_starters 15 = .ok (.iconst (-1), 1) := by decide +kernel
theorem dX5_starters_16 : decode cX5_starters 16 = .ok (.ireturn, 1) := by decide +kernel
theorem dX5_starters_17 : decode cX5_starters 17 = .ok (.aload_n 0, 1) := by decide +kernel
theorem dX5_starters_18 : decode cX5_starters 18 = .ok (.iload_n 2, 1) := by decide +kernel
theorem dX5_starters_19 : decode cX5_starters 19 = .ok (.invokevirtual 215, 3) := by decide +kernel
theorem dX5_starters_22 : decode cX5_starters 22 = .ok (.iconst 2, 1) := by decide +kernel
theorem dX5_starters_23 : decode cX5_starters 23 = .ok (.istore_n 3, 1) := by decide +kernel
theorem dX5_starters_24 : decode cX5_starters 24 = .ok (.iconst 0, 1) := by decide +kernel
theorem dX5_starters_25 : decode cX5_starters 25 = .ok (.istore 4, 2) := by decide +kernel
theorem dX5_starters_27 : decode cX5_starters 27 = .ok (.iload 4, 2) := by decide +kernel
theorem dX5_starters_29 : decode cX5_starters 29 = .ok (.aload_n 0, 1) := by decide +kernel
theorem dX5_starters_30 : decode cX5_starters 30 = .ok (.getfield 77, 3) := by decide +kernel
theorem dX5_starters_33 : decode cX5_starters 33 = .ok (.if_icmp .ge 43, 3) := by decide +kernel
theorem dX5_starters_76 : decode cX5_starters 76 = .ok (.iload_n 3, 1) := by decide +kernel
theorem dX5_starters_77 : decode cX5_starters 77 = .ok (.iconst 4, 1) := by decide +kernel
theorem dX5_starters_78 : decode cX5_starters 78 = .ok (.invokestatic 221, 3) := by decide +kernel
theorem dX5_starters_81 : decode cX5_starters 81 = .ok (.ireturn, 1) := by decide +kernel
theorem dX5_count_0 : decode cX5_count 0 = .ok (.iload_n 1, 1) := by decide +kernel
theorem dX5_count_1 : decode cX5_count 1 = .ok (.tableswitch 60 0 4 #[35, 40, 45, 50, 55], 35) := by decide +kernel
theorem dX5_count_36 : decode cX5_count 36 = .ok (.aload_n 0, 1) := by decide +kernel
theorem dX5_count_37 : decode cX5_count 37 = .ok (.getfield 70, 3) := by decide +kernel
theorem dX5_count_40 : decode cX5_count 40 = .ok (.ireturn, 1) := by decide +kernel
theorem dX5_count_41 : decode cX5_count 41 = .ok (.aload_n 0, 1) := by decide +kernel
theorem dX5_count_42 : decode cX5_count 42 = .ok (.getfield 67, 3) := by decide +kernel
theorem dX5_count_45 : decode cX5_count 45 = .ok (.ireturn, 1) := by decide +kernel
theorem dX5_count_46 : decode cX5_count 46 = .ok (.aload_n 0, 1) := by decide +kernel
theorem dX5_count_47 : decode cX5_count 47 = .ok (.getfield 77, 3) := by decide +kernel
theorem dX5_count_50 : decode cX5_count 50 = .ok (.ireturn, 1) := by decide +kernel
theorem dX5_count_51 : decode cX5_count 51 = .ok (.aload_n 0, 1) := by decide +kernel
theorem dX5_count_52 : decode cX5_count 52 = .ok (.getfield 80, 3) := by decide +kernel
theorem dX5_count_55 : decode cX5_count 55 = .ok (.ireturn, 1) := by decide +kernel
theorem dX5_count_56 : decode cX5_count 56 = .ok (.aload_n 0, 1) := by decide +kernel
theorem dX5_count_57 : decode cX5_count 57 = .ok (.getfield 109, 3) := by decide +kernel
theorem dX5_count_60 : decode cX5_count 60 = .ok (.ireturn, 1) := by decide +kernel
theorem dX5_count_61 : decode cX5_count 61 = .ok (.iconst (-1), 1) := by decide +kernel
theorem dX5_count_62 : decode cX5_count 62 = .ok (.ireturn, 1) := by decide +kernel
theorem dX5_raceAt_0 : decode cX5_raceAt 0 = .ok (.iload_n 1, 1) := by decide +kernel
theorem dX5_raceAt_1 : decode cX5_raceAt 1 = .ok (.ifCond .lt 20, 3) := by decide +kernel
theorem dX5_raceAt_4 : decode cX5_raceAt 4 = .ok (.iload_n 1, 1) := by decide +kernel
theorem dX5_raceAt_5 : decode cX5_raceAt 5 = .ok (.aload_n 0, 1) := by decide +kernel
theorem dX5_raceAt_6 : decode cX5_raceAt 6 = .ok (.getfield 80, 3) := by decide +kernel
theorem dX5_raceAt_9 : decode cX5_raceAt 9 = .ok (.if_icmp .ge 12, 3) := by decide +kernel
theorem dX5_raceAt_21 : decode cX5_raceAt 21 = .ok (.aconst_null, 1) := by decide +kernel
theorem dX5_raceAt_22 : decode cX5_raceAt 22 = .ok (.areturn, 1) := by decide +kernel
theorem dX5_isRacer_0 : decode cX5_isRacer 0 = .ok (.iload_n 1, 1) := by decide +kernel
theorem dX5_isRacer_1 : decode cX5_isRacer 1 = .ok (.ifCond .lt 15, 3) := by decide +kernel
theorem dX5_isRacer_4 : decode cX5_isRacer 4 = .ok (.iload_n 1, 1) := by decide +kernel
theorem dX5_isRacer_5 : decode cX5_isRacer 5 = .ok (.aload_n 0, 1) := by decide +kernel
theorem dX5_isRacer_6 : decode cX5_isRacer 6 = .ok (.getfield 77, 3) := by decide +kernel
theorem dX5_isRacer_9 : decode cX5_isRacer 9 = .ok (.if_icmp .ge 7, 3) := by decide +kernel
theorem dX5_isRacer_16 : decode cX5_isRacer 16 = .ok (.iconst 0, 1) := by decide +kernel
theorem dX5_isRacer_17 : decode cX5_isRacer 17 = .ok (.ireturn, 1) := by decide +kernel
theorem dX5_isDay_0 : decode cX5_isDay 0 = .ok (.iload_n 1, 1) := by decide +kernel
theorem dX5_isDay_1 : decode cX5_isDay 1 = .ok (.ifCond .lt 15, 3) := by decide +kernel
theorem dX5_isDay_4 : decode cX5_isDay 4 = .ok (.iload_n 1, 1) := by decide +kernel
theorem dX5_isDay_5 : decode cX5_isDay 5 = .ok (.aload_n 0, 1) := by decide +kernel
theorem dX5_isDay_6 : decode cX5_isDay 6 = .ok (.getfield 70, 3) := by decide +kernel
theorem dX5_isDay_9 : decode cX5_isDay 9 = .ok (.if_icmp .gt 7, 3) := by decide +kernel
theorem dX5_isDay_12 : decode cX5_isDay 12 = .ok (.iconst 1, 1) := by decide +kernel
theorem dX5_isDay_13 : decode cX5_isDay 13 = .ok (.goto 4, 3) := by decide +kernel
theorem dX5_isDay_16 : decode cX5_isDay 16 = .ok (.iconst 0, 1) := by decide +kernel
theorem dX5_isDay_17 : decode cX5_isDay 17 = .ok (.ireturn, 1) := by decide +kernel
theorem dX5_isNation_0 : decode cX5_isNation 0 = .ok (.iload_n 0, 1) := by decide +kernel
theorem dX5_isNation_1 : decode cX5_isNation 1 = .ok (.ifCond .lt 13, 3) := by decide +kernel
theorem dX5_isNation_4 : decode cX5_isNation 4 = .ok (.iload_n 0, 1) := by decide +kernel
theorem dX5_isNation_5 : decode cX5_isNation 5 = .ok (.bipush 8, 2) := by decide +kernel
theorem dX5_isNation_7 : decode cX5_isNation 7 = .ok (.if_icmp .ge 7, 3) := by decide +kernel
theorem dX5_isNation_10 : decode cX5_isNation 10 = .ok (.iconst 1, 1) := by decide +kernel
theorem dX5_isNation_11 : decode cX5_isNation 11 = .ok (.goto 4, 3) := by decide +kernel
theorem dX5_isNation_14 : decode cX5_isNation 14 = .ok (.iconst 0, 1) := by decide +kernel
theorem dX5_isNation_15 : decode cX5_isNation 15 = .ok (.ireturn, 1) := by decide +kernel
theorem dX5_workOut_0 : decode cX5_workOut 0 = .ok (.iconst 0, 1) := by decide +kernel
theorem dX5_workOut_1 : decode cX5_workOut 1 = .ok (.istore_n 3, 1) := by decide +kernel
theorem dX5_workOut_2 : decode cX5_workOut 2 = .ok (.iload_n 3, 1) := by decide +kernel
theorem dX5_workOut_3 : decode cX5_workOut 3 = .ok (.iload_n 1, 1) := by decide +kernel
theorem dX5_workOut_4 : decode cX5_workOut 4 = .ok (.if_icmp .ge 27, 3) := by decide +kernel
theorem dX5_workOut_31 : decode cX5_workOut 31 = .ok (.return_, 1) := by decide +kernel
theorem dX5_addUpCup_0 : decode cX5_addUpCup 0 = .ok (.aload_n 0, 1) := by decide +kernel
theorem dX5_addUpCup_1 : decode cX5_addUpCup 1 = .ok (.aload_n 0, 1) := by decide +kernel
theorem dX5_addUpCup_2 : decode cX5_addUpCup 2 = .ok (.getfield 80, 3) := by decide +kernel
theorem dX5_addUpCup_5 : decode cX5_addUpCup 5 = .ok (.iload_n 1, 1) := by decide +kernel
theorem dX5_addUpCup_6 : decode cX5_addUpCup 6 = .ok (.invokevirtual 171, 3) := by decide +kernel
theorem dX5_addUpCup_9 : decode cX5_addUpCup 9 = .ok (.iconst 0, 1) := by decide +kernel
theorem dX5_addUpCup_10 : decode cX5_addUpCup 10 = .ok (.istore_n 2, 1) := by decide +kernel
theorem dX5_addUpCup_11 : decode cX5_addUpCup 11 = .ok (.iload_n 2, 1) := by decide +kernel
theorem dX5_addUpCup_12 : decode cX5_addUpCup 12 = .ok (.aload_n 0, 1) := by decide +kernel
theorem dX5_addUpCup_13 : decode cX5_addUpCup 13 = .ok (.getfield 77, 3) := by decide +kernel
theorem dX5_addUpCup_16 : decode cX5_addUpCup 16 = .ok (.if_icmp .ge 16, 3) := by decide +kernel
theorem dX5_addUpCup_32 : decode cX5_addUpCup 32 = .ok (.iconst 0, 1) := by decide +kernel
theorem dX5_addUpCup_33 : decode cX5_addUpCup 33 = .ok (.istore_n 2, 1) := by decide +kernel
theorem dX5_addUpCup_34 : decode cX5_addUpCup 34 = .ok (.iload_n 2, 1) := by decide +kernel
theorem dX5_addUpCup_35 : decode cX5_addUpCup 35 = .ok (.aload_n 0, 1) := by decide +kernel
theorem dX5_addUpCup_36 : decode cX5_addUpCup 36 = .ok (.getfield 80, 3) := by decide +kernel
theorem dX5_addUpCup_39 : decode cX5_addUpCup 39 = .ok (.if_icmp .ge 19, 3) := by decide +kernel
theorem dX5_addUpCup_58 : decode cX5_addUpCup 58 = .ok (.return_, 1) := by decide +kernel
theorem dX6_init_0 : decode cX6_init 0 = .ok (.aload_n 0, 1) := by decide +kernel
theorem dX6_init_1 : decode cX6_init 1 = .ok (.invokespecial 1, 3) := by decide +kernel
theorem dX6_init_4 : decode cX6_init 4 = .ok (.aload_n 0, 1) := by decide +kernel
theorem dX6_init_5 : decode cX6_init 5 = .ok (.sipush 1000, 3) := by decide +kernel
theorem dX6_init_8 : decode cX6_init 8 = .ok (.newarray .int, 2) := by decide +kernel
theorem dX6_init_10 : decode cX6_init 10 = .ok (.putfield 7, 3) := by decide +kernel
theorem dX6_init_13 : decode cX6_init 13 = .ok (.aload_n 0, 1) := by decide +kernel
theorem dX6_init_14 : decode cX6_init 14 = .ok (.bipush 16, 2) := by decide +kernel
theorem dX6_init_16 : decode cX6_init 16 = .ok (.newarray .int, 2) := by decide +kernel
theorem dX6_init_18 : decode cX6_init 18 = .ok (.putfield 13, 3) := by decide +kernel
theorem dX6_init_21 : decode cX6_init 21 = .ok (.aload_n 0, 1) := by decide +kernel
theorem dX6_init_22 : decode cX6_init 22 = .ok (.bipush 16, 2) := by decide +kernel
theorem dX6_init_24 : decode cX6_init 24 = .ok (.newarray .int, 2) := by decide +kernel
theorem dX6_init_26 : decode cX6_init 26 = .ok (.putfield 16, 3) := by decide +kernel
theorem dX6_init_29 : decode cX6_init 29 = .ok (.aload_n 0, 1) := by decide +kernel
theorem dX6_init_30 : decode cX6_init 30 = .ok (.bipush 64, 2) := by decide +kernel
theorem dX6_init_32 : decode cX6_init 32 = .ok (.newarray .int, 2) := by decide +kernel
theorem dX6_init_34 : decode cX6_init 34 = .ok (.putfield 19, 3) := by decide +kernel
theorem dX6_init_37 : decode cX6_init 37 = .ok (.aload_n 0, 1) := by decide +kernel
theorem dX6_init_38 : decode cX6_init 38 = .ok (.bipush 16, 2) := by decide +kernel
theorem dX6_init_40 : decode cX6_init 40 = .ok (.newarray .int, 2) := by decide +kernel
theorem dX6_init_42 : decode cX6_init 42 = .ok (.putfield 22, 3) := by decide +kernel
theorem dX6_init_45 : decode cX6_init 45 = .ok (.aload_n 0, 1) := by decide +kernel
theorem dX6_init_46 : decode cX6_init 46 = .ok (.bipush 16, 2) := by decide +kernel
theorem dX6_init_48 : decode cX6_init 48 = .ok (.newarray .boolean, 2) := by decide +kernel
theorem dX6_init_50 : decode cX6_init 50 = .ok (.putfield 25, 3) := by decide +kernel
theorem dX6_init_53 : decode cX6_init 53 = .ok (.aload_n 0, 1) := by decide +kernel
theorem dX6_init_54 : decode cX6_init 54 = .ok (.bipush 16, 2) := by decide +kernel
theorem dX6_init_56 : decode cX6_init 56 = .ok (.newarray .int, 2) := by decide +kernel
theorem dX6_init_58 : decode cX6_init 58 = .ok (.putfield 29, 3) := by decide +kernel
theorem dX6_init_61 : decode cX6_init 61 = .ok (.aload_n 0, 1) := by decide +kernel
theorem dX6_init_62 : decode cX6_init 62 = .ok (.bipush 16, 2) := by decide +kernel
theorem dX6_init_64 : decode cX6_init 64 = .ok (.newarray .int, 2) := by decide +kernel
theorem dX6_init_66 : decode cX6_init 66 = .ok (.putfield 32, 3) := by decide +kernel
theorem dX6_init_69 : decode cX6_init 69 = .ok (.aload_n 0, 1) := by decide +kernel
theorem dX6_init_70 : decode cX6_init 70 = .ok (.bipush 16, 2) := by decide +kernel
theorem dX6_init_72 : decode cX6_init 72 = .ok (.newarray .int, 2) := by decide +kernel
theorem dX6_init_74 : decode cX6_init 74 = .ok (.putfield 35, 3) := by decide +kernel
theorem dX6_init_77 : decode cX6_init 77 = .ok (.aload_n 0, 1) := by decide +kernel
theorem dX6_init_78 : decode cX6_init 78 = .ok (.iconst (-1), 1) := by decide +kernel
theorem dX6_init_79 : decode cX6_init 79 = .ok (.putfield 38, 3) := by decide +kernel
theorem dX6_init_82 : decode cX6_init 82 = .ok (.aload_n 0, 1) := by decide +kernel
theorem dX6_init_83 : decode cX6_init 83 = .ok (.bipush 16, 2) := by decide +kernel
theorem dX6_init_85 : decode cX6_init 85 = .ok (.newarray .int, 2) := by decide +kernel
theorem dX6_init_87 : decode cX6_init 87 = .ok (.putfield 42, 3) := by decide +kernel
theorem dX6_init_90 : decode cX6_init 90 = .ok (.aload_n 0, 1) := by decide +kernel
theorem dX6_init_91 : decode cX6_init 91 = .ok (.bipush 8, 2) := by decide +kernel
theorem dX6_init_93 : decode cX6_init 93 = .ok (.newarray .int, 2) := by decide +kernel
theorem dX6_init_95 : decode cX6_init 95 = .ok (.putfield 45, 3) := by decide +kernel
theorem dX6_init_98 : decode cX6_init 98 = .ok (.aload_n 0, 1) := by decide +kernel
theorem dX6_init_99 : decode cX6_init 99 = .ok (.bipush 8, 2) := by decide +kernel
theorem dX6_init_101 : decode cX6_init 101 = .ok (.newarray .int, 2) := by decide +kernel
theorem dX6_init_103 : decode cX6_init 103 = .ok (.putfield 48, 3) := by decide +kernel
theorem dX6_init_106 : decode cX6_init 106 = .ok (.aload_n 0, 1) := by decide +kernel
theorem dX6_init_107 : decode cX6_init 107 = .ok (.bipush 8, 2) := by decide +kernel
theorem dX6_init_109 : decode cX6_init 109 = .ok (.newarray .int, 2) := by decide +kernel
theorem dX6_init_111 : decode cX6_init 111 = .ok (.putfield 51, 3) := by decide +kernel
theorem dX6_init_114 : decode cX6_init 114 = .ok (.aload_n 0, 1) := by decide +kernel
theorem dX6_init_115 : decode cX6_init 115 = .ok (.bipush 8, 2) := by decide +kernel
theorem dX6_init_117 : decode cX6_init 117 = .ok (.newarray .int, 2) := by decide +kernel
theorem dX6_init_119 : decode cX6_init 119 = .ok (.putfield 54, 3) := by decide +kernel
theorem dX6_init_122 : decode cX6_init 122 = .ok (.aload_n 0, 1) := by decide +kernel
theorem dX6_init_123 : decode cX6_init 123 = .ok (.bipush 8, 2) := by decide +kernel
theorem dX6_init_125 : decode cX6_init 125 = .ok (.newarray .boolean, 2) := by decide +kernel
theorem dX6_init_127 : decode cX6_init 127 = .ok (.putfield 57, 3) := by decide +kernel
theorem dX6_init_130 : decode cX6_init 130 = .ok (.aload_n 0, 1) := by decide +kernel
theorem dX6_init_131 : decode cX6_init 131 = .ok (.bipush 8, 2) := by decide +kernel
theorem dX6_init_133 : decode cX6_init 133 = .ok (.newarray .int, 2) := by decide +kernel
theorem dX6_init_135 : decode cX6_init 135 = .ok (.putfield 60, 3) := by decide +kernel
theorem dX6_init_138 : decode cX6_init 138 = .ok (.aload_n 0, 1) := by decide +kernel
theorem dX6_init_139 : decode cX6_init 139 = .ok (.bipush 8, 2) := by decide +kernel
theorem dX6_init_141 : decode cX6_init 141 = .ok (.newarray .int, 2) := by decide +kernel
theorem dX6_init_143 : decode cX6_init 143 = .ok (.putfield 63, 3) := by decide +kernel
theorem dX6_init_146 : decode cX6_init 146 = .ok (.aload_n 0, 1) := by decide +kernel
theorem dX6_init_147 : decode cX6_init 147 = .ok (.bipush 8, 2) := by decide +kernel
theorem dX6_init_149 : decode cX6_init 149 = .ok (.newarray .int, 2) := by decide +kernel
theorem dX6_init_151 : decode cX6_init 151 = .ok (.putfield 66, 3) := by decide +kernel
theorem dX6_init_154 : decode cX6_init 154 = .ok (.aload_n 0, 1) := by decide +kernel
theorem dX6_init_155 : decode cX6_init 155 = .ok (.bipush 8, 2) := by decide +kernel
theorem dX6_init_157 : decode cX6_init 157 = .ok (.newarray .int, 2) := by decide +kernel
theorem dX6_init_159 : decode cX6_init 159 = .ok (.putfield 69, 3) := by decide +kernel
theorem dX6_init_162 : decode cX6_init 162 = .ok (.aload_n 0, 1) := by decide +kernel
theorem dX6_init_163 : decode cX6_init 163 = .ok (.bipush 8, 2) := by decide +kernel
theorem dX6_init_165 : decode cX6_init 165 = .ok (.newarray .int, 2) := by decide +kernel
theorem dX6_init_167 : decode cX6_init 167 = .ok (.putfield 72, 3) := by decide +kernel
theorem dX6_init_170 : decode cX6_init 170 = .ok (.aload_n 0, 1) := by decide +kernel
theorem dX6_init_171 : decode cX6_init 171 = .ok (.bipush 8, 2) := by decide +kernel
theorem dX6_init_173 : decode cX6_init 173 = .ok (.newarray .int, 2) := by decide +kernel
theorem dX6_init_175 : decode cX6_init 175 = .ok (.putfield 75, 3) := by decide +kernel
theorem dX6_init_178 : decode cX6_init 178 = .ok (.aload_n 0, 1) := by decide +kernel
theorem dX6_init_179 : decode cX6_init 179 = .ok (.sipush 128, 3) := by decide +kernel
theorem dX6_init_182 : decode cX6_init 182 = .ok (.newarray .int, 2) := by decide +kernel
theorem dX6_init_184 : decode cX6_init 184 = .ok (.putfield 78, 3) := by decide +kernel
theorem dX6_init_187 : decode cX6_init 187 = .ok (.aload_n 0, 1) := by decide +kernel
theorem dX6_init_188 : decode cX6_init 188 = .ok (.sipush 128, 3) := by decide +kernel
theorem dX6_init_191 : decode cX6_init 191 = .ok (.newarray .int, 2) := by decide +kernel
theorem dX6_init_193 : decode cX6_init 193 = .ok (.putfield 81, 3) := by decide +kernel
theorem dX6_init_196 : decode cX6_init 196 = .ok (.aload_n 0, 1) := by decide +kernel
theorem dX6_init_197 : decode cX6_init 197 = .ok (.sipush 400, 3) := by decide +kernel
theorem dX6_init_200 : decode cX6_init 200 = .ok (.newarray .int, 2) := by decide +kernel
theorem dX6_init_202 : decode cX6_init 202 = .ok (.putfield 84, 3) := by decide +kernel
theorem dX6_init_205 : decode cX6_init 205 = .ok (.aload_n 0, 1) := by decide +kernel
theorem dX6_init_206 : decode cX6_init 206 = .ok (.sipush 400, 3) := by decide +kernel
theorem dX6_init_209 : decode cX6_init 209 = .ok (.newarray .int, 2) := by decide +kernel
theorem dX6_init_211 : decode cX6_init 211 = .ok (.putfield 87, 3) := by decide +kernel
theorem dX6_init_214 : decode cX6_init 214 = .ok (.aload_n 0, 1) := by decide +kernel
theorem dX6_init_215 : decode cX6_init 215 = .ok (.sipush 400, 3) := by decide +kernel
theorem dX6_init_218 : decode cX6_init 218 = .ok (.newarray .int, 2) := by decide +kernel
theorem dX6_init_220 : decode cX6_init 220 = .ok (.putfield 90, 3) := by decide +kernel
theorem dX6_init_223 : decode cX6_init 223 = .ok (.aload_n 0, 1) := by decide +kernel
theorem dX6_init_224 : decode cX6_init 224 = .ok (.sipush 400, 3) := by decide +kernel
theorem dX6_init_227 : decode cX6_init 227 = .ok (.newarray .int, 2) := by decide +kernel
theorem dX6_init_229 : decode cX6_init 229 = .ok (.putfield 93, 3) := by decide +kernel
theorem dX6_init_232 : decode cX6_init 232 = .ok (.aload_n 0, 1) := by decide +kernel
theorem dX6_init_233 : decode cX6_init 233 = .ok (.sipush 400, 3) := by decide +kernel
theorem dX6_init_236 : decode cX6_init 236 = .ok (.newarray .int, 2) := by decide +kernel
theorem dX6_init_238 : decode cX6_init 238 = .ok (.putfield 96, 3) := by decide +kernel
theorem dX6_init_241 : decode cX6_init 241 = .ok (.aload_n 0, 1) := by decide +kernel
theorem dX6_init_242 : decode cX6_init 242 = .ok (.sipush 400, 3) := by decide +kernel
theorem dX6_init_245 : decode cX6_init 245 = .ok (.newarray .int, 2) := by decide +kernel
theorem dX6_init_247 : decode cX6_init 247 = .ok (.putfield 99, 3) := by decide +kernel
theorem dX6_init_250 : decode cX6_init 250 = .ok (.aload_n 0, 1) := by decide +kernel
theorem dX6_init_251 : decode cX6_init 251 = .ok (.bipush 62, 2) := by decide +kernel
theorem dX6_init_253 : decode cX6_init 253 = .ok (.newarray .int, 2) := by decide +kernel
theorem dX6_init_255 : decode cX6_init 255 = .ok (.dup, 1) := by decide +kernel
theorem dX6_init_256 : decode cX6_init 256 = .ok (.iconst 0, 1) := by decide +kernel
theorem dX6_init_257 : decode cX6_init 257 = .ok (.bipush 102, 2) := by decide +kernel
theorem dX6_init_259 : decode cX6_init 259 = .ok (.iastore, 1) := by decide +kernel
theorem dX6_init_260 : decode cX6_init 260 = .ok (.dup, 1) := by decide +kernel
theorem dX6_init_261 : decode cX6_init 261 = .ok (.iconst 1, 1) := by decide +kernel
theorem dX6_init_262 : decode cX6_init 262 = .ok (.bipush 111, 2) := by decide +kernel
theorem dX6_init_264 : decode cX6_init 264 = .ok (.iastore, 1) := by decide +kernel
theorem dX6_init_265 : decode cX6_init 265 = .ok (.dup, 1) := by decide +kernel
theorem dX6_init_266 : decode cX6_init 266 = .ok (.iconst 2, 1) := by decide +kernel
theorem dX6_init_267 : decode cX6_init 267 = .ok (.bipush 114, 2) := by decide +kernel
theorem dX6_init_269 : decode cX6_init 269 = .ok (.iastore, 1) := by decide +kernel
theorem dX6_init_270 : decode cX6_init 270 = .ok (.dup, 1) := by decide +kernel
theorem dX6_init_271 : decode cX6_init 271 = .ok (.iconst 3, 1) := by decide +kernel
theorem dX6_init_272 : decode cX6_init 272 = .ok (.bipush 109, 2) := by decide +kernel
theorem dX6_init_274 : decode cX6_init 274 = .ok (.iastore, 1) := by decide +kernel
theorem dX6_init_275 : decode cX6_init 275 = .ok (.dup, 1) := by decide +kernel
theorem dX6_init_276 : decode cX6_init 276 = .ok (.iconst 4, 1) := by decide +kernel
theorem dX6_init_277 : decode cX6_init 277 = .ok (.bipush 97, 2) := by decide +kernel
theorem dX6_init_279 : decode cX6_init 279 = .ok (.iastore, 1) := by decide +kernel
theorem dX6_init_280 : decode cX6_init 280 = .ok (.dup, 1) := by decide +kernel
theorem dX6_init_281 : decode cX6_init 281 = .ok (.iconst 5, 1) := by decide +kernel
theorem dX6_init_282 : decode cX6_init 282 = .ok (.bipush 116, 2) := by decide +kernel
theorem dX6_init_284 : decode cX6_init 284 = .ok (.iastore, 1) := by decide +kernel
theorem dX6_init_285 : decode cX6_init 285 = .ok (.dup, 1) := by decide +kernel
theorem dX6_init_286 : decode cX6_init 286 = .ok (.bipush 6, 2) := by decide +kernel
theorem dX6_init_288 : decode cX6_init 288 = .ok (.bipush 32, 2) := by decide +kernel
theorem dX6_init_290 : decode cX6_init 290 = .ok (.iastore, 1) := by decide +kernel
theorem dX6_init_291 : decode cX6_init 291 = .ok (.dup, 1) := by decide +kernel
theorem dX6_init_292 : decode cX6_init 292 = .ok (.bipush 7, 2) := by decide +kernel
theorem dX6_init_294 : decode cX6_init 294 = .ok (.bipush 108, 2) := by decide +kernel
theorem dX6_init_296 : decode cX6_init 296 = .ok (.iastore, 1) := by decide +kernel
theorem dX6_init_297 : decode cX6_init 297 = .ok (.dup, 1) := by decide +kernel
theorem dX6_init_298 : decode cX6_init 298 = .ok (.bipush 8, 2) := by decide +kernel
theorem dX6_init_300 : decode cX6_init 300 = .ok (.bipush 97, 2) := by decide +kernel
theorem dX6_init_302 : decode cX6_init 302 = .ok (.iastore, 1) := by decide +kernel
theorem dX6_init_303 : decode cX6_init 303 = .ok (.dup, 1) := by decide +kernel
theorem dX6_init_304 : decode cX6_init 304 = .ok (.bipush 9, 2) := by decide +kernel
theorem dX6_init_306 : decode cX6_init 306 = .ok (.bipush 112, 2) := by decide +kernel
theorem dX6_init_308 : decode cX6_init 308 = .ok (.iastore, 1) := by decide +kernel
theorem dX6_init_309 : decode cX6_init 309 = .ok (.dup, 1) := by decide +kernel
theorem dX6_init_310 : decode cX6_init 310 = .ok (.bipush 10, 2) := by decide +kernel
theorem dX6_init_312 : decode cX6_init 312 = .ok (.bipush 115, 2) := by decide +kernel
theorem dX6_init_314 : decode cX6_init 314 = .ok (.iastore, 1) := by decide +kernel
theorem dX6_init_315 : decode cX6_init 315 = .ok (.dup, 1) := by decide +kernel
theorem dX6_init_316 : decode cX6_init 316 = .ok (.bipush 11, 2) := by decide +kernel
theorem dX6_init_318 : decode cX6_init 318 = .ok (.bipush 32, 2) := by decide +kernel
theorem dX6_init_320 : decode cX6_init 320 = .ok (.iastore, 1) := by decide +kernel
theorem dX6_init_321 : decode cX6_init 321 = .ok (.dup, 1) := by decide +kernel
theorem dX6_init_322 : decode cX6_init 322 = .ok (.bipush 12, 2) := by decide +kernel
theorem dX6_init_324 : decode cX6_init 324 = .ok (.bipush 115, 2) := by decide +kernel
theorem dX6_init_326 : decode cX6_init 326 = .ok (.iastore, 1) := by decide +kernel
theorem dX6_init_327 : decode cX6_init 327 = .ok (.dup, 1) := by decide +kernel
theorem dX6_init_328 : decode cX6_init 328 = .ok (.bipush 13, 2) := by decide +kernel
theorem dX6_init_330 : decode cX6_init 330 = .ok (.bipush 104, 2) := by decide +kernel
theorem dX6_init_332 : decode cX6_init 332 = .ok (.iastore, 1) := by decide +kernel
theorem dX6_init_333 : decode cX6_init 333 = .ok (.dup, 1) := by decide +kernel
theorem dX6_init_334 : decode cX6_init 334 = .ok (.bipush 14, 2) := by decide +kernel
theorem dX6_init_336 : decode cX6_init 336 = .ok (.bipush 111, 2) := by decide +kernel
theorem dX6_init_338 : decode cX6_init 338 = .ok (.iastore, 1) := by decide +kernel
theorem dX6_init_339 : decode cX6_init 339 = .ok (.dup, 1) := by decide +kernel
theorem dX6_init_340 : decode cX6_init 340 = .ok (.bipush 15, 2) := by decide +kernel
theorem dX6_init_342 : decode cX6_init 342 = .ok (.bipush 111, 2) := by decide +kernel
theorem dX6_init_344 : decode cX6_init 344 = .ok (.iastore, 1) := by decide +kernel
theorem dX6_init_345 : decode cX6_init 345 = .ok (.dup, 1) := by decide +kernel
theorem dX6_init_346 : decode cX6_init 346 = .ok (.bipush 16, 2) := by decide +kernel
theorem dX6_init_348 : decode cX6_init 348 = .ok (.bipush 116, 2) := by decide +kernel
theorem dX6_init_350 : decode cX6_init 350 = .ok (.iastore, 1) := by decide +kernel
theorem dX6_init_351 : decode cX6_init 351 = .ok (.dup, 1) := by decide +kernel
theorem dX6_init_352 : decode cX6_init 352 = .ok (.bipush 17, 2) := by decide +kernel
theorem dX6_init_354 : decode cX6_init 354 = .ok (.bipush 32, 2) := by decide +kernel
theorem dX6_init_356 : decode cX6_init 356 = .ok (.iastore, 1) := by decide +kernel
theorem dX6_init_357 : decode cX6_init 357 = .ok (.dup, 1) := by decide +kernel
theorem dX6_init_358 : decode cX6_init 358 = .ok (.bipush 18, 2) := by decide +kernel
theorem dX6_init_360 : decode cX6_init 360 = .ok (.bipush 115, 2) := by decide +kernel
theorem dX6_init_362 : decode cX6_init 362 = .ok (.iastore, 1) := by decide +kernel
theorem dX6_init_363 : decode cX6_init 363 = .ok (.dup, 1) := by decide +kernel
theorem dX6_init_364 : decode cX6_init 364 = .ok (.bipush 19, 2) := by decide +kernel
theorem dX6_init_366 : decode cX6_init 366 = .ok (.bipush 112, 2) := by decide +kernel
theorem dX6_init_368 : decode cX6_init 368 = .ok (.iastore, 1) := by decide +kernel
theorem dX6_init_369 : decode cX6_init 369 = .ok (.dup, 1) := by decide +kernel
theorem dX6_init_370 : decode cX6_init 370 = .ok (.bipush 20, 2) := by decide +kernel
theorem dX6_init_372 : decode cX6_init 372 = .ok (.bipush 97, 2) := by decide +kernel
theorem dX6_init_374 : decode cX6_init 374 = .ok (.iastore, 1) := by decide +kernel
theorem dX6_init_375 : decode cX6_init 375 = .ok (.dup, 1) := by decide +kernel
theorem dX6_init_376 : decode cX6_init 376 = .ok (.bipush 21, 2) := by decide +kernel
theorem dX6_init_378 : decode cX6_init 378 = .ok (.bipush 114, 2) := by decide +kernel
theorem dX6_init_380 : decode cX6_init 380 = .ok (.iastore, 1) := by decide +kernel
theorem dX6_init_381 : decode cX6_init 381 = .ok (.dup, 1) := by decide +kernel
theorem dX6_init_382 : decode cX6_init 382 = .ok (.bipush 22, 2) := by decide +kernel
theorem dX6_init_384 : decode cX6_init 384 = .ok (.bipush 101, 2) := by decide +kernel
theorem dX6_init_386 : decode cX6_init 386 = .ok (.iastore, 1) := by decide +kernel
theorem dX6_init_387 : decode cX6_init 387 = .ok (.dup, 1) := by decide +kernel
theorem dX6_init_388 : decode cX6_init 388 = .ok (.bipush 23, 2) := by decide +kernel
theorem dX6_init_390 : decode cX6_init 390 = .ok (.bipush 115, 2) := by decide +kernel
theorem dX6_init_392 : decode cX6_init 392 = .ok (.iastore, 1) := by decide +kernel
theorem dX6_init_393 : decode cX6_init 393 = .ok (.dup, 1) := by decide +kernel
theorem dX6_init_394 : decode cX6_init 394 = .ok (.bipush 24, 2) := by decide +kernel
theorem dX6_init_396 : decode cX6_init 396 = .ok (.bipush 32, 2) := by decide +kernel
theorem dX6_init_398 : decode cX6_init 398 = .ok (.iastore, 1) := by decide +kernel
theorem dX6_init_399 : decode cX6_init 399 = .ok (.dup, 1) := by decide +kernel
theorem dX6_init_400 : decode cX6_init 400 = .ok (.bipush 25, 2) := by decide +kernel
theorem dX6_init_402 : decode cX6_init 402 = .ok (.bipush 109, 2) := by decide +kernel
theorem dX6_init_404 : decode cX6_init 404 = .ok (.iastore, 1) := by decide +kernel
theorem dX6_init_405 : decode cX6_init 405 = .ok (.dup, 1) := by decide +kernel
theorem dX6_init_406 : decode cX6_init 406 = .ok (.bipush 26, 2) := by decide +kernel
theorem dX6_init_408 : decode cX6_init 408 = .ok (.bipush 105, 2) := by decide +kernel
theorem dX6_init_410 : decode cX6_init 410 = .ok (.iastore, 1) := by decide +kernel
theorem dX6_init_411 : decode cX6_init 411 = .ok (.dup, 1) := by decide +kernel
theorem dX6_init_412 : decode cX6_init 412 = .ok (.bipush 27, 2) := by decide +kernel
theorem dX6_init_414 : decode cX6_init 414 = .ok (.bipush 115, 2) := by decide +kernel
theorem dX6_init_416 : decode cX6_init 416 = .ok (.iastore, 1) := by decide +kernel
theorem dX6_init_417 : decode cX6_init 417 = .ok (.dup, 1) := by decide +kernel
theorem dX6_init_418 : decode cX6_init 418 = .ok (.bipush 28, 2) := by decide +kernel
theorem dX6_init_420 : decode cX6_init 420 = .ok (.bipush 115, 2) := by decide +kernel
theorem dX6_init_422 : decode cX6_init 422 = .ok (.iastore, 1) := by decide +kernel
theorem dX6_init_423 : decode cX6_init 423 = .ok (.dup, 1) := by decide +kernel
theorem dX6_init_424 : decode cX6_init 424 = .ok (.bipush 29, 2) := by decide +kernel
theorem dX6_init_426 : decode cX6_init 426 = .ok (.bipush 32, 2) := by decide +kernel
theorem dX6_init_428 : decode cX6_init 428 = .ok (.iastore, 1) := by decide +kernel
theorem dX6_init_429 : decode cX6_init 429 = .ok (.dup, 1) := by decide +kernel
theorem dX6_init_430 : decode cX6_init 430 = .ok (.bipush 30, 2) := by decide +kernel
theorem dX6_init_432 : decode cX6_init 432 = .ok (.bipush 108, 2) := by decide +kernel
theorem dX6_init_434 : decode cX6_init 434 = .ok (.iastore, 1) := by decide +kernel
theorem dX6_init_435 : decode cX6_init 435 = .ok (.dup, 1) := by decide +kernel
theorem dX6_init_436 : decode cX6_init 436 = .ok (.bipush 31, 2) := by decide +kernel
theorem dX6_init_438 : decode cX6_init 438 = .ok (.bipush 111, 2) := by decide +kernel
theorem dX6_init_440 : decode cX6_init 440 = .ok (.iastore, 1) := by decide +kernel
theorem dX6_init_441 : decode cX6_init 441 = .ok (.dup, 1) := by decide +kernel
theorem dX6_init_442 : decode cX6_init 442 = .ok (.bipush 32, 2) := by decide +kernel
theorem dX6_init_444 : decode cX6_init 444 = .ok (.bipush 111, 2) := by decide +kernel
theorem dX6_init_446 : decode cX6_init 446 = .ok (.iastore, 1) := by decide +kernel
theorem dX6_init_447 : decode cX6_init 447 = .ok (.dup, 1) := by decide +kernel
theorem dX6_init_448 : decode cX6_init 448 = .ok (.bipush 33, 2) := by decide +kernel
theorem dX6_init_450 : decode cX6_init 450 = .ok (.bipush 112, 2) := by decide +kernel
theorem dX6_init_452 : decode cX6_init 452 = .ok (.iastore, 1) := by decide +kernel
theorem dX6_init_453 : decode cX6_init 453 = .ok (.dup, 1) := by decide +kernel
theorem dX6_init_454 : decode cX6_init 454 = .ok (.bipush 34, 2) := by decide +kernel
theorem dX6_init_456 : decode cX6_init 456 = .ok (.bipush 32, 2) := by decide +kernel
theorem dX6_init_458 : decode cX6_init 458 = .ok (.iastore, 1) := by decide +kernel
theorem dX6_init_459 : decode cX6_init 459 = .ok (.dup, 1) := by decide +kernel
theorem dX6_init_460 : decode cX6_init 460 = .ok (.bipush 35, 2) := by decide +kernel
theorem dX6_init_462 : decode cX6_init 462 = .ok (.bipush 97, 2) := by decide +kernel
theorem dX6_init_464 : decode cX6_init 464 = .ok (.iastore, 1) := by decide +kernel
theorem dX6_init_465 : decode cX6_init 465 = .ok (.dup, 1) := by decide +kernel
end
section
theorem dX6_init_466 : decode cX6_init 466 = .ok (.bipush 36, 2) := by decide +kernel
theorem dX6_init_468 : decode cX6_init 468 = .ok (.bipush 100, 2) := by decide +kernel
theorem dX6_init_470 : decode cX6_init 470 = .ok (.iastore, 1) := by decide +kernel
theorem dX6_init_471 : decode cX6_init 471 = .ok (.dup, 1) := by decide +kernel
theorem dX6_init_472 : decode cX6_init 472 = .ok (.bipush 37, 2) := by decide +kernel
theorem dX6_init_474 : decode cX6_init 474 = .ok (.bipush 100, 2) := by decide +kernel
theorem dX6_init_476 : decode cX6_init 476 = .ok (.iastore, 1) := by decide +kernel
theorem dX6_init_477 : decode cX6_init 477 = .ok (.dup, 1) := by decide +kernel
theorem dX6_init_478 : decode cX6_init 478 = .ok (.bipush 38, 2) := by decide +kernel
theorem dX6_init_480 : decode cX6_init 480 = .ok (.bipush 32, 2) := by decide +kernel
theorem dX6_init_482 : decode cX6_init 482 = .ok (.iastore, 1) := by decide +kernel
theorem dX6_init_483 : decode cX6_init 483 = .ok (.dup, 1) := by decide +kernel
theorem dX6_init_484 : decode cX6_init 484 = .ok (.bipush 39, 2) := by decide +kernel
theorem dX6_init_486 : decode cX6_init 486 = .ok (.bipush 115, 2) := by decide +kernel
theorem dX6_init_488 : decode cX6_init 488 = .ok (.iastore, 1) := by decide +kernel
theorem dX6_init_489 : decode cX6_init 489 = .ok (.dup, 1) := by decide +kernel
theorem dX6_init_490 : decode cX6_init 490 = .ok (.bipush 40, 2) := by decide +kernel
theorem dX6_init_492 : decode cX6_init 492 = .ok (.bipush 116, 2) := by decide +kernel
theorem dX6_init_494 : decode cX6_init 494 = .ok (.iastore, 1) := by decide +kernel
theorem dX6_init_495 : decode cX6_init 495 = .ok (.dup, 1) := by decide +kernel
theorem dX6_init_496 : decode cX6_init 496 = .ok (.bipush 41, 2) := by decide +kernel
theorem dX6_init_498 : decode cX6_init 498 = .ok (.bipush 97, 2) := by decide +kernel
theorem dX6_init_500 : decode cX6_init 500 = .ok (.iastore, 1) := by decide +kernel
theorem dX6_init_501 : decode cX6_init 501 = .ok (.dup, 1) := by decide +kernel
theorem dX6_init_502 : decode cX6_init 502 = .ok (.bipush 42, 2) := by decide +kernel
theorem dX6_init_504 : decode cX6_init 504 = .ok (.bipush 114, 2) := by decide +kernel
theorem dX6_init_506 : decode cX6_init 506 = .ok (.iastore, 1) := by decide +kernel
theorem dX6_init_507 : decode cX6_init 507 = .ok (.dup, 1) := by decide +kernel
theorem dX6_init_508 : decode cX6_init 508 = .ok (.bipush 43, 2) := by decide +kernel
theorem dX6_init_510 : decode cX6_init 510 = .ok (.bipush 116, 2) := by decide +kernel
theorem dX6_init_512 : decode cX6_init 512 = .ok (.iastore, 1) := by decide +kernel
theorem dX6_init_513 : decode cX6_init 513 = .ok (.dup, 1) := by decide +kernel
theorem dX6_init_514 : decode cX6_init 514 = .ok (.bipush 44, 2) := by decide +kernel
theorem dX6_init_516 : decode cX6_init 516 = .ok (.bipush 32, 2) := by decide +kernel
theorem dX6_init_518 : decode cX6_init 518 = .ok (.iastore, 1) := by decide +kernel
theorem dX6_init_519 : decode cX6_init 519 = .ok (.dup, 1) := by decide +kernel
theorem dX6_init_520 : decode cX6_init 520 = .ok (.bipush 45, 2) := by decide +kernel
theorem dX6_init_522 : decode cX6_init 522 = .ok (.bipush 109, 2) := by decide +kernel
theorem dX6_init_524 : decode cX6_init 524 = .ok (.iastore, 1) := by decide +kernel
theorem dX6_init_525 : decode cX6_init 525 = .ok (.dup, 1) := by decide +kernel
theorem dX6_init_526 : decode cX6_init 526 = .ok (.bipush 46, 2) := by decide +kernel
theorem dX6_init_528 : decode cX6_init 528 = .ok (.bipush 97, 2) := by decide +kernel
theorem dX6_init_530 : decode cX6_init 530 = .ok (.iastore, 1) := by decide +kernel
theorem dX6_init_531 : decode cX6_init 531 = .ok (.dup, 1) := by decide +kernel
theorem dX6_init_532 : decode cX6_init 532 = .ok (.bipush 47, 2) := by decide +kernel
theorem dX6_init_534 : decode cX6_init 534 = .ok (.bipush 115, 2) := by decide +kernel
theorem dX6_init_536 : decode cX6_init 536 = .ok (.iastore, 1) := by decide +kernel
theorem dX6_init_537 : decode cX6_init 537 = .ok (.dup, 1) := by decide +kernel
theorem dX6_init_538 : decode cX6_init 538 = .ok (.bipush 48, 2) := by decide +kernel
theorem dX6_init_540 : decode cX6_init 540 = .ok (.bipush 115, 2) := by decide +kernel
theorem dX6_init_542 : decode cX6_init 542 = .ok (.iastore, 1) := by decide +kernel
theorem dX6_init_543 : decode cX6_init 543 = .ok (.dup, 1) := by decide +kernel
theorem dX6_init_544 : decode cX6_init 544 = .ok (.bipush 49, 2) := by decide +kernel
theorem dX6_init_546 : decode cX6_init 546 = .ok (.bipush 32, 2) := by decide +kernel
theorem dX6_init_548 : decode cX6_init 548 = .ok (.iastore, 1) := by decide +kernel
theorem dX6_init_549 : decode cX6_init 549 = .ok (.dup, 1) := by decide +kernel
theorem dX6_init_550 : decode cX6_init 550 = .ok (.bipush 50, 2) := by decide +kernel
theorem dX6_init_552 : decode cX6_init 552 = .ok (.bipush 101, 2) := by decide +kernel
theorem dX6_init_554 : decode cX6_init 554 = .ok (.iastore, 1) := by decide +kernel
theorem dX6_init_555 : decode cX6_init 555 = .ok (.dup, 1) := by decide +kernel
theorem dX6_init_556 : decode cX6_init 556 = .ok (.bipush 51, 2) := by decide +kernel
theorem dX6_init_558 : decode cX6_init 558 = .ok (.bipush 118, 2) := by decide +kernel
theorem dX6_init_560 : decode cX6_init 560 = .ok (.iastore, 1) := by decide +kernel
theorem dX6_init_561 : decode cX6_init 561 = .ok (.dup, 1) := by decide +kernel
theorem dX6_init_562 : decode cX6_init 562 = .ok (.bipush 52, 2) := by decide +kernel
theorem dX6_init_564 : decode cX6_init 564 = .ok (.bipush 101, 2) := by decide +kernel
theorem dX6_init_566 : decode cX6_init 566 = .ok (.iastore, 1) := by decide +kernel
theorem dX6_init_567 : decode cX6_init 567 = .ok (.dup, 1) := by decide +kernel
theorem dX6_init_568 : decode cX6_init 568 = .ok (.bipush 53, 2) := by decide +kernel
theorem dX6_init_570 : decode cX6_init 570 = .ok (.bipush 114, 2) := by decide +kernel
theorem dX6_init_572 : decode cX6_init 572 = .ok (.iastore, 1) := by decide +kernel
theorem dX6_init_573 : decode cX6_init 573 = .ok (.dup, 1) := by decide +kernel
theorem dX6_init_574 : decode cX6_init 574 = .ok (.bipush 54, 2) := by decide +kernel
theorem dX6_init_576 : decode cX6_init 576 = .ok (.bipush 121, 2) := by decide +kernel
theorem dX6_init_578 : decode cX6_init 578 = .ok (.iastore, 1) := by decide +kernel
theorem dX6_init_579 : decode cX6_init 579 = .ok (.dup, 1) := by decide +kernel
theorem dX6_init_580 : decode cX6_init 580 = .ok (.bipush 55, 2) := by decide +kernel
theorem dX6_init_582 : decode cX6_init 582 = .ok (.bipush 32, 2) := by decide +kernel
theorem dX6_init_584 : decode cX6_init 584 = .ok (.iastore, 1) := by decide +kernel
theorem dX6_init_585 : decode cX6_init 585 = .ok (.dup, 1) := by decide +kernel
theorem dX6_init_586 : decode cX6_init 586 = .ok (.bipush 56, 2) := by decide +kernel
theorem dX6_init_588 : decode cX6_init 588 = .ok (.bipush 99, 2) := by decide +kernel
theorem dX6_init_590 : decode cX6_init 590 = .ok (.iastore, 1) := by decide +kernel
theorem dX6_init_591 : decode cX6_init 591 = .ok (.dup, 1) := by decide +kernel
theorem dX6_init_592 : decode cX6_init 592 = .ok (.bipush 57, 2) := by decide +kernel
theorem dX6_init_594 : decode cX6_init 594 = .ok (.bipush 104, 2) := by decide +kernel
theorem dX6_init_596 : decode cX6_init 596 = .ok (.iastore, 1) := by decide +kernel
theorem dX6_init_597 : decode cX6_init 597 = .ok (.dup, 1) := by decide +kernel
theorem dX6_init_598 : decode cX6_init 598 = .ok (.bipush 58, 2) := by decide +kernel
theorem dX6_init_600 : decode cX6_init 600 = .ok (.bipush 97, 2) := by decide +kernel
theorem dX6_init_602 : decode cX6_init 602 = .ok (.iastore, 1) := by decide +kernel
theorem dX6_init_603 : decode cX6_init 603 = .ok (.dup, 1) := by decide +kernel
theorem dX6_init_604 : decode cX6_init 604 = .ok (.bipush 59, 2) := by decide +kernel
theorem dX6_init_606 : decode cX6_init 606 = .ok (.bipush 115, 2) := by decide +kernel
theorem dX6_init_608 : decode cX6_init 608 = .ok (.iastore, 1) := by decide +kernel
theorem dX6_init_609 : decode cX6_init 609 = .ok (.dup, 1) := by decide +kernel
theorem dX6_init_610 : decode cX6_init 610 = .ok (.bipush 60, 2) := by decide +kernel
theorem dX6_init_612 : decode cX6_init 612 = .ok (.bipush 101, 2) := by decide +kernel
theorem dX6_init_614 : decode cX6_init 614 = .ok (.iastore, 1) := by decide +kernel
theorem dX6_init_615 : decode cX6_init 615 = .ok (.dup, 1) := by decide +kernel
theorem dX6_init_616 : decode cX6_init 616 = .ok (.bipush 61, 2) := by decide +kernel
theorem dX6_init_618 : decode cX6_init 618 = .ok (.bipush 32, 2) := by decide +kernel
theorem dX6_init_620 : decode cX6_init 620 = .ok (.iastore, 1) := by decide +kernel
theorem dX6_init_621 : decode cX6_init 621 = .ok (.putfield 102, 3) := by decide +kernel
theorem dX6_init_624 : decode cX6_init 624 = .ok (.aload_n 0, 1) := by decide +kernel
theorem dX6_init_625 : decode cX6_init 625 = .ok (.sipush 128, 3) := by decide +kernel
theorem dX6_init_628 : decode cX6_init 628 = .ok (.newarray .int, 2) := by decide +kernel
theorem dX6_init_630 : decode cX6_init 630 = .ok (.putfield 105, 3) := by decide +kernel
theorem dX6_init_633 : decode cX6_init 633 = .ok (.aload_n 0, 1) := by decide +kernel
theorem dX6_init_634 : decode cX6_init 634 = .ok (.sipush 128, 3) := by decide +kernel
theorem dX6_init_637 : decode cX6_init 637 = .ok (.newarray .int, 2) := by decide +kernel
theorem dX6_init_639 : decode cX6_init 639 = .ok (.putfield 108, 3) := by decide +kernel
theorem dX6_init_642 : decode cX6_init 642 = .ok (.aload_n 0, 1) := by decide +kernel
theorem dX6_init_643 : decode cX6_init 643 = .ok (.sipush 128, 3) := by decide +kernel
theorem dX6_init_646 : decode cX6_init 646 = .ok (.newarray .int, 2) := by decide +kernel
theorem dX6_init_648 : decode cX6_init 648 = .ok (.putfield 111, 3) := by decide +kernel
theorem dX6_init_651 : decode cX6_init 651 = .ok (.aload_n 0, 1) := by decide +kernel
theorem dX6_init_652 : decode cX6_init 652 = .ok (.sipush 128, 3) := by decide +kernel
theorem dX6_init_655 : decode cX6_init 655 = .ok (.newarray .int, 2) := by decide +kernel
theorem dX6_init_657 : decode cX6_init 657 = .ok (.putfield 114, 3) := by decide +kernel
theorem dX6_init_660 : decode cX6_init 660 = .ok (.aload_n 0, 1) := by decide +kernel
theorem dX6_init_661 : decode cX6_init 661 = .ok (.sipush 128, 3) := by decide +kernel
theorem dX6_init_664 : decode cX6_init 664 = .ok (.newarray .int, 2) := by decide +kernel
theorem dX6_init_666 : decode cX6_init 666 = .ok (.putfield 117, 3) := by decide +kernel
theorem dX6_init_669 : decode cX6_init 669 = .ok (.aload_n 0, 1) := by decide +kernel
theorem dX6_init_670 : decode cX6_init 670 = .ok (.bipush 16, 2) := by decide +kernel
theorem dX6_init_672 : decode cX6_init 672 = .ok (.newarray .int, 2) := by decide +kernel
theorem dX6_init_674 : decode cX6_init 674 = .ok (.putfield 120, 3) := by decide +kernel
theorem dX6_init_677 : decode cX6_init 677 = .ok (.aload_n 0, 1) := by decide +kernel
theorem dX6_init_678 : decode cX6_init 678 = .ok (.bipush 16, 2) := by decide +kernel
theorem dX6_init_680 : decode cX6_init 680 = .ok (.newarray .int, 2) := by decide +kernel
theorem dX6_init_682 : decode cX6_init 682 = .ok (.putfield 123, 3) := by decide +kernel
theorem dX6_init_685 : decode cX6_init 685 = .ok (.iconst 0, 1) := by decide +kernel
theorem dX6_init_686 : decode cX6_init 686 = .ok (.istore_n 1, 1) := by decide +kernel
theorem dX6_init_687 : decode cX6_init 687 = .ok (.iload_n 1, 1) := by decide +kernel
theorem dX6_init_688 : decode cX6_init 688 = .ok (.sipush 128, 3) := by decide +kernel
theorem dX6_init_691 : decode cX6_init 691 = .ok (.if_icmp .ge 16, 3) := by decide +kernel
theorem dX6_init_694 : decode cX6_init 694 = .ok (.aload_n 0, 1) := by decide +kernel
theorem dX6_init_695 : decode cX6_init 695 = .ok (.getfield 81, 3) := by decide +kernel
theorem dX6_init_698 : decode cX6_init 698 = .ok (.iload_n 1, 1) := by decide +kernel
theorem dX6_init_699 : decode cX6_init 699 = .ok (.iconst (-1), 1) := by decide +kernel
theorem dX6_init_700 : decode cX6_init 700 = .ok (.iastore, 1) := by decide +kernel
theorem dX6_init_701 : decode cX6_init 701 = .ok (.iinc 1 1, 3) := by decide +kernel
theorem dX6_init_704 : decode cX6_init 704 = .ok (.goto (-17), 3) := by decide +kernel
theorem dX6_init_707 : decode cX6_init 707 = .ok (.return_, 1) := by decide +kernel
theorem dX6_thrown_0 : decode cX6_thrown 0 = .ok (.aload_n 0, 1) := by decide +kernel
theorem dX6_thrown_1 : decode cX6_thrown 1 = .ok (.getfield 126, 3) := by decide +kernel
theorem dX6_thrown_4 : decode cX6_thrown 4 = .ok (.ireturn, 1) := by decide +kernel
theorem dX6_feed_0 : decode cX6_feed 0 = .ok (.aload_n 0, 1) := by decide +kernel
theorem dX6_feed_1 : decode cX6_feed 1 = .ok (.iconst 0, 1) := by decide +kernel
theorem dX6_feed_2 : decode cX6_feed 2 = .ok (.putfield 126, 3) := by decide +kernel
theorem dX6_feed_5 : decode cX6_feed 5 = .ok (.aload_n 0, 1) := by decide +kernel
theorem dX6_feed_6 : decode cX6_feed 6 = .ok (.getfield 129, 3) := by decide +kernel
theorem dX6_feed_9 : decode cX6_feed 9 = .ok (.bipush 20, 2) := by decide +kernel
theorem dX6_feed_11 : decode cX6_feed 11 = .ok (.iadd, 1) := by decide +kernel
theorem dX6_feed_12 : decode cX6_feed 12 = .ok (.sipush 1000, 3) := by decide +kernel
theorem dX6_feed_15 : decode cX6_feed 15 = .ok (.if_icmp .le 5, 3) := by decide +kernel
theorem dX6_feed_20 : decode cX6_feed 20 = .ok (.iconst 0, 1) := by decide +kernel
theorem dX6_feed_21 : decode cX6_feed 21 = .ok (.istore 6, 2) := by decide +kernel
theorem dX6_feed_23 : decode cX6_feed 23 = .ok (.iload 6, 2) := by decide +kernel
theorem dX6_feed_25 : decode cX6_feed 25 = .ok (.bipush 20, 2) := by decide +kernel
theorem dX6_feed_27 : decode cX6_feed 27 = .ok (.if_icmp .ge 86, 3) := by decide +kernel
theorem dX6_feed_30 : decode cX6_feed 30 = .ok (.iload 6, 2) := by decide +kernel
theorem dX6_feed_32 : decode cX6_feed 32 = .ok (.iconst 4, 1) := by decide +kernel
theorem dX6_feed_33 : decode cX6_feed 33 = .ok (.if_icmp .ge 7, 3) := by decide +kernel
theorem dX6_feed_36 : decode cX6_feed 36 = .ok (.iload_n 1, 1) := by decide +kernel
theorem dX6_feed_37 : decode cX6_feed 37 = .ok (.goto 39, 3) := by decide +kernel
theorem dX6_feed_40 : decode cX6_feed 40 = .ok (.iload 6, 2) := by decide +kernel
theorem dX6_feed_42 : decode cX6_feed 42 = .ok (.bipush 8, 2) := by decide +kernel
theorem dX6_feed_44 : decode cX6_feed 44 = .ok (.if_icmp .ge 7, 3) := by decide +kernel
theorem dX6_feed_47 : decode cX6_feed 47 = .ok (.iload_n 2, 1) := by decide +kernel
theorem dX6_feed_48 : decode cX6_feed 48 = .ok (.goto 28, 3) := by decide +kernel
theorem dX6_feed_51 : decode cX6_feed 51 = .ok (.iload 6, 2) := by decide +kernel
theorem dX6_feed_53 : decode cX6_feed 53 = .ok (.bipush 12, 2) := by decide +kernel
theorem dX6_feed_55 : decode cX6_feed 55 = .ok (.if_icmp .ge 7, 3) := by decide +kernel
theorem dX6_feed_58 : decode cX6_feed 58 = .ok (.iload_n 3, 1) := by decide +kernel
theorem dX6_feed_59 : decode cX6_feed 59 = .ok (.goto 17, 3) := by decide +kernel
theorem dX6_feed_62 : decode cX6_feed 62 = .ok (.iload 6, 2) := by decide +kernel
theorem dX6_feed_64 : decode cX6_feed 64 = .ok (.bipush 16, 2) := by decide +kernel
theorem dX6_feed_66 : decode cX6_feed 66 = .ok (.if_icmp .ge 8, 3) := by decide +kernel
theorem dX6_feed_69 : decode cX6_feed 69 = .ok (.iload 4, 2) := by decide +kernel
theorem dX6_feed_71 : decode cX6_feed 71 = .ok (.goto 5, 3) := by decide +kernel
theorem dX6_feed_74 : decode cX6_feed 74 = .ok (.iload 5, 2) := by decide +kernel
theorem dX6_feed_76 : decode cX6_feed 76 = .ok (.istore 7, 2) := by decide +kernel
theorem dX6_feed_78 : decode cX6_feed 78 = .ok (.aload_n 0, 1) := by decide +kernel
theorem dX6_feed_79 : decode cX6_feed 79 = .ok (.getfield 7, 3) := by decide +kernel
theorem dX6_feed_82 : decode cX6_feed 82 = .ok (.aload_n 0, 1) := by decide +kernel
theorem dX6_feed_83 : decode cX6_feed 83 = .ok (.getfield 129, 3) := by decide +kernel
theorem dX6_feed_86 : decode cX6_feed 86 = .ok (.iload 6, 2) := by decide +kernel
theorem dX6_feed_88 : decode cX6_feed 88 = .ok (.iadd, 1) := by decide +kernel
theorem dX6_feed_89 : decode cX6_feed 89 = .ok (.iload 7, 2) := by decide +kernel
theorem dX6_feed_91 : decode cX6_feed 91 = .ok (.bipush 24, 2) := by decide +kernel
theorem dX6_feed_93 : decode cX6_feed 93 = .ok (.bipush 8, 2) := by decide +kernel
theorem dX6_feed_95 : decode cX6_feed 95 = .ok (.iload 6, 2) := by decide +kernel
theorem dX6_feed_97 : decode cX6_feed 97 = .ok (.iconst 4, 1) := by decide +kernel
theorem dX6_feed_98 : decode cX6_feed 98 = .ok (.irem, 1) := by decide +kernel
theorem dX6_feed_99 : decode cX6_feed 99 = .ok (.imul, 1) := by decide +kernel
theorem dX6_feed_100 : decode cX6_feed 100 = .ok (.isub, 1) := by decide +kernel
theorem dX6_feed_101 : decode cX6_feed 101 = .ok (.ishr, 1) := by decide +kernel
theorem dX6_feed_102 : decode cX6_feed 102 = .ok (.sipush 255, 3) := by decide +kernel
theorem dX6_feed_105 : decode cX6_feed 105 = .ok (.iand, 1) := by decide +kernel
theorem dX6_feed_106 : decode cX6_feed 106 = .ok (.iastore, 1) := by decide +kernel
theorem dX6_feed_107 : decode cX6_feed 107 = .ok (.iinc 6 1, 3) := by decide +kernel
theorem dX6_feed_110 : decode cX6_feed 110 = .ok (.goto (-87), 3) := by decide +kernel
theorem dX6_feed_113 : decode cX6_feed 113 = .ok (.aload_n 0, 1) := by decide +kernel
theorem dX6_feed_114 : decode cX6_feed 114 = .ok (.dup, 1) := by decide +kernel
theorem dX6_feed_115 : decode cX6_feed 115 = .ok (.getfield 129, 3) := by decide +kernel
theorem dX6_feed_118 : decode cX6_feed 118 = .ok (.bipush 20, 2) := by decide +kernel
theorem dX6_feed_120 : decode cX6_feed 120 = .ok (.iadd, 1) := by decide +kernel
theorem dX6_feed_121 : decode cX6_feed 121 = .ok (.putfield 129, 3) := by decide +kernel
theorem dX6_feed_124 : decode cX6_feed 124 = .ok (.aload_n 0, 1) := by decide +kernel
theorem dX6_feed_125 : decode cX6_feed 125 = .ok (.getfield 129, 3) := by decide +kernel
theorem dX6_feed_128 : decode cX6_feed 128 = .ok (.ireturn, 1) := by decide +kernel
theorem dX6_take_0 : decode cX6_take 0 = .ok (.aload_n 0, 1) := by decide +kernel
theorem dX6_take_1 : decode cX6_take 1 = .ok (.getfield 138, 3) := by decide +kernel
theorem dX6_take_4 : decode cX6_take 4 = .ok (.aload_n 0, 1) := by decide +kernel
theorem dX6_take_5 : decode cX6_take 5 = .ok (.getfield 135, 3) := by decide +kernel
theorem dX6_take_8 : decode cX6_take 8 = .ok (.if_icmp .ge 44, 3) := by decide +kernel
theorem dX6_take_52 : decode cX6_take 52 = .ok (.aload_n 0, 1) := by decide +kernel
theorem dX6_take_53 : decode cX6_take 53 = .ok (.aload_n 0, 1) := by decide +kernel
theorem dX6_take_54 : decode cX6_take 54 = .ok (.getfield 138, 3) := by decide +kernel
theorem dX6_take_57 : decode cX6_take 57 = .ok (.putfield 141, 3) := by decide +kernel
theorem dX6_take_60 : decode cX6_take 60 = .ok (.aload_n 0, 1) := by decide +kernel
theorem dX6_take_61 : decode cX6_take 61 = .ok (.getfield 138, 3) := by decide +kernel
theorem dX6_take_64 : decode cX6_take 64 = .ok (.aload_n 0, 1) := by decide +kernel
theorem dX6_take_65 : decode cX6_take 65 = .ok (.getfield 135, 3) := by decide +kernel
theorem dX6_take_68 : decode cX6_take 68 = .ok (.if_icmp .ne 11, 3) := by decide +kernel
theorem dX6_take_71 : decode cX6_take 71 = .ok (.aload_n 0, 1) := by decide +kernel
theorem dX6_take_72 : decode cX6_take 72 = .ok (.iconst 0, 1) := by decide +kernel
theorem dX6_take_73 : decode cX6_take 73 = .ok (.putfield 144, 3) := by decide +kernel
theorem dX6_take_76 : decode cX6_take 76 = .ok (.goto 239, 3) := by decide +kernel
theorem dX6_take_315 : decode cX6_take 315 = .ok (.return_, 1) := by decide +kernel
theorem dX6_formats_0 : decode cX6_formats 0 = .ok (.aload_n 0, 1) := by decide +kernel
theorem dX6_formats_1 : decode cX6_formats 1 = .ok (.iconst 0, 1) := by decide +kernel
theorem dX6_formats_2 : decode cX6_formats 2 = .ok (.putfield 126, 3) := by decide +kernel
theorem dX6_formats_5 : decode cX6_formats 5 = .ok (.iload_n 1, 1) := by decide +kernel
theorem dX6_formats_6 : decode cX6_formats 6 = .ok (.ifCond .lt 11, 3) := by decide +kernel
theorem dX6_formats_9 : decode cX6_formats 9 = .ok (.iload_n 1, 1) := by decide +kernel
theorem dX6_formats_10 : decode cX6_formats 10 = .ok (.aload_n 0, 1) := by decide +kernel
theorem dX6_formats_11 : decode cX6_formats 11 = .ok (.getfield 129, 3) := by decide +kernel
theorem dX6_formats_14 : decode cX6_formats 14 = .ok (.if_icmp .le 6, 3) := by decide +kernel
theorem dX6_formats_17 : decode cX6_formats 17 = .ok (.bipush (-2), 2) := by decide +kernel
theorem dX6_formats_19 : decode cX6_formats 19 = .ok (.ireturn, 1) := by decide +kernel
theorem dX6_formats_20 : decode cX6_formats 20 = .ok (.aload_n 0, 1) := by decide +kernel
theorem dX6_formats_21 : decode cX6_formats 21 = .ok (.iload_n 1, 1) := by decide +kernel
theorem dX6_formats_22 : decode cX6_formats 22 = .ok (.putfield 135, 3) := by decide +kernel
theorem dX6_formats_25 : decode cX6_formats 25 = .ok (.aload_n 0, 1) := by decide +kernel
theorem dX6_formats_26 : decode cX6_formats 26 = .ok (.iconst 0, 1) := by decide +kernel
theorem dX6_formats_27 : decode cX6_formats 27 = .ok (.putfield 129, 3) := by decide +kernel
theorem dX6_formats_30 : decode cX6_formats 30 = .ok (.aload_n 0, 1) := by decide +kernel
theorem dX6_formats_31 : decode cX6_formats 31 = .ok (.iconst 0, 1) := by decide +kernel
theorem dX6_formats_32 : decode cX6_formats 32 = .ok (.putfield 132, 3) := by decide +kernel
theorem dX6_formats_35 : decode cX6_formats 35 = .ok (.aload_n 0, 1) := by decide +kernel
theorem dX6_formats_36 : decode cX6_formats 36 = .ok (.iconst (-1), 1) := by decide +kernel
theorem dX6_formats_37 : decode cX6_formats 37 = .ok (.putfield 38, 3) := by decide +kernel
theorem dX6_formats_40 : decode cX6_formats 40 = .ok (.bipush 8, 2) := by decide +kernel
theorem dX6_formats_42 : decode cX6_formats 42 = .ok (.istore_n 2, 1) := by decide +kernel
theorem dX6_formats_43 : decode cX6_formats 43 = .ok (.iload_n 2, 1) := by decide +kernel
theorem dX6_formats_44 : decode cX6_formats 44 = .ok (.bipush 16, 2) := by decide +kernel
theorem dX6_formats_46 : decode cX6_formats 46 = .ok (.if_icmp .ge 16, 3) := by decide +kernel
theorem dX6_formats_49 : decode cX6_formats 49 = .ok (.aload_n 0, 1) := by decide +kernel
theorem dX6_formats_50 : decode cX6_formats 50 = .ok (.getfield 13, 3) := by decide +kernel
theorem dX6_formats_53 : decode cX6_formats 53 = .ok (.iload_n 2, 1) := by decide +kernel
theorem dX6_formats_54 : decode cX6_formats 54 = .ok (.iconst 0, 1) := by decide +kernel
theorem dX6_formats_55 : decode cX6_formats 55 = .ok (.iastore, 1) := by decide +kernel
theorem dX6_formats_56 : decode cX6_formats 56 = .ok (.iinc 2 1, 3) := by decide +kernel
theorem dX6_formats_59 : decode cX6_formats 59 = .ok (.goto (-16), 3) := by decide +kernel
theorem dX6_formats_62 : decode cX6_formats 62 = .ok (.aload_n 0, 1) := by decide +kernel
theorem dX6_formats_63 : decode cX6_formats 63 = .ok (.iconst 0, 1) := by decide +kernel
theorem dX6_formats_64 : decode cX6_formats 64 = .ok (.putfield 138, 3) := by decide +kernel
theorem dX6_formats_67 : decode cX6_formats 67 = .ok (.iconst 0, 1) := by decide +kernel
theorem dX6_formats_68 : decode cX6_formats 68 = .ok (.istore_n 2, 1) := by decide +kernel
theorem dX6_formats_69 : decode cX6_formats 69 = .ok (.aload_n 0, 1) := by decide +kernel
theorem dX6_formats_70 : decode cX6_formats 70 = .ok (.invokevirtual 166, 3) := by decide +kernel
theorem dX6_formats_73 : decode cX6_formats 73 = .ok (.aload_n 0, 1) := by decide +kernel
theorem dX6_formats_74 : decode cX6_formats 74 = .ok (.getfield 144, 3) := by decide +kernel
theorem dX6_formats_77 : decode cX6_formats 77 = .ok (.ifCond .eq 18, 3) := by decide +kernel
theorem dX6_formats_95 : decode cX6_formats 95 = .ok (.aload_n 0, 1) := by decide +kernel
theorem dX6_formats_96 : decode cX6_formats 96 = .ok (.iload_n 2, 1) := by decide +kernel
theorem dX6_formats_97 : decode cX6_formats 97 = .ok (.putfield 191, 3) := by decide +kernel
theorem dX6_formats_100 : decode cX6_formats 100 = .ok (.iconst 0, 1) := by decide +kernel
theorem dX6_formats_101 : decode cX6_formats 101 = .ok (.istore_n 3, 1) := by decide +kernel
theorem dX6_formats_102 : decode cX6_formats 102 = .ok (.iload_n 3, 1) := by decide +kernel
theorem dX6_formats_103 : decode cX6_formats 103 = .ok (.bipush 8, 2) := by decide +kernel
theorem dX6_formats_105 : decode cX6_formats 105 = .ok (.if_icmp .ge 114, 3) := by decide +kernel
theorem dX6_formats_108 : decode cX6_formats 108 = .ok (.aload_n 0, 1) := by decide +kernel
theorem dX6_formats_109 : decode cX6_formats 109 = .ok (.getfield 13, 3) := by decide +kernel
theorem dX6_formats_112 : decode cX6_formats 112 = .ok (.iload_n 3, 1) := by decide +kernel
theorem dX6_formats_113 : decode cX6_formats 113 = .ok (.aload_n 0, 1) := by decide +kernel
theorem dX6_formats_114 : decode cX6_formats 114 = .ok (.getfield 13, 3) := by decide +kernel
theorem dX6_formats_117 : decode cX6_formats 117 = .ok (.bipush 8, 2) := by decide +kernel
theorem dX6_formats_119 : decode cX6_formats 119 = .ok (.iload_n 3, 1) := by decide +kernel
theorem dX6_formats_120 : decode cX6_formats 120 = .ok (.iadd, 1) := by decide +kernel
theorem dX6_formats_121 : decode cX6_formats 121 = .ok (.iaload, 1) := by decide +kernel
theorem dX6_formats_122 : decode cX6_formats 122 = .ok (.iastore, 1) := by decide +kernel
theorem dX6_formats_123 : decode cX6_formats 123 = .ok (.aload_n 0, 1) := by decide +kernel
theorem dX6_formats_124 : decode cX6_formats 124 = .ok (.getfield 16, 3) := by decide +kernel
theorem dX6_formats_127 : decode cX6_formats 127 = .ok (.iload_n 3, 1) := by decide +kernel
theorem dX6_formats_128 : decode cX6_formats 128 = .ok (.aload_n 0, 1) := by decide +kernel
theorem dX6_formats_129 : decode cX6_formats 129 = .ok (.getfield 16, 3) := by decide +kernel
theorem dX6_formats_132 : decode cX6_formats 132 = .ok (.bipush 8, 2) := by decide +kernel
theorem dX6_formats_134 : decode cX6_formats 134 = .ok (.iload_n 3, 1) := by decide +kernel
theorem dX6_formats_135 : decode cX6_formats 135 = .ok (.iadd, 1) := by decide +kernel
theorem dX6_formats_136 : decode cX6_formats 136 = .ok (.iaload, 1) := by decide +kernel
theorem dX6_formats_137 : decode cX6_formats 137 = .ok (.iastore, 1) := by decide +kernel
theorem dX6_formats_138 : decode cX6_formats 138 = .ok (.aload_n 0, 1) := by decide +kernel
theorem dX6_formats_139 : decode cX6_formats 139 = .ok (.getfield 22, 3) := by decide +kernel
theorem dX6_formats_142 : decode cX6_formats 142 = .ok (.iload_n 3, 1) := by decide +kernel
theorem dX6_formats_143 : decode cX6_formats 143 = .ok (.aload_n 0, 1) := by decide +kernel
theorem dX6_formats_144 : decode cX6_formats 144 = .ok (.getfield 22, 3) := by decide +kernel
theorem dX6_formats_147 : decode cX6_formats 147 = .ok (.bipush 8, 2) := by decide +kernel
theorem dX6_formats_149 : decode cX6_formats 149 = .ok (.iload_n 3, 1) := by decide +kernel
theorem dX6_formats_150 : decode cX6_formats 150 = .ok (.iadd, 1) := by decide +kernel
theorem dX6_formats_151 : decode cX6_formats 151 = .ok (.iaload, 1) := by decide +kernel
theorem dX6_formats_152 : decode cX6_formats 152 = .ok (.iastore, 1) := by decide +kernel
theorem dX6_formats_153 : decode cX6_formats 153 = .ok (.aload_n 0, 1) := by decide +kernel
theorem dX6_formats_154 : decode cX6_formats 154 = .ok (.getfield 25, 3) := by decide +kernel
theorem dX6_formats_157 : decode cX6_formats 157 = .ok (.iload_n 3, 1) := by decide +kernel
theorem dX6_formats_158 : decode cX6_formats 158 = .ok (.aload_n 0, 1) := by decide +kernel
theorem dX6_formats_159 : decode cX6_formats 159 = .ok (.getfield 25, 3) := by decide +kernel
theorem dX6_formats_162 : decode cX6_formats 162 = .ok (.bipush 8, 2) := by decide +kernel
theorem dX6_formats_164 : decode cX6_formats 164 = .ok (.iload_n 3, 1) := by decide +kernel
theorem dX6_formats_165 : decode cX6_formats 165 = .ok (.iadd, 1) := by decide +kernel
theorem dX6_formats_166 : decode cX6_formats 166 = .ok (.baload, 1) := by decide +kernel
theorem dX6_formats_167 : decode cX6_formats 167 = .ok (.bastore, 1) := by decide +kernel
theorem dX6_formats_168 : decode cX6_formats 168 = .ok (.aload_n 0, 1) := by decide +kernel
theorem dX6_formats_169 : decode cX6_formats 169 = .ok (.getfield 29, 3) := by decide +kernel
theorem dX6_formats_172 : decode cX6_formats 172 = .ok (.iload_n 3, 1) := by decide +kernel
theorem dX6_formats_173 : decode cX6_formats 173 = .ok (.aload_n 0, 1) := by decide +kernel
theorem dX6_formats_174 : decode cX6_formats 174 = .ok (.getfield 29, 3) := by decide +kernel
theorem dX6_formats_177 : decode cX6_formats 177 = .ok (.bipush 8, 2) := by decide +kernel
theorem dX6_formats_179 : decode cX6_formats 179 = .ok (.iload_n 3, 1) := by decide +kernel
theorem dX6_formats_180 : decode cX6_formats 180 = .ok (.iadd, 1) := by decide +kernel
theorem dX6_formats_181 : decode cX6_formats 181 = .ok (.iaload, 1) := by decide +kernel
theorem dX6_formats_182 : decode cX6_formats 182 = .ok (.iastore, 1) := by decide +kernel
theorem dX6_formats_183 : decode cX6_formats 183 = .ok (.aload_n 0, 1) := by decide +kernel
theorem dX6_formats_184 : decode cX6_formats 184 = .ok (.getfield 32, 3) := by decide +kernel
theorem dX6_formats_187 : decode cX6_formats 187 = .ok (.iload_n 3, 1) := by decide +kernel
theorem dX6_formats_188 : decode cX6_formats 188 = .ok (.aload_n 0, 1) := by decide +kernel
theorem dX6_formats_189 : decode cX6_formats 189 = .ok (.getfield 32, 3) := by decide +kernel
theorem dX6_formats_192 : decode cX6_formats 192 = .ok (.bipush 8, 2) := by decide +kernel
theorem dX6_formats_194 : decode cX6_formats 194 = .ok (.iload_n 3, 1) := by decide +kernel
theorem dX6_formats_195 : decode cX6_formats 195 = .ok (.iadd, 1) := by decide +kernel
theorem dX6_formats_196 : decode cX6_formats 196 = .ok (.iaload, 1) := by decide +kernel
theorem dX6_formats_197 : decode cX6_formats 197 = .ok (.iastore, 1) := by decide +kernel
theorem dX6_formats_198 : decode cX6_formats 198 = .ok (.aload_n 0, 1) := by decide +kernel
theorem dX6_formats_199 : decode cX6_formats 199 = .ok (.getfield 35, 3) := by decide +kernel
theorem dX6_formats_202 : decode cX6_formats 202 = .ok (.iload_n 3, 1) := by decide +kernel
theorem dX6_formats_203 : decode cX6_formats 203 = .ok (.aload_n 0, 1) := by decide +kernel
theorem dX6_formats_204 : decode cX6_formats 204 = .ok (.getfield 35, 3) := by decide +kernel
theorem dX6_formats_207 : decode cX6_formats 207 = .ok (.bipush 8, 2) := by decide +kernel
theorem dX6_formats_209 : decode cX6_formats 209 = .ok (.iload_n 3, 1) := by decide +kernel
theorem dX6_formats_210 : decode cX6_formats 210 = .ok (.iadd, 1) := by decide +kernel
theorem dX6_formats_211 : decode cX6_formats 211 = .ok (.iaload, 1) := by decide +kernel
theorem dX6_formats_212 : decode cX6_formats 212 = .ok (.iastore, 1) := by decide +kernel
theorem dX6_formats_213 : decode cX6_formats 213 = .ok (.iinc 3 1, 3) := by decide +kernel
theorem dX6_formats_216 : decode cX6_formats 216 = .ok (.goto (-114), 3) := by decide +kernel
theorem dX6_formats_219 : decode cX6_formats 219 = .ok (.iload_n 2, 1) := by decide +kernel
theorem dX6_formats_220 : decode cX6_formats 220 = .ok (.ireturn, 1) := by decide +kernel
theorem dX6_fault_0 : decode cX6_fault 0 = .ok (.aload_n 0, 1) := by decide +kernel
theorem dX6_fault_1 : decode cX6_fault 1 = .ok (.iconst 0, 1) := by decide +kernel
theorem dX6_fault_2 : decode cX6_fault 2 = .ok (.putfield 126, 3) := by decide +kernel
theorem dX6_fault_5 : decode cX6_fault 5 = .ok (.iload_n 1, 1) := by decide +kernel
theorem dX6_fault_6 : decode cX6_fault 6 = .ok (.ifCond .ne 10, 3) := by decide +kernel
theorem dX6_fault_9 : decode cX6_fault 9 = .ok (.aload_n 0, 1) := by decide +kernel
theorem dX6_fault_10 : decode cX6_fault 10 = .ok (.getfield 132, 3) := by decide +kernel
theorem dX6_fault_13 : decode cX6_fault 13 = .ok (.goto 16, 3) := by decide +kernel
theorem dX6_fault_16 : decode cX6_fault 16 = .ok (.iload_n 1, 1) := by decide +kernel
theorem dX6_fault_17 : decode cX6_fault 17 = .ok (.iconst 1, 1) := by decide +kernel
theorem dX6_fault_18 : decode cX6_fault 18 = .ok (.if_icmp .ne 10, 3) := by decide +kernel
theorem dX6_fault_21 : decode cX6_fault 21 = .ok (.aload_n 0, 1) := by decide +kernel
theorem dX6_fault_22 : decode cX6_fault 22 = .ok (.getfield 38, 3) := by decide +kernel
theorem dX6_fault_25 : decode cX6_fault 25 = .ok (.goto 4, 3) := by decide +kernel
theorem dX6_fault_28 : decode cX6_fault 28 = .ok (.iconst (-1), 1) := by decide +kernel
theorem dX6_fault_29 : decode cX6_fault 29 = .ok (.ireturn, 1) := by decide +kernel
theorem dX6_pass_0 : decode cX6_pass 0 = .ok (.aload_n 0, 1) := by decide +kernel
theorem dX6_pass_1 : decode cX6_pass 1 = .ok (.iconst 0, 1) := by decide +kernel
theorem dX6_pass_2 : decode cX6_pass 2 = .ok (.putfield 126, 3) := by decide +kernel
theorem dX6_pass_5 : decode cX6_pass 5 = .ok (.iload_n 1, 1) := by decide +kernel
theorem dX6_pass_6 : decode cX6_pass 6 = .ok (.ifCond .lt 22, 3) := by decide +kernel
theorem dX6_pass_9 : decode cX6_pass 9 = .ok (.iload_n 1, 1) := by decide +kernel
theorem dX6_pass_10 : decode cX6_pass 10 = .ok (.sipush 200, 3) := by decide +kernel
theorem dX6_pass_13 : decode cX6_pass 13 = .ok (.if_icmp .gt 15, 3) := by decide +kernel
theorem dX6_pass_16 : decode cX6_pass 16 = .ok (.aload_n 0, 1) := by decide +kernel
theorem dX6_pass_17 : decode cX6_pass 17 = .ok (.getfield 194, 3) := by decide +kernel
theorem dX6_pass_20 : decode cX6_pass 20 = .ok (.iload_n 1, 1) := by decide +kernel
theorem dX6_pass_21 : decode cX6_pass 21 = .ok (.iadd, 1) := by decide +kernel
theorem dX6_pass_22 : decode cX6_pass 22 = .ok (.sipush 200, 3) := by decide +kernel
theorem dX6_pass_25 : decode cX6_pass 25 = .ok (.if_icmp .le 5, 3) := by decide +kernel
theorem dX6_pass_28 : decode cX6_pass 28 = .ok (.iconst (-1), 1) := by decide +kernel
theorem dX6_pass_29 : decode cX6_pass 29 = .ok (.ireturn, 1) := by decide +kernel
theorem dX6_pass_30 : decode cX6_pass 30 = .ok (.aload_n 0, 1) := by decide +kernel
theorem dX6_pass_31 : decode cX6_pass 31 = .ok (.dup, 1) := by decide +kernel
theorem dX6_pass_32 : decode cX6_pass 32 = .ok (.getfield 194, 3) := by decide +kernel
theorem dX6_pass_35 : decode cX6_pass 35 = .ok (.iload_n 1, 1) := by decide +kernel
theorem dX6_pass_36 : decode cX6_pass 36 = .ok (.iadd, 1) := by decide +kernel
theorem dX6_pass_37 : decode cX6_pass 37 = .ok (.putfield 194, 3) := by decide +kernel
theorem dX6_pass_40 : decode cX6_pass 40 = .ok (.aload_n 0, 1) := by decide +kernel
theorem dX6_pass_41 : decode cX6_pass 41 = .ok (.getfield 194, 3) := by decide +kernel
theorem dX6_pass_44 : decode cX6_pass 44 = .ok (.ireturn, 1) := by decide +kernel
theorem dX6_racer_0 : decode cX6_racer 0 = .ok (.aload_n 0, 1) := by decide +kernel
theorem dX6_racer_1 : decode cX6_racer 1 = .ok (.iconst 0, 1) := by decide +kernel
theorem dX6_racer_2 : decode cX6_racer 2 = .ok (.putfield 126, 3) := by decide +kernel
theorem dX6_racer_5 : decode cX6_racer 5 = .ok (.iload_n 1, 1) := by decide +kernel
theorem dX6_racer_6 : decode cX6_racer 6 = .ok (.ifCond .lt 18, 3) := by decide +kernel
theorem dX6_racer_9 : decode cX6_racer 9 = .ok (.iload_n 1, 1) := by decide +kernel
theorem dX6_racer_10 : decode cX6_racer 10 = .ok (.bipush 7, 2) := by decide +kernel
theorem dX6_racer_12 : decode cX6_racer 12 = .ok (.if_icmp .gt 12, 3) := by decide +kernel
theorem dX6_racer_15 : decode cX6_racer 15 = .ok (.aload_n 0, 1) := by decide +kernel
theorem dX6_racer_16 : decode cX6_racer 16 = .ok (.getfield 197, 3) := by decide +kernel
theorem dX6_racer_19 : decode cX6_racer 19 = .ok (.bipush 16, 2) := by decide +kernel
theorem dX6_racer_21 : decode cX6_racer 21 = .ok (.if_icmp .ne 5, 3) := by decide +kernel
theorem dX6_racer_24 : decode cX6_racer 24 = .ok (.iconst (-1), 1) := by decide +kernel
theorem dX6_racer_25 : decode cX6_racer 25 = .ok (.ireturn, 1) := by decide +kernel
theorem dX6_racer_26 : decode cX6_racer 26 = .ok (.aload_n 0, 1) := by decide +kernel
theorem dX6_racer_27 : decode cX6_racer 27 = .ok (.getfield 42, 3) := by decide +kernel
theorem dX6_racer_30 : decode cX6_racer 30 = .ok (.aload_n 0, 1) := by decide +kernel
theorem dX6_racer_31 : decode cX6_racer 31 = .ok (.getfield 197, 3) := by decide +kernel
theorem dX6_racer_34 : decode cX6_racer 34 = .ok (.iload_n 1, 1) := by decide +kernel
theorem dX6_racer_35 : decode cX6_racer 35 = .ok (.iastore, 1) := by decide +kernel
theorem dX6_racer_36 : decode cX6_racer 36 = .ok (.aload_n 0, 1) := by decide +kernel
theorem dX6_racer_37 : decode cX6_racer 37 = .ok (.dup, 1) := by decide +kernel
theorem dX6_racer_38 : decode cX6_racer 38 = .ok (.getfield 197, 3) := by decide +kernel
theorem dX6_racer_41 : decode cX6_racer 41 = .ok (.iconst 1, 1) := by decide +kernel
theorem dX6_racer_42 : decode cX6_racer 42 = .ok (.iadd, 1) := by decide +kernel
theorem dX6_racer_43 : decode cX6_racer 43 = .ok (.putfield 197, 3) := by decide +kernel
theorem dX6_racer_46 : decode cX6_racer 46 = .ok (.aload_n 0, 1) := by decide +kernel
theorem dX6_racer_47 : decode cX6_racer 47 = .ok (.getfield 197, 3) := by decide +kernel
theorem dX6_racer_50 : decode cX6_racer 50 = .ok (.iconst 1, 1) := by decide +kernel
theorem dX6_racer_51 : decode cX6_racer 51 = .ok (.isub, 1) := by decide +kernel
theorem dX6_racer_52 : decode cX6_racer 52 = .ok (.ireturn, 1) := by decide +kernel
theorem dX6_isRace_0 : decode cX6_isRace 0 = .ok (.iload_n 1, 1) := by decide +kernel
theorem dX6_isRace_1 : decode cX6_isRace 1 = .ok (.ifCond .lt 15, 3) := by decide +kernel
theorem dX6_isRace_4 : decode cX6_isRace 4 = .ok (.iload_n 1, 1) := by decide +kernel
theorem dX6_isRace_5 : decode cX6_isRace 5 = .ok (.aload_n 0, 1) := by decide +kernel
theorem dX6_isRace_6 : decode cX6_isRace 6 = .ok (.getfield 200, 3) := by decide +kernel
theorem dX6_isRace_9 : decode cX6_isRace 9 = .ok (.if_icmp .ge 7, 3) := by decide +kernel
theorem dX6_isRace_16 : decode cX6_isRace 16 = .ok (.iconst 0, 1) := by decide +kernel
theorem dX6_isRace_17 : decode cX6_isRace 17 = .ok (.ireturn, 1) := by decide +kernel
theorem dX6_isRacer_0 : decode cX6_isRacer 0 = .ok (.iload_n 1, 1) := by decide +kernel
theorem dX6_isRacer_1 : decode cX6_isRacer 1 = .ok (.ifCond .lt 15, 3) := by decide +kernel
theorem dX6_isRacer_4 : decode cX6_isRacer 4 = .ok (.iload_n 1, 1) := by decide +kernel
theorem dX6_isRacer_5 : decode cX6_isRacer 5 = .ok (.aload_n 0, 1) := by decide +kernel
theorem dX6_isRacer_6 : decode cX6_isRacer 6 = .ok (.getfield 197, 3) := by decide +kernel
theorem dX6_isRacer_9 : decode cX6_isRacer 9 = .ok (.if_icmp .ge 7, 3) := by decide +kernel
theorem dX6_isRacer_16 : decode cX6_isRacer 16 = .ok (.iconst 0, 1) := by decide +kernel
theorem dX6_isRacer_17 : decode cX6_isRacer 17 = .ok (.ireturn, 1) := by decide +kernel
theorem dX6_race_0 : decode cX6_race 0 = .ok (.aload_n 0, 1) := by decide +kernel
theorem dX6_race_1 : decode cX6_race 1 = .ok (.iconst 0, 1) := by decide +kernel
theorem dX6_race_2 : decode cX6_race 2 = .ok (.putfield 126, 3) := by decide +kernel
theorem dX6_race_5 : decode cX6_race 5 = .ok (.iload_n 1, 1) := by decide +kernel
theorem dX6_race_6 : decode cX6_race 6 = .ok (.ifCond .lt 27, 3) := by decide +kernel
theorem dX6_race_9 : decode cX6_race 9 = .ok (.iload_n 1, 1) := by decide +kernel
theorem dX6_race_10 : decode cX6_race 10 = .ok (.bipush 7, 2) := by decide +kernel
theorem dX6_race_12 : decode cX6_race 12 = .ok (.if_icmp .gt 21, 3) := by decide +kernel
theorem dX6_race_15 : decode cX6_race 15 = .ok (.aload_n 0, 1) := by decide +kernel
theorem dX6_race_16 : decode cX6_race 16 = .ok (.getfield 13, 3) := by decide +kernel
theorem dX6_race_19 : decode cX6_race 19 = .ok (.iload_n 1, 1) := by decide +kernel
theorem dX6_race_20 : decode cX6_race 20 = .ok (.iaload, 1) := by decide +kernel
theorem dX6_race_21 : decode cX6_race 21 = .ok (.ifCond .eq 12, 3) := by decide +kernel
theorem dX6_race_33 : decode cX6_race 33 = .ok (.iconst (-1), 1) := by decide +kernel
theorem dX6_race_34 : decode cX6_race 34 = .ok (.ireturn, 1) := by decide +kernel
theorem dX6_enter_0 : decode cX6_enter 0 = .ok (.aload_n 0, 1) := by decide +kernel
theorem dX6_enter_1 : decode cX6_enter 1 = .ok (.iconst 0, 1) := by decide +kernel
theorem dX6_enter_2 : decode cX6_enter 2 = .ok (.putfield 126, 3) := by decide +kernel
theorem dX6_enter_5 : decode cX6_enter 5 = .ok (.aload_n 0, 1) := by decide +kernel
theorem dX6_enter_6 : decode cX6_enter 6 = .ok (.iload_n 1, 1) := by decide +kernel
theorem dX6_enter_7 : decode cX6_enter 7 = .ok (.invokevirtual 203, 3) := by decide +kernel
theorem dX6_enter_10 : decode cX6_enter 10 = .ok (.ifCond .eq 34, 3) := by decide +kernel
theorem dX6_enter_44 : decode cX6_enter 44 = .ok (.iconst (-1), 1) := by decide +kernel
theorem dX6_enter_45 : decode cX6_enter 45 = .ok (.ireturn, 1) := by decide +kernel
theorem dX6_isIn_0 : decode cX6_isIn 0 = .ok (.aload_n 0, 1) := by decide +kernel
theorem dX6_isIn_1 : decode cX6_isIn 1 = .ok (.iload_n 1, 1) := by decide +kernel
theorem dX6_isIn_2 : decode cX6_isIn 2 = .ok (.invokevirtual 203, 3) := by decide +kernel
theorem dX6_isIn_5 : decode cX6_isIn 5 = .ok (.ifCond .eq 29, 3) := by decide +kernel
theorem dX6_isIn_34 : decode cX6_isIn 34 = .ok (.iconst 0, 1) := by decide +kernel
theorem dX6_isIn_35 : decode cX6_isIn 35 = .ok (.ireturn, 1) := by decide +kernel
theorem dX6_tell_0 : decode cX6_tell 0 = .ok (.aload_n 0, 1) := by decide +kernel
theorem dX6_tell_1 : decode cX6_tell 1 = .ok (.iconst 0, 1) := by decide +kernel
theorem dX6_tell_2 : decode cX6_tell 2 = .ok (.putfield 126, 3) := by decide +kernel
theorem dX6_tell_5 : decode cX6_tell 5 = .ok (.aload_n 0, 1) := by decide +kernel
theorem dX6_tell_6 : decode cX6_tell 6 = .ok (.iload_n 1, 1) := by decide +kernel
theorem dX6_tell_7 : decode cX6_tell 7 = .ok (.iload_n 2, 1) := by decide +kernel
theorem dX6_tell_8 : decode cX6_tell 8 = .ok (.invokevirtual 210, 3) := by decide +kernel
theorem dX6_tell_11 : decode cX6_tell 11 = .ok (.ifCond .eq 26, 3) := by decide +kernel
theorem dX6_tell_37 : decode cX6_tell 37 = .ok (.iconst (-1), 1) := by decide +kernel
theorem dX6_tell_38 : decode cX6_tell 38 = .ok (.ireturn, 1) := by decide +kernel
theorem dX6_fails_0 : decode cX6_fails 0 = .ok (.aload_n 0, 1) := by decide +kernel
theorem dX6_fails_1 : decode cX6_fails 1 = .ok (.iload_n 1, 1) := by decide +kernel
theorem dX6_fails_2 : decode cX6_fails 2 = .ok (.putfield 126, 3) := by decide +kernel
theorem dX6_fails_5 : decode cX6_fails 5 = .ok (.iconst 0, 1) := by decide +kernel
theorem dX6_fails_6 : decode cX6_fails 6 = .ok (.ireturn, 1) := by decide +kernel
theorem dX6_look_0 : decode cX6_look 0 = .ok (.aload_n 0, 1) := by decide +kernel
theorem dX6_look_1 : decode cX6_look 1 = .ok (.iconst 0, 1) := by decide +kernel
theorem dX6_look_2 : decode cX6_look 2 = .ok (.putfield 126, 3) := by decide +kernel
theorem dX6_look_5 : decode cX6_look 5 = .ok (.aload_n 0, 1) := by decide +kernel
theorem dX6_look_6 : decode cX6_look 6 = .ok (.iload_n 1, 1) := by decide +kernel
theorem dX6_look_7 : decode cX6_look 7 = .ok (.invokevirtual 203, 3) := by decide +kernel
theorem dX6_look_10 : decode cX6_look 10 = .ok (.ifCond .ne 9, 3) := by decide +kernel
theorem dX6_look_13 : decode cX6_look 13 = .ok (.aload_n 0, 1) := by decide +kernel
theorem dX6_look_14 : decode cX6_look 14 = .ok (.iconst 1, 1) := by decide +kernel
theorem dX6_look_15 : decode cX6_look 15 = .ok (.invokevirtual 220, 3) := by decide +kernel
theorem dX6_look_18 : decode cX6_look 18 = .ok (.ireturn, 1) := by decide +kernel
theorem dX6_entry_0 : decode cX6_entry 0 = .ok (.aload_n 0, 1) := by decide +kernel
theorem dX6_entry_1 : decode cX6_entry 1 = .ok (.iconst 0, 1) := by decide +kernel
theorem dX6_entry_2 : decode cX6_entry 2 = .ok (.putfield 126, 3) := by decide +kernel
theorem dX6_entry_5 : decode cX6_entry 5 = .ok (.aload_n 0, 1) := by decide +kernel
theorem dX6_entry_6 : decode cX6_entry 6 = .ok (.iload_n 1, 1) := by decide +kernel
theorem dX6_entry_7 : decode cX6_entry 7 = .ok (.invokevirtual 203, 3) := by decide +kernel
theorem dX6_entry_10 : decode cX6_entry 10 = .ok (.ifCond .eq 17, 3) := by decide +kernel
theorem dX6_entry_27 : decode cX6_entry 27 = .ok (.iconst (-1), 1) := by decide +kernel
theorem dX6_entry_28 : decode cX6_entry 28 = .ok (.goto 14, 3) := by decide +kernel
theorem dX6_entry_42 : decode cX6_entry 42 = .ok (.ireturn, 1) := by decide +kernel
theorem dX6_workAll_0 : decode cX6_workAll 0 = .ok (.iconst 0, 1) := by decide +kernel
theorem dX6_workAll_1 : decode cX6_workAll 1 = .ok (.istore_n 3, 1) := by decide +kernel
theorem dX6_workAll_2 : decode cX6_workAll 2 = .ok (.iload_n 3, 1) := by decide +kernel
theorem dX6_workAll_3 : decode cX6_workAll 3 = .ok (.iload_n 1, 1) := by decide +kernel
theorem dX6_workAll_4 : decode cX6_workAll 4 = .ok (.if_icmp .gt 47, 3) := by decide +kernel
theorem dX6_workAll_51 : decode cX6_workAll 51 = .ok (.return_, 1) := by decide +kernel
theorem dX6_isDay_0 : decode cX6_isDay 0 = .ok (.iload_n 1, 1) := by decide +kernel
theorem dX6_isDay_1 : decode cX6_isDay 1 = .ok (.ifCond .lt 15, 3) := by decide +kernel
theorem dX6_isDay_4 : decode cX6_isDay 4 = .ok (.iload_n 1, 1) := by decide +kernel
theorem dX6_isDay_5 : decode cX6_isDay 5 = .ok (.aload_n 0, 1) := by decide +kernel
theorem dX6_isDay_6 : decode cX6_isDay 6 = .ok (.getfield 194, 3) := by decide +kernel
theorem dX6_isDay_9 : decode cX6_isDay 9 = .ok (.if_icmp .gt 7, 3) := by decide +kernel
theorem dX6_isDay_12 : decode cX6_isDay 12 = .ok (.iconst 1, 1) := by decide +kernel
theorem dX6_isDay_13 : decode cX6_isDay 13 = .ok (.goto 4, 3) := by decide +kernel
theorem dX6_isDay_16 : decode cX6_isDay 16 = .ok (.iconst 0, 1) := by decide +kernel
theorem dX6_isDay_17 : decode cX6_isDay 17 = .ok (.ireturn, 1) := by decide +kernel
theorem dX6_time_0 : decode cX6_time 0 = .ok (.aload_n 0, 1) := by decide +kernel
theorem dX6_time_1 : decode cX6_time 1 = .ok (.iconst 0, 1) := by decide +kernel
theorem dX6_time_2 : decode cX6_time 2 = .ok (.putfield 126, 3) := by decide +kernel
theorem dX6_time_5 : decode cX6_time 5 = .ok (.aload_n 0, 1) := by decide +kernel
theorem dX6_time_6 : decode cX6_time 6 = .ok (.iload_n 1, 1) := by decide +kernel
theorem dX6_time_7 : decode cX6_time 7 = .ok (.iload_n 2, 1) := by decide +kernel
theorem dX6_time_8 : decode cX6_time 8 = .ok (.invokevirtual 210, 3) := by decide +kernel
theorem dX6_time_11 : decode cX6_time 11 = .ok (.ifCond .eq 23, 3) := by decide +kernel
theorem dX6_time_34 : decode cX6_time 34 = .ok (.bipush (-2), 2) := by decide +kernel
theorem dX6_time_36 : decode cX6_time 36 = .ok (.ireturn, 1) := by decide +kernel
theorem dX6_split_0 : decode cX6_split 0 = .ok (.aload_n 0, 1) := by decide +kernel
theorem dX6_split_1 : decode cX6_split 1 = .ok (.iconst 0, 1) := by decide +kernel
theorem dX6_split_2 : decode cX6_split 2 = .ok (.putfield 126, 3) := by decide +kernel
theorem dX6_split_5 : decode cX6_split 5 = .ok (.aload_n 0, 1) := by decide +kernel
theorem dX6_split_6 : decode cX6_split 6 = .ok (.iload_n 1, 1) := by decide +kernel
theorem dX6_split_7 : decode cX6_split 7 = .ok (.iload_n 2, 1) := by decide +kernel
theorem dX6_split_8 : decode cX6_split 8 = .ok (.invokevirtual 210, 3) := by decide +kernel
theorem dX6_split_11 : decode cX6_split 11 = .ok (.ifCond .eq 27, 3) := by decide +kernel
theorem dX6_split_38 : decode cX6_split 38 = .ok (.bipush (-2), 2) := by decide +kernel
theorem dX6_split_40 : decode cX6_split 40 = .ok (.ireturn, 1) := by decide +kernel
theorem dX6_order_0 : decode cX6_order 0 = .ok (.aload_n 0, 1) := by decide +kernel
theorem dX6_order_1 : decode cX6_order 1 = .ok (.iconst 0, 1) := by decide +kernel
theorem dX6_order_2 : decode cX6_order 2 = .ok (.putfield 126, 3) := by decide +kernel
theorem dX6_order_5 : decode cX6_order 5 = .ok (.aload_n 0, 1) := by decide +kernel
theorem dX6_order_6 : decode cX6_order 6 = .ok (.iload_n 1, 1) := by decide +kernel
theorem dX6_order_7 : decode cX6_order 7 = .ok (.invokevirtual 203, 3) := by decide +kernel
theorem dX6_order_10 : decode cX6_order 10 = .ok (.ifCond .eq 11, 3) := by decide +kernel
theorem dX6_order_21 : decode cX6_order 21 = .ok (.iconst (-1), 1) := by decide +kernel
theorem dX6_order_22 : decode cX6_order 22 = .ok (.ireturn, 1) := by decide +kernel
theorem dX6_cup_0 : decode cX6_cup 0 = .ok (.aload_n 0, 1) := by decide +kernel
theorem dX6_cup_1 : decode cX6_cup 1 = .ok (.aload_n 0, 1) := by decide +kernel
theorem dX6_cup_2 : decode cX6_cup 2 = .ok (.getfield 200, 3) := by decide +kernel
theorem dX6_cup_5 : decode cX6_cup 5 = .ok (.iconst 1, 1) := by decide +kernel
theorem dX6_cup_6 : decode cX6_cup 6 = .ok (.isub, 1) := by decide +kernel
theorem dX6_cup_7 : decode cX6_cup 7 = .ok (.iload_n 1, 1) := by decide +kernel
theorem dX6_cup_8 : decode cX6_cup 8 = .ok (.invokevirtual 244, 3) := by decide +kernel
theorem dX6_cup_11 : decode cX6_cup 11 = .ok (.iconst 0, 1) := by decide +kernel
theorem dX6_cup_12 : decode cX6_cup 12 = .ok (.istore_n 2, 1) := by decide +kernel
theorem dX6_cup_13 : decode cX6_cup 13 = .ok (.iload_n 2, 1) := by decide +kernel
theorem dX6_cup_14 : decode cX6_cup 14 = .ok (.bipush 16, 2) := by decide +kernel
theorem dX6_cup_16 : decode cX6_cup 16 = .ok (.if_icmp .ge 16, 3) := by decide +kernel
theorem dX6_cup_19 : decode cX6_cup 19 = .ok (.aload_n 0, 1) := by decide +kernel
theorem dX6_cup_20 : decode cX6_cup 20 = .ok (.getfield 123, 3) := by decide +kernel
theorem dX6_cup_23 : decode cX6_cup 23 = .ok (.iload_n 2, 1) := by decide +kernel
theorem dX6_cup_24 : decode cX6_cup 24 = .ok (.iconst 0, 1) := by decide +kernel
theorem dX6_cup_25 : decode cX6_cup 25 = .ok (.iastore, 1) := by decide +kernel
theorem dX6_cup_26 : decode cX6_cup 26 = .ok (.iinc 2 1, 3) := by decide +kernel
theorem dX6_cup_29 : decode cX6_cup 29 = .ok (.goto (-16), 3) := by decide +kernel
theorem dX6_cup_32 : decode cX6_cup 32 = .ok (.iconst 0, 1) := by decide +kernel
theorem dX6_cup_33 : decode cX6_cup 33 = .ok (.istore_n 2, 1) := by decide +kernel
theorem dX6_cup_34 : decode cX6_cup 34 = .ok (.iload_n 2, 1) := by decide +kernel
theorem dX6_cup_35 : decode cX6_cup 35 = .ok (.aload_n 0, 1) := by decide +kernel
theorem dX6_cup_36 : decode cX6_cup 36 = .ok (.getfield 200, 3) := by decide +kernel
theorem dX6_cup_39 : decode cX6_cup 39 = .ok (.if_icmp .ge 92, 3) := by decide +kernel
theorem dX6_cup_131 : decode cX6_cup 131 = .ok (.return_, 1) := by decide +kernel
theorem dX6_points_0 : decode cX6_points 0 = .ok (.aload_n 0, 1) := by decide +kernel
theorem dX6_points_1 : decode cX6_points 1 = .ok (.iconst 0, 1) := by decide +kernel
theorem dX6_points_2 : decode cX6_points 2 = .ok (.putfield 126, 3) := by decide +kernel
theorem dX6_points_5 : decode cX6_points 5 = .ok (.aload_n 0, 1) := by decide +kernel
theorem dX6_points_6 : decode cX6_points 6 = .ok (.iload_n 1, 1) := by decide +kernel
theorem dX6_points_7 : decode cX6_points 7 = .ok (.invokevirtual 206, 3) := by decide +kernel
theorem dX6_points_10 : decode cX6_points 10 = .ok (.ifCond .eq 11, 3) := by decide +kernel
theorem dX6_points_21 : decode cX6_points 21 = .ok (.iconst (-1), 1) := by decide +kernel
theorem dX6_points_22 : decode cX6_points 22 = .ok (.ireturn, 1) := by decide +kernel
theorem dX6_standing_0 : decode cX6_standing 0 = .ok (.aload_n 0, 1) := by decide +kernel
theorem dX6_standing_1 : decode cX6_standing 1 = .ok (.iconst 0, 1) := by decide +kernel
theorem dX6_standing_2 : decode cX6_standing 2 = .ok (.putfield 126, 3) := by decide +kernel
theorem dX6_standing_5 : decode cX6_standing 5 = .ok (.aload_n 0, 1) := by decide +kernel
theorem dX6_standing_6 : decode cX6_standing 6 = .ok (.iload_n 1, 1) := by decide +kernel
theorem dX6_standing_7 : decode cX6_standing 7 = .ok (.invokevirtual 206, 3) := by decide +kernel
theorem dX6_standing_10 : decode cX6_standing 10 = .ok (.ifCond .eq 11, 3) := by decide +kernel
theorem dX6_standing_21 : decode cX6_standing 21 = .ok (.iconst (-1), 1) := by decide +kernel
theorem dX6_standing_22 : decode cX6_standing 22 = .ok (.ireturn, 1) := by decide +kernel
theorem dX6_starters_0 : decode cX6_starters 0 = .ok (.aload_n 0, 1) := by decide +kernel
theorem dX6_starters_1 : decode cX6_starters 1 = .ok (.iconst 0, 1) := by decide +kernel
theorem dX6_starters_2 : decode cX6_starters 2 = .ok (.putfield 126, 3) := by decide +kernel
theorem dX6_starters_5 : decode cX6_starters 5 = .ok (.iload_n 1, 1) := by decide +kernel
theorem dX6_starters_6 : decode cX6_starters 6 = .ok (.ifCond .lt 17, 3) := by decide +kernel
theorem dX6_starters_9 : decode cX6_starters 9 = .ok (.iload_n 1, 1) := by decide +kernel
theorem dX6_starters_10 : decode cX6_starters 10 = .ok (.bipush 7, 2) := by decide +kernel
theorem dX6_starters_12 : decode cX6_starters 12 = .ok (.if_icmp .gt 11, 3) := by decide +kernel
theorem dX6_starters_15 : decode cX6_starters 15 = .ok (.aload_n 0, 1) := by decide +kernel
theorem dX6_starters_16 : decode cX6_starters 16 = .ok (.iload_n 2, 1) := by decide +kernel
theorem dX6_starters_17 : decode cX6_starters 17 = .ok (.invokevirtual 241, 3) := by decide +kernel
theorem dX6_starters_20 : decode cX6_starters 20 = .ok (.ifCond .ne 5, 3) := by decide +kernel
theorem dX6_starters_23 : decode cX6_starters 23 = .ok (.iconst (-1), 1) := by decide +kernel
theorem dX6_starters_24 : decode cX6_starters 24 = .ok (.ireturn, 1) := by decide +kernel
theorem dX6_starters_25 : decode cX6_starters 25 = .ok (.aload_n 0, 1) := by decide +kernel
theorem dX6_starters_26 : decode cX6_starters 26 = .ok (.iload_n 2, 1) := by decide +kernel
theorem dX6_starters_27 : decode cX6_starters 27 = .ok (.invokevirtual 252, 3) := by decide +kernel
theorem dX6_starters_30 : decode cX6_starters 30 = .ok (.iconst 2, 1) := by decide +kernel
theorem dX6_starters_31 : decode cX6_starters 31 = .ok (.istore_n 3, 1) := by decide +kernel
theorem dX6_starters_32 : decode cX6_starters 32 = .ok (.iconst 0, 1) := by decide +kernel
theorem dX6_starters_33 : decode cX6_starters 33 = .ok (.istore 4, 2) := by decide +kernel
theorem dX6_starters_35 : decode cX6_starters 35 = .ok (.iload 4, 2) := by decide +kernel
theorem dX6_starters_37 : decode cX6_starters 37 = .ok (.aload_n 0, 1) := by decide +kernel
theorem dX6_starters_38 : decode cX6_starters 38 = .ok (.getfield 197, 3) := by decide +kernel
theorem dX6_starters_41 : decode cX6_starters 41 = .ok (.if_icmp .ge 48, 3) := by decide +kernel
theorem dX6_starters_89 : decode cX6_starters 89 = .ok (.iload_n 3, 1) := by decide +kernel
theorem dX6_starters_90 : decode cX6_starters 90 = .ok (.iconst 4, 1) := by decide +kernel
theorem dX6_starters_91 : decode cX6_starters 91 = .ok (.if_icmp .le 7, 3) := by decide +kernel
theorem dX6_starters_98 : decode cX6_starters 98 = .ok (.iload_n 3, 1) := by decide +kernel
theorem dX6_starters_99 : decode cX6_starters 99 = .ok (.ireturn, 1) := by decide +kernel
theorem dX6_count_0 : decode cX6_count 0 = .ok (.aload_n 0, 1) := by decide +kernel
theorem dX6_count_1 : decode cX6_count 1 = .ok (.iconst 0, 1) := by decide +kernel
theorem dX6_count_2 : decode cX6_count 2 = .ok (.putfield 126, 3) := by decide +kernel
theorem dX6_count_5 : decode cX6_count 5 = .ok (.iload_n 1, 1) := by decide +kernel
theorem dX6_count_6 : decode cX6_count 6 = .ok (.tableswitch 59 0 4 #[34, 39, 44, 49, 54], 34) := by decide +kernel
theorem dX6_count_40 : decode cX6_count 40 = .ok (.aload_n 0, 1) := by decide +kernel
theorem dX6_count_41 : decode cX6_count 41 = .ok (.getfield 194, 3) := by decide +kernel
theorem dX6_count_44 : decode cX6_count 44 = .ok (.ireturn, 1) := by decide +kernel
theorem dX6_count_45 : decode cX6_count 45 = .ok (.aload_n 0, 1) := by decide +kernel
theorem dX6_count_46 : decode cX6_count 46 = .ok (.getfield 191, 3) := by decide +kernel
theorem dX6_count_49 : decode cX6_count 49 = .ok (.ireturn, 1) := by decide +kernel
theorem dX6_count_50 : decode cX6_count 50 = .ok (.aload_n 0, 1) := by decide +kernel
theorem dX6_count_51 : decode cX6_count 51 = .ok (.getfield 197, 3) := by decide +kernel
theorem dX6_count_54 : decode cX6_count 54 = .ok (.ireturn, 1) := by decide +kernel
theorem dX6_count_55 : decode cX6_count 55 = .ok (.aload_n 0, 1) := by decide +kernel
theorem dX6_count_56 : decode cX6_count 56 = .ok (.getfield 200, 3) := by decide +kernel
theorem dX6_count_59 : decode cX6_count 59 = .ok (.ireturn, 1) := by decide +kernel
theorem dX6_count_60 : decode cX6_count 60 = .ok (.aload_n 0, 1) := by decide +kernel
theorem dX6_count_61 : decode cX6_count 61 = .ok (.getfield 217, 3) := by decide +kernel
theorem dX6_count_64 : decode cX6_count 64 = .ok (.ireturn, 1) := by decide +kernel
theorem dX6_count_65 : decode cX6_count 65 = .ok (.iconst (-1), 1) := by decide +kernel
theorem dX6_count_66 : decode cX6_count 66 = .ok (.ireturn, 1) := by decide +kernel
end
section
theorem h_nlt {x y : Int32} (h : ¬ x < y) : y ≤ x := Int32.not_lt.mp h
/-- the order of ints is that of their numbers -/
theorem num_lt (a b : Int32) : a < b ↔ a.toInt < b.toInt := Int32.lt_iff_toInt_lt
theorem num_le (a b : Int32) : a ≤ b ↔ a.toInt ≤ b.toInt := Int32.le_iff_toInt_le
theorem num_eq (a b : Int32) : a = b ↔ a.toInt = b.toInt := Int32.toInt_inj.symm
theorem num_m2 : ((-2) : Int32).toInt = -2 := by decide
theorem num_m1 : ((-1) : Int32).toInt = -1 := by decide
theorem num_0 : (0 : Int32).toInt = 0 := by decide
theorem num_1 : (1 : Int32).toInt = 1 := by decide
theorem num_2 : (2 : Int32).toInt = 2 := by decide
theorem num_3 : (3 : Int32).toInt = 3 := by decide
theorem num_4 : (4 : Int32).toInt = 4 := by decide
theorem num_5 : (5 : Int32).toInt = 5 := by decide
theorem num_6 : (6 : Int32).toInt = 6 := by decide
theorem num_7 : (7 : Int32).toInt = 7 := by decide
theorem num_8 : (8 : Int32).toInt = 8 := by decide
theorem num_16 : (16 : Int32).toInt = 16 := by decide
theorem num_20 : (20 : Int32).toInt = 20 := by decide
theorem num_31 : (31 : Int32).toInt = 31 := by decide
theorem num_200 : (200 : Int32).toInt = 200 := by decide
theorem num_1000 : (1000 : Int32).toInt = 1000 := by decide
def wX5_raceAt : List Cond := .code yX5_raceAt cX5_raceAt 2 (some (.object "SkiShots$Race")) :: ([.fieldLink RX5 80 "SkiShots" "raceCount" "I"] ++ wsX50)
set_option maxHeartbeats 4000000 in
set_option maxRecDepth 100000 in
theorem c_X5_raceAt (l : Launch) (dC : Nat → ClassId) (dI : Nat → Nat → Nat) (h0 : Nat) (qT : Nat) (qF : Nat) (qN : Nat) (qR : Nat) (qC : Nat) (p0 : Int32) (sz : Nat) : Met l yX5_raceAt wX5_raceAt ({ frames := 0, cells := 0, slots := 0, locals := 0 }) (va_Pc [.ref h0, .int p0] (fun U => U.heap.size = sz ∧ va_P (dC, dI) vwCl [(h0, .inr (5, [.ref qT, .int 0, .ref qF, .int 0, .int 0, .int ((-1)), .int 0, .ref qN, .int 0, .ref qR, .int 0, .int 0, .ref qC]))] U.heap ∧ va_K (dC, dI) vwCl [] U ∧ va_D (fun _ => True) [(h0, .inr (5, [.ref qT, .int 0, .ref qF, .int 0, .int 0, .int ((-1)), .int 0, .ref qN, .int 0, .ref qR, .int 0, .int 0, .ref qC]))])) (va_Qq (fun (r : Option Nat) (_ : Unit) => r = none) (fun _ t => va_P (dC, dI) vwCl [(h0, .inr (5, [.ref qT, .int 0, .ref qF, .int 0, .int 0, .int ((-1)), .int 0, .ref qN, .int 0, .ref qR, .int 0, .int 0, .ref qC]))] t.heap ∧ va_K (dC, dI) vwCl [] t ∧ va_D (va_A [(h0, .inr (5, [.ref qT, .int 0, .ref qF, .int 0, .int 0, .int ((-1)), .int 0, .ref qN, .int 0, .ref qR, .int 0, .int 0, .ref qC]))] sz) [(h0, .inr (5, [.ref qT, .int 0, .ref qF, .int 0, .int 0, .int ((-1)), .int 0, .ref qN, .int 0, .ref qR, .int 0, .int 0, .ref qC]))]) (va_A [(h0, .inr (5, [.ref qT, .int 0, .ref qF, .int 0, .int 0, .int ((-1)), .int 0, .ref qN, .int 0, .ref qR, .int 0, .int 0, .ref qC]))] sz)) 0 0 (va_A [(h0, .inr (5, [.ref qT, .int 0, .ref qF, .int 0, .int 0, .int ((-1)), .int 0, .ref qN, .int 0, .ref qR, .int 0, .int 0, .ref qC]))] sz) := by
  refine Met.ofW (cc := cX5_raceAt) (maxL := 2) (ret := (some (.object "SkiShots$Race"))) (by decide) rfl ?_
  intro p e s m args below meth c s₁ B hml hv
  obtain ⟨rfl, hsz, hP, hK, hD0⟩ := hv
  have hx := B.exec
  have hb := B.bytes
  have hr := B.returns
  have hts := atoms_spec (ws := wX5_raceAt) B.pre
  have hown : s.vm.findClass RX5 = some m.cls := findClass_of_methodNamed B.named
  have hlocks := B.notSynchronized
  have hin5 : ∀ w ∈ wsX50, w ∈ wX5_raceAt := by decide +kernel
  subst hsz
  have hD := hD0.self (sz := s.heap.size)
  generalize hAe : va_A [(h0, .inr (5, [.ref qT, .int 0, .ref qF, .int 0, .int 0, .int ((-1)), .int 0, .ref qN, .int 0, .ref qR, .int 0, .int 0, .ref qC]))] s.heap.size = A at hD ⊢
  have hA : ∀ q : Nat, s.heap.size ≤ q → A q := fun q h => by rw [← hAe]; exact Or.inr h
  have hS : va_S A s.heap s.heap [] := va_S.rf
  have hP : va_P (dC, dI) vwCl [(h0, .inr (5, [.ref qT, .int 0, .ref qF, .int 0, .int 0, .int ((-1)), .int 0, .ref qN, .int 0, .ref qR, .int 0, .int 0, .ref qC]))] s.heap := hP
  have hl := lv_entry ([.ref h0, .int p0]) (n := 2) (Nat.le_of_ble_eq_true rfl)
  rw [lg_entry_eq]
  generalize (lg_sl ([.ref h0, .int p0]) ++ List.replicate (2 - (lg_sl ([.ref h0, .int p0])).length) Slot.unset).toArray = ls at hl ⊢
  have hl : lv_has ls 2 [(0, .ref h0), (1, .int p0)] := hl
  refine lv_iload_n hx hb dX5_raceAt_0 rfl (lv_at hl 1 rfl) ?_
  refine lv_if_lt (tgt := 21) hx hb dX5_raceAt_1 (by decide) (fun c_1 => ?_) (fun c_1 => ?_)
  · refine lv_null hx hb dX5_raceAt_21 ?_
    have hP9 := hP.sub (ws' := [(h0, .inr (5, [.ref qT, .int 0, .ref qF, .int 0, .int 0, .int ((-1)), .int 0, .ref qN, .int 0, .ref qR, .int 0, .int 0, .ref qC]))]) [0] rfl
    have hD9 := hD.sub (ws' := [(h0, .inr (5, [.ref qT, .int 0, .ref qF, .int 0, .int 0, .int ((-1)), .int 0, .ref qN, .int 0, .ref qR, .int 0, .int 0, .ref qC]))]) [0] (by decide) rfl
    have hK9 := hK.sub (tys' := []) [] rfl
    exact W.aret (v := va_rf (none)) hx hb hr (Or.inl ⟨_, rfl⟩) (va_rf_or _) (fun t ht hW => ⟨⟨none, (), rfl, rfl, by rw [ht]; exact hP9, va_K.moved hW.alike hK9, hD9⟩, hS.F ht⟩) hS.2.2 dX5_raceAt_22
  · refine lv_iload_n hx hb dX5_raceAt_4 rfl (lv_at hl 1 rfl) ?_
    refine lv_aload_n hx hb dX5_raceAt_5 rfl (lv_at hl 0 rfl) ?_
    refine va_get (D := (dC, dI)) (ci := 5) (v := .int 0) (C := RX5) (T := TX5) (N := 13) hx hb hts hin5 hown hK hP 0 rfl rfl 10 (by decide) (hts (.fieldLink RX5 80 "SkiShots" "raceCount" "I") (by decide +kernel)) (fun _ h9 => h9) rfl dX5_raceAt_6 ?_
    refine lv_icmp_ge (tgt := 21) hx hb dX5_raceAt_9 (by decide) (fun c_2 => ?_) (fun c_2 => absurd (h_nlt c_1) c_2)
    refine lv_null hx hb dX5_raceAt_21 ?_
    have hP9 := hP.sub (ws' := [(h0, .inr (5, [.ref qT, .int 0, .ref qF, .int 0, .int 0, .int ((-1)), .int 0, .ref qN, .int 0, .ref qR, .int 0, .int 0, .ref qC]))]) [0] rfl
    have hD9 := hD.sub (ws' := [(h0, .inr (5, [.ref qT, .int 0, .ref qF, .int 0, .int 0, .int ((-1)), .int 0, .ref qN, .int 0, .ref qR, .int 0, .int 0, .ref qC]))]) [0] (by decide) rfl
    have hK9 := hK.sub (tys' := []) [] rfl
    exact W.aret (v := va_rf (none)) hx hb hr (Or.inl ⟨_, rfl⟩) (va_rf_or _) (fun t ht hW => ⟨⟨none, (), rfl, rfl, by rw [ht]; exact hP9, va_K.moved hW.alike hK9, hD9⟩, hS.F ht⟩) hS.2.2 dX5_raceAt_22
def wX5_isRacer : List Cond := .code yX5_isRacer cX5_isRacer 2 (some .boolean) :: ([.fieldLink RX5 77 "SkiShots" "racerCount" "I"] ++ wsX50)
set_option maxHeartbeats 4000000 in
set_option maxRecDepth 100000 in
theorem c_X5_isRacer (l : Launch) (dC : Nat → ClassId) (dI : Nat → Nat → Nat) (h0 : Nat) (qT : Nat) (qF : Nat) (qN : Nat) (qR : Nat) (qC : Nat) (p0 : Int32) (sz : Nat) : Met l yX5_isRacer wX5_isRacer ({ frames := 0, cells := 0, slots := 0, locals := 0 }) (va_Pc [.ref h0, .int p0] (fun U => U.heap.size = sz ∧ va_P (dC, dI) vwCl [(h0, .inr (5, [.ref qT, .int 0, .ref qF, .int 0, .int 0, .int ((-1)), .int 0, .ref qN, .int 0, .ref qR, .int 0, .int 0, .ref qC]))] U.heap ∧ va_K (dC, dI) vwCl [] U ∧ va_D (fun _ => True) [(h0, .inr (5, [.ref qT, .int 0, .ref qF, .int 0, .int 0, .int ((-1)), .int 0, .ref qN, .int 0, .ref qR, .int 0, .int 0, .ref qC]))])) (va_Qi (fun (r : Int32) (_ : Unit) => r = 0) (fun _ t => va_P (dC, dI) vwCl [(h0, .inr (5, [.ref qT, .int 0, .ref qF, .int 0, .int 0, .int ((-1)), .int 0, .ref qN, .int 0, .ref qR, .int 0, .int 0, .ref qC]))] t.heap ∧ va_K (dC, dI) vwCl [] t ∧ va_D (va_A [(h0, .inr (5, [.ref qT, .int 0, .ref qF, .int 0, .int 0, .int ((-1)), .int 0, .ref qN, .int 0, .ref qR, .int 0, .int 0, .ref qC]))] sz) [(h0, .inr (5, [.ref qT, .int 0, .ref qF, .int 0, .int 0, .int ((-1)), .int 0, .ref qN, .int 0, .ref qR, .int 0, .int 0, .ref qC]))]) (va_A [(h0, .inr (5, [.ref qT, .int 0, .ref qF, .int 0, .int 0, .int ((-1)), .int 0, .ref qN, .int 0, .ref qR, .int 0, .int 0, .ref qC]))] sz)) 0 0 (va_A [(h0, .inr (5, [.ref qT, .int 0, .ref qF, .int 0, .int 0, .int ((-1)), .int 0, .ref qN, .int 0, .ref qR, .int 0, .int 0, .ref qC]))] sz) := by
  refine Met.ofW (cc := cX5_isRacer) (maxL := 2) (ret := (some .boolean)) (by decide) rfl ?_
  intro p e s m args below meth c s₁ B hml hv
  obtain ⟨rfl, hsz, hP, hK, hD0⟩ := hv
  have hx := B.exec
  have hb := B.bytes
  have hr := B.returns
  have hts := atoms_spec (ws := wX5_isRacer) B.pre
  have hown : s.vm.findClass RX5 = some m.cls := findClass_of_methodNamed B.named
  have hlocks := B.notSynchronized
  have hin5 : ∀ w ∈ wsX50, w ∈ wX5_isRacer := by decide +kernel
  subst hsz
  have hD := hD0.self (sz := s.heap.size)
  generalize hAe : va_A [(h0, .inr (5, [.ref qT, .int 0, .ref qF, .int 0, .int 0, .int ((-1)), .int 0, .ref qN, .int 0, .ref qR, .int 0, .int 0, .ref qC]))] s.heap.size = A at hD ⊢
  have hA : ∀ q : Nat, s.heap.size ≤ q → A q := fun q h => by rw [← hAe]; exact Or.inr h
  have hS : va_S A s.heap s.heap [] := va_S.rf
  have hP : va_P (dC, dI) vwCl [(h0, .inr (5, [.ref qT, .int 0, .ref qF, .int 0, .int 0, .int ((-1)), .int 0, .ref qN, .int 0, .ref qR, .int 0, .int 0, .ref qC]))] s.heap := hP
  have hl := lv_entry ([.ref h0, .int p0]) (n := 2) (Nat.le_of_ble_eq_true rfl)
  rw [lg_entry_eq]
  generalize (lg_sl ([.ref h0, .int p0]) ++ List.replicate (2 - (lg_sl ([.ref h0, .int p0])).length) Slot.unset).toArray = ls at hl ⊢
  have hl : lv_has ls 2 [(0, .ref h0), (1, .int p0)] := hl
  refine lv_iload_n hx hb dX5_isRacer_0 rfl (lv_at hl 1 rfl) ?_
  refine lv_if_lt (tgt := 16) hx hb dX5_isRacer_1 (by decide) (fun c_1 => ?_) (fun c_1 => ?_)
  · refine lv_iconst (v := 0) hx hb dX5_isRacer_16 (by decide) ?_
    have hP9 := hP.sub (ws' := [(h0, .inr (5, [.ref qT, .int 0, .ref qF, .int 0, .int 0, .int ((-1)), .int 0, .ref qN, .int 0, .ref qR, .int 0, .int 0, .ref qC]))]) [0] rfl
    have hD9 := hD.sub (ws' := [(h0, .inr (5, [.ref qT, .int 0, .ref qF, .int 0, .int 0, .int ((-1)), .int 0, .ref qN, .int 0, .ref qR, .int 0, .int 0, .ref qC]))]) [0] (by decide) rfl
    have hK9 := hK.sub (tys' := []) [] rfl
    exact W.zret (v := 0) (ty := .boolean) hx hb hr rfl (fun t ht hW => ⟨⟨0, (), rfl, rfl, by rw [ht]; exact hP9, va_K.moved hW.alike hK9, hD9⟩, hS.F ht⟩) hS.2.2 dX5_isRacer_17
  · refine lv_iload_n hx hb dX5_isRacer_4 rfl (lv_at hl 1 rfl) ?_
    refine lv_aload_n hx hb dX5_isRacer_5 rfl (lv_at hl 0 rfl) ?_
    refine va_get (D := (dC, dI)) (ci := 5) (v := .int 0) (C := RX5) (T := TX5) (N := 13) hx hb hts hin5 hown hK hP 0 rfl rfl 8 (by decide) (hts (.fieldLink RX5 77 "SkiShots" "racerCount" "I") (by decide +kernel)) (fun _ h9 => h9) rfl dX5_isRacer_6 ?_
    refine lv_icmp_ge (tgt := 16) hx hb dX5_isRacer_9 (by decide) (fun c_2 => ?_) (fun c_2 => absurd (h_nlt c_1) c_2)
    refine lv_iconst (v := 0) hx hb dX5_isRacer_16 (by decide) ?_
    have hP9 := hP.sub (ws' := [(h0, .inr (5, [.ref qT, .int 0, .ref qF, .int 0, .int 0, .int ((-1)), .int 0, .ref qN, .int 0, .ref qR, .int 0, .int 0, .ref qC]))]) [0] rfl
    have hD9 := hD.sub (ws' := [(h0, .inr (5, [.ref qT, .int 0, .ref qF, .int 0, .int 0, .int ((-1)), .int 0, .ref qN, .int 0, .ref qR, .int 0, .int 0, .ref qC]))]) [0] (by decide) rfl
    have hK9 := hK.sub (tys' := []) [] rfl
    exact W.zret (v := 0) (ty := .boolean) hx hb hr rfl (fun t ht hW => ⟨⟨0, (), rfl, rfl, by rw [ht]; exact hP9, va_K.moved hW.alike hK9, hD9⟩, hS.F ht⟩) hS.2.2 dX5_isRacer_17
def wX5_isDay : List Cond := .code yX5_isDay cX5_isDay 2 (some .boolean) :: ([.fieldLink RX5 70 "SkiShots" "today" "I"] ++ wsX50)
set_option maxHeartbeats 4000000 in
set_option maxRecDepth 100000 in
theorem c_X5_isDay (l : Launch) (dC : Nat → ClassId) (dI : Nat → Nat → Nat) (h0 : Nat) (qT : Nat) (qF : Nat) (qN : Nat) (qR : Nat) (qC : Nat) (p0 : Int32) (sz : Nat) : Met l yX5_isDay wX5_isDay ({ frames := 0, cells := 0, slots := 0, locals := 0 }) (va_Pc [.ref h0, .int p0] (fun U => U.heap.size = sz ∧ va_P (dC, dI) vwCl [(h0, .inr (5, [.ref qT, .int 0, .ref qF, .int 0, .int 0, .int ((-1)), .int 0, .ref qN, .int 0, .ref qR, .int 0, .int 0, .ref qC]))] U.heap ∧ va_K (dC, dI) vwCl [] U ∧ va_D (fun _ => True) [(h0, .inr (5, [.ref qT, .int 0, .ref qF, .int 0, .int 0, .int ((-1)), .int 0, .ref qN, .int 0, .ref qR, .int 0, .int 0, .ref qC]))])) (va_Qi (fun (r : Int32) (_ : Unit) => (p0.toInt = 0 ∧ r = 1) ∨ (¬ p0.toInt = 0 ∧ r = 0)) (fun _ t => va_P (dC, dI) vwCl [(h0, .inr (5, [.ref qT, .int 0, .ref qF, .int 0, .int 0, .int ((-1)), .int 0, .ref qN, .int 0, .ref qR, .int 0, .int 0, .ref qC]))] t.heap ∧ va_K (dC, dI) vwCl [] t ∧ va_D (va_A [(h0, .inr (5, [.ref qT, .int 0, .ref qF, .int 0, .int 0, .int ((-1)), .int 0, .ref qN, .int 0, .ref qR, .int 0, .int 0, .ref qC]))] sz) [(h0, .inr (5, [.ref qT, .int 0, .ref qF, .int 0, .int 0, .int ((-1)), .int 0, .ref qN, .int 0, .ref qR, .int 0, .int 0, .ref qC]))]) (va_A [(h0, .inr (5, [.ref qT, .int 0, .ref qF, .int 0, .int 0, .int ((-1)), .int 0, .ref qN, .int 0, .ref qR, .int 0, .int 0, .ref qC]))] sz)) 0 0 (va_A [(h0, .inr (5, [.ref qT, .int 0, .ref qF, .int 0, .int 0, .int ((-1)), .int 0, .ref qN, .int 0, .ref qR, .int 0, .int 0, .ref qC]))] sz) := by
  refine Met.ofW (cc := cX5_isDay) (maxL := 2) (ret := (some .boolean)) (by decide) rfl ?_
  intro p e s m args below meth c s₁ B hml hv
  obtain ⟨rfl, hsz, hP, hK, hD0⟩ := hv
  have hx := B.exec
  have hb := B.bytes
  have hr := B.returns
  have hts := atoms_spec (ws := wX5_isDay) B.pre
  have hown : s.vm.findClass RX5 = some m.cls := findClass_of_methodNamed B.named
  have hlocks := B.notSynchronized
  have hin5 : ∀ w ∈ wsX50, w ∈ wX5_isDay := by decide +kernel
  subst hsz
  have hD := hD0.self (sz := s.heap.size)
  generalize hAe : va_A [(h0, .inr (5, [.ref qT, .int 0, .ref qF, .int 0, .int 0, .int ((-1)), .int 0, .ref qN, .int 0, .ref qR, .int 0, .int 0, .ref qC]))] s.heap.size = A at hD ⊢
  have hA : ∀ q : Nat, s.heap.size ≤ q → A q := fun q h => by rw [← hAe]; exact Or.inr h
  have hS : va_S A s.heap s.heap [] := va_S.rf
  have hP : va_P (dC, dI) vwCl [(h0, .inr (5, [.ref qT, .int 0, .ref qF, .int 0, .int 0, .int ((-1)), .int 0, .ref qN, .int 0, .ref qR, .int 0, .int 0, .ref qC]))] s.heap := hP
  have hl := lv_entry ([.ref h0, .int p0]) (n := 2) (Nat.le_of_ble_eq_true rfl)
  rw [lg_entry_eq]
  generalize (lg_sl ([.ref h0, .int p0]) ++ List.replicate (2 - (lg_sl ([.ref h0, .int p0])).length) Slot.unset).toArray = ls at hl ⊢
  have hl : lv_has ls 2 [(0, .ref h0), (1, .int p0)] := hl
  refine lv_iload_n hx hb dX5_isDay_0 rfl (lv_at hl 1 rfl) ?_
  refine lv_if_lt (tgt := 16) hx hb dX5_isDay_1 (by decide) (fun c_1 => ?_) (fun c_1 => ?_)
  · refine lv_iconst (v := 0) hx hb dX5_isDay_16 (by decide) ?_
    have hP9 := hP.sub (ws' := [(h0, .inr (5, [.ref qT, .int 0, .ref qF, .int 0, .int 0, .int ((-1)), .int 0, .ref qN, .int 0, .ref qR, .int 0, .int 0, .ref qC]))]) [0] rfl
    have hD9 := hD.sub (ws' := [(h0, .inr (5, [.ref qT, .int 0, .ref qF, .int 0, .int 0, .int ((-1)), .int 0, .ref qN, .int 0, .ref qR, .int 0, .int 0, .ref qC]))]) [0] (by decide) rfl
    have hK9 := hK.sub (tys' := []) [] rfl
    exact W.zret (v := 0) (ty := .boolean) hx hb hr rfl (fun t ht hW => ⟨⟨0, (), rfl, by (try simp only [and_true, true_and, and_false, false_and, or_true, true_or, or_false, false_or, not_true_eq_false, not_false_eq_true, num_lt, num_le, num_eq, Int32.zero_add, Int32.sub_zero, Int32.add_zero, num_m2, num_m1, num_0, num_1, num_2, num_3, num_4, num_5, num_6, num_7, num_8, num_16, num_20, num_31, num_200, num_1000] at c_1 ⊢) <;> omega, by rw [ht]; exact hP9, va_K.moved hW.alike hK9, hD9⟩, hS.F ht⟩) hS.2.2 dX5_isDay_17
  · refine lv_iload_n hx hb dX5_isDay_4 rfl (lv_at hl 1 rfl) ?_
    refine lv_aload_n hx hb dX5_isDay_5 rfl (lv_at hl 0 rfl) ?_
    refine va_get (D := (dC, dI)) (ci := 5) (v := .int 0) (C := RX5) (T := TX5) (N := 13) hx hb hts hin5 hown hK hP 0 rfl rfl 6 (by decide) (hts (.fieldLink RX5 70 "SkiShots" "today" "I") (by decide +kernel)) (fun _ h9 => h9) rfl dX5_isDay_6 ?_
    refine lv_icmp_gt (tgt := 16) hx hb dX5_isDay_9 (by decide) (fun c_2 => ?_) (fun c_2 => ?_)
    · refine lv_iconst (v := 0) hx hb dX5_isDay_16 (by decide) ?_
      have hP9 := hP.sub (ws' := [(h0, .inr (5, [.ref qT, .int 0, .ref qF, .int 0, .int 0, .int ((-1)), .int 0, .ref qN, .int 0, .ref qR, .int 0, .int 0, .ref qC]))]) [0] rfl
      have hD9 := hD.sub (ws' := [(h0, .inr (5, [.ref qT, .int 0, .ref qF, .int 0, .int 0, .int ((-1)), .int 0, .ref qN, .int 0, .ref qR, .int 0, .int 0, .ref qC]))]) [0] (by decide) rfl
      have hK9 := hK.sub (tys' := []) [] rfl
      exact W.zret (v := 0) (ty := .boolean) hx hb hr rfl (fun t ht hW => ⟨⟨0, (), rfl, by (try simp only [and_true, true_and, and_false, false_and, or_true, true_or, or_false, false_or, not_true_eq_false, not_false_eq_true, num_lt, num_le, num_eq, Int32.zero_add, Int32.sub_zero, Int32.add_zero, num_m2, num_m1, num_0, num_1, num_2, num_3, num_4, num_5, num_6, num_7, num_8, num_16, num_20, num_31, num_200, num_1000] at c_1 c_2 ⊢) <;> omega, by rw [ht]; exact hP9, va_K.moved hW.alike hK9, hD9⟩, hS.F ht⟩) hS.2.2 dX5_isDay_17
    · refine lv_iconst (v := 1) hx hb dX5_isDay_12 (by decide) ?_
      refine lv_goto (tgt := 17) hx hb dX5_isDay_13 (by decide) ?_
      have hP9 := hP.sub (ws' := [(h0, .inr (5, [.ref qT, .int 0, .ref qF, .int 0, .int 0, .int ((-1)), .int 0, .ref qN, .int 0, .ref qR, .int 0, .int 0, .ref qC]))]) [0] rfl
      have hD9 := hD.sub (ws' := [(h0, .inr (5, [.ref qT, .int 0, .ref qF, .int 0, .int 0, .int ((-1)), .int 0, .ref qN, .int 0, .ref qR, .int 0, .int 0, .ref qC]))]) [0] (by decide) rfl
      have hK9 := hK.sub (tys' := []) [] rfl
      exact W.zret (v := 1) (ty := .boolean) hx hb hr rfl (fun t ht hW => ⟨⟨1, (), rfl, by (try simp only [and_true, true_and, and_false, false_and, or_true, true_or, or_false, false_or, not_true_eq_false, not_false_eq_true, num_lt, num_le, num_eq, Int32.zero_add, Int32.sub_zero, Int32.add_zero, num_m2, num_m1, num_0, num_1, num_2, num_3, num_4, num_5, num_6, num_7, num_8, num_16, num_20, num_31, num_200, num_1000] at c_1 c_2 ⊢) <;> omega, by rw [ht]; exact hP9, va_K.moved hW.alike hK9, hD9⟩, hS.F ht⟩) hS.2.2 dX5_isDay_17
def wX5_isNation : List Cond := .code yX5_isNation cX5_isNation 1 (some .boolean) :: ([])
set_option maxHeartbeats 4000000 in
set_option maxRecDepth 100000 in
theorem c_X5_isNation (l : Launch) (dC : Nat → ClassId) (dI : Nat → Nat → Nat) (p0 : Int32) (sz : Nat) : Met l yX5_isNation wX5_isNation ({ frames := 0, cells := 0, slots := 0, locals := 0 }) (va_Pc [.int p0] (fun U => U.heap.size = sz ∧ va_P (dC, dI) vwCl [] U.heap ∧ va_K (dC, dI) vwCl [] U ∧ va_D (fun _ => True) [])) (va_Qi (fun (r : Int32) (_ : Unit) => ((0 ≤ p0.toInt ∧ p0.toInt < 8) ∧ r = 1) ∨ (¬ (0 ≤ p0.toInt ∧ p0.toInt < 8) ∧ r = 0)) (fun _ t => va_P (dC, dI) vwCl [] t.heap ∧ va_K (dC, dI) vwCl [] t ∧ va_D (va_A [] sz) []) (va_A [] sz)) 0 0 (va_A [] sz) := by
  refine Met.ofW (cc := cX5_isNation) (maxL := 1) (ret := (some .boolean)) (by decide) rfl ?_
  intro p e s m args below meth c s₁ B hml hv
  obtain ⟨rfl, hsz, hP, hK, hD0⟩ := hv
  have hx := B.exec
  have hb := B.bytes
  have hr := B.returns
  have hts := atoms_spec (ws := wX5_isNation) B.pre
  have hown : s.vm.findClass RX5 = some m.cls := findClass_of_methodNamed B.named
  have hlocks := B.notSynchronized
  subst hsz
  have hD := hD0.self (sz := s.heap.size)
  generalize hAe : va_A [] s.heap.size = A at hD ⊢
  have hA : ∀ q : Nat, s.heap.size ≤ q → A q := fun q h => by rw [← hAe]; exact Or.inr h
  have hS : va_S A s.heap s.heap [] := va_S.rf
  have hP : va_P (dC, dI) vwCl [] s.heap := hP
  have hl := lv_entry ([.int p0]) (n := 1) (Nat.le_of_ble_eq_true rfl)
  rw [lg_entry_eq]
  generalize (lg_sl ([.int p0]) ++ List.replicate (1 - (lg_sl ([.int p0])).length) Slot.unset).toArray = ls at hl ⊢
  have hl : lv_has ls 1 [(0, .int p0)] := hl
  refine lv_iload_n hx hb dX5_isNation_0 rfl (lv_at hl 0 rfl) ?_
  refine lv_if_lt (tgt := 14) hx hb dX5_isNation_1 (by decide) (fun c_1 => ?_) (fun c_1 => ?_)
  · refine lv_iconst (v := 0) hx hb dX5_isNation_14 (by decide) ?_
    have hP9 := hP.sub (ws' := []) [] rfl
    have hD9 := hD.sub (ws' := []) [] (by decide) rfl
    have hK9 := hK.sub (tys' := []) [] rfl
    exact W.zret (v := 0) (ty := .boolean) hx hb hr rfl (fun t ht hW => ⟨⟨0, (), rfl, by (try simp only [and_true, true_and, and_false, false_and, or_true, true_or, or_false, false_or, not_true_eq_false, not_false_eq_true, num_lt, num_le, num_eq, Int32.zero_add, Int32.sub_zero, Int32.add_zero, num_m2, num_m1, num_0, num_1, num_2, num_3, num_4, num_5, num_6, num_7, num_8, num_16, num_20, num_31, num_200, num_1000] at c_1 ⊢) <;> omega, by rw [ht]; exact hP9, va_K.moved hW.alike hK9, hD9⟩, hS.F ht⟩) hS.2.2 dX5_isNation_15
  · refine lv_iload_n hx hb dX5_isNation_4 rfl (lv_at hl 0 rfl) ?_
    refine lv_bipush (v := 8) hx hb dX5_isNation_5 (by decide) ?_
    refine lv_icmp_ge (tgt := 14) hx hb dX5_isNation_7 (by decide) (fun c_2 => ?_) (fun c_2 => ?_)
    · refine lv_iconst (v := 0) hx hb dX5_isNation_14 (by decide) ?_
      have hP9 := hP.sub (ws' := []) [] rfl
      have hD9 := hD.sub (ws' := []) [] (by decide) rfl
      have hK9 := hK.sub (tys' := []) [] rfl
      exact W.zret (v := 0) (ty := .boolean) hx hb hr rfl (fun t ht hW => ⟨⟨0, (), rfl, by (try simp only [and_true, true_and, and_false, false_and, or_true, true_or, or_false, false_or, not_true_eq_false, not_false_eq_true, num_lt, num_le, num_eq, Int32.zero_add, Int32.sub_zero, Int32.add_zero, num_m2, num_m1, num_0, num_1, num_2, num_3, num_4, num_5, num_6, num_7, num_8, num_16, num_20, num_31, num_200, num_1000] at c_1 c_2 ⊢) <;> omega, by rw [ht]; exact hP9, va_K.moved hW.alike hK9, hD9⟩, hS.F ht⟩) hS.2.2 dX5_isNation_15
    · refine lv_iconst (v := 1) hx hb dX5_isNation_10 (by decide) ?_
      refine lv_goto (tgt := 15) hx hb dX5_isNation_11 (by decide) ?_
      have hP9 := hP.sub (ws' := []) [] rfl
      have hD9 := hD.sub (ws' := []) [] (by decide) rfl
      have hK9 := hK.sub (tys' := []) [] rfl
      exact W.zret (v := 1) (ty := .boolean) hx hb hr rfl (fun t ht hW => ⟨⟨1, (), rfl, by (try simp only [and_true, true_and, and_false, false_and, or_true, true_or, or_false, false_or, not_true_eq_false, not_false_eq_true, num_lt, num_le, num_eq, Int32.zero_add, Int32.sub_zero, Int32.add_zero, num_m2, num_m1, num_0, num_1, num_2, num_3, num_4, num_5, num_6, num_7, num_8, num_16, num_20, num_31, num_200, num_1000] at c_1 c_2 ⊢) <;> omega, by rw [ht]; exact hP9, va_K.moved hW.alike hK9, hD9⟩, hS.F ht⟩) hS.2.2 dX5_isNation_15
def wX5_pass : List Cond := .code yX5_pass cX5_pass 2 (some .int) :: ([.fieldLink RX5 70 "SkiShots" "today" "I"] ++ wsX50)
set_option maxHeartbeats 4000000 in
set_option maxRecDepth 100000 in
theorem c_X5_pass (l : Launch) (dC : Nat → ClassId) (dI : Nat → Nat → Nat) (h0 : Nat) (qT : Nat) (qF : Nat) (qN : Nat) (qR : Nat) (qC : Nat) (p0 : Int32) (sz : Nat) : Met l yX5_pass wX5_pass ({ frames := 0, cells := 0, slots := 0, locals := 0 }) (va_Pc [.ref h0, .int p0] (fun U => U.heap.size = sz ∧ va_P (dC, dI) vwCl [(h0, .inr (5, [.ref qT, .int 0, .ref qF, .int 0, .int 0, .int ((-1)), .int 0, .ref qN, .int 0, .ref qR, .int 0, .int 0, .ref qC]))] U.heap ∧ va_K (dC, dI) vwCl [] U ∧ va_D (fun _ => True) [(h0, .inr (5, [.ref qT, .int 0, .ref qF, .int 0, .int 0, .int ((-1)), .int 0, .ref qN, .int 0, .ref qR, .int 0, .int 0, .ref qC]))])) (va_Qi (fun (r : Int32) (_ : Unit) => ((0 ≤ p0.toInt ∧ p0.toInt ≤ 200) ∧ r = p0) ∨ (¬ (0 ≤ p0.toInt ∧ p0.toInt ≤ 200) ∧ r = -1)) (fun _ t => True) (va_A [(h0, .inr (5, [.ref qT, .int 0, .ref qF, .int 0, .int 0, .int ((-1)), .int 0, .ref qN, .int 0, .ref qR, .int 0, .int 0, .ref qC]))] sz)) 0 0 (va_A [(h0, .inr (5, [.ref qT, .int 0, .ref qF, .int 0, .int 0, .int ((-1)), .int 0, .ref qN, .int 0, .ref qR, .int 0, .int 0, .ref qC]))] sz) := by
  refine Met.ofW (cc := cX5_pass) (maxL := 2) (ret := (some .int)) (by decide) rfl ?_
  intro p e s m args below meth c s₁ B hml hv
  obtain ⟨rfl, hsz, hP, hK, hD0⟩ := hv
  have hx := B.exec
  have hb := B.bytes
  have hr := B.returns
  have hts := atoms_spec (ws := wX5_pass) B.pre
  have hown : s.vm.findClass RX5 = some m.cls := findClass_of_methodNamed B.named
  have hlocks := B.notSynchronized
  have hin5 : ∀ w ∈ wsX50, w ∈ wX5_pass := by decide +kernel
  subst hsz
  have hD := hD0.self (sz := s.heap.size)
  generalize hAe : va_A [(h0, .inr (5, [.ref qT, .int 0, .ref qF, .int 0, .int 0, .int ((-1)), .int 0, .ref qN, .int 0, .ref qR, .int 0, .int 0, .ref qC]))] s.heap.size = A at hD ⊢
  have hA : ∀ q : Nat, s.heap.size ≤ q → A q := fun q h => by rw [← hAe]; exact Or.inr h
  have hS : va_S A s.heap s.heap [] := va_S.rf
  have hP : va_P (dC, dI) vwCl [(h0, .inr (5, [.ref qT, .int 0, .ref qF, .int 0, .int 0, .int ((-1)), .int 0, .ref qN, .int 0, .ref qR, .int 0, .int 0, .ref qC]))] s.heap := hP
  have hl := lv_entry ([.ref h0, .int p0]) (n := 2) (Nat.le_of_ble_eq_true rfl)
  rw [lg_entry_eq]
  generalize (lg_sl ([.ref h0, .int p0]) ++ List.replicate (2 - (lg_sl ([.ref h0, .int p0])).length) Slot.unset).toArray = ls at hl ⊢
  have hl : lv_has ls 2 [(0, .ref h0), (1, .int p0)] := hl
  refine lv_iload_n hx hb dX5_pass_0 rfl (lv_at hl 1 rfl) ?_
  refine lv_if_lt (tgt := 16) hx hb dX5_pass_1 (by decide) (fun c_1 => ?_) (fun c_1 => ?_)
  · refine lv_iconst (v := (-1)) hx hb dX5_pass_16 (by decide) ?_
    exact W.iret (v := (-1)) hx hb hr (fun t ht hW => ⟨⟨(-1), (), rfl, by (try simp only [and_true, true_and, and_false, false_and, or_true, true_or, or_false, false_or, not_true_eq_false, not_false_eq_true, num_lt, num_le, num_eq, Int32.zero_add, Int32.sub_zero, Int32.add_zero, num_m2, num_m1, num_0, num_1, num_2, num_3, num_4, num_5, num_6, num_7, num_8, num_16, num_20, num_31, num_200, num_1000] at c_1 ⊢) <;> omega, trivial⟩, hS.F ht⟩) hS.2.2 dX5_pass_17
  · refine lv_iload_n hx hb dX5_pass_4 rfl (lv_at hl 1 rfl) ?_
    refine lv_sipush (v := 200) hx hb dX5_pass_5 (by decide) ?_
    refine lv_aload_n hx hb dX5_pass_8 rfl (lv_at hl 0 rfl) ?_
    refine va_get (D := (dC, dI)) (ci := 5) (v := .int 0) (C := RX5) (T := TX5) (N := 13) hx hb hts hin5 hown hK hP 0 rfl rfl 6 (by decide) (hts (.fieldLink RX5 70 "SkiShots" "today" "I") (by decide +kernel)) (fun _ h9 => h9) rfl dX5_pass_9 ?_
    refine lv_isub hx hb dX5_pass_12 ?_
    rw [show (200 - 0 : Int32) = 200 from by decide]
    refine lv_icmp_le (tgt := 18) hx hb dX5_pass_13 (by decide) (fun c_2 => ?_) (fun c_2 => ?_)
    · refine lv_aload_n hx hb dX5_pass_18 rfl (lv_at hl 0 rfl) ?_
      refine lv_dup hx hb dX5_pass_19 rfl ?_
      refine va_get (D := (dC, dI)) (ci := 5) (v := .int 0) (C := RX5) (T := TX5) (N := 13) hx hb hts hin5 hown hK hP 0 rfl rfl 6 (by decide) (hts (.fieldLink RX5 70 "SkiShots" "today" "I") (by decide +kernel)) (fun _ h9 => h9) rfl dX5_pass_20 ?_
      refine lv_iload_n hx hb dX5_pass_23 rfl (lv_at hl 1 rfl) ?_
      refine lv_iadd hx hb dX5_pass_24 ?_
      refine va_put (D := (dC, dI)) (ci := 5) (v := .int (0 + p0)) (ty := .int) (C := RX5) (T := TX5) (N := 13) hx hb hts hin5 tyX5 tyX5_ok nmX5 hown hK hP hD hS 0 rfl rfl 6 (by decide) (hts (.fieldLink RX5 70 "SkiShots" "today" "I") (by decide +kernel)) (fun _ h9 => h9) rfl (by decide +kernel) rfl rfl (Nat.le_of_ble_eq_true rfl) dX5_pass_25 (fun H locs hP hD hS => ?_)
      have hP : va_P (dC, dI) vwCl [(h0, .inr (5, [.ref qT, .int 0, .ref qF, .int 0, .int 0, .int ((-1)), .int (0 + p0), .ref qN, .int 0, .ref qR, .int 0, .int 0, .ref qC]))] H := hP
      have hD : va_D A [(h0, .inr (5, [.ref qT, .int 0, .ref qF, .int 0, .int 0, .int ((-1)), .int (0 + p0), .ref qN, .int 0, .ref qR, .int 0, .int 0, .ref qC]))] := hD
      refine lv_aload_n hx hb dX5_pass_28 rfl (lv_at hl 0 rfl) ?_
      refine va_get (D := (dC, dI)) (ci := 5) (v := .int (0 + p0)) (C := RX5) (T := TX5) (N := 13) hx hb hts hin5 hown hK hP 0 rfl rfl 6 (by decide) (hts (.fieldLink RX5 70 "SkiShots" "today" "I") (by decide +kernel)) (fun _ h9 => h9) rfl dX5_pass_29 ?_
      exact W.iret (v := 0 + p0) hx hb hr (fun t ht hW => ⟨⟨0 + p0, (), rfl, by (try simp only [and_true, true_and, and_false, false_and, or_true, true_or, or_false, false_or, not_true_eq_false, not_false_eq_true, num_lt, num_le, num_eq, Int32.zero_add, Int32.sub_zero, Int32.add_zero, num_m2, num_m1, num_0, num_1, num_2, num_3, num_4, num_5, num_6, num_7, num_8, num_16, num_20, num_31, num_200, num_1000] at c_1 c_2 ⊢) <;> omega, trivial⟩, hS.F ht⟩) hS.2.2 dX5_pass_32
    · refine lv_iconst (v := (-1)) hx hb dX5_pass_16 (by decide) ?_
      exact W.iret (v := (-1)) hx hb hr (fun t ht hW => ⟨⟨(-1), (), rfl, by (try simp only [and_true, true_and, and_false, false_and, or_true, true_or, or_false, false_or, not_true_eq_false, not_false_eq_true, num_lt, num_le, num_eq, Int32.zero_add, Int32.sub_zero, Int32.add_zero, num_m2, num_m1, num_0, num_1, num_2, num_3, num_4, num_5, num_6, num_7, num_8, num_16, num_20, num_31, num_200, num_1000] at c_1 c_2 ⊢) <;> omega, trivial⟩, hS.F ht⟩) hS.2.2 dX5_pass_17
def wX5_fault : List Cond := .code yX5_fault cX5_fault 2 (some .int) :: ([.fieldLink RX5 55 "SkiShots" "latestFault" "I", .fieldLink RX5 19 "SkiShots" "latestFaultPlace" "I"] ++ wsX50)
set_option maxHeartbeats 4000000 in
set_option maxRecDepth 100000 in
theorem c_X5_fault (l : Launch) (dC : Nat → ClassId) (dI : Nat → Nat → Nat) (h0 : Nat) (qT : Nat) (qF : Nat) (qN : Nat) (qR : Nat) (qC : Nat) (p0 : Int32) (sz : Nat) : Met l yX5_fault wX5_fault ({ frames := 0, cells := 0, slots := 0, locals := 0 }) (va_Pc [.ref h0, .int p0] (fun U => U.heap.size = sz ∧ va_P (dC, dI) vwCl [(h0, .inr (5, [.ref qT, .int 0, .ref qF, .int 0, .int 0, .int ((-1)), .int 0, .ref qN, .int 0, .ref qR, .int 0, .int 0, .ref qC]))] U.heap ∧ va_K (dC, dI) vwCl [] U ∧ va_D (fun _ => True) [(h0, .inr (5, [.ref qT, .int 0, .ref qF, .int 0, .int 0, .int ((-1)), .int 0, .ref qN, .int 0, .ref qR, .int 0, .int 0, .ref qC]))])) (va_Qi (fun (r : Int32) (_ : Unit) => (p0.toInt = 0 ∧ r = 0) ∨ (¬ p0.toInt = 0 ∧ r = -1)) (fun _ t => True) (va_A [(h0, .inr (5, [.ref qT, .int 0, .ref qF, .int 0, .int 0, .int ((-1)), .int 0, .ref qN, .int 0, .ref qR, .int 0, .int 0, .ref qC]))] sz)) 0 0 (va_A [(h0, .inr (5, [.ref qT, .int 0, .ref qF, .int 0, .int 0, .int ((-1)), .int 0, .ref qN, .int 0, .ref qR, .int 0, .int 0, .ref qC]))] sz) := by
  refine Met.ofW (cc := cX5_fault) (maxL := 2) (ret := (some .int)) (by decide) rfl ?_
  intro p e s m args below meth c s₁ B hml hv
  obtain ⟨rfl, hsz, hP, hK, hD0⟩ := hv
  have hx := B.exec
  have hb := B.bytes
  have hr := B.returns
  have hts := atoms_spec (ws := wX5_fault) B.pre
  have hown : s.vm.findClass RX5 = some m.cls := findClass_of_methodNamed B.named
  have hlocks := B.notSynchronized
  have hin5 : ∀ w ∈ wsX50, w ∈ wX5_fault := by decide +kernel
  subst hsz
  have hD := hD0.self (sz := s.heap.size)
  generalize hAe : va_A [(h0, .inr (5, [.ref qT, .int 0, .ref qF, .int 0, .int 0, .int ((-1)), .int 0, .ref qN, .int 0, .ref qR, .int 0, .int 0, .ref qC]))] s.heap.size = A at hD ⊢
  have hA : ∀ q : Nat, s.heap.size ≤ q → A q := fun q h => by rw [← hAe]; exact Or.inr h
  have hS : va_S A s.heap s.heap [] := va_S.rf
  have hP : va_P (dC, dI) vwCl [(h0, .inr (5, [.ref qT, .int 0, .ref qF, .int 0, .int 0, .int ((-1)), .int 0, .ref qN, .int 0, .ref qR, .int 0, .int 0, .ref qC]))] s.heap := hP
  have hl := lv_entry ([.ref h0, .int p0]) (n := 2) (Nat.le_of_ble_eq_true rfl)
  rw [lg_entry_eq]
  generalize (lg_sl ([.ref h0, .int p0]) ++ List.replicate (2 - (lg_sl ([.ref h0, .int p0])).length) Slot.unset).toArray = ls at hl ⊢
  have hl : lv_has ls 2 [(0, .ref h0), (1, .int p0)] := hl
  refine lv_iload_n hx hb dX5_fault_0 rfl (lv_at hl 1 rfl) ?_
  by_cases s_1 : p0 = 0
  · subst s_1
    refine lv_lookup (tgt := 28) hx hb dX5_fault_1 (by decide) (off := 27) (by decide) (by decide) ?_
    refine lv_aload_n hx hb dX5_fault_28 rfl (lv_at hl 0 rfl) ?_
    refine va_get (D := (dC, dI)) (ci := 5) (v := .int 0) (C := RX5) (T := TX5) (N := 13) hx hb hts hin5 hown hK hP 0 rfl rfl 4 (by decide) (hts (.fieldLink RX5 55 "SkiShots" "latestFault" "I") (by decide +kernel)) (fun _ h9 => h9) rfl dX5_fault_29 ?_
    exact W.iret (v := 0) hx hb hr (fun t ht hW => ⟨⟨0, (), rfl, by (try simp only [and_true, true_and, and_false, false_and, or_true, true_or, or_false, false_or, not_true_eq_false, not_false_eq_true, num_lt, num_le, num_eq, Int32.zero_add, Int32.sub_zero, Int32.add_zero, num_m2, num_m1, num_0, num_1, num_2, num_3, num_4, num_5, num_6, num_7, num_8, num_16, num_20, num_31, num_200, num_1000] at  ⊢) <;> omega, trivial⟩, hS.F ht⟩) hS.2.2 dX5_fault_32
  by_cases s_2 : p0 = 1
  · subst s_2
    refine lv_lookup (tgt := 33) hx hb dX5_fault_1 (by decide) (off := 32) (by decide) (by decide) ?_
    refine lv_aload_n hx hb dX5_fault_33 rfl (lv_at hl 0 rfl) ?_
    refine va_get (D := (dC, dI)) (ci := 5) (v := .int ((-1))) (C := RX5) (T := TX5) (N := 13) hx hb hts hin5 hown hK hP 0 rfl rfl 5 (by decide) (hts (.fieldLink RX5 19 "SkiShots" "latestFaultPlace" "I") (by decide +kernel)) (fun _ h9 => h9) rfl dX5_fault_34 ?_
    exact W.iret (v := (-1)) hx hb hr (fun t ht hW => ⟨⟨(-1), (), rfl, by (try simp only [and_true, true_and, and_false, false_and, or_true, true_or, or_false, false_or, not_true_eq_false, not_false_eq_true, num_lt, num_le, num_eq, Int32.zero_add, Int32.sub_zero, Int32.add_zero, num_m2, num_m1, num_0, num_1, num_2, num_3, num_4, num_5, num_6, num_7, num_8, num_16, num_20, num_31, num_200, num_1000] at s_1 ⊢) <;> omega, trivial⟩, hS.F ht⟩) hS.2.2 dX5_fault_37
  · refine lv_lookup (tgt := 38) hx hb dX5_fault_1 (by decide) (off := 37) (by simp only [and_true, true_and, and_false, false_and, or_true, true_or, or_false, false_or, not_true_eq_false, not_false_eq_true, num_lt, num_le, num_eq, Int32.zero_add, Int32.sub_zero, Int32.add_zero, num_m2, num_m1, num_0, num_1, num_2, num_3, num_4, num_5, num_6, num_7, num_8, num_16, num_20, num_31, num_200, num_1000] at s_1 s_2; simp only [Op.lookupswitch.offset]; (repeat rw [if_neg (by omega)])) (by decide) ?_
    refine lv_iconst (v := (-1)) hx hb dX5_fault_38 (by decide) ?_
    exact W.iret (v := (-1)) hx hb hr (fun t ht hW => ⟨⟨(-1), (), rfl, by (try simp only [and_true, true_and, and_false, false_and, or_true, true_or, or_false, false_or, not_true_eq_false, not_false_eq_true, num_lt, num_le, num_eq, Int32.zero_add, Int32.sub_zero, Int32.add_zero, num_m2, num_m1, num_0, num_1, num_2, num_3, num_4, num_5, num_6, num_7, num_8, num_16, num_20, num_31, num_200, num_1000] at s_1 s_2 ⊢) <;> omega, trivial⟩, hS.F ht⟩) hS.2.2 dX5_fault_39
def wX5_count : List Cond := .code yX5_count cX5_count 2 (some .int) :: ([.fieldLink RX5 70 "SkiShots" "today" "I", .fieldLink RX5 67 "SkiShots" "formatCount" "I", .fieldLink RX5 77 "SkiShots" "racerCount" "I", .fieldLink RX5 80 "SkiShots" "raceCount" "I", .fieldLink RX5 109 "SkiShots" "eventCount" "I"] ++ wsX50)
set_option maxHeartbeats 4000000 in
set_option maxRecDepth 100000 in
theorem c_X5_count (l : Launch) (dC : Nat → ClassId) (dI : Nat → Nat → Nat) (h0 : Nat) (qT : Nat) (qF : Nat) (qN : Nat) (qR : Nat) (qC : Nat) (p0 : Int32) (sz : Nat) : Met l yX5_count wX5_count ({ frames := 0, cells := 0, slots := 0, locals := 0 }) (va_Pc [.ref h0, .int p0] (fun U => U.heap.size = sz ∧ va_P (dC, dI) vwCl [(h0, .inr (5, [.ref qT, .int 0, .ref qF, .int 0, .int 0, .int ((-1)), .int 0, .ref qN, .int 0, .ref qR, .int 0, .int 0, .ref qC]))] U.heap ∧ va_K (dC, dI) vwCl [] U ∧ va_D (fun _ => True) [(h0, .inr (5, [.ref qT, .int 0, .ref qF, .int 0, .int 0, .int ((-1)), .int 0, .ref qN, .int 0, .ref qR, .int 0, .int 0, .ref qC]))])) (va_Qi (fun (r : Int32) (_ : Unit) => ((0 ≤ p0.toInt ∧ p0.toInt ≤ 4) ∧ r = 0) ∨ (¬ (0 ≤ p0.toInt ∧ p0.toInt ≤ 4) ∧ r = -1)) (fun _ t => True) (va_A [(h0, .inr (5, [.ref qT, .int 0, .ref qF, .int 0, .int 0, .int ((-1)), .int 0, .ref qN, .int 0, .ref qR, .int 0, .int 0, .ref qC]))] sz)) 0 0 (va_A [(h0, .inr (5, [.ref qT, .int 0, .ref qF, .int 0, .int 0, .int ((-1)), .int 0, .ref qN, .int 0, .ref qR, .int 0, .int 0, .ref qC]))] sz) := by
  refine Met.ofW (cc := cX5_count) (maxL := 2) (ret := (some .int)) (by decide) rfl ?_
  intro p e s m args below meth c s₁ B hml hv
  obtain ⟨rfl, hsz, hP, hK, hD0⟩ := hv
  have hx := B.exec
  have hb := B.bytes
  have hr := B.returns
  have hts := atoms_spec (ws := wX5_count) B.pre
  have hown : s.vm.findClass RX5 = some m.cls := findClass_of_methodNamed B.named
  have hlocks := B.notSynchronized
  have hin5 : ∀ w ∈ wsX50, w ∈ wX5_count := by decide +kernel
  subst hsz
  have hD := hD0.self (sz := s.heap.size)
  generalize hAe : va_A [(h0, .inr (5, [.ref qT, .int 0, .ref qF, .int 0, .int 0, .int ((-1)), .int 0, .ref qN, .int 0, .ref qR, .int 0, .int 0, .ref qC]))] s.heap.size = A at hD ⊢
  have hA : ∀ q : Nat, s.heap.size ≤ q → A q := fun q h => by rw [← hAe]; exact Or.inr h
  have hS : va_S A s.heap s.heap [] := va_S.rf
  have hP : va_P (dC, dI) vwCl [(h0, .inr (5, [.ref qT, .int 0, .ref qF, .int 0, .int 0, .int ((-1)), .int 0, .ref qN, .int 0, .ref qR, .int 0, .int 0, .ref qC]))] s.heap := hP
  have hl := lv_entry ([.ref h0, .int p0]) (n := 2) (Nat.le_of_ble_eq_true rfl)
  rw [lg_entry_eq]
  generalize (lg_sl ([.ref h0, .int p0]) ++ List.replicate (2 - (lg_sl ([.ref h0, .int p0])).length) Slot.unset).toArray = ls at hl ⊢
  have hl : lv_has ls 2 [(0, .ref h0), (1, .int p0)] := hl
  refine lv_iload_n hx hb dX5_count_0 rfl (lv_at hl 1 rfl) ?_
  by_cases s_1 : p0 = 0
  · subst s_1
    refine lv_tableIn (tgt := 36) (off := 35) hx hb dX5_count_1 (by decide) (by decide) (by decide) (by decide) ?_
    refine lv_aload_n hx hb dX5_count_36 rfl (lv_at hl 0 rfl) ?_
    refine va_get (D := (dC, dI)) (ci := 5) (v := .int 0) (C := RX5) (T := TX5) (N := 13) hx hb hts hin5 hown hK hP 0 rfl rfl 6 (by decide) (hts (.fieldLink RX5 70 "SkiShots" "today" "I") (by decide +kernel)) (fun _ h9 => h9) rfl dX5_count_37 ?_
    exact W.iret (v := 0) hx hb hr (fun t ht hW => ⟨⟨0, (), rfl, by (try simp only [and_true, true_and, and_false, false_and, or_true, true_or, or_false, false_or, not_true_eq_false, not_false_eq_true, num_lt, num_le, num_eq, Int32.zero_add, Int32.sub_zero, Int32.add_zero, num_m2, num_m1, num_0, num_1, num_2, num_3, num_4, num_5, num_6, num_7, num_8, num_16, num_20, num_31, num_200, num_1000] at  ⊢) <;> omega, trivial⟩, hS.F ht⟩) hS.2.2 dX5_count_40
  by_cases s_2 : p0 = 1
  · subst s_2
    refine lv_tableIn (tgt := 41) (off := 40) hx hb dX5_count_1 (by decide) (by decide) (by decide) (by decide) ?_
    refine lv_aload_n hx hb dX5_count_41 rfl (lv_at hl 0 rfl) ?_
    refine va_get (D := (dC, dI)) (ci := 5) (v := .int 0) (C := RX5) (T := TX5) (N := 13) hx hb hts hin5 hown hK hP 0 rfl rfl 3 (by decide) (hts (.fieldLink RX5 67 "SkiShots" "formatCount" "I") (by decide +kernel)) (fun _ h9 => h9) rfl dX5_count_42 ?_
    exact W.iret (v := 0) hx hb hr (fun t ht hW => ⟨⟨0, (), rfl, by (try simp only [and_true, true_and, and_false, false_and, or_true, true_or, or_false, false_or, not_true_eq_false, not_false_eq_true, num_lt, num_le, num_eq, Int32.zero_add, Int32.sub_zero, Int32.add_zero, num_m2, num_m1, num_0, num_1, num_2, num_3, num_4, num_5, num_6, num_7, num_8, num_16, num_20, num_31, num_200, num_1000] at s_1 ⊢) <;> omega, trivial⟩, hS.F ht⟩) hS.2.2 dX5_count_45
  by_cases s_3 : p0 = 2
  · subst s_3
    refine lv_tableIn (tgt := 46) (off := 45) hx hb dX5_count_1 (by decide) (by decide) (by decide) (by decide) ?_
    refine lv_aload_n hx hb dX5_count_46 rfl (lv_at hl 0 rfl) ?_
    refine va_get (D := (dC, dI)) (ci := 5) (v := .int 0) (C := RX5) (T := TX5) (N := 13) hx hb hts hin5 hown hK hP 0 rfl rfl 8 (by decide) (hts (.fieldLink RX5 77 "SkiShots" "racerCount" "I") (by decide +kernel)) (fun _ h9 => h9) rfl dX5_count_47 ?_
    exact W.iret (v := 0) hx hb hr (fun t ht hW => ⟨⟨0, (), rfl, by (try simp only [and_true, true_and, and_false, false_and, or_true, true_or, or_false, false_or, not_true_eq_false, not_false_eq_true, num_lt, num_le, num_eq, Int32.zero_add, Int32.sub_zero, Int32.add_zero, num_m2, num_m1, num_0, num_1, num_2, num_3, num_4, num_5, num_6, num_7, num_8, num_16, num_20, num_31, num_200, num_1000] at s_1 s_2 ⊢) <;> omega, trivial⟩, hS.F ht⟩) hS.2.2 dX5_count_50
  by_cases s_4 : p0 = 3
  · subst s_4
    refine lv_tableIn (tgt := 51) (off := 50) hx hb dX5_count_1 (by decide) (by decide) (by decide) (by decide) ?_
    refine lv_aload_n hx hb dX5_count_51 rfl (lv_at hl 0 rfl) ?_
    refine va_get (D := (dC, dI)) (ci := 5) (v := .int 0) (C := RX5) (T := TX5) (N := 13) hx hb hts hin5 hown hK hP 0 rfl rfl 10 (by decide) (hts (.fieldLink RX5 80 "SkiShots" "raceCount" "I") (by decide +kernel)) (fun _ h9 => h9) rfl dX5_count_52 ?_
    exact W.iret (v := 0) hx hb hr (fun t ht hW => ⟨⟨0, (), rfl, by (try simp only [and_true, true_and, and_false, false_and, or_true, true_or, or_false, false_or, not_true_eq_false, not_false_eq_true, num_lt, num_le, num_eq, Int32.zero_add, Int32.sub_zero, Int32.add_zero, num_m2, num_m1, num_0, num_1, num_2, num_3, num_4, num_5, num_6, num_7, num_8, num_16, num_20, num_31, num_200, num_1000] at s_1 s_2 s_3 ⊢) <;> omega, trivial⟩, hS.F ht⟩) hS.2.2 dX5_count_55
  by_cases s_5 : p0 = 4
  · subst s_5
    refine lv_tableIn (tgt := 56) (off := 55) hx hb dX5_count_1 (by decide) (by decide) (by decide) (by decide) ?_
    refine lv_aload_n hx hb dX5_count_56 rfl (lv_at hl 0 rfl) ?_
    refine va_get (D := (dC, dI)) (ci := 5) (v := .int 0) (C := RX5) (T := TX5) (N := 13) hx hb hts hin5 hown hK hP 0 rfl rfl 11 (by decide) (hts (.fieldLink RX5 109 "SkiShots" "eventCount" "I") (by decide +kernel)) (fun _ h9 => h9) rfl dX5_count_57 ?_
    exact W.iret (v := 0) hx hb hr (fun t ht hW => ⟨⟨0, (), rfl, by (try simp only [and_true, true_and, and_false, false_and, or_true, true_or, or_false, false_or, not_true_eq_false, not_false_eq_true, num_lt, num_le, num_eq, Int32.zero_add, Int32.sub_zero, Int32.add_zero, num_m2, num_m1, num_0, num_1, num_2, num_3, num_4, num_5, num_6, num_7, num_8, num_16, num_20, num_31, num_200, num_1000] at s_1 s_2 s_3 s_4 ⊢) <;> omega, trivial⟩, hS.F ht⟩) hS.2.2 dX5_count_60
  · refine lv_tableOut (tgt := 61) hx hb dX5_count_1 (by simp only [and_true, true_and, and_false, false_and, or_true, true_or, or_false, false_or, not_true_eq_false, not_false_eq_true, num_lt, num_le, num_eq, Int32.zero_add, Int32.sub_zero, Int32.add_zero, num_m2, num_m1, num_0, num_1, num_2, num_3, num_4, num_5, num_6, num_7, num_8, num_16, num_20, num_31, num_200, num_1000] at s_1 s_2 s_3 s_4 s_5; omega) (by decide) ?_
    refine lv_iconst (v := (-1)) hx hb dX5_count_61 (by decide) ?_
    exact W.iret (v := (-1)) hx hb hr (fun t ht hW => ⟨⟨(-1), (), rfl, by (try simp only [and_true, true_and, and_false, false_and, or_true, true_or, or_false, false_or, not_true_eq_false, not_false_eq_true, num_lt, num_le, num_eq, Int32.zero_add, Int32.sub_zero, Int32.add_zero, num_m2, num_m1, num_0, num_1, num_2, num_3, num_4, num_5, num_6, num_7, num_8, num_16, num_20, num_31, num_200, num_1000] at s_1 s_2 s_3 s_4 s_5 ⊢) <;> omega, trivial⟩, hS.F ht⟩) hS.2.2 dX5_count_62
def wX5_racer : List Cond := .code yX5_racer cX5_racer 2 (some .int) :: ([.fieldLink RX5 77 "SkiShots" "racerCount" "I", .fieldLink RX5 23 "SkiShots" "nations" "[I", .methodLink RX5 73 yX5_isNation, .static yX5_isNation, .initialized RX5, .code yX5_isNation cX5_isNation 1 (some .boolean)] ++ wsX50)
set_option maxRecDepth 20000 in
theorem gX5_racer_c_X5_isNation_2 : GoodIn wX5_racer (va_wsS RX5 73 yX5_isNation wX5_isNation) := goodIn_p _ [6] rfl (by decide +kernel)
set_option maxHeartbeats 4000000 in
set_option maxRecDepth 100000 in
theorem c_X5_racer (l : Launch) (dC : Nat → ClassId) (dI : Nat → Nat → Nat) (h0 : Nat) (qT : Nat) (qF : Nat) (qN : Nat) (qR : Nat) (qC : Nat) (cN : ClassId) (p0 : Int32) (sz : Nat) : Met l yX5_racer wX5_racer ({ frames := 1, cells := 0, slots := 0, locals := 20 }) (va_Pc [.ref h0, .int p0] (fun U => U.heap.size = sz ∧ va_P (dC, dI) vwCl [(h0, .inr (5, [.ref qT, .int 0, .ref qF, .int 0, .int 0, .int ((-1)), .int 0, .ref qN, .int 0, .ref qR, .int 0, .int 0, .ref qC])), (qN, .inl (cN, 16, .inl (fun _ => 0)))] U.heap ∧ va_K (dC, dI) vwCl [(cN, .int)] U ∧ va_D (fun _ => True) [(h0, .inr (5, [.ref qT, .int 0, .ref qF, .int 0, .int 0, .int ((-1)), .int 0, .ref qN, .int 0, .ref qR, .int 0, .int 0, .ref qC])), (qN, .inl (cN, 16, .inl (fun _ => 0)))])) (va_Qi (fun (r : Int32) (_ : Unit) => ((0 ≤ p0.toInt ∧ p0.toInt < 8) ∧ r = 0) ∨ (¬ (0 ≤ p0.toInt ∧ p0.toInt < 8) ∧ r = -1)) (fun _ t => True) (va_A [(h0, .inr (5, [.ref qT, .int 0, .ref qF, .int 0, .int 0, .int ((-1)), .int 0, .ref qN, .int 0, .ref qR, .int 0, .int 0, .ref qC])), (qN, .inl (cN, 16, .inl (fun _ => 0)))] sz)) 0 0 (va_A [(h0, .inr (5, [.ref qT, .int 0, .ref qF, .int 0, .int 0, .int ((-1)), .int 0, .ref qN, .int 0, .ref qR, .int 0, .int 0, .ref qC])), (qN, .inl (cN, 16, .inl (fun _ => 0)))] sz) := by
  refine Met.ofW (cc := cX5_racer) (maxL := 2) (ret := (some .int)) (by decide) rfl ?_
  intro p e s m args below meth c s₁ B hml hv
  obtain ⟨rfl, hsz, hP, hK, hD0⟩ := hv
  have hx := B.exec
  have hb := B.bytes
  have hr := B.returns
  have hts := atoms_spec (ws := wX5_racer) B.pre
  have hown : s.vm.findClass RX5 = some m.cls := findClass_of_methodNamed B.named
  have hlocks := B.notSynchronized
  have hin5 : ∀ w ∈ wsX50, w ∈ wX5_racer := by decide +kernel
  subst hsz
  have hD := hD0.self (sz := s.heap.size)
  generalize hAe : va_A [(h0, .inr (5, [.ref qT, .int 0, .ref qF, .int 0, .int 0, .int ((-1)), .int 0, .ref qN, .int 0, .ref qR, .int 0, .int 0, .ref qC])), (qN, .inl (cN, 16, .inl (fun _ => 0)))] s.heap.size = A at hD ⊢
  have hA : ∀ q : Nat, s.heap.size ≤ q → A q := fun q h => by rw [← hAe]; exact Or.inr h
  have hS : va_S A s.heap s.heap [] := va_S.rf
  have hP : va_P (dC, dI) vwCl [(h0, .inr (5, [.ref qT, .int 0, .ref qF, .int 0, .int 0, .int ((-1)), .int 0, .ref qN, .int 0, .ref qR, .int 0, .int 0, .ref qC])), (qN, .inl (cN, 16, .inl (fun _ => 0)))] s.heap := hP
  have hl := lv_entry ([.ref h0, .int p0]) (n := 2) (Nat.le_of_ble_eq_true rfl)
  rw [lg_entry_eq]
  generalize (lg_sl ([.ref h0, .int p0]) ++ List.replicate (2 - (lg_sl ([.ref h0, .int p0])).length) Slot.unset).toArray = ls at hl ⊢
  have hl : lv_has ls 2 [(0, .ref h0), (1, .int p0)] := hl
  refine lv_iload_n hx hb dX5_racer_0 rfl (lv_at hl 1 rfl) ?_
  have hPc := hP.sub (ws' := []) [] rfl
  have hDc := hD.sub (ws' := []) [] (by decide) rfl
  have hKc := hK.sub (tys' := []) [] rfl
  have hFc := va_free (wc := []) hD hS hA [] rfl
  refine va_calli (va_runS (As := [.int p0]) (rest := []) ⟨hx, hb, hml, hown, hts⟩ (c_X5_isNation l dC dI p0 s.heap.size) (va_cwS 1 hts gX5_racer_c_X5_isNation_2 rfl rfl rfl (by decide +kernel) ⟨Nat.le_of_ble_eq_true rfl, Nat.le_of_ble_eq_true rfl⟩) ⟨fun a U g mk q => by obtain ⟨q0, q1, qP, qK, qD⟩ := q; exact ⟨q0, q1, qP, va_K.moved (u := U) (U := U.calling g mk a) (Vm.Alike.refl U.vm) qK, qD⟩, fun U hU hW => ⟨rfl, by rw [hU], by rw [hU]; exact hPc, va_K.moved hW.alike hKc, hDc.weaken (fun _ _ _ _ => trivial)⟩⟩ rfl rfl hl.1 rfl (lv_room (Nat.le_of_ble_eq_true rfl)) dX5_racer_1 ⟨show (0 + 0 : Nat) ≤ 0 from by omega, show (0 + 0 : Nat) ≤ 0 from by omega⟩) hS (fun q _ h => hFc q h) hFc (fun r_1 u t H1 locs ht hvm hw hB hz1 hk1 hS => ?_)
  obtain ⟨hP1, hK1, hD1⟩ := hB
  rw [ht] at hP1
  have hK1 := va_K.moved hvm.symm hK1
  try dsimp only at hw
  obtain ⟨hP, hD⟩ := va_join (wr := [(h0, .inr (5, [.ref qT, .int 0, .ref qF, .int 0, .int 0, .int ((-1)), .int 0, .ref qN, .int 0, .ref qR, .int 0, .int 0, .ref qC])), (qN, .inl (cN, 16, .inl (fun _ => 0)))]) (w1 := []) hP hD [] [0, 1] rfl rfl (by decide) (by decide) hk1 hFc hP1 hD1
  generalize H1 = H at hP hS ⊢
  have hP : va_P (dC, dI) vwCl [(h0, .inr (5, [.ref qT, .int 0, .ref qF, .int 0, .int 0, .int ((-1)), .int 0, .ref qN, .int 0, .ref qR, .int 0, .int 0, .ref qC])), (qN, .inl (cN, 16, .inl (fun _ => 0)))] H := hP
  have hD : va_D A [(h0, .inr (5, [.ref qT, .int 0, .ref qF, .int 0, .int 0, .int ((-1)), .int 0, .ref qN, .int 0, .ref qR, .int 0, .int 0, .ref qC])), (qN, .inl (cN, 16, .inl (fun _ => 0)))] := hD
  have hw_3 := hw
  refine lv_if_eq (tgt := 16) hx hb dX5_racer_4 (by decide) (fun c_4 => ?_) (fun c_4 => ?_)
  · refine lv_iconst (v := (-1)) hx hb dX5_racer_16 (by decide) ?_
    exact W.iret (v := (-1)) hx hb hr (fun t ht hW => ⟨⟨(-1), (), rfl, by (try simp only [and_true, true_and, and_false, false_and, or_true, true_or, or_false, false_or, not_true_eq_false, not_false_eq_true, num_lt, num_le, num_eq, Int32.zero_add, Int32.sub_zero, Int32.add_zero, num_m2, num_m1, num_0, num_1, num_2, num_3, num_4, num_5, num_6, num_7, num_8, num_16, num_20, num_31, num_200, num_1000] at hw_3 c_4 ⊢) <;> omega, trivial⟩, hS.F ht⟩) hS.2.2 dX5_racer_17
  · refine lv_aload_n hx hb dX5_racer_7 rfl (lv_at hl 0 rfl) ?_
    refine va_get (D := (dC, dI)) (ci := 5) (v := .int 0) (C := RX5) (T := TX5) (N := 13) hx hb hts hin5 hown hK hP 0 rfl rfl 8 (by decide) (hts (.fieldLink RX5 77 "SkiShots" "racerCount" "I") (by decide +kernel)) (fun _ h9 => h9) rfl dX5_racer_8 ?_
    refine lv_bipush (v := 16) hx hb dX5_racer_11 (by decide) ?_
    refine lv_icmp_lt (tgt := 18) hx hb dX5_racer_13 (by decide) (fun c_5 => ?_) (fun c_5 => absurd (by decide) c_5)
    refine lv_aload_n hx hb dX5_racer_18 rfl (lv_at hl 0 rfl) ?_
    refine va_get (D := (dC, dI)) (ci := 5) (v := .ref qN) (C := RX5) (T := TX5) (N := 13) hx hb hts hin5 hown hK hP 0 rfl rfl 7 (by decide) (hts (.fieldLink RX5 23 "SkiShots" "nations" "[I") (by decide +kernel)) (fun _ h9 => h9) rfl dX5_racer_19 ?_
    refine lv_aload_n hx hb dX5_racer_22 rfl (lv_at hl 0 rfl) ?_
    refine va_get (D := (dC, dI)) (ci := 5) (v := .int 0) (C := RX5) (T := TX5) (N := 13) hx hb hts hin5 hown hK hP 0 rfl rfl 8 (by decide) (hts (.fieldLink RX5 77 "SkiShots" "racerCount" "I") (by decide +kernel)) (fun _ h9 => h9) rfl dX5_racer_23 ?_
    refine lv_iload_n hx hb dX5_racer_26 rfl (lv_at hl 1 rfl) ?_
    refine va_iast hx hb hK hP hD hS 1 0 rfl rfl (by unfold vp_in; decide) dX5_racer_27 (fun H locs hP hD hS => ?_)
    obtain ⟨f_6, ef_6⟩ : ∃ g : Nat → Int32, g = upd (fun _ => 0) (Int32.toNatClampNeg 0) (p0) := ⟨_, rfl⟩
    have hP : va_P (dC, dI) vwCl [(h0, .inr (5, [.ref qT, .int 0, .ref qF, .int 0, .int 0, .int ((-1)), .int 0, .ref qN, .int 0, .ref qR, .int 0, .int 0, .ref qC])), (qN, .inl (cN, 16, .inl (f_6)))] H := by rw [ef_6]; exact hP
    have hD : va_D A [(h0, .inr (5, [.ref qT, .int 0, .ref qF, .int 0, .int 0, .int ((-1)), .int 0, .ref qN, .int 0, .ref qR, .int 0, .int 0, .ref qC])), (qN, .inl (cN, 16, .inl (f_6)))] := by rw [ef_6]; exact hD
    refine lv_aload_n hx hb dX5_racer_28 rfl (lv_at hl 0 rfl) ?_
    refine lv_dup hx hb dX5_racer_29 rfl ?_
    refine va_get (D := (dC, dI)) (ci := 5) (v := .int 0) (C := RX5) (T := TX5) (N := 13) hx hb hts hin5 hown hK hP 0 rfl rfl 8 (by decide) (hts (.fieldLink RX5 77 "SkiShots" "racerCount" "I") (by decide +kernel)) (fun _ h9 => h9) rfl dX5_racer_30 ?_
    refine lv_iconst (v := 1) hx hb dX5_racer_33 (by decide) ?_
    refine lv_iadd hx hb dX5_racer_34 ?_
    rw [show (0 + 1 : Int32) = 1 from by decide]
    refine va_put (D := (dC, dI)) (ci := 5) (v := .int 1) (ty := .int) (C := RX5) (T := TX5) (N := 13) hx hb hts hin5 tyX5 tyX5_ok nmX5 hown hK hP hD hS 0 rfl rfl 8 (by decide) (hts (.fieldLink RX5 77 "SkiShots" "racerCount" "I") (by decide +kernel)) (fun _ h9 => h9) rfl (by decide +kernel) rfl rfl (Nat.le_of_ble_eq_true rfl) dX5_racer_35 (fun H locs hP hD hS => ?_)
    have hP : va_P (dC, dI) vwCl [(h0, .inr (5, [.ref qT, .int 0, .ref qF, .int 0, .int 0, .int ((-1)), .int 0, .ref qN, .int 1, .ref qR, .int 0, .int 0, .ref qC])), (qN, .inl (cN, 16, .inl (f_6)))] H := hP
    have hD : va_D A [(h0, .inr (5, [.ref qT, .int 0, .ref qF, .int 0, .int 0, .int ((-1)), .int 0, .ref qN, .int 1, .ref qR, .int 0, .int 0, .ref qC])), (qN, .inl (cN, 16, .inl (f_6)))] := hD
    refine lv_aload_n hx hb dX5_racer_38 rfl (lv_at hl 0 rfl) ?_
    refine va_get (D := (dC, dI)) (ci := 5) (v := .int 1) (C := RX5) (T := TX5) (N := 13) hx hb hts hin5 hown hK hP 0 rfl rfl 8 (by decide) (hts (.fieldLink RX5 77 "SkiShots" "racerCount" "I") (by decide +kernel)) (fun _ h9 => h9) rfl dX5_racer_39 ?_
    refine lv_iconst (v := 1) hx hb dX5_racer_42 (by decide) ?_
    refine lv_isub hx hb dX5_racer_43 ?_
    rw [show (1 - 1 : Int32) = 0 from by decide]
    exact W.iret (v := 0) hx hb hr (fun t ht hW => ⟨⟨0, (), rfl, by (try simp only [and_true, true_and, and_false, false_and, or_true, true_or, or_false, false_or, not_true_eq_false, not_false_eq_true, num_lt, num_le, num_eq, Int32.zero_add, Int32.sub_zero, Int32.add_zero, num_m2, num_m1, num_0, num_1, num_2, num_3, num_4, num_5, num_6, num_7, num_8, num_16, num_20, num_31, num_200, num_1000] at hw_3 c_4 c_5 ⊢) <;> omega, trivial⟩, hS.F ht⟩) hS.2.2 dX5_racer_44
def wX5_race : List Cond := .code yX5_race cX5_race 6 (some .int) :: ([.fieldLink RX5 80 "SkiShots" "raceCount" "I", .fieldLink RX5 15 "SkiShots" "formatsByName" "[LSkiShots$Format;"] ++ wsX50)
set_option maxHeartbeats 4000000 in
set_option maxRecDepth 100000 in
theorem c_X5_race (l : Launch) (dC : Nat → ClassId) (dI : Nat → Nat → Nat) (h0 : Nat) (qT : Nat) (qF : Nat) (qN : Nat) (qR : Nat) (qC : Nat) (cF : ClassId) (p0 : Int32) (p1 : Int32) (sz : Nat) : Met l yX5_race wX5_race ({ frames := 0, cells := 0, slots := 0, locals := 0 }) (va_Pc [.ref h0, .int p0, .int p1] (fun U => U.heap.size = sz ∧ va_P (dC, dI) vwCl [(h0, .inr (5, [.ref qT, .int 0, .ref qF, .int 0, .int 0, .int ((-1)), .int 0, .ref qN, .int 0, .ref qR, .int 0, .int 0, .ref qC])), (qF, .inl (cF, 8, .inr (.inr (.inr (.inr (fun _ => none))))))] U.heap ∧ va_K (dC, dI) vwCl [(cF, .object RX2)] U ∧ va_D (fun _ => True) [(h0, .inr (5, [.ref qT, .int 0, .ref qF, .int 0, .int 0, .int ((-1)), .int 0, .ref qN, .int 0, .ref qR, .int 0, .int 0, .ref qC])), (qF, .inl (cF, 8, .inr (.inr (.inr (.inr (fun _ => none))))))])) (va_Qi (fun (r : Int32) (_ : Unit) => r = -1) (fun _ t => True) (va_A [(h0, .inr (5, [.ref qT, .int 0, .ref qF, .int 0, .int 0, .int ((-1)), .int 0, .ref qN, .int 0, .ref qR, .int 0, .int 0, .ref qC])), (qF, .inl (cF, 8, .inr (.inr (.inr (.inr (fun _ => none))))))] sz)) 0 0 (va_A [(h0, .inr (5, [.ref qT, .int 0, .ref qF, .int 0, .int 0, .int ((-1)), .int 0, .ref qN, .int 0, .ref qR, .int 0, .int 0, .ref qC])), (qF, .inl (cF, 8, .inr (.inr (.inr (.inr (fun _ => none))))))] sz) := by
  refine Met.ofW (cc := cX5_race) (maxL := 6) (ret := (some .int)) (by decide) rfl ?_
  intro p e s m args below meth c s₁ B hml hv
  obtain ⟨rfl, hsz, hP, hK, hD0⟩ := hv
  have hx := B.exec
  have hb := B.bytes
  have hr := B.returns
  have hts := atoms_spec (ws := wX5_race) B.pre
  have hown : s.vm.findClass RX5 = some m.cls := findClass_of_methodNamed B.named
  have hlocks := B.notSynchronized
  have hin5 : ∀ w ∈ wsX50, w ∈ wX5_race := by decide +kernel
  subst hsz
  have hD := hD0.self (sz := s.heap.size)
  generalize hAe : va_A [(h0, .inr (5, [.ref qT, .int 0, .ref qF, .int 0, .int 0, .int ((-1)), .int 0, .ref qN, .int 0, .ref qR, .int 0, .int 0, .ref qC])), (qF, .inl (cF, 8, .inr (.inr (.inr (.inr (fun _ => none))))))] s.heap.size = A at hD ⊢
  have hA : ∀ q : Nat, s.heap.size ≤ q → A q := fun q h => by rw [← hAe]; exact Or.inr h
  have hS : va_S A s.heap s.heap [] := va_S.rf
  have hP : va_P (dC, dI) vwCl [(h0, .inr (5, [.ref qT, .int 0, .ref qF, .int 0, .int 0, .int ((-1)), .int 0, .ref qN, .int 0, .ref qR, .int 0, .int 0, .ref qC])), (qF, .inl (cF, 8, .inr (.inr (.inr (.inr (fun _ => none))))))] s.heap := hP
  have hl := lv_entry ([.ref h0, .int p0, .int p1]) (n := 6) (Nat.le_of_ble_eq_true rfl)
  rw [lg_entry_eq]
  generalize (lg_sl ([.ref h0, .int p0, .int p1]) ++ List.replicate (6 - (lg_sl ([.ref h0, .int p0, .int p1])).length) Slot.unset).toArray = ls at hl ⊢
  have hl : lv_has ls 6 [(0, .ref h0), (1, .int p0), (2, .int p1)] := hl
  refine lv_iload_n hx hb dX5_race_0 rfl (lv_at hl 1 rfl) ?_
  refine lv_if_lt (tgt := 19) hx hb dX5_race_1 (by decide) (fun c_1 => ?_) (fun c_1 => ?_)
  · refine lv_iconst (v := (-1)) hx hb dX5_race_19 (by decide) ?_
    exact W.iret (v := (-1)) hx hb hr (fun t ht hW => ⟨⟨(-1), (), rfl, rfl, trivial⟩, hS.F ht⟩) hS.2.2 dX5_race_20
  · refine lv_iload_n hx hb dX5_race_4 rfl (lv_at hl 1 rfl) ?_
    refine lv_bipush (v := 8) hx hb dX5_race_5 (by decide) ?_
    refine lv_icmp_ge (tgt := 19) hx hb dX5_race_7 (by decide) (fun c_2 => ?_) (fun c_2 => ?_)
    · refine lv_iconst (v := (-1)) hx hb dX5_race_19 (by decide) ?_
      exact W.iret (v := (-1)) hx hb hr (fun t ht hW => ⟨⟨(-1), (), rfl, rfl, trivial⟩, hS.F ht⟩) hS.2.2 dX5_race_20
    · refine lv_aload_n hx hb dX5_race_10 rfl (lv_at hl 0 rfl) ?_
      refine va_get (D := (dC, dI)) (ci := 5) (v := .int 0) (C := RX5) (T := TX5) (N := 13) hx hb hts hin5 hown hK hP 0 rfl rfl 10 (by decide) (hts (.fieldLink RX5 80 "SkiShots" "raceCount" "I") (by decide +kernel)) (fun _ h9 => h9) rfl dX5_race_11 ?_
      refine lv_bipush (v := 8) hx hb dX5_race_14 (by decide) ?_
      refine lv_icmp_lt (tgt := 21) hx hb dX5_race_16 (by decide) (fun c_3 => ?_) (fun c_3 => absurd (by decide) c_3)
      refine lv_aload_n hx hb dX5_race_21 rfl (lv_at hl 0 rfl) ?_
      refine va_get (D := (dC, dI)) (ci := 5) (v := .ref qF) (C := RX5) (T := TX5) (N := 13) hx hb hts hin5 hown hK hP 0 rfl rfl 2 (by decide) (hts (.fieldLink RX5 15 "SkiShots" "formatsByName" "[LSkiShots$Format;") (by decide +kernel)) (fun _ h9 => h9) rfl dX5_race_22 ?_
      refine lv_iload_n hx hb dX5_race_25 rfl (lv_at hl 1 rfl) ?_
      refine va_aldq hx hb hK hP 1 0 rfl rfl (by rw [vp_in_iff]; (simp only [and_true, true_and, and_false, false_and, or_true, true_or, or_false, false_or, not_true_eq_false, not_false_eq_true, num_lt, num_le, num_eq, Int32.zero_add, Int32.sub_zero, Int32.add_zero, num_m2, num_m1, num_0, num_1, num_2, num_3, num_4, num_5, num_6, num_7, num_8, num_16, num_20, num_31, num_200, num_1000] at c_1 c_2 c_3); omega) dX5_race_26 ?_
      show W _ _ _ _ _ _ _ _ _ _ _ _ _ _ _ (F0 m 27 ls (.null :: []))
      refine lv_astore_nN (lv' := [(3, .null), (0, .ref h0), (1, .int p0), (2, .int p1)]) hx hb dX5_race_27 rfl hl (by decide) rfl (fun ls hl => ?_)
      refine lv_aload_nN hx hb dX5_race_28 rfl (lv_at hl 0 rfl) ?_
      refine lv_ifnonnullN hx hb dX5_race_29 ?_
      refine lv_iconst (v := (-1)) hx hb dX5_race_32 (by decide) ?_
      exact W.iret (v := (-1)) hx hb hr (fun t ht hW => ⟨⟨(-1), (), rfl, rfl, trivial⟩, hS.F ht⟩) hS.2.2 dX5_race_33
def wX5_enter : List Cond := .code yX5_enter cX5_enter 4 (some .int) :: ([.methodLink RX5 83 yX5_raceAt, .instanceMethod yX5_raceAt, .selects RX5 yX5_raceAt yX5_raceAt, .initialized RX5, .code yX5_raceAt cX5_raceAt 2 (some (.object "SkiShots$Race")), .fieldLink RX5 80 "SkiShots" "raceCount" "I"] ++ wsX50)
set_option maxRecDepth 20000 in
theorem gX5_enter_c_X5_raceAt_2 : GoodIn wX5_enter (wsV RX5 83 RX5 yX5_raceAt wX5_raceAt) := goodIn_p _ [5] rfl (by decide +kernel)
set_option maxHeartbeats 4000000 in
set_option maxRecDepth 100000 in
theorem c_X5_enter (l : Launch) (dC : Nat → ClassId) (dI : Nat → Nat → Nat) (h0 : Nat) (qT : Nat) (qF : Nat) (qN : Nat) (qR : Nat) (qC : Nat) (p0 : Int32) (p1 : Int32) (sz : Nat) : Met l yX5_enter wX5_enter ({ frames := 1, cells := 0, slots := 0, locals := 21 }) (va_Pc [.ref h0, .int p0, .int p1] (fun U => U.heap.size = sz ∧ va_P (dC, dI) vwCl [(h0, .inr (5, [.ref qT, .int 0, .ref qF, .int 0, .int 0, .int ((-1)), .int 0, .ref qN, .int 0, .ref qR, .int 0, .int 0, .ref qC]))] U.heap ∧ va_K (dC, dI) vwCl [] U ∧ va_D (fun _ => True) [(h0, .inr (5, [.ref qT, .int 0, .ref qF, .int 0, .int 0, .int ((-1)), .int 0, .ref qN, .int 0, .ref qR, .int 0, .int 0, .ref qC]))])) (va_Qi (fun (r : Int32) (_ : Unit) => r = -1) (fun _ t => True) (va_A [(h0, .inr (5, [.ref qT, .int 0, .ref qF, .int 0, .int 0, .int ((-1)), .int 0, .ref qN, .int 0, .ref qR, .int 0, .int 0, .ref qC]))] sz)) 0 0 (va_A [(h0, .inr (5, [.ref qT, .int 0, .ref qF, .int 0, .int 0, .int ((-1)), .int 0, .ref qN, .int 0, .ref qR, .int 0, .int 0, .ref qC]))] sz) := by
  refine Met.ofW (cc := cX5_enter) (maxL := 4) (ret := (some .int)) (by decide) rfl ?_
  intro p e s m args below meth c s₁ B hml hv
  obtain ⟨rfl, hsz, hP, hK, hD0⟩ := hv
  have hx := B.exec
  have hb := B.bytes
  have hr := B.returns
  have hts := atoms_spec (ws := wX5_enter) B.pre
  have hown : s.vm.findClass RX5 = some m.cls := findClass_of_methodNamed B.named
  have hlocks := B.notSynchronized
  subst hsz
  have hD := hD0.self (sz := s.heap.size)
  generalize hAe : va_A [(h0, .inr (5, [.ref qT, .int 0, .ref qF, .int 0, .int 0, .int ((-1)), .int 0, .ref qN, .int 0, .ref qR, .int 0, .int 0, .ref qC]))] s.heap.size = A at hD ⊢
  have hA : ∀ q : Nat, s.heap.size ≤ q → A q := fun q h => by rw [← hAe]; exact Or.inr h
  have hS : va_S A s.heap s.heap [] := va_S.rf
  have hP : va_P (dC, dI) vwCl [(h0, .inr (5, [.ref qT, .int 0, .ref qF, .int 0, .int 0, .int ((-1)), .int 0, .ref qN, .int 0, .ref qR, .int 0, .int 0, .ref qC]))] s.heap := hP
  have hl := lv_entry ([.ref h0, .int p0, .int p1]) (n := 4) (Nat.le_of_ble_eq_true rfl)
  rw [lg_entry_eq]
  generalize (lg_sl ([.ref h0, .int p0, .int p1]) ++ List.replicate (4 - (lg_sl ([.ref h0, .int p0, .int p1])).length) Slot.unset).toArray = ls at hl ⊢
  have hl : lv_has ls 4 [(0, .ref h0), (1, .int p0), (2, .int p1)] := hl
  refine lv_aload_n hx hb dX5_enter_0 rfl (lv_at hl 0 rfl) ?_
  refine lv_iload_n hx hb dX5_enter_1 rfl (lv_at hl 1 rfl) ?_
  have hPc := hP.sub (ws' := [(h0, .inr (5, [.ref qT, .int 0, .ref qF, .int 0, .int 0, .int ((-1)), .int 0, .ref qN, .int 0, .ref qR, .int 0, .int 0, .ref qC]))]) [0] rfl
  have hDc := hD.sub (ws' := [(h0, .inr (5, [.ref qT, .int 0, .ref qF, .int 0, .int 0, .int ((-1)), .int 0, .ref qN, .int 0, .ref qR, .int 0, .int 0, .ref qC]))]) [0] (by decide) rfl
  have hKc := hK.sub (tys' := []) [] rfl
  have hFc := va_free (wc := [(h0, .inr (5, [.ref qT, .int 0, .ref qF, .int 0, .int 0, .int ((-1)), .int 0, .ref qN, .int 0, .ref qR, .int 0, .int 0, .ref qC]))]) hD hS hA [0] rfl
  refine va_callq (va_runV (As := [.int p0]) (rest := []) ⟨hx, hb, hml, hown, hts⟩ (c_X5_raceAt l dC dI h0 qT qF qN qR qC p0 s.heap.size) (cwV 1 hts gX5_enter_c_X5_raceAt_2 rfl rfl rfl (by decide +kernel) ⟨Nat.le_of_ble_eq_true rfl, Nat.le_of_ble_eq_true rfl⟩) ⟨fun a U g mk q => by obtain ⟨q0, q1, qP, qK, qD⟩ := q; exact ⟨q0, q1, qP, va_K.moved (u := U) (U := U.calling g mk a) (Vm.Alike.refl U.vm) qK, qD⟩, va_recv hKc hPc (ci := 5) (q0 := 0) rfl rfl, fun U hU hW => ⟨rfl, by rw [hU], by rw [hU]; exact hPc, va_K.moved hW.alike hKc, hDc.weaken (fun _ _ _ _ => trivial)⟩⟩ rfl rfl hl.1 rfl (lv_room (Nat.le_of_ble_eq_true rfl)) dX5_enter_2 ⟨show (0 + 0 : Nat) ≤ 0 from by omega, show (0 + 0 : Nat) ≤ 0 from by omega⟩) hS (fun q _ h => hFc q h) hFc (fun r_1 u t H1 locs ht hvm hw hB hz1 hk1 hS => ?_)
  obtain ⟨hP1, hK1, hD1⟩ := hB
  rw [ht] at hP1
  have hK1 := va_K.moved hvm.symm hK1
  try dsimp only at hw
  obtain ⟨hP, hD⟩ := va_join (wr := []) (w1 := [(h0, .inr (5, [.ref qT, .int 0, .ref qF, .int 0, .int 0, .int ((-1)), .int 0, .ref qN, .int 0, .ref qR, .int 0, .int 0, .ref qC]))]) hP hD [0] [] rfl rfl (by decide) (by decide) hk1 hFc hP1 hD1
  generalize H1 = H at hP hS ⊢
  have hP : va_P (dC, dI) vwCl [(h0, .inr (5, [.ref qT, .int 0, .ref qF, .int 0, .int 0, .int ((-1)), .int 0, .ref qN, .int 0, .ref qR, .int 0, .int 0, .ref qC]))] H := hP
  have hD : va_D A [(h0, .inr (5, [.ref qT, .int 0, .ref qF, .int 0, .int 0, .int ((-1)), .int 0, .ref qN, .int 0, .ref qR, .int 0, .int 0, .ref qC]))] := hD
  have hw_3 := hw
  subst hw_3
  show W _ _ _ _ _ _ _ _ _ _ _ _ _ _ _ (F0 m 5 ls [.null])
  refine lv_astore_nN (lv' := [(3, .null), (0, .ref h0), (1, .int p0), (2, .int p1)]) hx hb dX5_enter_5 rfl hl (by decide) rfl (fun ls hl => ?_)
  refine lv_aload_nN hx hb dX5_enter_6 rfl (lv_at hl 0 rfl) ?_
  refine lv_ifnullN (tgt := 33) hx hb dX5_enter_7 (by decide) ?_
  refine lv_iconst (v := (-1)) hx hb dX5_enter_33 (by decide) ?_
  exact W.iret (v := (-1)) hx hb hr (fun t ht hW => ⟨⟨(-1), (), rfl, rfl, trivial⟩, hS.F ht⟩) hS.2.2 dX5_enter_34
def wX5_tell : List Cond := .code yX5_tell cX5_tell 8 (some .int) :: ([.methodLink RX5 83 yX5_raceAt, .instanceMethod yX5_raceAt, .selects RX5 yX5_raceAt yX5_raceAt, .initialized RX5, .code yX5_raceAt cX5_raceAt 2 (some (.object "SkiShots$Race")), .fieldLink RX5 80 "SkiShots" "raceCount" "I"] ++ wsX50)
set_option maxRecDepth 20000 in
theorem gX5_tell_c_X5_raceAt_2 : GoodIn wX5_tell (wsV RX5 83 RX5 yX5_raceAt wX5_raceAt) := goodIn_p _ [5] rfl (by decide +kernel)
set_option maxHeartbeats 4000000 in
set_option maxRecDepth 100000 in
theorem c_X5_tell (l : Launch) (dC : Nat → ClassId) (dI : Nat → Nat → Nat) (h0 : Nat) (qT : Nat) (qF : Nat) (qN : Nat) (qR : Nat) (qC : Nat) (p0 : Int32) (p1 : Int32) (p2 : Int32) (p3 : Int32) (p4 : Int32) (sz : Nat) : Met l yX5_tell wX5_tell ({ frames := 1, cells := 0, slots := 0, locals := 21 }) (va_Pc [.ref h0, .int p0, .int p1, .int p2, .int p3, .int p4] (fun U => U.heap.size = sz ∧ va_P (dC, dI) vwCl [(h0, .inr (5, [.ref qT, .int 0, .ref qF, .int 0, .int 0, .int ((-1)), .int 0, .ref qN, .int 0, .ref qR, .int 0, .int 0, .ref qC]))] U.heap ∧ va_K (dC, dI) vwCl [] U ∧ va_D (fun _ => True) [(h0, .inr (5, [.ref qT, .int 0, .ref qF, .int 0, .int 0, .int ((-1)), .int 0, .ref qN, .int 0, .ref qR, .int 0, .int 0, .ref qC]))])) (va_Qi (fun (r : Int32) (_ : Unit) => r = -1) (fun _ t => True) (va_A [(h0, .inr (5, [.ref qT, .int 0, .ref qF, .int 0, .int 0, .int ((-1)), .int 0, .ref qN, .int 0, .ref qR, .int 0, .int 0, .ref qC]))] sz)) 0 0 (va_A [(h0, .inr (5, [.ref qT, .int 0, .ref qF, .int 0, .int 0, .int ((-1)), .int 0, .ref qN, .int 0, .ref qR, .int 0, .int 0, .ref qC]))] sz) := by
  refine Met.ofW (cc := cX5_tell) (maxL := 8) (ret := (some .int)) (by decide) rfl ?_
  intro p e s m args below meth c s₁ B hml hv
  obtain ⟨rfl, hsz, hP, hK, hD0⟩ := hv
  have hx := B.exec
  have hb := B.bytes
  have hr := B.returns
  have hts := atoms_spec (ws := wX5_tell) B.pre
  have hown : s.vm.findClass RX5 = some m.cls := findClass_of_methodNamed B.named
  have hlocks := B.notSynchronized
  subst hsz
  have hD := hD0.self (sz := s.heap.size)
  generalize hAe : va_A [(h0, .inr (5, [.ref qT, .int 0, .ref qF, .int 0, .int 0, .int ((-1)), .int 0, .ref qN, .int 0, .ref qR, .int 0, .int 0, .ref qC]))] s.heap.size = A at hD ⊢
  have hA : ∀ q : Nat, s.heap.size ≤ q → A q := fun q h => by rw [← hAe]; exact Or.inr h
  have hS : va_S A s.heap s.heap [] := va_S.rf
  have hP : va_P (dC, dI) vwCl [(h0, .inr (5, [.ref qT, .int 0, .ref qF, .int 0, .int 0, .int ((-1)), .int 0, .ref qN, .int 0, .ref qR, .int 0, .int 0, .ref qC]))] s.heap := hP
  have hl := lv_entry ([.ref h0, .int p0, .int p1, .int p2, .int p3, .int p4]) (n := 8) (Nat.le_of_ble_eq_true rfl)
  rw [lg_entry_eq]
  generalize (lg_sl ([.ref h0, .int p0, .int p1, .int p2, .int p3, .int p4]) ++ List.replicate (8 - (lg_sl ([.ref h0, .int p0, .int p1, .int p2, .int p3, .int p4])).length) Slot.unset).toArray = ls at hl ⊢
  have hl : lv_has ls 8 [(0, .ref h0), (1, .int p0), (2, .int p1), (3, .int p2), (4, .int p3), (5, .int p4)] := hl
  refine lv_aload_n hx hb dX5_tell_0 rfl (lv_at hl 0 rfl) ?_
  refine lv_iload_n hx hb dX5_tell_1 rfl (lv_at hl 1 rfl) ?_
  have hPc := hP.sub (ws' := [(h0, .inr (5, [.ref qT, .int 0, .ref qF, .int 0, .int 0, .int ((-1)), .int 0, .ref qN, .int 0, .ref qR, .int 0, .int 0, .ref qC]))]) [0] rfl
  have hDc := hD.sub (ws' := [(h0, .inr (5, [.ref qT, .int 0, .ref qF, .int 0, .int 0, .int ((-1)), .int 0, .ref qN, .int 0, .ref qR, .int 0, .int 0, .ref qC]))]) [0] (by decide) rfl
  have hKc := hK.sub (tys' := []) [] rfl
  have hFc := va_free (wc := [(h0, .inr (5, [.ref qT, .int 0, .ref qF, .int 0, .int 0, .int ((-1)), .int 0, .ref qN, .int 0, .ref qR, .int 0, .int 0, .ref qC]))]) hD hS hA [0] rfl
  refine va_callq (va_runV (As := [.int p0]) (rest := []) ⟨hx, hb, hml, hown, hts⟩ (c_X5_raceAt l dC dI h0 qT qF qN qR qC p0 s.heap.size) (cwV 1 hts gX5_tell_c_X5_raceAt_2 rfl rfl rfl (by decide +kernel) ⟨Nat.le_of_ble_eq_true rfl, Nat.le_of_ble_eq_true rfl⟩) ⟨fun a U g mk q => by obtain ⟨q0, q1, qP, qK, qD⟩ := q; exact ⟨q0, q1, qP, va_K.moved (u := U) (U := U.calling g mk a) (Vm.Alike.refl U.vm) qK, qD⟩, va_recv hKc hPc (ci := 5) (q0 := 0) rfl rfl, fun U hU hW => ⟨rfl, by rw [hU], by rw [hU]; exact hPc, va_K.moved hW.alike hKc, hDc.weaken (fun _ _ _ _ => trivial)⟩⟩ rfl rfl hl.1 rfl (lv_room (Nat.le_of_ble_eq_true rfl)) dX5_tell_2 ⟨show (0 + 0 : Nat) ≤ 0 from by omega, show (0 + 0 : Nat) ≤ 0 from by omega⟩) hS (fun q _ h => hFc q h) hFc (fun r_1 u t H1 locs ht hvm hw hB hz1 hk1 hS => ?_)
  obtain ⟨hP1, hK1, hD1⟩ := hB
  rw [ht] at hP1
  have hK1 := va_K.moved hvm.symm hK1
  try dsimp only at hw
  obtain ⟨hP, hD⟩ := va_join (wr := []) (w1 := [(h0, .inr (5, [.ref qT, .int 0, .ref qF, .int 0, .int 0, .int ((-1)), .int 0, .ref qN, .int 0, .ref qR, .int 0, .int 0, .ref qC]))]) hP hD [0] [] rfl rfl (by decide) (by decide) hk1 hFc hP1 hD1
  generalize H1 = H at hP hS ⊢
  have hP : va_P (dC, dI) vwCl [(h0, .inr (5, [.ref qT, .int 0, .ref qF, .int 0, .int 0, .int ((-1)), .int 0, .ref qN, .int 0, .ref qR, .int 0, .int 0, .ref qC]))] H := hP
  have hD : va_D A [(h0, .inr (5, [.ref qT, .int 0, .ref qF, .int 0, .int 0, .int ((-1)), .int 0, .ref qN, .int 0, .ref qR, .int 0, .int 0, .ref qC]))] := hD
  have hw_3 := hw
  subst hw_3
  show W _ _ _ _ _ _ _ _ _ _ _ _ _ _ _ (F0 m 5 ls [.null])
  refine lv_astoreN (lv' := [(6, .null), (0, .ref h0), (1, .int p0), (2, .int p1), (3, .int p2), (4, .int p3), (5, .int p4)]) hx hb dX5_tell_5 hl (by decide) rfl (fun ls hl => ?_)
  refine lv_aloadN hx hb dX5_tell_7 (lv_at hl 0 rfl) ?_
  refine lv_ifnullN (tgt := 22) hx hb dX5_tell_9 (by decide) ?_
  refine lv_iconst (v := (-1)) hx hb dX5_tell_22 (by decide) ?_
  exact W.iret (v := (-1)) hx hb hr (fun t ht hW => ⟨⟨(-1), (), rfl, rfl, trivial⟩, hS.F ht⟩) hS.2.2 dX5_tell_23
def wX5_entry : List Cond := .code yX5_entry cX5_entry 4 (some .int) :: ([.methodLink RX5 83 yX5_raceAt, .instanceMethod yX5_raceAt, .selects RX5 yX5_raceAt yX5_raceAt, .initialized RX5, .code yX5_raceAt cX5_raceAt 2 (some (.object "SkiShots$Race")), .fieldLink RX5 80 "SkiShots" "raceCount" "I"] ++ wsX50)
set_option maxRecDepth 20000 in
theorem gX5_entry_c_X5_raceAt_2 : GoodIn wX5_entry (wsV RX5 83 RX5 yX5_raceAt wX5_raceAt) := goodIn_p _ [5] rfl (by decide +kernel)
set_option maxHeartbeats 4000000 in
set_option maxRecDepth 100000 in
theorem c_X5_entry (l : Launch) (dC : Nat → ClassId) (dI : Nat → Nat → Nat) (h0 : Nat) (qT : Nat) (qF : Nat) (qN : Nat) (qR : Nat) (qC : Nat) (p0 : Int32) (p1 : Int32) (sz : Nat) : Met l yX5_entry wX5_entry ({ frames := 1, cells := 0, slots := 0, locals := 21 }) (va_Pc [.ref h0, .int p0, .int p1] (fun U => U.heap.size = sz ∧ va_P (dC, dI) vwCl [(h0, .inr (5, [.ref qT, .int 0, .ref qF, .int 0, .int 0, .int ((-1)), .int 0, .ref qN, .int 0, .ref qR, .int 0, .int 0, .ref qC]))] U.heap ∧ va_K (dC, dI) vwCl [] U ∧ va_D (fun _ => True) [(h0, .inr (5, [.ref qT, .int 0, .ref qF, .int 0, .int 0, .int ((-1)), .int 0, .ref qN, .int 0, .ref qR, .int 0, .int 0, .ref qC]))])) (va_Qi (fun (r : Int32) (_ : Unit) => r = -1) (fun _ t => True) (va_A [(h0, .inr (5, [.ref qT, .int 0, .ref qF, .int 0, .int 0, .int ((-1)), .int 0, .ref qN, .int 0, .ref qR, .int 0, .int 0, .ref qC]))] sz)) 0 0 (va_A [(h0, .inr (5, [.ref qT, .int 0, .ref qF, .int 0, .int 0, .int ((-1)), .int 0, .ref qN, .int 0, .ref qR, .int 0, .int 0, .ref qC]))] sz) := by
  refine Met.ofW (cc := cX5_entry) (maxL := 4) (ret := (some .int)) (by decide) rfl ?_
  intro p e s m args below meth c s₁ B hml hv
  obtain ⟨rfl, hsz, hP, hK, hD0⟩ := hv
  have hx := B.exec
  have hb := B.bytes
  have hr := B.returns
  have hts := atoms_spec (ws := wX5_entry) B.pre
  have hown : s.vm.findClass RX5 = some m.cls := findClass_of_methodNamed B.named
  have hlocks := B.notSynchronized
  subst hsz
  have hD := hD0.self (sz := s.heap.size)
  generalize hAe : va_A [(h0, .inr (5, [.ref qT, .int 0, .ref qF, .int 0, .int 0, .int ((-1)), .int 0, .ref qN, .int 0, .ref qR, .int 0, .int 0, .ref qC]))] s.heap.size = A at hD ⊢
  have hA : ∀ q : Nat, s.heap.size ≤ q → A q := fun q h => by rw [← hAe]; exact Or.inr h
  have hS : va_S A s.heap s.heap [] := va_S.rf
  have hP : va_P (dC, dI) vwCl [(h0, .inr (5, [.ref qT, .int 0, .ref qF, .int 0, .int 0, .int ((-1)), .int 0, .ref qN, .int 0, .ref qR, .int 0, .int 0, .ref qC]))] s.heap := hP
  have hl := lv_entry ([.ref h0, .int p0, .int p1]) (n := 4) (Nat.le_of_ble_eq_true rfl)
  rw [lg_entry_eq]
  generalize (lg_sl ([.ref h0, .int p0, .int p1]) ++ List.replicate (4 - (lg_sl ([.ref h0, .int p0, .int p1])).length) Slot.unset).toArray = ls at hl ⊢
  have hl : lv_has ls 4 [(0, .ref h0), (1, .int p0), (2, .int p1)] := hl
  refine lv_aload_n hx hb dX5_entry_0 rfl (lv_at hl 0 rfl) ?_
  refine lv_iload_n hx hb dX5_entry_1 rfl (lv_at hl 1 rfl) ?_
  have hPc := hP.sub (ws' := [(h0, .inr (5, [.ref qT, .int 0, .ref qF, .int 0, .int 0, .int ((-1)), .int 0, .ref qN, .int 0, .ref qR, .int 0, .int 0, .ref qC]))]) [0] rfl
  have hDc := hD.sub (ws' := [(h0, .inr (5, [.ref qT, .int 0, .ref qF, .int 0, .int 0, .int ((-1)), .int 0, .ref qN, .int 0, .ref qR, .int 0, .int 0, .ref qC]))]) [0] (by decide) rfl
  have hKc := hK.sub (tys' := []) [] rfl
  have hFc := va_free (wc := [(h0, .inr (5, [.ref qT, .int 0, .ref qF, .int 0, .int 0, .int ((-1)), .int 0, .ref qN, .int 0, .ref qR, .int 0, .int 0, .ref qC]))]) hD hS hA [0] rfl
  refine va_callq (va_runV (As := [.int p0]) (rest := []) ⟨hx, hb, hml, hown, hts⟩ (c_X5_raceAt l dC dI h0 qT qF qN qR qC p0 s.heap.size) (cwV 1 hts gX5_entry_c_X5_raceAt_2 rfl rfl rfl (by decide +kernel) ⟨Nat.le_of_ble_eq_true rfl, Nat.le_of_ble_eq_true rfl⟩) ⟨fun a U g mk q => by obtain ⟨q0, q1, qP, qK, qD⟩ := q; exact ⟨q0, q1, qP, va_K.moved (u := U) (U := U.calling g mk a) (Vm.Alike.refl U.vm) qK, qD⟩, va_recv hKc hPc (ci := 5) (q0 := 0) rfl rfl, fun U hU hW => ⟨rfl, by rw [hU], by rw [hU]; exact hPc, va_K.moved hW.alike hKc, hDc.weaken (fun _ _ _ _ => trivial)⟩⟩ rfl rfl hl.1 rfl (lv_room (Nat.le_of_ble_eq_true rfl)) dX5_entry_2 ⟨show (0 + 0 : Nat) ≤ 0 from by omega, show (0 + 0 : Nat) ≤ 0 from by omega⟩) hS (fun q _ h => hFc q h) hFc (fun r_1 u t H1 locs ht hvm hw hB hz1 hk1 hS => ?_)
  obtain ⟨hP1, hK1, hD1⟩ := hB
  rw [ht] at hP1
  have hK1 := va_K.moved hvm.symm hK1
  try dsimp only at hw
  obtain ⟨hP, hD⟩ := va_join (wr := []) (w1 := [(h0, .inr (5, [.ref qT, .int 0, .ref qF, .int 0, .int 0, .int ((-1)), .int 0, .ref qN, .int 0, .ref qR, .int 0, .int 0, .ref qC]))]) hP hD [0] [] rfl rfl (by decide) (by decide) hk1 hFc hP1 hD1
  generalize H1 = H at hP hS ⊢
  have hP : va_P (dC, dI) vwCl [(h0, .inr (5, [.ref qT, .int 0, .ref qF, .int 0, .int 0, .int ((-1)), .int 0, .ref qN, .int 0, .ref qR, .int 0, .int 0, .ref qC]))] H := hP
  have hD : va_D A [(h0, .inr (5, [.ref qT, .int 0, .ref qF, .int 0, .int 0, .int ((-1)), .int 0, .ref qN, .int 0, .ref qR, .int 0, .int 0, .ref qC]))] := hD
  have hw_3 := hw
  subst hw_3
  show W _ _ _ _ _ _ _ _ _ _ _ _ _ _ _ (F0 m 5 ls [.null])
  refine lv_astore_nN (lv' := [(3, .null), (0, .ref h0), (1, .int p0), (2, .int p1)]) hx hb dX5_entry_5 rfl hl (by decide) rfl (fun ls hl => ?_)
  refine lv_aload_nN hx hb dX5_entry_6 rfl (lv_at hl 0 rfl) ?_
  refine lv_ifnullN (tgt := 22) hx hb dX5_entry_7 (by decide) ?_
  refine lv_iconst (v := (-1)) hx hb dX5_entry_22 (by decide) ?_
  exact W.iret (v := (-1)) hx hb hr (fun t ht hW => ⟨⟨(-1), (), rfl, rfl, trivial⟩, hS.F ht⟩) hS.2.2 dX5_entry_23
def wX5_order : List Cond := .code yX5_order cX5_order 6 (some .int) :: ([.methodLink RX5 83 yX5_raceAt, .instanceMethod yX5_raceAt, .selects RX5 yX5_raceAt yX5_raceAt, .initialized RX5, .code yX5_raceAt cX5_raceAt 2 (some (.object "SkiShots$Race")), .fieldLink RX5 80 "SkiShots" "raceCount" "I"] ++ wsX50)
set_option maxRecDepth 20000 in
theorem gX5_order_c_X5_raceAt_2 : GoodIn wX5_order (wsV RX5 83 RX5 yX5_raceAt wX5_raceAt) := goodIn_p _ [5] rfl (by decide +kernel)
set_option maxHeartbeats 4000000 in
set_option maxRecDepth 100000 in
theorem c_X5_order (l : Launch) (dC : Nat → ClassId) (dI : Nat → Nat → Nat) (h0 : Nat) (qT : Nat) (qF : Nat) (qN : Nat) (qR : Nat) (qC : Nat) (p0 : Int32) (p1 : Int32) (p2 : Int32) (sz : Nat) : Met l yX5_order wX5_order ({ frames := 1, cells := 0, slots := 0, locals := 21 }) (va_Pc [.ref h0, .int p0, .int p1, .int p2] (fun U => U.heap.size = sz ∧ va_P (dC, dI) vwCl [(h0, .inr (5, [.ref qT, .int 0, .ref qF, .int 0, .int 0, .int ((-1)), .int 0, .ref qN, .int 0, .ref qR, .int 0, .int 0, .ref qC]))] U.heap ∧ va_K (dC, dI) vwCl [] U ∧ va_D (fun _ => True) [(h0, .inr (5, [.ref qT, .int 0, .ref qF, .int 0, .int 0, .int ((-1)), .int 0, .ref qN, .int 0, .ref qR, .int 0, .int 0, .ref qC]))])) (va_Qi (fun (r : Int32) (_ : Unit) => r = -1) (fun _ t => True) (va_A [(h0, .inr (5, [.ref qT, .int 0, .ref qF, .int 0, .int 0, .int ((-1)), .int 0, .ref qN, .int 0, .ref qR, .int 0, .int 0, .ref qC]))] sz)) 0 0 (va_A [(h0, .inr (5, [.ref qT, .int 0, .ref qF, .int 0, .int 0, .int ((-1)), .int 0, .ref qN, .int 0, .ref qR, .int 0, .int 0, .ref qC]))] sz) := by
  refine Met.ofW (cc := cX5_order) (maxL := 6) (ret := (some .int)) (by decide) rfl ?_
  intro p e s m args below meth c s₁ B hml hv
  obtain ⟨rfl, hsz, hP, hK, hD0⟩ := hv
  have hx := B.exec
  have hb := B.bytes
  have hr := B.returns
  have hts := atoms_spec (ws := wX5_order) B.pre
  have hown : s.vm.findClass RX5 = some m.cls := findClass_of_methodNamed B.named
  have hlocks := B.notSynchronized
  subst hsz
  have hD := hD0.self (sz := s.heap.size)
  generalize hAe : va_A [(h0, .inr (5, [.ref qT, .int 0, .ref qF, .int 0, .int 0, .int ((-1)), .int 0, .ref qN, .int 0, .ref qR, .int 0, .int 0, .ref qC]))] s.heap.size = A at hD ⊢
  have hA : ∀ q : Nat, s.heap.size ≤ q → A q := fun q h => by rw [← hAe]; exact Or.inr h
  have hS : va_S A s.heap s.heap [] := va_S.rf
  have hP : va_P (dC, dI) vwCl [(h0, .inr (5, [.ref qT, .int 0, .ref qF, .int 0, .int 0, .int ((-1)), .int 0, .ref qN, .int 0, .ref qR, .int 0, .int 0, .ref qC]))] s.heap := hP
  have hl := lv_entry ([.ref h0, .int p0, .int p1, .int p2]) (n := 6) (Nat.le_of_ble_eq_true rfl)
  rw [lg_entry_eq]
  generalize (lg_sl ([.ref h0, .int p0, .int p1, .int p2]) ++ List.replicate (6 - (lg_sl ([.ref h0, .int p0, .int p1, .int p2])).length) Slot.unset).toArray = ls at hl ⊢
  have hl : lv_has ls 6 [(0, .ref h0), (1, .int p0), (2, .int p1), (3, .int p2)] := hl
  refine lv_aload_n hx hb dX5_order_0 rfl (lv_at hl 0 rfl) ?_
  refine lv_iload_n hx hb dX5_order_1 rfl (lv_at hl 1 rfl) ?_
  have hPc := hP.sub (ws' := [(h0, .inr (5, [.ref qT, .int 0, .ref qF, .int 0, .int 0, .int ((-1)), .int 0, .ref qN, .int 0, .ref qR, .int 0, .int 0, .ref qC]))]) [0] rfl
  have hDc := hD.sub (ws' := [(h0, .inr (5, [.ref qT, .int 0, .ref qF, .int 0, .int 0, .int ((-1)), .int 0, .ref qN, .int 0, .ref qR, .int 0, .int 0, .ref qC]))]) [0] (by decide) rfl
  have hKc := hK.sub (tys' := []) [] rfl
  have hFc := va_free (wc := [(h0, .inr (5, [.ref qT, .int 0, .ref qF, .int 0, .int 0, .int ((-1)), .int 0, .ref qN, .int 0, .ref qR, .int 0, .int 0, .ref qC]))]) hD hS hA [0] rfl
  refine va_callq (va_runV (As := [.int p0]) (rest := []) ⟨hx, hb, hml, hown, hts⟩ (c_X5_raceAt l dC dI h0 qT qF qN qR qC p0 s.heap.size) (cwV 1 hts gX5_order_c_X5_raceAt_2 rfl rfl rfl (by decide +kernel) ⟨Nat.le_of_ble_eq_true rfl, Nat.le_of_ble_eq_true rfl⟩) ⟨fun a U g mk q => by obtain ⟨q0, q1, qP, qK, qD⟩ := q; exact ⟨q0, q1, qP, va_K.moved (u := U) (U := U.calling g mk a) (Vm.Alike.refl U.vm) qK, qD⟩, va_recv hKc hPc (ci := 5) (q0 := 0) rfl rfl, fun U hU hW => ⟨rfl, by rw [hU], by rw [hU]; exact hPc, va_K.moved hW.alike hKc, hDc.weaken (fun _ _ _ _ => trivial)⟩⟩ rfl rfl hl.1 rfl (lv_room (Nat.le_of_ble_eq_true rfl)) dX5_order_2 ⟨show (0 + 0 : Nat) ≤ 0 from by omega, show (0 + 0 : Nat) ≤ 0 from by omega⟩) hS (fun q _ h => hFc q h) hFc (fun r_1 u t H1 locs ht hvm hw hB hz1 hk1 hS => ?_)
  obtain ⟨hP1, hK1, hD1⟩ := hB
  rw [ht] at hP1
  have hK1 := va_K.moved hvm.symm hK1
  try dsimp only at hw
  obtain ⟨hP, hD⟩ := va_join (wr := []) (w1 := [(h0, .inr (5, [.ref qT, .int 0, .ref qF, .int 0, .int 0, .int ((-1)), .int 0, .ref qN, .int 0, .ref qR, .int 0, .int 0, .ref qC]))]) hP hD [0] [] rfl rfl (by decide) (by decide) hk1 hFc hP1 hD1
  generalize H1 = H at hP hS ⊢
  have hP : va_P (dC, dI) vwCl [(h0, .inr (5, [.ref qT, .int 0, .ref qF, .int 0, .int 0, .int ((-1)), .int 0, .ref qN, .int 0, .ref qR, .int 0, .int 0, .ref qC]))] H := hP
  have hD : va_D A [(h0, .inr (5, [.ref qT, .int 0, .ref qF, .int 0, .int 0, .int ((-1)), .int 0, .ref qN, .int 0, .ref qR, .int 0, .int 0, .ref qC]))] := hD
  have hw_3 := hw
  subst hw_3
  show W _ _ _ _ _ _ _ _ _ _ _ _ _ _ _ (F0 m 5 ls [.null])
  refine lv_astoreN (lv' := [(4, .null), (0, .ref h0), (1, .int p0), (2, .int p1), (3, .int p2)]) hx hb dX5_order_5 hl (by decide) rfl (fun ls hl => ?_)
  refine lv_aloadN hx hb dX5_order_7 (lv_at hl 0 rfl) ?_
  refine lv_ifnullN (tgt := 20) hx hb dX5_order_9 (by decide) ?_
  refine lv_iconst (v := (-1)) hx hb dX5_order_20 (by decide) ?_
  exact W.iret (v := (-1)) hx hb hr (fun t ht hW => ⟨⟨(-1), (), rfl, rfl, trivial⟩, hS.F ht⟩) hS.2.2 dX5_order_21
def wX5_points : List Cond := .code yX5_points cX5_points 3 (some .int) :: ([.methodLink RX5 93 yX5_isRacer, .instanceMethod yX5_isRacer, .selects RX5 yX5_isRacer yX5_isRacer, .initialized RX5, .code yX5_isRacer cX5_isRacer 2 (some .boolean), .fieldLink RX5 77 "SkiShots" "racerCount" "I"] ++ wsX50)
set_option maxRecDepth 20000 in
theorem gX5_points_c_X5_isRacer_2 : GoodIn wX5_points (wsV RX5 93 RX5 yX5_isRacer wX5_isRacer) := goodIn_p _ [5] rfl (by decide +kernel)
set_option maxHeartbeats 4000000 in
set_option maxRecDepth 100000 in
theorem c_X5_points (l : Launch) (dC : Nat → ClassId) (dI : Nat → Nat → Nat) (h0 : Nat) (qT : Nat) (qF : Nat) (qN : Nat) (qR : Nat) (qC : Nat) (p0 : Int32) (p1 : Int32) (sz : Nat) : Met l yX5_points wX5_points ({ frames := 1, cells := 0, slots := 0, locals := 21 }) (va_Pc [.ref h0, .int p0, .int p1] (fun U => U.heap.size = sz ∧ va_P (dC, dI) vwCl [(h0, .inr (5, [.ref qT, .int 0, .ref qF, .int 0, .int 0, .int ((-1)), .int 0, .ref qN, .int 0, .ref qR, .int 0, .int 0, .ref qC]))] U.heap ∧ va_K (dC, dI) vwCl [] U ∧ va_D (fun _ => True) [(h0, .inr (5, [.ref qT, .int 0, .ref qF, .int 0, .int 0, .int ((-1)), .int 0, .ref qN, .int 0, .ref qR, .int 0, .int 0, .ref qC]))])) (va_Qi (fun (r : Int32) (_ : Unit) => r = -1) (fun _ t => True) (va_A [(h0, .inr (5, [.ref qT, .int 0, .ref qF, .int 0, .int 0, .int ((-1)), .int 0, .ref qN, .int 0, .ref qR, .int 0, .int 0, .ref qC]))] sz)) 0 0 (va_A [(h0, .inr (5, [.ref qT, .int 0, .ref qF, .int 0, .int 0, .int ((-1)), .int 0, .ref qN, .int 0, .ref qR, .int 0, .int 0, .ref qC]))] sz) := by
  refine Met.ofW (cc := cX5_points) (maxL := 3) (ret := (some .int)) (by decide) rfl ?_
  intro p e s m args below meth c s₁ B hml hv
  obtain ⟨rfl, hsz, hP, hK, hD0⟩ := hv
  have hx := B.exec
  have hb := B.bytes
  have hr := B.returns
  have hts := atoms_spec (ws := wX5_points) B.pre
  have hown : s.vm.findClass RX5 = some m.cls := findClass_of_methodNamed B.named
  have hlocks := B.notSynchronized
  subst hsz
  have hD := hD0.self (sz := s.heap.size)
  generalize hAe : va_A [(h0, .inr (5, [.ref qT, .int 0, .ref qF, .int 0, .int 0, .int ((-1)), .int 0, .ref qN, .int 0, .ref qR, .int 0, .int 0, .ref qC]))] s.heap.size = A at hD ⊢
  have hA : ∀ q : Nat, s.heap.size ≤ q → A q := fun q h => by rw [← hAe]; exact Or.inr h
  have hS : va_S A s.heap s.heap [] := va_S.rf
  have hP : va_P (dC, dI) vwCl [(h0, .inr (5, [.ref qT, .int 0, .ref qF, .int 0, .int 0, .int ((-1)), .int 0, .ref qN, .int 0, .ref qR, .int 0, .int 0, .ref qC]))] s.heap := hP
  have hl := lv_entry ([.ref h0, .int p0, .int p1]) (n := 3) (Nat.le_of_ble_eq_true rfl)
  rw [lg_entry_eq]
  generalize (lg_sl ([.ref h0, .int p0, .int p1]) ++ List.replicate (3 - (lg_sl ([.ref h0, .int p0, .int p1])).length) Slot.unset).toArray = ls at hl ⊢
  have hl : lv_has ls 3 [(0, .ref h0), (1, .int p0), (2, .int p1)] := hl
  refine lv_aload_n hx hb dX5_points_0 rfl (lv_at hl 0 rfl) ?_
  refine lv_iload_n hx hb dX5_points_1 rfl (lv_at hl 1 rfl) ?_
  have hPc := hP.sub (ws' := [(h0, .inr (5, [.ref qT, .int 0, .ref qF, .int 0, .int 0, .int ((-1)), .int 0, .ref qN, .int 0, .ref qR, .int 0, .int 0, .ref qC]))]) [0] rfl
  have hDc := hD.sub (ws' := [(h0, .inr (5, [.ref qT, .int 0, .ref qF, .int 0, .int 0, .int ((-1)), .int 0, .ref qN, .int 0, .ref qR, .int 0, .int 0, .ref qC]))]) [0] (by decide) rfl
  have hKc := hK.sub (tys' := []) [] rfl
  have hFc := va_free (wc := [(h0, .inr (5, [.ref qT, .int 0, .ref qF, .int 0, .int 0, .int ((-1)), .int 0, .ref qN, .int 0, .ref qR, .int 0, .int 0, .ref qC]))]) hD hS hA [0] rfl
  refine va_calli (va_runV (As := [.int p0]) (rest := []) ⟨hx, hb, hml, hown, hts⟩ (c_X5_isRacer l dC dI h0 qT qF qN qR qC p0 s.heap.size) (cwV 1 hts gX5_points_c_X5_isRacer_2 rfl rfl rfl (by decide +kernel) ⟨Nat.le_of_ble_eq_true rfl, Nat.le_of_ble_eq_true rfl⟩) ⟨fun a U g mk q => by obtain ⟨q0, q1, qP, qK, qD⟩ := q; exact ⟨q0, q1, qP, va_K.moved (u := U) (U := U.calling g mk a) (Vm.Alike.refl U.vm) qK, qD⟩, va_recv hKc hPc (ci := 5) (q0 := 0) rfl rfl, fun U hU hW => ⟨rfl, by rw [hU], by rw [hU]; exact hPc, va_K.moved hW.alike hKc, hDc.weaken (fun _ _ _ _ => trivial)⟩⟩ rfl rfl hl.1 rfl (lv_room (Nat.le_of_ble_eq_true rfl)) dX5_points_2 ⟨show (0 + 0 : Nat) ≤ 0 from by omega, show (0 + 0 : Nat) ≤ 0 from by omega⟩) hS (fun q _ h => hFc q h) hFc (fun r_1 u t H1 locs ht hvm hw hB hz1 hk1 hS => ?_)
  obtain ⟨hP1, hK1, hD1⟩ := hB
  rw [ht] at hP1
  have hK1 := va_K.moved hvm.symm hK1
  try dsimp only at hw
  obtain ⟨hP, hD⟩ := va_join (wr := []) (w1 := [(h0, .inr (5, [.ref qT, .int 0, .ref qF, .int 0, .int 0, .int ((-1)), .int 0, .ref qN, .int 0, .ref qR, .int 0, .int 0, .ref qC]))]) hP hD [0] [] rfl rfl (by decide) (by decide) hk1 hFc hP1 hD1
  generalize H1 = H at hP hS ⊢
  have hP : va_P (dC, dI) vwCl [(h0, .inr (5, [.ref qT, .int 0, .ref qF, .int 0, .int 0, .int ((-1)), .int 0, .ref qN, .int 0, .ref qR, .int 0, .int 0, .ref qC]))] H := hP
  have hD : va_D A [(h0, .inr (5, [.ref qT, .int 0, .ref qF, .int 0, .int 0, .int ((-1)), .int 0, .ref qN, .int 0, .ref qR, .int 0, .int 0, .ref qC]))] := hD
  have hw_3 := hw
  subst hw_3
  refine lv_if_eq (tgt := 16) hx hb dX5_points_5 (by decide) (fun c_4 => ?_) (fun c_4 => absurd (by decide) c_4)
  refine lv_iconst (v := (-1)) hx hb dX5_points_16 (by decide) ?_
  exact W.iret (v := (-1)) hx hb hr (fun t ht hW => ⟨⟨(-1), (), rfl, rfl, trivial⟩, hS.F ht⟩) hS.2.2 dX5_points_17
def wX5_standing : List Cond := .code yX5_standing cX5_standing 3 (some .int) :: ([.methodLink RX5 93 yX5_isRacer, .instanceMethod yX5_isRacer, .selects RX5 yX5_isRacer yX5_isRacer, .initialized RX5, .code yX5_isRacer cX5_isRacer 2 (some .boolean), .fieldLink RX5 77 "SkiShots" "racerCount" "I"] ++ wsX50)
set_option maxRecDepth 20000 in
theorem gX5_standing_c_X5_isRacer_2 : GoodIn wX5_standing (wsV RX5 93 RX5 yX5_isRacer wX5_isRacer) := goodIn_p _ [5] rfl (by decide +kernel)
set_option maxHeartbeats 4000000 in
set_option maxRecDepth 100000 in
theorem c_X5_standing (l : Launch) (dC : Nat → ClassId) (dI : Nat → Nat → Nat) (h0 : Nat) (qT : Nat) (qF : Nat) (qN : Nat) (qR : Nat) (qC : Nat) (p0 : Int32) (p1 : Int32) (sz : Nat) : Met l yX5_standing wX5_standing ({ frames := 1, cells := 0, slots := 0, locals := 21 }) (va_Pc [.ref h0, .int p0, .int p1] (fun U => U.heap.size = sz ∧ va_P (dC, dI) vwCl [(h0, .inr (5, [.ref qT, .int 0, .ref qF, .int 0, .int 0, .int ((-1)), .int 0, .ref qN, .int 0, .ref qR, .int 0, .int 0, .ref qC]))] U.heap ∧ va_K (dC, dI) vwCl [] U ∧ va_D (fun _ => True) [(h0, .inr (5, [.ref qT, .int 0, .ref qF, .int 0, .int 0, .int ((-1)), .int 0, .ref qN, .int 0, .ref qR, .int 0, .int 0, .ref qC]))])) (va_Qi (fun (r : Int32) (_ : Unit) => r = -1) (fun _ t => True) (va_A [(h0, .inr (5, [.ref qT, .int 0, .ref qF, .int 0, .int 0, .int ((-1)), .int 0, .ref qN, .int 0, .ref qR, .int 0, .int 0, .ref qC]))] sz)) 0 0 (va_A [(h0, .inr (5, [.ref qT, .int 0, .ref qF, .int 0, .int 0, .int ((-1)), .int 0, .ref qN, .int 0, .ref qR, .int 0, .int 0, .ref qC]))] sz) := by
  refine Met.ofW (cc := cX5_standing) (maxL := 3) (ret := (some .int)) (by decide) rfl ?_
  intro p e s m args below meth c s₁ B hml hv
  obtain ⟨rfl, hsz, hP, hK, hD0⟩ := hv
  have hx := B.exec
  have hb := B.bytes
  have hr := B.returns
  have hts := atoms_spec (ws := wX5_standing) B.pre
  have hown : s.vm.findClass RX5 = some m.cls := findClass_of_methodNamed B.named
  have hlocks := B.notSynchronized
  subst hsz
  have hD := hD0.self (sz := s.heap.size)
  generalize hAe : va_A [(h0, .inr (5, [.ref qT, .int 0, .ref qF, .int 0, .int 0, .int ((-1)), .int 0, .ref qN, .int 0, .ref qR, .int 0, .int 0, .ref qC]))] s.heap.size = A at hD ⊢
  have hA : ∀ q : Nat, s.heap.size ≤ q → A q := fun q h => by rw [← hAe]; exact Or.inr h
  have hS : va_S A s.heap s.heap [] := va_S.rf
  have hP : va_P (dC, dI) vwCl [(h0, .inr (5, [.ref qT, .int 0, .ref qF, .int 0, .int 0, .int ((-1)), .int 0, .ref qN, .int 0, .ref qR, .int 0, .int 0, .ref qC]))] s.heap := hP
  have hl := lv_entry ([.ref h0, .int p0, .int p1]) (n := 3) (Nat.le_of_ble_eq_true rfl)
  rw [lg_entry_eq]
  generalize (lg_sl ([.ref h0, .int p0, .int p1]) ++ List.replicate (3 - (lg_sl ([.ref h0, .int p0, .int p1])).length) Slot.unset).toArray = ls at hl ⊢
  have hl : lv_has ls 3 [(0, .ref h0), (1, .int p0), (2, .int p1)] := hl
  refine lv_aload_n hx hb dX5_standing_0 rfl (lv_at hl 0 rfl) ?_
  refine lv_iload_n hx hb dX5_standing_1 rfl (lv_at hl 1 rfl) ?_
  have hPc := hP.sub (ws' := [(h0, .inr (5, [.ref qT, .int 0, .ref qF, .int 0, .int 0, .int ((-1)), .int 0, .ref qN, .int 0, .ref qR, .int 0, .int 0, .ref qC]))]) [0] rfl
  have hDc := hD.sub (ws' := [(h0, .inr (5, [.ref qT, .int 0, .ref qF, .int 0, .int 0, .int ((-1)), .int 0, .ref qN, .int 0, .ref qR, .int 0, .int 0, .ref qC]))]) [0] (by decide) rfl
  have hKc := hK.sub (tys' := []) [] rfl
  have hFc := va_free (wc := [(h0, .inr (5, [.ref qT, .int 0, .ref qF, .int 0, .int 0, .int ((-1)), .int 0, .ref qN, .int 0, .ref qR, .int 0, .int 0, .ref qC]))]) hD hS hA [0] rfl
  refine va_calli (va_runV (As := [.int p0]) (rest := []) ⟨hx, hb, hml, hown, hts⟩ (c_X5_isRacer l dC dI h0 qT qF qN qR qC p0 s.heap.size) (cwV 1 hts gX5_standing_c_X5_isRacer_2 rfl rfl rfl (by decide +kernel) ⟨Nat.le_of_ble_eq_true rfl, Nat.le_of_ble_eq_true rfl⟩) ⟨fun a U g mk q => by obtain ⟨q0, q1, qP, qK, qD⟩ := q; exact ⟨q0, q1, qP, va_K.moved (u := U) (U := U.calling g mk a) (Vm.Alike.refl U.vm) qK, qD⟩, va_recv hKc hPc (ci := 5) (q0 := 0) rfl rfl, fun U hU hW => ⟨rfl, by rw [hU], by rw [hU]; exact hPc, va_K.moved hW.alike hKc, hDc.weaken (fun _ _ _ _ => trivial)⟩⟩ rfl rfl hl.1 rfl (lv_room (Nat.le_of_ble_eq_true rfl)) dX5_standing_2 ⟨show (0 + 0 : Nat) ≤ 0 from by omega, show (0 + 0 : Nat) ≤ 0 from by omega⟩) hS (fun q _ h => hFc q h) hFc (fun r_1 u t H1 locs ht hvm hw hB hz1 hk1 hS => ?_)
  obtain ⟨hP1, hK1, hD1⟩ := hB
  rw [ht] at hP1
  have hK1 := va_K.moved hvm.symm hK1
  try dsimp only at hw
  obtain ⟨hP, hD⟩ := va_join (wr := []) (w1 := [(h0, .inr (5, [.ref qT, .int 0, .ref qF, .int 0, .int 0, .int ((-1)), .int 0, .ref qN, .int 0, .ref qR, .int 0, .int 0, .ref qC]))]) hP hD [0] [] rfl rfl (by decide) (by decide) hk1 hFc hP1 hD1
  generalize H1 = H at hP hS ⊢
  have hP : va_P (dC, dI) vwCl [(h0, .inr (5, [.ref qT, .int 0, .ref qF, .int 0, .int 0, .int ((-1)), .int 0, .ref qN, .int 0, .ref qR, .int 0, .int 0, .ref qC]))] H := hP
  have hD : va_D A [(h0, .inr (5, [.ref qT, .int 0, .ref qF, .int 0, .int 0, .int ((-1)), .int 0, .ref qN, .int 0, .ref qR, .int 0, .int 0, .ref qC]))] := hD
  have hw_3 := hw
  subst hw_3
  refine lv_if_eq (tgt := 16) hx hb dX5_standing_5 (by decide) (fun c_4 => ?_) (fun c_4 => absurd (by decide) c_4)
  refine lv_iconst (v := (-1)) hx hb dX5_standing_16 (by decide) ?_
  exact W.iret (v := (-1)) hx hb hr (fun t ht hW => ⟨⟨(-1), (), rfl, rfl, trivial⟩, hS.F ht⟩) hS.2.2 dX5_standing_17
def wX5_time : List Cond := .code yX5_time cX5_time 7 (some .int) :: ([.methodLink RX5 83 yX5_raceAt, .instanceMethod yX5_raceAt, .selects RX5 yX5_raceAt yX5_raceAt, .initialized RX5, .code yX5_raceAt cX5_raceAt 2 (some (.object "SkiShots$Race")), .fieldLink RX5 80 "SkiShots" "raceCount" "I"] ++ wsX50)
set_option maxRecDepth 20000 in
theorem gX5_time_c_X5_raceAt_2 : GoodIn wX5_time (wsV RX5 83 RX5 yX5_raceAt wX5_raceAt) := goodIn_p _ [5] rfl (by decide +kernel)
set_option maxHeartbeats 4000000 in
set_option maxRecDepth 100000 in
theorem c_X5_time (l : Launch) (dC : Nat → ClassId) (dI : Nat → Nat → Nat) (h0 : Nat) (qT : Nat) (qF : Nat) (qN : Nat) (qR : Nat) (qC : Nat) (p0 : Int32) (p1 : Int32) (p2 : Int32) (p3 : Int32) (sz : Nat) : Met l yX5_time wX5_time ({ frames := 1, cells := 0, slots := 0, locals := 21 }) (va_Pc [.ref h0, .int p0, .int p1, .int p2, .int p3] (fun U => U.heap.size = sz ∧ va_P (dC, dI) vwCl [(h0, .inr (5, [.ref qT, .int 0, .ref qF, .int 0, .int 0, .int ((-1)), .int 0, .ref qN, .int 0, .ref qR, .int 0, .int 0, .ref qC]))] U.heap ∧ va_K (dC, dI) vwCl [] U ∧ va_D (fun _ => True) [(h0, .inr (5, [.ref qT, .int 0, .ref qF, .int 0, .int 0, .int ((-1)), .int 0, .ref qN, .int 0, .ref qR, .int 0, .int 0, .ref qC]))])) (va_Qi (fun (r : Int32) (_ : Unit) => r = -2) (fun _ t => True) (va_A [(h0, .inr (5, [.ref qT, .int 0, .ref qF, .int 0, .int 0, .int ((-1)), .int 0, .ref qN, .int 0, .ref qR, .int 0, .int 0, .ref qC]))] sz)) 0 0 (va_A [(h0, .inr (5, [.ref qT, .int 0, .ref qF, .int 0, .int 0, .int ((-1)), .int 0, .ref qN, .int 0, .ref qR, .int 0, .int 0, .ref qC]))] sz) := by
  refine Met.ofW (cc := cX5_time) (maxL := 7) (ret := (some .int)) (by decide) rfl ?_
  intro p e s m args below meth c s₁ B hml hv
  obtain ⟨rfl, hsz, hP, hK, hD0⟩ := hv
  have hx := B.exec
  have hb := B.bytes
  have hr := B.returns
  have hts := atoms_spec (ws := wX5_time) B.pre
  have hown : s.vm.findClass RX5 = some m.cls := findClass_of_methodNamed B.named
  have hlocks := B.notSynchronized
  subst hsz
  have hD := hD0.self (sz := s.heap.size)
  generalize hAe : va_A [(h0, .inr (5, [.ref qT, .int 0, .ref qF, .int 0, .int 0, .int ((-1)), .int 0, .ref qN, .int 0, .ref qR, .int 0, .int 0, .ref qC]))] s.heap.size = A at hD ⊢
  have hA : ∀ q : Nat, s.heap.size ≤ q → A q := fun q h => by rw [← hAe]; exact Or.inr h
  have hS : va_S A s.heap s.heap [] := va_S.rf
  have hP : va_P (dC, dI) vwCl [(h0, .inr (5, [.ref qT, .int 0, .ref qF, .int 0, .int 0, .int ((-1)), .int 0, .ref qN, .int 0, .ref qR, .int 0, .int 0, .ref qC]))] s.heap := hP
  have hl := lv_entry ([.ref h0, .int p0, .int p1, .int p2, .int p3]) (n := 7) (Nat.le_of_ble_eq_true rfl)
  rw [lg_entry_eq]
  generalize (lg_sl ([.ref h0, .int p0, .int p1, .int p2, .int p3]) ++ List.replicate (7 - (lg_sl ([.ref h0, .int p0, .int p1, .int p2, .int p3])).length) Slot.unset).toArray = ls at hl ⊢
  have hl : lv_has ls 7 [(0, .ref h0), (1, .int p0), (2, .int p1), (3, .int p2), (4, .int p3)] := hl
  refine lv_aload_n hx hb dX5_time_0 rfl (lv_at hl 0 rfl) ?_
  refine lv_iload_n hx hb dX5_time_1 rfl (lv_at hl 1 rfl) ?_
  have hPc := hP.sub (ws' := [(h0, .inr (5, [.ref qT, .int 0, .ref qF, .int 0, .int 0, .int ((-1)), .int 0, .ref qN, .int 0, .ref qR, .int 0, .int 0, .ref qC]))]) [0] rfl
  have hDc := hD.sub (ws' := [(h0, .inr (5, [.ref qT, .int 0, .ref qF, .int 0, .int 0, .int ((-1)), .int 0, .ref qN, .int 0, .ref qR, .int 0, .int 0, .ref qC]))]) [0] (by decide) rfl
  have hKc := hK.sub (tys' := []) [] rfl
  have hFc := va_free (wc := [(h0, .inr (5, [.ref qT, .int 0, .ref qF, .int 0, .int 0, .int ((-1)), .int 0, .ref qN, .int 0, .ref qR, .int 0, .int 0, .ref qC]))]) hD hS hA [0] rfl
  refine va_callq (va_runV (As := [.int p0]) (rest := []) ⟨hx, hb, hml, hown, hts⟩ (c_X5_raceAt l dC dI h0 qT qF qN qR qC p0 s.heap.size) (cwV 1 hts gX5_time_c_X5_raceAt_2 rfl rfl rfl (by decide +kernel) ⟨Nat.le_of_ble_eq_true rfl, Nat.le_of_ble_eq_true rfl⟩) ⟨fun a U g mk q => by obtain ⟨q0, q1, qP, qK, qD⟩ := q; exact ⟨q0, q1, qP, va_K.moved (u := U) (U := U.calling g mk a) (Vm.Alike.refl U.vm) qK, qD⟩, va_recv hKc hPc (ci := 5) (q0 := 0) rfl rfl, fun U hU hW => ⟨rfl, by rw [hU], by rw [hU]; exact hPc, va_K.moved hW.alike hKc, hDc.weaken (fun _ _ _ _ => trivial)⟩⟩ rfl rfl hl.1 rfl (lv_room (Nat.le_of_ble_eq_true rfl)) dX5_time_2 ⟨show (0 + 0 : Nat) ≤ 0 from by omega, show (0 + 0 : Nat) ≤ 0 from by omega⟩) hS (fun q _ h => hFc q h) hFc (fun r_1 u t H1 locs ht hvm hw hB hz1 hk1 hS => ?_)
  obtain ⟨hP1, hK1, hD1⟩ := hB
  rw [ht] at hP1
  have hK1 := va_K.moved hvm.symm hK1
  try dsimp only at hw
  obtain ⟨hP, hD⟩ := va_join (wr := []) (w1 := [(h0, .inr (5, [.ref qT, .int 0, .ref qF, .int 0, .int 0, .int ((-1)), .int 0, .ref qN, .int 0, .ref qR, .int 0, .int 0, .ref qC]))]) hP hD [0] [] rfl rfl (by decide) (by decide) hk1 hFc hP1 hD1
  generalize H1 = H at hP hS ⊢
  have hP : va_P (dC, dI) vwCl [(h0, .inr (5, [.ref qT, .int 0, .ref qF, .int 0, .int 0, .int ((-1)), .int 0, .ref qN, .int 0, .ref qR, .int 0, .int 0, .ref qC]))] H := hP
  have hD : va_D A [(h0, .inr (5, [.ref qT, .int 0, .ref qF, .int 0, .int 0, .int ((-1)), .int 0, .ref qN, .int 0, .ref qR, .int 0, .int 0, .ref qC]))] := hD
  have hw_3 := hw
  subst hw_3
  show W _ _ _ _ _ _ _ _ _ _ _ _ _ _ _ (F0 m 5 ls [.null])
  refine lv_astoreN (lv' := [(5, .null), (0, .ref h0), (1, .int p0), (2, .int p1), (3, .int p2), (4, .int p3)]) hx hb dX5_time_5 hl (by decide) rfl (fun ls hl => ?_)
  refine lv_aloadN hx hb dX5_time_7 (lv_at hl 0 rfl) ?_
  refine lv_ifnullN (tgt := 20) hx hb dX5_time_9 (by decide) ?_
  refine lv_bipush (v := (-2)) hx hb dX5_time_20 (by decide) ?_
  exact W.iret (v := (-2)) hx hb hr (fun t ht hW => ⟨⟨(-2), (), rfl, rfl, trivial⟩, hS.F ht⟩) hS.2.2 dX5_time_22
def wX5_split : List Cond := .code yX5_split cX5_split 7 (some .int) :: ([.methodLink RX5 83 yX5_raceAt, .instanceMethod yX5_raceAt, .selects RX5 yX5_raceAt yX5_raceAt, .initialized RX5, .code yX5_raceAt cX5_raceAt 2 (some (.object "SkiShots$Race")), .fieldLink RX5 80 "SkiShots" "raceCount" "I"] ++ wsX50)
set_option maxRecDepth 20000 in
theorem gX5_split_c_X5_raceAt_2 : GoodIn wX5_split (wsV RX5 83 RX5 yX5_raceAt wX5_raceAt) := goodIn_p _ [5] rfl (by decide +kernel)
set_option maxHeartbeats 4000000 in
set_option maxRecDepth 100000 in
theorem c_X5_split (l : Launch) (dC : Nat → ClassId) (dI : Nat → Nat → Nat) (h0 : Nat) (qT : Nat) (qF : Nat) (qN : Nat) (qR : Nat) (qC : Nat) (p0 : Int32) (p1 : Int32) (p2 : Int32) (p3 : Int32) (sz : Nat) : Met l yX5_split wX5_split ({ frames := 1, cells := 0, slots := 0, locals := 21 }) (va_Pc [.ref h0, .int p0, .int p1, .int p2, .int p3] (fun U => U.heap.size = sz ∧ va_P (dC, dI) vwCl [(h0, .inr (5, [.ref qT, .int 0, .ref qF, .int 0, .int 0, .int ((-1)), .int 0, .ref qN, .int 0, .ref qR, .int 0, .int 0, .ref qC]))] U.heap ∧ va_K (dC, dI) vwCl [] U ∧ va_D (fun _ => True) [(h0, .inr (5, [.ref qT, .int 0, .ref qF, .int 0, .int 0, .int ((-1)), .int 0, .ref qN, .int 0, .ref qR, .int 0, .int 0, .ref qC]))])) (va_Qi (fun (r : Int32) (_ : Unit) => r = -2) (fun _ t => True) (va_A [(h0, .inr (5, [.ref qT, .int 0, .ref qF, .int 0, .int 0, .int ((-1)), .int 0, .ref qN, .int 0, .ref qR, .int 0, .int 0, .ref qC]))] sz)) 0 0 (va_A [(h0, .inr (5, [.ref qT, .int 0, .ref qF, .int 0, .int 0, .int ((-1)), .int 0, .ref qN, .int 0, .ref qR, .int 0, .int 0, .ref qC]))] sz) := by
  refine Met.ofW (cc := cX5_split) (maxL := 7) (ret := (some .int)) (by decide) rfl ?_
  intro p e s m args below meth c s₁ B hml hv
  obtain ⟨rfl, hsz, hP, hK, hD0⟩ := hv
  have hx := B.exec
  have hb := B.bytes
  have hr := B.returns
  have hts := atoms_spec (ws := wX5_split) B.pre
  have hown : s.vm.findClass RX5 = some m.cls := findClass_of_methodNamed B.named
  have hlocks := B.notSynchronized
  subst hsz
  have hD := hD0.self (sz := s.heap.size)
  generalize hAe : va_A [(h0, .inr (5, [.ref qT, .int 0, .ref qF, .int 0, .int 0, .int ((-1)), .int 0, .ref qN, .int 0, .ref qR, .int 0, .int 0, .ref qC]))] s.heap.size = A at hD ⊢
  have hA : ∀ q : Nat, s.heap.size ≤ q → A q := fun q h => by rw [← hAe]; exact Or.inr h
  have hS : va_S A s.heap s.heap [] := va_S.rf
  have hP : va_P (dC, dI) vwCl [(h0, .inr (5, [.ref qT, .int 0, .ref qF, .int 0, .int 0, .int ((-1)), .int 0, .ref qN, .int 0, .ref qR, .int 0, .int 0, .ref qC]))] s.heap := hP
  have hl := lv_entry ([.ref h0, .int p0, .int p1, .int p2, .int p3]) (n := 7) (Nat.le_of_ble_eq_true rfl)
  rw [lg_entry_eq]
  generalize (lg_sl ([.ref h0, .int p0, .int p1, .int p2, .int p3]) ++ List.replicate (7 - (lg_sl ([.ref h0, .int p0, .int p1, .int p2, .int p3])).length) Slot.unset).toArray = ls at hl ⊢
  have hl : lv_has ls 7 [(0, .ref h0), (1, .int p0), (2, .int p1), (3, .int p2), (4, .int p3)] := hl
  refine lv_aload_n hx hb dX5_split_0 rfl (lv_at hl 0 rfl) ?_
  refine lv_iload_n hx hb dX5_split_1 rfl (lv_at hl 1 rfl) ?_
  have hPc := hP.sub (ws' := [(h0, .inr (5, [.ref qT, .int 0, .ref qF, .int 0, .int 0, .int ((-1)), .int 0, .ref qN, .int 0, .ref qR, .int 0, .int 0, .ref qC]))]) [0] rfl
  have hDc := hD.sub (ws' := [(h0, .inr (5, [.ref qT, .int 0, .ref qF, .int 0, .int 0, .int ((-1)), .int 0, .ref qN, .int 0, .ref qR, .int 0, .int 0, .ref qC]))]) [0] (by decide) rfl
  have hKc := hK.sub (tys' := []) [] rfl
  have hFc := va_free (wc := [(h0, .inr (5, [.ref qT, .int 0, .ref qF, .int 0, .int 0, .int ((-1)), .int 0, .ref qN, .int 0, .ref qR, .int 0, .int 0, .ref qC]))]) hD hS hA [0] rfl
  refine va_callq (va_runV (As := [.int p0]) (rest := []) ⟨hx, hb, hml, hown, hts⟩ (c_X5_raceAt l dC dI h0 qT qF qN qR qC p0 s.heap.size) (cwV 1 hts gX5_split_c_X5_raceAt_2 rfl rfl rfl (by decide +kernel) ⟨Nat.le_of_ble_eq_true rfl, Nat.le_of_ble_eq_true rfl⟩) ⟨fun a U g mk q => by obtain ⟨q0, q1, qP, qK, qD⟩ := q; exact ⟨q0, q1, qP, va_K.moved (u := U) (U := U.calling g mk a) (Vm.Alike.refl U.vm) qK, qD⟩, va_recv hKc hPc (ci := 5) (q0 := 0) rfl rfl, fun U hU hW => ⟨rfl, by rw [hU], by rw [hU]; exact hPc, va_K.moved hW.alike hKc, hDc.weaken (fun _ _ _ _ => trivial)⟩⟩ rfl rfl hl.1 rfl (lv_room (Nat.le_of_ble_eq_true rfl)) dX5_split_2 ⟨show (0 + 0 : Nat) ≤ 0 from by omega, show (0 + 0 : Nat) ≤ 0 from by omega⟩) hS (fun q _ h => hFc q h) hFc (fun r_1 u t H1 locs ht hvm hw hB hz1 hk1 hS => ?_)
  obtain ⟨hP1, hK1, hD1⟩ := hB
  rw [ht] at hP1
  have hK1 := va_K.moved hvm.symm hK1
  try dsimp only at hw
  obtain ⟨hP, hD⟩ := va_join (wr := []) (w1 := [(h0, .inr (5, [.ref qT, .int 0, .ref qF, .int 0, .int 0, .int ((-1)), .int 0, .ref qN, .int 0, .ref qR, .int 0, .int 0, .ref qC]))]) hP hD [0] [] rfl rfl (by decide) (by decide) hk1 hFc hP1 hD1
  generalize H1 = H at hP hS ⊢
  have hP : va_P (dC, dI) vwCl [(h0, .inr (5, [.ref qT, .int 0, .ref qF, .int 0, .int 0, .int ((-1)), .int 0, .ref qN, .int 0, .ref qR, .int 0, .int 0, .ref qC]))] H := hP
  have hD : va_D A [(h0, .inr (5, [.ref qT, .int 0, .ref qF, .int 0, .int 0, .int ((-1)), .int 0, .ref qN, .int 0, .ref qR, .int 0, .int 0, .ref qC]))] := hD
  have hw_3 := hw
  subst hw_3
  show W _ _ _ _ _ _ _ _ _ _ _ _ _ _ _ (F0 m 5 ls [.null])
  refine lv_astoreN (lv' := [(5, .null), (0, .ref h0), (1, .int p0), (2, .int p1), (3, .int p2), (4, .int p3)]) hx hb dX5_split_5 hl (by decide) rfl (fun ls hl => ?_)
  refine lv_aloadN hx hb dX5_split_7 (lv_at hl 0 rfl) ?_
  refine lv_ifnullN (tgt := 34) hx hb dX5_split_9 (by decide) ?_
  refine lv_bipush (v := (-2)) hx hb dX5_split_34 (by decide) ?_
  exact W.iret (v := (-2)) hx hb hr (fun t ht hW => ⟨⟨(-2), (), rfl, rfl, trivial⟩, hS.F ht⟩) hS.2.2 dX5_split_36
def wX5_workOut : List Cond := .code yX5_workOut cX5_workOut 4 none :: ([])
set_option maxHeartbeats 4000000 in
set_option maxRecDepth 100000 in
theorem c_X5_workOut (l : Launch) (dC : Nat → ClassId) (dI : Nat → Nat → Nat) (h0 : Nat) (qT : Nat) (qF : Nat) (qN : Nat) (qR : Nat) (qC : Nat) (p0 : Int32) (sz : Nat) : Met l yX5_workOut wX5_workOut ({ frames := 0, cells := 0, slots := 0, locals := 0 }) (va_Pc [.ref h0, .int 0, .int p0] (fun U => U.heap.size = sz ∧ va_P (dC, dI) vwCl [(h0, .inr (5, [.ref qT, .int 0, .ref qF, .int 0, .int 0, .int ((-1)), .int 0, .ref qN, .int 0, .ref qR, .int 0, .int 0, .ref qC]))] U.heap ∧ va_K (dC, dI) vwCl [] U ∧ va_D (fun _ => True) [(h0, .inr (5, [.ref qT, .int 0, .ref qF, .int 0, .int 0, .int ((-1)), .int 0, .ref qN, .int 0, .ref qR, .int 0, .int 0, .ref qC]))])) (va_Qv (fun (_ : Unit) => True) (fun _ t => va_P (dC, dI) vwCl [(h0, .inr (5, [.ref qT, .int 0, .ref qF, .int 0, .int 0, .int ((-1)), .int 0, .ref qN, .int 0, .ref qR, .int 0, .int 0, .ref qC]))] t.heap ∧ va_K (dC, dI) vwCl [] t ∧ va_D (va_A [(h0, .inr (5, [.ref qT, .int 0, .ref qF, .int 0, .int 0, .int ((-1)), .int 0, .ref qN, .int 0, .ref qR, .int 0, .int 0, .ref qC]))] sz) [(h0, .inr (5, [.ref qT, .int 0, .ref qF, .int 0, .int 0, .int ((-1)), .int 0, .ref qN, .int 0, .ref qR, .int 0, .int 0, .ref qC]))]) (va_A [(h0, .inr (5, [.ref qT, .int 0, .ref qF, .int 0, .int 0, .int ((-1)), .int 0, .ref qN, .int 0, .ref qR, .int 0, .int 0, .ref qC]))] sz)) 0 0 (va_A [(h0, .inr (5, [.ref qT, .int 0, .ref qF, .int 0, .int 0, .int ((-1)), .int 0, .ref qN, .int 0, .ref qR, .int 0, .int 0, .ref qC]))] sz) := by
  refine Met.ofW (cc := cX5_workOut) (maxL := 4) (ret := none) (by decide) rfl ?_
  intro p e s m args below meth c s₁ B hml hv
  obtain ⟨rfl, hsz, hP, hK, hD0⟩ := hv
  have hx := B.exec
  have hb := B.bytes
  have hr := B.returns
  have hts := atoms_spec (ws := wX5_workOut) B.pre
  have hown : s.vm.findClass RX5 = some m.cls := findClass_of_methodNamed B.named
  have hlocks := B.notSynchronized
  subst hsz
  have hD := hD0.self (sz := s.heap.size)
  generalize hAe : va_A [(h0, .inr (5, [.ref qT, .int 0, .ref qF, .int 0, .int 0, .int ((-1)), .int 0, .ref qN, .int 0, .ref qR, .int 0, .int 0, .ref qC]))] s.heap.size = A at hD ⊢
  have hA : ∀ q : Nat, s.heap.size ≤ q → A q := fun q h => by rw [← hAe]; exact Or.inr h
  have hS : va_S A s.heap s.heap [] := va_S.rf
  have hP : va_P (dC, dI) vwCl [(h0, .inr (5, [.ref qT, .int 0, .ref qF, .int 0, .int 0, .int ((-1)), .int 0, .ref qN, .int 0, .ref qR, .int 0, .int 0, .ref qC]))] s.heap := hP
  have hl := lv_entry ([.ref h0, .int 0, .int p0]) (n := 4) (Nat.le_of_ble_eq_true rfl)
  rw [lg_entry_eq]
  generalize (lg_sl ([.ref h0, .int 0, .int p0]) ++ List.replicate (4 - (lg_sl ([.ref h0, .int 0, .int p0])).length) Slot.unset).toArray = ls at hl ⊢
  have hl : lv_has ls 4 [(0, .ref h0), (1, .int 0), (2, .int p0)] := hl
  refine lv_iconst (v := 0) hx hb dX5_workOut_0 (by decide) ?_
  refine lv_istore_n (lv' := [(3, .int 0), (0, .ref h0), (1, .int 0), (2, .int p0)]) hx hb dX5_workOut_1 rfl hl (by decide) rfl (fun ls hl => ?_)
  refine lv_iload_n hx hb dX5_workOut_2 rfl (lv_at hl 0 rfl) ?_
  refine lv_iload_n hx hb dX5_workOut_3 rfl (lv_at hl 2 rfl) ?_
  refine lv_icmp_ge (tgt := 31) hx hb dX5_workOut_4 (by decide) (fun c_1 => ?_) (fun c_1 => absurd (by decide) c_1)
  have hP9 := hP.sub (ws' := [(h0, .inr (5, [.ref qT, .int 0, .ref qF, .int 0, .int 0, .int ((-1)), .int 0, .ref qN, .int 0, .ref qR, .int 0, .int 0, .ref qC]))]) [0] rfl
  have hD9 := hD.sub (ws' := [(h0, .inr (5, [.ref qT, .int 0, .ref qF, .int 0, .int 0, .int ((-1)), .int 0, .ref qN, .int 0, .ref qR, .int 0, .int 0, .ref qC]))]) [0] (by decide) rfl
  have hK9 := hK.sub (tys' := []) [] rfl
  exact W.vret hx hb hr (fun t ht hW => ⟨⟨(), rfl, trivial, by rw [ht]; exact hP9, va_K.moved hW.alike hK9, hD9⟩, hS.F ht⟩) hS.2.2 dX5_workOut_31
def wX5_addUpCup : List Cond := .code yX5_addUpCup cX5_addUpCup 3 none :: ([.fieldLink RX5 80 "SkiShots" "raceCount" "I", .fieldLink RX5 77 "SkiShots" "racerCount" "I", .methodLink RX5 171 yX5_workOut, .instanceMethod yX5_workOut, .selects RX5 yX5_workOut yX5_workOut, .initialized RX5, .code yX5_workOut cX5_workOut 4 none] ++ wsX50)
set_option maxRecDepth 20000 in
theorem gX5_addUpCup_c_X5_workOut_2 : GoodIn wX5_addUpCup (wsV RX5 171 RX5 yX5_workOut wX5_workOut) := goodIn_p _ [7] rfl (by decide +kernel)
set_option maxHeartbeats 4000000 in
set_option maxRecDepth 100000 in
theorem c_X5_addUpCup (l : Launch) (dC : Nat → ClassId) (dI : Nat → Nat → Nat) (h0 : Nat) (qT : Nat) (qF : Nat) (qN : Nat) (qR : Nat) (qC : Nat) (p0 : Int32) (sz : Nat) : Met l yX5_addUpCup wX5_addUpCup ({ frames := 1, cells := 0, slots := 0, locals := 23 }) (va_Pc [.ref h0, .int p0] (fun U => U.heap.size = sz ∧ va_P (dC, dI) vwCl [(h0, .inr (5, [.ref qT, .int 0, .ref qF, .int 0, .int 0, .int ((-1)), .int 0, .ref qN, .int 0, .ref qR, .int 0, .int 0, .ref qC]))] U.heap ∧ va_K (dC, dI) vwCl [] U ∧ va_D (fun _ => True) [(h0, .inr (5, [.ref qT, .int 0, .ref qF, .int 0, .int 0, .int ((-1)), .int 0, .ref qN, .int 0, .ref qR, .int 0, .int 0, .ref qC]))])) (va_Qv (fun (_ : Unit) => True) (fun _ t => va_P (dC, dI) vwCl [(h0, .inr (5, [.ref qT, .int 0, .ref qF, .int 0, .int 0, .int ((-1)), .int 0, .ref qN, .int 0, .ref qR, .int 0, .int 0, .ref qC]))] t.heap ∧ va_K (dC, dI) vwCl [] t ∧ va_D (va_A [(h0, .inr (5, [.ref qT, .int 0, .ref qF, .int 0, .int 0, .int ((-1)), .int 0, .ref qN, .int 0, .ref qR, .int 0, .int 0, .ref qC]))] sz) [(h0, .inr (5, [.ref qT, .int 0, .ref qF, .int 0, .int 0, .int ((-1)), .int 0, .ref qN, .int 0, .ref qR, .int 0, .int 0, .ref qC]))]) (va_A [(h0, .inr (5, [.ref qT, .int 0, .ref qF, .int 0, .int 0, .int ((-1)), .int 0, .ref qN, .int 0, .ref qR, .int 0, .int 0, .ref qC]))] sz)) 0 0 (va_A [(h0, .inr (5, [.ref qT, .int 0, .ref qF, .int 0, .int 0, .int ((-1)), .int 0, .ref qN, .int 0, .ref qR, .int 0, .int 0, .ref qC]))] sz) := by
  refine Met.ofW (cc := cX5_addUpCup) (maxL := 3) (ret := none) (by decide) rfl ?_
  intro p e s m args below meth c s₁ B hml hv
  obtain ⟨rfl, hsz, hP, hK, hD0⟩ := hv
  have hx := B.exec
  have hb := B.bytes
  have hr := B.returns
  have hts := atoms_spec (ws := wX5_addUpCup) B.pre
  have hown : s.vm.findClass RX5 = some m.cls := findClass_of_methodNamed B.named
  have hlocks := B.notSynchronized
  have hin5 : ∀ w ∈ wsX50, w ∈ wX5_addUpCup := by decide +kernel
  subst hsz
  have hD := hD0.self (sz := s.heap.size)
  generalize hAe : va_A [(h0, .inr (5, [.ref qT, .int 0, .ref qF, .int 0, .int 0, .int ((-1)), .int 0, .ref qN, .int 0, .ref qR, .int 0, .int 0, .ref qC]))] s.heap.size = A at hD ⊢
  have hA : ∀ q : Nat, s.heap.size ≤ q → A q := fun q h => by rw [← hAe]; exact Or.inr h
  have hS : va_S A s.heap s.heap [] := va_S.rf
  have hP : va_P (dC, dI) vwCl [(h0, .inr (5, [.ref qT, .int 0, .ref qF, .int 0, .int 0, .int ((-1)), .int 0, .ref qN, .int 0, .ref qR, .int 0, .int 0, .ref qC]))] s.heap := hP
  have hl := lv_entry ([.ref h0, .int p0]) (n := 3) (Nat.le_of_ble_eq_true rfl)
  rw [lg_entry_eq]
  generalize (lg_sl ([.ref h0, .int p0]) ++ List.replicate (3 - (lg_sl ([.ref h0, .int p0])).length) Slot.unset).toArray = ls at hl ⊢
  have hl : lv_has ls 3 [(0, .ref h0), (1, .int p0)] := hl
  refine lv_aload_n hx hb dX5_addUpCup_0 rfl (lv_at hl 0 rfl) ?_
  refine lv_aload_n hx hb dX5_addUpCup_1 rfl (lv_at hl 0 rfl) ?_
  refine va_get (D := (dC, dI)) (ci := 5) (v := .int 0) (C := RX5) (T := TX5) (N := 13) hx hb hts hin5 hown hK hP 0 rfl rfl 10 (by decide) (hts (.fieldLink RX5 80 "SkiShots" "raceCount" "I") (by decide +kernel)) (fun _ h9 => h9) rfl dX5_addUpCup_2 ?_
  refine lv_iload_n hx hb dX5_addUpCup_5 rfl (lv_at hl 1 rfl) ?_
  have hPc := hP.sub (ws' := [(h0, .inr (5, [.ref qT, .int 0, .ref qF, .int 0, .int 0, .int ((-1)), .int 0, .ref qN, .int 0, .ref qR, .int 0, .int 0, .ref qC]))]) [0] rfl
  have hDc := hD.sub (ws' := [(h0, .inr (5, [.ref qT, .int 0, .ref qF, .int 0, .int 0, .int ((-1)), .int 0, .ref qN, .int 0, .ref qR, .int 0, .int 0, .ref qC]))]) [0] (by decide) rfl
  have hKc := hK.sub (tys' := []) [] rfl
  have hFc := va_free (wc := [(h0, .inr (5, [.ref qT, .int 0, .ref qF, .int 0, .int 0, .int ((-1)), .int 0, .ref qN, .int 0, .ref qR, .int 0, .int 0, .ref qC]))]) hD hS hA [0] rfl
  refine va_callv (va_runV (As := [.int 0, .int p0]) (rest := []) ⟨hx, hb, hml, hown, hts⟩ (c_X5_workOut l dC dI h0 qT qF qN qR qC p0 s.heap.size) (cwV 2 hts gX5_addUpCup_c_X5_workOut_2 rfl rfl rfl (by decide +kernel) ⟨Nat.le_of_ble_eq_true rfl, Nat.le_of_ble_eq_true rfl⟩) ⟨fun a U g mk q => by obtain ⟨q0, q1, qP, qK, qD⟩ := q; exact ⟨q0, q1, qP, va_K.moved (u := U) (U := U.calling g mk a) (Vm.Alike.refl U.vm) qK, qD⟩, va_recv hKc hPc (ci := 5) (q0 := 0) rfl rfl, fun U hU hW => ⟨rfl, by rw [hU], by rw [hU]; exact hPc, va_K.moved hW.alike hKc, hDc.weaken (fun _ _ _ _ => trivial)⟩⟩ rfl rfl hl.1 rfl (lv_room (Nat.le_of_ble_eq_true rfl)) dX5_addUpCup_6 ⟨show (0 + 0 : Nat) ≤ 0 from by omega, show (0 + 0 : Nat) ≤ 0 from by omega⟩) hS (fun q _ h => hFc q h) hFc (fun u t H1 locs ht hvm hw hB hz1 hk1 hS => ?_)
  obtain ⟨hP1, hK1, hD1⟩ := hB
  rw [ht] at hP1
  have hK1 := va_K.moved hvm.symm hK1
  try dsimp only at hw
  obtain ⟨hP, hD⟩ := va_join (wr := []) (w1 := [(h0, .inr (5, [.ref qT, .int 0, .ref qF, .int 0, .int 0, .int ((-1)), .int 0, .ref qN, .int 0, .ref qR, .int 0, .int 0, .ref qC]))]) hP hD [0] [] rfl rfl (by decide) (by decide) hk1 hFc hP1 hD1
  generalize H1 = H at hP hS ⊢
  have hP : va_P (dC, dI) vwCl [(h0, .inr (5, [.ref qT, .int 0, .ref qF, .int 0, .int 0, .int ((-1)), .int 0, .ref qN, .int 0, .ref qR, .int 0, .int 0, .ref qC]))] H := hP
  have hD : va_D A [(h0, .inr (5, [.ref qT, .int 0, .ref qF, .int 0, .int 0, .int ((-1)), .int 0, .ref qN, .int 0, .ref qR, .int 0, .int 0, .ref qC]))] := hD
  have hw_3 := hw
  refine lv_iconst (v := 0) hx hb dX5_addUpCup_9 (by decide) ?_
  refine lv_istore_n (lv' := [(2, .int 0), (0, .ref h0), (1, .int p0)]) hx hb dX5_addUpCup_10 rfl hl (by decide) rfl (fun ls hl => ?_)
  refine lv_iload_n hx hb dX5_addUpCup_11 rfl (lv_at hl 0 rfl) ?_
  refine lv_aload_n hx hb dX5_addUpCup_12 rfl (lv_at hl 1 rfl) ?_
  refine va_get (D := (dC, dI)) (ci := 5) (v := .int 0) (C := RX5) (T := TX5) (N := 13) hx hb hts hin5 hown hK hP 0 rfl rfl 8 (by decide) (hts (.fieldLink RX5 77 "SkiShots" "racerCount" "I") (by decide +kernel)) (fun _ h9 => h9) rfl dX5_addUpCup_13 ?_
  refine lv_icmp_ge (tgt := 32) hx hb dX5_addUpCup_16 (by decide) (fun c_4 => ?_) (fun c_4 => absurd (by decide) c_4)
  refine lv_iconst (v := 0) hx hb dX5_addUpCup_32 (by decide) ?_
  refine lv_istore_n (lv' := [(2, .int 0), (0, .ref h0), (1, .int p0)]) hx hb dX5_addUpCup_33 rfl hl (by decide) rfl (fun ls hl => ?_)
  refine lv_iload_n hx hb dX5_addUpCup_34 rfl (lv_at hl 0 rfl) ?_
  refine lv_aload_n hx hb dX5_addUpCup_35 rfl (lv_at hl 1 rfl) ?_
  refine va_get (D := (dC, dI)) (ci := 5) (v := .int 0) (C := RX5) (T := TX5) (N := 13) hx hb hts hin5 hown hK hP 0 rfl rfl 10 (by decide) (hts (.fieldLink RX5 80 "SkiShots" "raceCount" "I") (by decide +kernel)) (fun _ h9 => h9) rfl dX5_addUpCup_36 ?_
  refine lv_icmp_ge (tgt := 58) hx hb dX5_addUpCup_39 (by decide) (fun c_5 => ?_) (fun c_5 => absurd (by decide) c_5)
  have hP9 := hP.sub (ws' := [(h0, .inr (5, [.ref qT, .int 0, .ref qF, .int 0, .int 0, .int ((-1)), .int 0, .ref qN, .int 0, .ref qR, .int 0, .int 0, .ref qC]))]) [0] rfl
  have hD9 := hD.sub (ws' := [(h0, .inr (5, [.ref qT, .int 0, .ref qF, .int 0, .int 0, .int ((-1)), .int 0, .ref qN, .int 0, .ref qR, .int 0, .int 0, .ref qC]))]) [0] (by decide) rfl
  have hK9 := hK.sub (tys' := []) [] rfl
  exact W.vret hx hb hr (fun t ht hW => ⟨⟨(), rfl, trivial, by rw [ht]; exact hP9, va_K.moved hW.alike hK9, hD9⟩, hS.F ht⟩) hS.2.2 dX5_addUpCup_58
def wX5_starters : List Cond := .code yX5_starters cX5_starters 5 (some .int) :: ([.fieldLink RX5 77 "SkiShots" "racerCount" "I", .methodLink RX5 221 Lib.Math.min.name, .static Lib.Math.min.name, .initialized "java/lang/Math", .code Lib.Math.min.name Lib.Math.min.code 2 (some .int), .methodLink RX5 73 yX5_isNation, .static yX5_isNation, .initialized RX5, .code yX5_isNation cX5_isNation 1 (some .boolean), .methodLink RX5 168 yX5_isDay, .instanceMethod yX5_isDay, .selects RX5 yX5_isDay yX5_isDay, .code yX5_isDay cX5_isDay 2 (some .boolean), .fieldLink RX5 70 "SkiShots" "today" "I", .methodLink RX5 215 yX5_addUpCup, .instanceMethod yX5_addUpCup, .selects RX5 yX5_addUpCup yX5_addUpCup, .code yX5_addUpCup cX5_addUpCup 3 none, .fieldLink RX5 80 "SkiShots" "raceCount" "I", .methodLink RX5 171 yX5_workOut, .instanceMethod yX5_workOut, .selects RX5 yX5_workOut yX5_workOut, .code yX5_workOut cX5_workOut 4 none] ++ wsX50)
set_option maxRecDepth 20000 in
theorem gX5_starters_c_X5_isNation_2 : GoodIn wX5_starters (va_wsS RX5 73 yX5_isNation wX5_isNation) := goodIn_p _ [9] rfl (by decide +kernel)
set_option maxRecDepth 20000 in
theorem gX5_starters_c_X5_isDay_6 : GoodIn wX5_starters (wsV RX5 168 RX5 yX5_isDay wX5_isDay) := goodIn_p _ [13] rfl (by decide +kernel)
set_option maxRecDepth 20000 in
theorem gX5_starters_c_X5_addUpCup_10 : GoodIn wX5_starters (wsV RX5 215 RX5 yX5_addUpCup wX5_addUpCup) := goodIn_p _ [18, 23] rfl (by decide +kernel)
set_option maxHeartbeats 4000000 in
set_option maxRecDepth 100000 in
theorem c_X5_starters (l : Launch) (dC : Nat → ClassId) (dI : Nat → Nat → Nat) (h0 : Nat) (qT : Nat) (qF : Nat) (qN : Nat) (qR : Nat) (qC : Nat) (p0 : Int32) (p1 : Int32) (sz : Nat) : Met l yX5_starters wX5_starters ({ frames := 2, cells := 0, slots := 0, locals := 45 }) (va_Pc [.ref h0, .int p0, .int p1] (fun U => U.heap.size = sz ∧ va_P (dC, dI) vwCl [(h0, .inr (5, [.ref qT, .int 0, .ref qF, .int 0, .int 0, .int ((-1)), .int 0, .ref qN, .int 0, .ref qR, .int 0, .int 0, .ref qC]))] U.heap ∧ va_K (dC, dI) vwCl [] U ∧ va_D (fun _ => True) [(h0, .inr (5, [.ref qT, .int 0, .ref qF, .int 0, .int 0, .int ((-1)), .int 0, .ref qN, .int 0, .ref qR, .int 0, .int 0, .ref qC]))])) (va_Qi (fun (r : Int32) (_ : Unit) => ((0 ≤ p0.toInt ∧ p0.toInt < 8) ∧ p1.toInt = 0 ∧ r = 2) ∨ (¬ ((0 ≤ p0.toInt ∧ p0.toInt < 8) ∧ p1.toInt = 0) ∧ r = -1)) (fun _ t => True) (va_A [(h0, .inr (5, [.ref qT, .int 0, .ref qF, .int 0, .int 0, .int ((-1)), .int 0, .ref qN, .int 0, .ref qR, .int 0, .int 0, .ref qC]))] sz)) 0 0 (va_A [(h0, .inr (5, [.ref qT, .int 0, .ref qF, .int 0, .int 0, .int ((-1)), .int 0, .ref qN, .int 0, .ref qR, .int 0, .int 0, .ref qC]))] sz) := by
  refine Met.ofW (cc := cX5_starters) (maxL := 5) (ret := (some .int)) (by decide) rfl ?_
  intro p e s m args below meth c s₁ B hml hv
  obtain ⟨rfl, hsz, hP, hK, hD0⟩ := hv
  have hx := B.exec
  have hb := B.bytes
  have hr := B.returns
  have hts := atoms_spec (ws := wX5_starters) B.pre
  have hown : s.vm.findClass RX5 = some m.cls := findClass_of_methodNamed B.named
  have hlocks := B.notSynchronized
  have hin5 : ∀ w ∈ wsX50, w ∈ wX5_starters := by decide +kernel
  subst hsz
  have hD := hD0.self (sz := s.heap.size)
  generalize hAe : va_A [(h0, .inr (5, [.ref qT, .int 0, .ref qF, .int 0, .int 0, .int ((-1)), .int 0, .ref qN, .int 0, .ref qR, .int 0, .int 0, .ref qC]))] s.heap.size = A at hD ⊢
  have hA : ∀ q : Nat, s.heap.size ≤ q → A q := fun q h => by rw [← hAe]; exact Or.inr h
  have hS : va_S A s.heap s.heap [] := va_S.rf
  have hP : va_P (dC, dI) vwCl [(h0, .inr (5, [.ref qT, .int 0, .ref qF, .int 0, .int 0, .int ((-1)), .int 0, .ref qN, .int 0, .ref qR, .int 0, .int 0, .ref qC]))] s.heap := hP
  have hl := lv_entry ([.ref h0, .int p0, .int p1]) (n := 5) (Nat.le_of_ble_eq_true rfl)
  rw [lg_entry_eq]
  generalize (lg_sl ([.ref h0, .int p0, .int p1]) ++ List.replicate (5 - (lg_sl ([.ref h0, .int p0, .int p1])).length) Slot.unset).toArray = ls at hl ⊢
  have hl : lv_has ls 5 [(0, .ref h0), (1, .int p0), (2, .int p1)] := hl
  refine lv_iload_n hx hb dX5_starters_0 rfl (lv_at hl 1 rfl) ?_
  have hPc := hP.sub (ws' := []) [] rfl
  have hDc := hD.sub (ws' := []) [] (by decide) rfl
  have hKc := hK.sub (tys' := []) [] rfl
  have hFc := va_free (wc := []) hD hS hA [] rfl
  refine va_calli (va_runS (As := [.int p0]) (rest := []) ⟨hx, hb, hml, hown, hts⟩ (c_X5_isNation l dC dI p0 s.heap.size) (va_cwS 1 hts gX5_starters_c_X5_isNation_2 rfl rfl rfl (by decide +kernel) ⟨Nat.le_of_ble_eq_true rfl, Nat.le_of_ble_eq_true rfl⟩) ⟨fun a U g mk q => by obtain ⟨q0, q1, qP, qK, qD⟩ := q; exact ⟨q0, q1, qP, va_K.moved (u := U) (U := U.calling g mk a) (Vm.Alike.refl U.vm) qK, qD⟩, fun U hU hW => ⟨rfl, by rw [hU], by rw [hU]; exact hPc, va_K.moved hW.alike hKc, hDc.weaken (fun _ _ _ _ => trivial)⟩⟩ rfl rfl hl.1 rfl (lv_room (Nat.le_of_ble_eq_true rfl)) dX5_starters_1 ⟨show (0 + 0 : Nat) ≤ 0 from by omega, show (0 + 0 : Nat) ≤ 0 from by omega⟩) hS (fun q _ h => hFc q h) hFc (fun r_1 u t H1 locs ht hvm hw hB hz1 hk1 hS => ?_)
  obtain ⟨hP1, hK1, hD1⟩ := hB
  rw [ht] at hP1
  have hK1 := va_K.moved hvm.symm hK1
  try dsimp only at hw
  obtain ⟨hP, hD⟩ := va_join (wr := [(h0, .inr (5, [.ref qT, .int 0, .ref qF, .int 0, .int 0, .int ((-1)), .int 0, .ref qN, .int 0, .ref qR, .int 0, .int 0, .ref qC]))]) (w1 := []) hP hD [] [0] rfl rfl (by decide) (by decide) hk1 hFc hP1 hD1
  generalize H1 = H at hP hS ⊢
  have hP : va_P (dC, dI) vwCl [(h0, .inr (5, [.ref qT, .int 0, .ref qF, .int 0, .int 0, .int ((-1)), .int 0, .ref qN, .int 0, .ref qR, .int 0, .int 0, .ref qC]))] H := hP
  have hD : va_D A [(h0, .inr (5, [.ref qT, .int 0, .ref qF, .int 0, .int 0, .int ((-1)), .int 0, .ref qN, .int 0, .ref qR, .int 0, .int 0, .ref qC]))] := hD
  have hw_3 := hw
  refine lv_if_eq (tgt := 15) hx hb dX5_starters_4 (by decide) (fun c_4 => ?_) (fun c_4 => ?_)
  · refine lv_iconst (v := (-1)) hx hb dX5_starters_15 (by decide) ?_
    exact W.iret (v := (-1)) hx hb hr (fun t ht hW => ⟨⟨(-1), (), rfl, by (try simp only [and_true, true_and, and_false, false_and, or_true, true_or, or_false, false_or, not_true_eq_false, not_false_eq_true, num_lt, num_le, num_eq, Int32.zero_add, Int32.sub_zero, Int32.add_zero, num_m2, num_m1, num_0, num_1, num_2, num_3, num_4, num_5, num_6, num_7, num_8, num_16, num_20, num_31, num_200, num_1000] at hw_3 c_4 ⊢) <;> omega, trivial⟩, hS.F ht⟩) hS.2.2 dX5_starters_16
  · refine lv_aload_n hx hb dX5_starters_7 rfl (lv_at hl 0 rfl) ?_
    refine lv_iload_n hx hb dX5_starters_8 rfl (lv_at hl 2 rfl) ?_
    have hPc := hP.sub (ws' := [(h0, .inr (5, [.ref qT, .int 0, .ref qF, .int 0, .int 0, .int ((-1)), .int 0, .ref qN, .int 0, .ref qR, .int 0, .int 0, .ref qC]))]) [0] rfl
    have hDc := hD.sub (ws' := [(h0, .inr (5, [.ref qT, .int 0, .ref qF, .int 0, .int 0, .int ((-1)), .int 0, .ref qN, .int 0, .ref qR, .int 0, .int 0, .ref qC]))]) [0] (by decide) rfl
    have hKc := hK.sub (tys' := []) [] rfl
    have hFc := va_free (wc := [(h0, .inr (5, [.ref qT, .int 0, .ref qF, .int 0, .int 0, .int ((-1)), .int 0, .ref qN, .int 0, .ref qR, .int 0, .int 0, .ref qC]))]) hD hS hA [0] rfl
    refine va_calli (va_runV (As := [.int p1]) (rest := []) ⟨hx, hb, hml, hown, hts⟩ (c_X5_isDay l dC dI h0 qT qF qN qR qC p1 H.size) (cwV 1 hts gX5_starters_c_X5_isDay_6 rfl rfl rfl (by decide +kernel) ⟨Nat.le_of_ble_eq_true rfl, Nat.le_of_ble_eq_true rfl⟩) ⟨fun a U g mk q => by obtain ⟨q0, q1, qP, qK, qD⟩ := q; exact ⟨q0, q1, qP, va_K.moved (u := U) (U := U.calling g mk a) (Vm.Alike.refl U.vm) qK, qD⟩, va_recv hKc hPc (ci := 5) (q0 := 0) rfl rfl, fun U hU hW => ⟨rfl, by rw [hU], by rw [hU]; exact hPc, va_K.moved hW.alike hKc, hDc.weaken (fun _ _ _ _ => trivial)⟩⟩ rfl rfl hl.1 rfl (lv_room (Nat.le_of_ble_eq_true rfl)) dX5_starters_9 ⟨show (0 + 0 : Nat) ≤ 0 from by omega, show (0 + 0 : Nat) ≤ 0 from by omega⟩) hS (fun q _ h => hFc q h) hFc (fun r_5 u t H1 locs ht hvm hw hB hz1 hk1 hS => ?_)
    obtain ⟨hP1, hK1, hD1⟩ := hB
    rw [ht] at hP1
    have hK1 := va_K.moved hvm.symm hK1
    try dsimp only at hw
    obtain ⟨hP, hD⟩ := va_join (wr := []) (w1 := [(h0, .inr (5, [.ref qT, .int 0, .ref qF, .int 0, .int 0, .int ((-1)), .int 0, .ref qN, .int 0, .ref qR, .int 0, .int 0, .ref qC]))]) hP hD [0] [] rfl rfl (by decide) (by decide) hk1 hFc hP1 hD1
    generalize H1 = H at hP hS ⊢
    have hP : va_P (dC, dI) vwCl [(h0, .inr (5, [.ref qT, .int 0, .ref qF, .int 0, .int 0, .int ((-1)), .int 0, .ref qN, .int 0, .ref qR, .int 0, .int 0, .ref qC]))] H := hP
    have hD : va_D A [(h0, .inr (5, [.ref qT, .int 0, .ref qF, .int 0, .int 0, .int ((-1)), .int 0, .ref qN, .int 0, .ref qR, .int 0, .int 0, .ref qC]))] := hD
    have hw_7 := hw
    refine lv_if_ne (tgt := 17) hx hb dX5_starters_12 (by decide) (fun c_8 => ?_) (fun c_8 => ?_)
    · refine lv_aload_n hx hb dX5_starters_17 rfl (lv_at hl 0 rfl) ?_
      refine lv_iload_n hx hb dX5_starters_18 rfl (lv_at hl 2 rfl) ?_
      have hPc := hP.sub (ws' := [(h0, .inr (5, [.ref qT, .int 0, .ref qF, .int 0, .int 0, .int ((-1)), .int 0, .ref qN, .int 0, .ref qR, .int 0, .int 0, .ref qC]))]) [0] rfl
      have hDc := hD.sub (ws' := [(h0, .inr (5, [.ref qT, .int 0, .ref qF, .int 0, .int 0, .int ((-1)), .int 0, .ref qN, .int 0, .ref qR, .int 0, .int 0, .ref qC]))]) [0] (by decide) rfl
      have hKc := hK.sub (tys' := []) [] rfl
      have hFc := va_free (wc := [(h0, .inr (5, [.ref qT, .int 0, .ref qF, .int 0, .int 0, .int ((-1)), .int 0, .ref qN, .int 0, .ref qR, .int 0, .int 0, .ref qC]))]) hD hS hA [0] rfl
      refine va_callv (va_runV (As := [.int p1]) (rest := []) ⟨hx, hb, hml, hown, hts⟩ (c_X5_addUpCup l dC dI h0 qT qF qN qR qC p1 H.size) (cwV 1 hts gX5_starters_c_X5_addUpCup_10 rfl rfl rfl (by decide +kernel) ⟨Nat.le_of_ble_eq_true rfl, Nat.le_of_ble_eq_true rfl⟩) ⟨fun a U g mk q => by obtain ⟨q0, q1, qP, qK, qD⟩ := q; exact ⟨q0, q1, qP, va_K.moved (u := U) (U := U.calling g mk a) (Vm.Alike.refl U.vm) qK, qD⟩, va_recv hKc hPc (ci := 5) (q0 := 0) rfl rfl, fun U hU hW => ⟨rfl, by rw [hU], by rw [hU]; exact hPc, va_K.moved hW.alike hKc, hDc.weaken (fun _ _ _ _ => trivial)⟩⟩ rfl rfl hl.1 rfl (lv_room (Nat.le_of_ble_eq_true rfl)) dX5_starters_19 ⟨show (0 + 0 : Nat) ≤ 0 from by omega, show (0 + 0 : Nat) ≤ 0 from by omega⟩) hS (fun q _ h => hFc q h) hFc (fun u t H1 locs ht hvm hw hB hz1 hk1 hS => ?_)
      obtain ⟨hP1, hK1, hD1⟩ := hB
      rw [ht] at hP1
      have hK1 := va_K.moved hvm.symm hK1
      try dsimp only at hw
      obtain ⟨hP, hD⟩ := va_join (wr := []) (w1 := [(h0, .inr (5, [.ref qT, .int 0, .ref qF, .int 0, .int 0, .int ((-1)), .int 0, .ref qN, .int 0, .ref qR, .int 0, .int 0, .ref qC]))]) hP hD [0] [] rfl rfl (by decide) (by decide) hk1 hFc hP1 hD1
      generalize H1 = H at hP hS ⊢
      have hP : va_P (dC, dI) vwCl [(h0, .inr (5, [.ref qT, .int 0, .ref qF, .int 0, .int 0, .int ((-1)), .int 0, .ref qN, .int 0, .ref qR, .int 0, .int 0, .ref qC]))] H := hP
      have hD : va_D A [(h0, .inr (5, [.ref qT, .int 0, .ref qF, .int 0, .int 0, .int ((-1)), .int 0, .ref qN, .int 0, .ref qR, .int 0, .int 0, .ref qC]))] := hD
      have hw_11 := hw
      refine lv_iconst (v := 2) hx hb dX5_starters_22 (by decide) ?_
      refine lv_istore_n (lv' := [(3, .int 2), (0, .ref h0), (1, .int p0), (2, .int p1)]) hx hb dX5_starters_23 rfl hl (by decide) rfl (fun ls hl => ?_)
      refine lv_iconst (v := 0) hx hb dX5_starters_24 (by decide) ?_
      refine lv_istore (lv' := [(4, .int 0), (3, .int 2), (0, .ref h0), (1, .int p0), (2, .int p1)]) hx hb dX5_starters_25 hl (by decide) rfl (fun ls hl => ?_)
      refine lv_iload hx hb dX5_starters_27 (lv_at hl 0 rfl) ?_
      refine lv_aload_n hx hb dX5_starters_29 rfl (lv_at hl 2 rfl) ?_
      refine va_get (D := (dC, dI)) (ci := 5) (v := .int 0) (C := RX5) (T := TX5) (N := 13) hx hb hts hin5 hown hK hP 0 rfl rfl 8 (by decide) (hts (.fieldLink RX5 77 "SkiShots" "racerCount" "I") (by decide +kernel)) (fun _ h9 => h9) rfl dX5_starters_30 ?_
      refine lv_icmp_ge (tgt := 76) hx hb dX5_starters_33 (by decide) (fun c_12 => ?_) (fun c_12 => absurd (by decide) c_12)
      refine lv_iload_n hx hb dX5_starters_76 rfl (lv_at hl 1 rfl) ?_
      refine lv_iconst (v := 4) hx hb dX5_starters_77 (by decide) ?_
      refine va_mmin hx hb (hml.trans hl.1.symm) hown (hts (.methodLink RX5 221 Lib.Math.min.name) (by decide +kernel)) (hts (.static Lib.Math.min.name) (by decide +kernel)) (hts (.initialized "java/lang/Math") (by decide +kernel)) (hts (.code Lib.Math.min.name Lib.Math.min.code 2 (some .int)) (by decide +kernel)) (Nat.le_of_ble_eq_true rfl) (Nat.le_of_ble_eq_true rfl) (Nat.le_of_ble_eq_true rfl) (Nat.le_of_ble_eq_true rfl) dX5_starters_78 ?_
      rw [show ((if (4 : Int32) < 2 then 4 else 2 : Int32)) = 2 from by decide]
      exact W.iret (v := 2) hx hb hr (fun t ht hW => ⟨⟨2, (), rfl, by (try simp only [and_true, true_and, and_false, false_and, or_true, true_or, or_false, false_or, not_true_eq_false, not_false_eq_true, num_lt, num_le, num_eq, Int32.zero_add, Int32.sub_zero, Int32.add_zero, num_m2, num_m1, num_0, num_1, num_2, num_3, num_4, num_5, num_6, num_7, num_8, num_16, num_20, num_31, num_200, num_1000] at hw_3 c_4 hw_7 c_8 c_12 ⊢) <;> omega, trivial⟩, hS.F ht⟩) hS.2.2 dX5_starters_81
    · refine lv_iconst (v := (-1)) hx hb dX5_starters_15 (by decide) ?_
      exact W.iret (v := (-1)) hx hb hr (fun t ht hW => ⟨⟨(-1), (), rfl, by (try simp only [and_true, true_and, and_false, false_and, or_true, true_or, or_false, false_or, not_true_eq_false, not_false_eq_true, num_lt, num_le, num_eq, Int32.zero_add, Int32.sub_zero, Int32.add_zero, num_m2, num_m1, num_0, num_1, num_2, num_3, num_4, num_5, num_6, num_7, num_8, num_16, num_20, num_31, num_200, num_1000] at hw_3 c_4 hw_7 c_8 ⊢) <;> omega, trivial⟩, hS.F ht⟩) hS.2.2 dX5_starters_16
end
section
def wX5_putOnTape_0 : List Cond := .code yX5_putOnTape cX5_putOnTape 3 none :: ([.fieldLink RX5 36 "SkiShots" "tapeLength" "I", .fieldLink RX5 9 "SkiShots" "tape" "[B"] ++ wsX50)
set_option maxHeartbeats 4000000 in
set_option maxRecDepth 100000 in
theorem c_X5_putOnTape_0 (l : Launch) (dC : Nat → ClassId) (dI : Nat → Nat → Nat) (h0 : Nat) (qT : Nat) (qF : Nat) (qN : Nat) (qR : Nat) (qC : Nat) (cT : ClassId) (f : Nat → Int32) (p0 : Int32) (sz : Nat) : Met l yX5_putOnTape wX5_putOnTape_0 ({ frames := 0, cells := 0, slots := 0, locals := 0 }) (va_Pc [.ref h0, .int p0] (fun U => U.heap.size = sz ∧ va_P (dC, dI) vwCl [(h0, .inr (5, [.ref qT, .int 0, .ref qF, .int 0, .int 0, .int ((-1)), .int 0, .ref qN, .int 0, .ref qR, .int 0, .int 0, .ref qC])), (qT, .inl (cT, 1000, .inl (f)))] U.heap ∧ va_K (dC, dI) vwCl [(cT, .byte)] U ∧ va_D (fun _ => True) [(h0, .inr (5, [.ref qT, .int 0, .ref qF, .int 0, .int 0, .int ((-1)), .int 0, .ref qN, .int 0, .ref qR, .int 0, .int 0, .ref qC])), (qT, .inl (cT, 1000, .inl (f)))])) (va_Qv (fun (_ : Unit) => True) (fun _ t => ∃ (f2 : Nat → Int32), va_P (dC, dI) vwCl [(h0, .inr (5, [.ref qT, .int 4, .ref qF, .int 0, .int 0, .int ((-1)), .int 0, .ref qN, .int 0, .ref qR, .int 0, .int 0, .ref qC])), (qT, .inl (cT, 1000, .inl (f2)))] t.heap ∧ va_K (dC, dI) vwCl [(cT, .byte)] t ∧ va_D (va_A [(h0, .inr (5, [.ref qT, .int 0, .ref qF, .int 0, .int 0, .int ((-1)), .int 0, .ref qN, .int 0, .ref qR, .int 0, .int 0, .ref qC])), (qT, .inl (cT, 1000, .inl (f)))] sz) [(h0, .inr (5, [.ref qT, .int 4, .ref qF, .int 0, .int 0, .int ((-1)), .int 0, .ref qN, .int 0, .ref qR, .int 0, .int 0, .ref qC])), (qT, .inl (cT, 1000, .inl (f2)))]) (va_A [(h0, .inr (5, [.ref qT, .int 0, .ref qF, .int 0, .int 0, .int ((-1)), .int 0, .ref qN, .int 0, .ref qR, .int 0, .int 0, .ref qC])), (qT, .inl (cT, 1000, .inl (f)))] sz)) 0 0 (va_A [(h0, .inr (5, [.ref qT, .int 0, .ref qF, .int 0, .int 0, .int ((-1)), .int 0, .ref qN, .int 0, .ref qR, .int 0, .int 0, .ref qC])), (qT, .inl (cT, 1000, .inl (f)))] sz) := by
  refine Met.ofW (cc := cX5_putOnTape) (maxL := 3) (ret := none) (by decide) rfl ?_
  intro p e s m args below meth c s₁ B hml hv
  obtain ⟨rfl, hsz, hP, hK, hD0⟩ := hv
  have hx := B.exec
  have hb := B.bytes
  have hr := B.returns
  have hts := atoms_spec (ws := wX5_putOnTape_0) B.pre
  have hown : s.vm.findClass RX5 = some m.cls := findClass_of_methodNamed B.named
  have hlocks := B.notSynchronized
  have hin5 : ∀ w ∈ wsX50, w ∈ wX5_putOnTape_0 := by decide +kernel
  subst hsz
  have hD := hD0.self (sz := s.heap.size)
  generalize hAe : va_A [(h0, .inr (5, [.ref qT, .int 0, .ref qF, .int 0, .int 0, .int ((-1)), .int 0, .ref qN, .int 0, .ref qR, .int 0, .int 0, .ref qC])), (qT, .inl (cT, 1000, .inl (f)))] s.heap.size = A at hD ⊢
  have hA : ∀ q : Nat, s.heap.size ≤ q → A q := fun q h => by rw [← hAe]; exact Or.inr h
  have hS : va_S A s.heap s.heap [] := va_S.rf
  have hP : va_P (dC, dI) vwCl [(h0, .inr (5, [.ref qT, .int 0, .ref qF, .int 0, .int 0, .int ((-1)), .int 0, .ref qN, .int 0, .ref qR, .int 0, .int 0, .ref qC])), (qT, .inl (cT, 1000, .inl (f)))] s.heap := hP
  have hl := lv_entry ([.ref h0, .int p0]) (n := 3) (Nat.le_of_ble_eq_true rfl)
  rw [lg_entry_eq]
  generalize (lg_sl ([.ref h0, .int p0]) ++ List.replicate (3 - (lg_sl ([.ref h0, .int p0])).length) Slot.unset).toArray = ls at hl ⊢
  have hl : lv_has ls 3 [(0, .ref h0), (1, .int p0)] := hl
  refine lv_bipush (v := 24) hx hb dX5_putOnTape_0 (by decide) ?_
  refine lv_istore_n (lv' := [(2, .int 24), (0, .ref h0), (1, .int p0)]) hx hb dX5_putOnTape_2 rfl hl (by decide) rfl (fun ls hl => ?_)
  refine lv_iload_n hx hb dX5_putOnTape_3 rfl (lv_at hl 0 rfl) ?_
  refine lv_if_lt (tgt := 46) hx hb dX5_putOnTape_4 (by decide) (fun c_1 => absurd c_1 (by decide)) (fun c_1 => ?_)
  refine lv_aload_n hx hb dX5_putOnTape_7 rfl (lv_at hl 1 rfl) ?_
  refine va_get (D := (dC, dI)) (ci := 5) (v := .int 0) (C := RX5) (T := TX5) (N := 13) hx hb hts hin5 hown hK hP 0 rfl rfl 1 (by decide) (hts (.fieldLink RX5 36 "SkiShots" "tapeLength" "I") (by decide +kernel)) (fun _ h9 => h9) rfl dX5_putOnTape_8 ?_
  refine lv_sipush (v := 1000) hx hb dX5_putOnTape_11 (by decide) ?_
  refine lv_icmp_ge (tgt := 46) hx hb dX5_putOnTape_14 (by decide) (fun c_2 => absurd c_2 (by decide)) (fun c_2 => ?_)
  refine lv_aload_n hx hb dX5_putOnTape_17 rfl (lv_at hl 1 rfl) ?_
  refine va_get (D := (dC, dI)) (ci := 5) (v := .ref qT) (C := RX5) (T := TX5) (N := 13) hx hb hts hin5 hown hK hP 0 rfl rfl 0 (by decide) (hts (.fieldLink RX5 9 "SkiShots" "tape" "[B") (by decide +kernel)) (fun _ h9 => h9) rfl dX5_putOnTape_18 ?_
  refine lv_aload_n hx hb dX5_putOnTape_21 rfl (lv_at hl 1 rfl) ?_
  refine va_get (D := (dC, dI)) (ci := 5) (v := .int 0) (C := RX5) (T := TX5) (N := 13) hx hb hts hin5 hown hK hP 0 rfl rfl 1 (by decide) (hts (.fieldLink RX5 36 "SkiShots" "tapeLength" "I") (by decide +kernel)) (fun _ h9 => h9) rfl dX5_putOnTape_22 ?_
  refine lv_iload_n hx hb dX5_putOnTape_25 rfl (lv_at hl 2 rfl) ?_
  refine lv_iload_n hx hb dX5_putOnTape_26 rfl (lv_at hl 0 rfl) ?_
  refine lv_ishr hx hb dX5_putOnTape_27 ?_
  refine lv_i2b hx hb dX5_putOnTape_28 rfl ?_
  refine va_bast hx hb hK hP hD hS 1 0 rfl rfl (by unfold vp_in; decide) dX5_putOnTape_29 (fun H locs hP hD hS => ?_)
  obtain ⟨f_3, ef_3⟩ : ∃ g : Nat → Int32, g = upd (f) (Int32.toNatClampNeg 0) (vp_nar .byte ((p0 >>> (24 &&& 31)).toInt8.toInt32)) := ⟨_, rfl⟩
  have hP : va_P (dC, dI) vwCl [(h0, .inr (5, [.ref qT, .int 0, .ref qF, .int 0, .int 0, .int ((-1)), .int 0, .ref qN, .int 0, .ref qR, .int 0, .int 0, .ref qC])), (qT, .inl (cT, 1000, .inl (f_3)))] H := by rw [ef_3]; exact hP
  have hD : va_D A [(h0, .inr (5, [.ref qT, .int 0, .ref qF, .int 0, .int 0, .int ((-1)), .int 0, .ref qN, .int 0, .ref qR, .int 0, .int 0, .ref qC])), (qT, .inl (cT, 1000, .inl (f_3)))] := by rw [ef_3]; exact hD
  refine lv_aload_n hx hb dX5_putOnTape_30 rfl (lv_at hl 1 rfl) ?_
  refine lv_dup hx hb dX5_putOnTape_31 rfl ?_
  refine va_get (D := (dC, dI)) (ci := 5) (v := .int 0) (C := RX5) (T := TX5) (N := 13) hx hb hts hin5 hown hK hP 0 rfl rfl 1 (by decide) (hts (.fieldLink RX5 36 "SkiShots" "tapeLength" "I") (by decide +kernel)) (fun _ h9 => h9) rfl dX5_putOnTape_32 ?_
  refine lv_iconst (v := 1) hx hb dX5_putOnTape_35 (by decide) ?_
  refine lv_iadd hx hb dX5_putOnTape_36 ?_
  rw [show (0 + 1 : Int32) = 1 from by decide]
  refine va_put (D := (dC, dI)) (ci := 5) (v := .int 1) (ty := .int) (C := RX5) (T := TX5) (N := 13) hx hb hts hin5 tyX5 tyX5_ok nmX5 hown hK hP hD hS 0 rfl rfl 1 (by decide) (hts (.fieldLink RX5 36 "SkiShots" "tapeLength" "I") (by decide +kernel)) (fun _ h9 => h9) rfl (by decide +kernel) rfl rfl (Nat.le_of_ble_eq_true rfl) dX5_putOnTape_37 (fun H locs hP hD hS => ?_)
  have hP : va_P (dC, dI) vwCl [(h0, .inr (5, [.ref qT, .int 1, .ref qF, .int 0, .int 0, .int ((-1)), .int 0, .ref qN, .int 0, .ref qR, .int 0, .int 0, .ref qC])), (qT, .inl (cT, 1000, .inl (f_3)))] H := hP
  have hD : va_D A [(h0, .inr (5, [.ref qT, .int 1, .ref qF, .int 0, .int 0, .int ((-1)), .int 0, .ref qN, .int 0, .ref qR, .int 0, .int 0, .ref qC])), (qT, .inl (cT, 1000, .inl (f_3)))] := hD
  refine lv_iinc (v := 16) (lv' := [(2, .int 16), (0, .ref h0), (1, .int p0)]) hx hb dX5_putOnTape_40 hl (k := 0) rfl (by decide) (by decide) rfl (fun ls hl => ?_)
  refine lv_goto (tgt := 3) hx hb dX5_putOnTape_43 (by decide) ?_
  refine lv_iload_n hx hb dX5_putOnTape_3 rfl (lv_at hl 0 rfl) ?_
  refine lv_if_lt (tgt := 46) hx hb dX5_putOnTape_4 (by decide) (fun c_4 => absurd c_4 (by decide)) (fun c_4 => ?_)
  refine lv_aload_n hx hb dX5_putOnTape_7 rfl (lv_at hl 1 rfl) ?_
  refine va_get (D := (dC, dI)) (ci := 5) (v := .int 1) (C := RX5) (T := TX5) (N := 13) hx hb hts hin5 hown hK hP 0 rfl rfl 1 (by decide) (hts (.fieldLink RX5 36 "SkiShots" "tapeLength" "I") (by decide +kernel)) (fun _ h9 => h9) rfl dX5_putOnTape_8 ?_
  refine lv_sipush (v := 1000) hx hb dX5_putOnTape_11 (by decide) ?_
  refine lv_icmp_ge (tgt := 46) hx hb dX5_putOnTape_14 (by decide) (fun c_5 => absurd c_5 (by decide)) (fun c_5 => ?_)
  refine lv_aload_n hx hb dX5_putOnTape_17 rfl (lv_at hl 1 rfl) ?_
  refine va_get (D := (dC, dI)) (ci := 5) (v := .ref qT) (C := RX5) (T := TX5) (N := 13) hx hb hts hin5 hown hK hP 0 rfl rfl 0 (by decide) (hts (.fieldLink RX5 9 "SkiShots" "tape" "[B") (by decide +kernel)) (fun _ h9 => h9) rfl dX5_putOnTape_18 ?_
  refine lv_aload_n hx hb dX5_putOnTape_21 rfl (lv_at hl 1 rfl) ?_
  refine va_get (D := (dC, dI)) (ci := 5) (v := .int 1) (C := RX5) (T := TX5) (N := 13) hx hb hts hin5 hown hK hP 0 rfl rfl 1 (by decide) (hts (.fieldLink RX5 36 "SkiShots" "tapeLength" "I") (by decide +kernel)) (fun _ h9 => h9) rfl dX5_putOnTape_22 ?_
  refine lv_iload_n hx hb dX5_putOnTape_25 rfl (lv_at hl 2 rfl) ?_
  refine lv_iload_n hx hb dX5_putOnTape_26 rfl (lv_at hl 0 rfl) ?_
  refine lv_ishr hx hb dX5_putOnTape_27 ?_
  refine lv_i2b hx hb dX5_putOnTape_28 rfl ?_
  refine va_bast hx hb hK hP hD hS 1 0 rfl rfl (by unfold vp_in; decide) dX5_putOnTape_29 (fun H locs hP hD hS => ?_)
  obtain ⟨f_6, ef_6⟩ : ∃ g : Nat → Int32, g = upd (f_3) (Int32.toNatClampNeg 1) (vp_nar .byte ((p0 >>> (16 &&& 31)).toInt8.toInt32)) := ⟨_, rfl⟩
  have hP : va_P (dC, dI) vwCl [(h0, .inr (5, [.ref qT, .int 1, .ref qF, .int 0, .int 0, .int ((-1)), .int 0, .ref qN, .int 0, .ref qR, .int 0, .int 0, .ref qC])), (qT, .inl (cT, 1000, .inl (f_6)))] H := by rw [ef_6]; exact hP
  have hD : va_D A [(h0, .inr (5, [.ref qT, .int 1, .ref qF, .int 0, .int 0, .int ((-1)), .int 0, .ref qN, .int 0, .ref qR, .int 0, .int 0, .ref qC])), (qT, .inl (cT, 1000, .inl (f_6)))] := by rw [ef_6]; exact hD
  refine lv_aload_n hx hb dX5_putOnTape_30 rfl (lv_at hl 1 rfl) ?_
  refine lv_dup hx hb dX5_putOnTape_31 rfl ?_
  refine va_get (D := (dC, dI)) (ci := 5) (v := .int 1) (C := RX5) (T := TX5) (N := 13) hx hb hts hin5 hown hK hP 0 rfl rfl 1 (by decide) (hts (.fieldLink RX5 36 "SkiShots" "tapeLength" "I") (by decide +kernel)) (fun _ h9 => h9) rfl dX5_putOnTape_32 ?_
  refine lv_iconst (v := 1) hx hb dX5_putOnTape_35 (by decide) ?_
  refine lv_iadd hx hb dX5_putOnTape_36 ?_
  rw [show (1 + 1 : Int32) = 2 from by decide]
  refine va_put (D := (dC, dI)) (ci := 5) (v := .int 2) (ty := .int) (C := RX5) (T := TX5) (N := 13) hx hb hts hin5 tyX5 tyX5_ok nmX5 hown hK hP hD hS 0 rfl rfl 1 (by decide) (hts (.fieldLink RX5 36 "SkiShots" "tapeLength" "I") (by decide +kernel)) (fun _ h9 => h9) rfl (by decide +kernel) rfl rfl (Nat.le_of_ble_eq_true rfl) dX5_putOnTape_37 (fun H locs hP hD hS => ?_)
  have hP : va_P (dC, dI) vwCl [(h0, .inr (5, [.ref qT, .int 2, .ref qF, .int 0, .int 0, .int ((-1)), .int 0, .ref qN, .int 0, .ref qR, .int 0, .int 0, .ref qC])), (qT, .inl (cT, 1000, .inl (f_6)))] H := hP
  have hD : va_D A [(h0, .inr (5, [.ref qT, .int 2, .ref qF, .int 0, .int 0, .int ((-1)), .int 0, .ref qN, .int 0, .ref qR, .int 0, .int 0, .ref qC])), (qT, .inl (cT, 1000, .inl (f_6)))] := hD
  refine lv_iinc (v := 8) (lv' := [(2, .int 8), (0, .ref h0), (1, .int p0)]) hx hb dX5_putOnTape_40 hl (k := 0) rfl (by decide) (by decide) rfl (fun ls hl => ?_)
  refine lv_goto (tgt := 3) hx hb dX5_putOnTape_43 (by decide) ?_
  refine lv_iload_n hx hb dX5_putOnTape_3 rfl (lv_at hl 0 rfl) ?_
  refine lv_if_lt (tgt := 46) hx hb dX5_putOnTape_4 (by decide) (fun c_7 => absurd c_7 (by decide)) (fun c_7 => ?_)
  refine lv_aload_n hx hb dX5_putOnTape_7 rfl (lv_at hl 1 rfl) ?_
  refine va_get (D := (dC, dI)) (ci := 5) (v := .int 2) (C := RX5) (T := TX5) (N := 13) hx hb hts hin5 hown hK hP 0 rfl rfl 1 (by decide) (hts (.fieldLink RX5 36 "SkiShots" "tapeLength" "I") (by decide +kernel)) (fun _ h9 => h9) rfl dX5_putOnTape_8 ?_
  refine lv_sipush (v := 1000) hx hb dX5_putOnTape_11 (by decide) ?_
  refine lv_icmp_ge (tgt := 46) hx hb dX5_putOnTape_14 (by decide) (fun c_8 => absurd c_8 (by decide)) (fun c_8 => ?_)
  refine lv_aload_n hx hb dX5_putOnTape_17 rfl (lv_at hl 1 rfl) ?_
  refine va_get (D := (dC, dI)) (ci := 5) (v := .ref qT) (C := RX5) (T := TX5) (N := 13) hx hb hts hin5 hown hK hP 0 rfl rfl 0 (by decide) (hts (.fieldLink RX5 9 "SkiShots" "tape" "[B") (by decide +kernel)) (fun _ h9 => h9) rfl dX5_putOnTape_18 ?_
  refine lv_aload_n hx hb dX5_putOnTape_21 rfl (lv_at hl 1 rfl) ?_
  refine va_get (D := (dC, dI)) (ci := 5) (v := .int 2) (C := RX5) (T := TX5) (N := 13) hx hb hts hin5 hown hK hP 0 rfl rfl 1 (by decide) (hts (.fieldLink RX5 36 "SkiShots" "tapeLength" "I") (by decide +kernel)) (fun _ h9 => h9) rfl dX5_putOnTape_22 ?_
  refine lv_iload_n hx hb dX5_putOnTape_25 rfl (lv_at hl 2 rfl) ?_
  refine lv_iload_n hx hb dX5_putOnTape_26 rfl (lv_at hl 0 rfl) ?_
  refine lv_ishr hx hb dX5_putOnTape_27 ?_
  refine lv_i2b hx hb dX5_putOnTape_28 rfl ?_
  refine va_bast hx hb hK hP hD hS 1 0 rfl rfl (by unfold vp_in; decide) dX5_putOnTape_29 (fun H locs hP hD hS => ?_)
  obtain ⟨f_9, ef_9⟩ : ∃ g : Nat → Int32, g = upd (f_6) (Int32.toNatClampNeg 2) (vp_nar .byte ((p0 >>> (8 &&& 31)).toInt8.toInt32)) := ⟨_, rfl⟩
  have hP : va_P (dC, dI) vwCl [(h0, .inr (5, [.ref qT, .int 2, .ref qF, .int 0, .int 0, .int ((-1)), .int 0, .ref qN, .int 0, .ref qR, .int 0, .int 0, .ref qC])), (qT, .inl (cT, 1000, .inl (f_9)))] H := by rw [ef_9]; exact hP
  have hD : va_D A [(h0, .inr (5, [.ref qT, .int 2, .ref qF, .int 0, .int 0, .int ((-1)), .int 0, .ref qN, .int 0, .ref qR, .int 0, .int 0, .ref qC])), (qT, .inl (cT, 1000, .inl (f_9)))] := by rw [ef_9]; exact hD
  refine lv_aload_n hx hb dX5_putOnTape_30 rfl (lv_at hl 1 rfl) ?_
  refine lv_dup hx hb dX5_putOnTape_31 rfl ?_
  refine va_get (D := (dC, dI)) (ci := 5) (v := .int 2) (C := RX5) (T := TX5) (N := 13) hx hb hts hin5 hown hK hP 0 rfl rfl 1 (by decide) (hts (.fieldLink RX5 36 "SkiShots" "tapeLength" "I") (by decide +kernel)) (fun _ h9 => h9) rfl dX5_putOnTape_32 ?_
  refine lv_iconst (v := 1) hx hb dX5_putOnTape_35 (by decide) ?_
  refine lv_iadd hx hb dX5_putOnTape_36 ?_
  rw [show (2 + 1 : Int32) = 3 from by decide]
  refine va_put (D := (dC, dI)) (ci := 5) (v := .int 3) (ty := .int) (C := RX5) (T := TX5) (N := 13) hx hb hts hin5 tyX5 tyX5_ok nmX5 hown hK hP hD hS 0 rfl rfl 1 (by decide) (hts (.fieldLink RX5 36 "SkiShots" "tapeLength" "I") (by decide +kernel)) (fun _ h9 => h9) rfl (by decide +kernel) rfl rfl (Nat.le_of_ble_eq_true rfl) dX5_putOnTape_37 (fun H locs hP hD hS => ?_)
  have hP : va_P (dC, dI) vwCl [(h0, .inr (5, [.ref qT, .int 3, .ref qF, .int 0, .int 0, .int ((-1)), .int 0, .ref qN, .int 0, .ref qR, .int 0, .int 0, .ref qC])), (qT, .inl (cT, 1000, .inl (f_9)))] H := hP
  have hD : va_D A [(h0, .inr (5, [.ref qT, .int 3, .ref qF, .int 0, .int 0, .int ((-1)), .int 0, .ref qN, .int 0, .ref qR, .int 0, .int 0, .ref qC])), (qT, .inl (cT, 1000, .inl (f_9)))] := hD
  refine lv_iinc (v := 0) (lv' := [(2, .int 0), (0, .ref h0), (1, .int p0)]) hx hb dX5_putOnTape_40 hl (k := 0) rfl (by decide) (by decide) rfl (fun ls hl => ?_)
  refine lv_goto (tgt := 3) hx hb dX5_putOnTape_43 (by decide) ?_
  refine lv_iload_n hx hb dX5_putOnTape_3 rfl (lv_at hl 0 rfl) ?_
  refine lv_if_lt (tgt := 46) hx hb dX5_putOnTape_4 (by decide) (fun c_10 => absurd c_10 (by decide)) (fun c_10 => ?_)
  refine lv_aload_n hx hb dX5_putOnTape_7 rfl (lv_at hl 1 rfl) ?_
  refine va_get (D := (dC, dI)) (ci := 5) (v := .int 3) (C := RX5) (T := TX5) (N := 13) hx hb hts hin5 hown hK hP 0 rfl rfl 1 (by decide) (hts (.fieldLink RX5 36 "SkiShots" "tapeLength" "I") (by decide +kernel)) (fun _ h9 => h9) rfl dX5_putOnTape_8 ?_
  refine lv_sipush (v := 1000) hx hb dX5_putOnTape_11 (by decide) ?_
  refine lv_icmp_ge (tgt := 46) hx hb dX5_putOnTape_14 (by decide) (fun c_11 => absurd c_11 (by decide)) (fun c_11 => ?_)
  refine lv_aload_n hx hb dX5_putOnTape_17 rfl (lv_at hl 1 rfl) ?_
  refine va_get (D := (dC, dI)) (ci := 5) (v := .ref qT) (C := RX5) (T := TX5) (N := 13) hx hb hts hin5 hown hK hP 0 rfl rfl 0 (by decide) (hts (.fieldLink RX5 9 "SkiShots" "tape" "[B") (by decide +kernel)) (fun _ h9 => h9) rfl dX5_putOnTape_18 ?_
  refine lv_aload_n hx hb dX5_putOnTape_21 rfl (lv_at hl 1 rfl) ?_
  refine va_get (D := (dC, dI)) (ci := 5) (v := .int 3) (C := RX5) (T := TX5) (N := 13) hx hb hts hin5 hown hK hP 0 rfl rfl 1 (by decide) (hts (.fieldLink RX5 36 "SkiShots" "tapeLength" "I") (by decide +kernel)) (fun _ h9 => h9) rfl dX5_putOnTape_22 ?_
  refine lv_iload_n hx hb dX5_putOnTape_25 rfl (lv_at hl 2 rfl) ?_
  refine lv_iload_n hx hb dX5_putOnTape_26 rfl (lv_at hl 0 rfl) ?_
  refine lv_ishr hx hb dX5_putOnTape_27 ?_
  refine lv_i2b hx hb dX5_putOnTape_28 rfl ?_
  refine va_bast hx hb hK hP hD hS 1 0 rfl rfl (by unfold vp_in; decide) dX5_putOnTape_29 (fun H locs hP hD hS => ?_)
  obtain ⟨f_12, ef_12⟩ : ∃ g : Nat → Int32, g = upd (f_9) (Int32.toNatClampNeg 3) (vp_nar .byte ((p0 >>> (0 &&& 31)).toInt8.toInt32)) := ⟨_, rfl⟩
  have hP : va_P (dC, dI) vwCl [(h0, .inr (5, [.ref qT, .int 3, .ref qF, .int 0, .int 0, .int ((-1)), .int 0, .ref qN, .int 0, .ref qR, .int 0, .int 0, .ref qC])), (qT, .inl (cT, 1000, .inl (f_12)))] H := by rw [ef_12]; exact hP
  have hD : va_D A [(h0, .inr (5, [.ref qT, .int 3, .ref qF, .int 0, .int 0, .int ((-1)), .int 0, .ref qN, .int 0, .ref qR, .int 0, .int 0, .ref qC])), (qT, .inl (cT, 1000, .inl (f_12)))] := by rw [ef_12]; exact hD
  refine lv_aload_n hx hb dX5_putOnTape_30 rfl (lv_at hl 1 rfl) ?_
  refine lv_dup hx hb dX5_putOnTape_31 rfl ?_
  refine va_get (D := (dC, dI)) (ci := 5) (v := .int 3) (C := RX5) (T := TX5) (N := 13) hx hb hts hin5 hown hK hP 0 rfl rfl 1 (by decide) (hts (.fieldLink RX5 36 "SkiShots" "tapeLength" "I") (by decide +kernel)) (fun _ h9 => h9) rfl dX5_putOnTape_32 ?_
  refine lv_iconst (v := 1) hx hb dX5_putOnTape_35 (by decide) ?_
  refine lv_iadd hx hb dX5_putOnTape_36 ?_
  rw [show (3 + 1 : Int32) = 4 from by decide]
  refine va_put (D := (dC, dI)) (ci := 5) (v := .int 4) (ty := .int) (C := RX5) (T := TX5) (N := 13) hx hb hts hin5 tyX5 tyX5_ok nmX5 hown hK hP hD hS 0 rfl rfl 1 (by decide) (hts (.fieldLink RX5 36 "SkiShots" "tapeLength" "I") (by decide +kernel)) (fun _ h9 => h9) rfl (by decide +kernel) rfl rfl (Nat.le_of_ble_eq_true rfl) dX5_putOnTape_37 (fun H locs hP hD hS => ?_)
  have hP : va_P (dC, dI) vwCl [(h0, .inr (5, [.ref qT, .int 4, .ref qF, .int 0, .int 0, .int ((-1)), .int 0, .ref qN, .int 0, .ref qR, .int 0, .int 0, .ref qC])), (qT, .inl (cT, 1000, .inl (f_12)))] H := hP
  have hD : va_D A [(h0, .inr (5, [.ref qT, .int 4, .ref qF, .int 0, .int 0, .int ((-1)), .int 0, .ref qN, .int 0, .ref qR, .int 0, .int 0, .ref qC])), (qT, .inl (cT, 1000, .inl (f_12)))] := hD
  refine lv_iinc (v := (-8)) (lv' := [(2, .int ((-8))), (0, .ref h0), (1, .int p0)]) hx hb dX5_putOnTape_40 hl (k := 0) rfl (by decide) (by decide) rfl (fun ls hl => ?_)
  refine lv_goto (tgt := 3) hx hb dX5_putOnTape_43 (by decide) ?_
  refine lv_iload_n hx hb dX5_putOnTape_3 rfl (lv_at hl 0 rfl) ?_
  refine lv_if_lt (tgt := 46) hx hb dX5_putOnTape_4 (by decide) (fun c_13 => ?_) (fun c_13 => absurd (by decide) c_13)
  have hP9 := hP.sub (ws' := [(h0, .inr (5, [.ref qT, .int 4, .ref qF, .int 0, .int 0, .int ((-1)), .int 0, .ref qN, .int 0, .ref qR, .int 0, .int 0, .ref qC])), (qT, .inl (cT, 1000, .inl (f_12)))]) [0, 1] rfl
  have hD9 := hD.sub (ws' := [(h0, .inr (5, [.ref qT, .int 4, .ref qF, .int 0, .int 0, .int ((-1)), .int 0, .ref qN, .int 0, .ref qR, .int 0, .int 0, .ref qC])), (qT, .inl (cT, 1000, .inl (f_12)))]) [0, 1] (by decide) rfl
  have hK9 := hK.sub (tys' := [(cT, .byte)]) [0] rfl
  exact W.vret hx hb hr (fun t ht hW => ⟨⟨(), rfl, trivial, f_12, by rw [ht]; exact hP9, va_K.moved hW.alike hK9, hD9⟩, hS.F ht⟩) hS.2.2 dX5_putOnTape_46
def wX5_putOnTape_4 : List Cond := .code yX5_putOnTape cX5_putOnTape 3 none :: ([.fieldLink RX5 36 "SkiShots" "tapeLength" "I", .fieldLink RX5 9 "SkiShots" "tape" "[B"] ++ wsX50)
set_option maxHeartbeats 4000000 in
set_option maxRecDepth 100000 in
theorem c_X5_putOnTape_4 (l : Launch) (dC : Nat → ClassId) (dI : Nat → Nat → Nat) (h0 : Nat) (qT : Nat) (qF : Nat) (qN : Nat) (qR : Nat) (qC : Nat) (cT : ClassId) (f : Nat → Int32) (p0 : Int32) (sz : Nat) : Met l yX5_putOnTape wX5_putOnTape_4 ({ frames := 0, cells := 0, slots := 0, locals := 0 }) (va_Pc [.ref h0, .int p0] (fun U => U.heap.size = sz ∧ va_P (dC, dI) vwCl [(h0, .inr (5, [.ref qT, .int 4, .ref qF, .int 0, .int 0, .int ((-1)), .int 0, .ref qN, .int 0, .ref qR, .int 0, .int 0, .ref qC])), (qT, .inl (cT, 1000, .inl (f)))] U.heap ∧ va_K (dC, dI) vwCl [(cT, .byte)] U ∧ va_D (fun _ => True) [(h0, .inr (5, [.ref qT, .int 4, .ref qF, .int 0, .int 0, .int ((-1)), .int 0, .ref qN, .int 0, .ref qR, .int 0, .int 0, .ref qC])), (qT, .inl (cT, 1000, .inl (f)))])) (va_Qv (fun (_ : Unit) => True) (fun _ t => ∃ (f2 : Nat → Int32), va_P (dC, dI) vwCl [(h0, .inr (5, [.ref qT, .int 8, .ref qF, .int 0, .int 0, .int ((-1)), .int 0, .ref qN, .int 0, .ref qR, .int 0, .int 0, .ref qC])), (qT, .inl (cT, 1000, .inl (f2)))] t.heap ∧ va_K (dC, dI) vwCl [(cT, .byte)] t ∧ va_D (va_A [(h0, .inr (5, [.ref qT, .int 4, .ref qF, .int 0, .int 0, .int ((-1)), .int 0, .ref qN, .int 0, .ref qR, .int 0, .int 0, .ref qC])), (qT, .inl (cT, 1000, .inl (f)))] sz) [(h0, .inr (5, [.ref qT, .int 8, .ref qF, .int 0, .int 0, .int ((-1)), .int 0, .ref qN, .int 0, .ref qR, .int 0, .int 0, .ref qC])), (qT, .inl (cT, 1000, .inl (f2)))]) (va_A [(h0, .inr (5, [.ref qT, .int 4, .ref qF, .int 0, .int 0, .int ((-1)), .int 0, .ref qN, .int 0, .ref qR, .int 0, .int 0, .ref qC])), (qT, .inl (cT, 1000, .inl (f)))] sz)) 0 0 (va_A [(h0, .inr (5, [.ref qT, .int 4, .ref qF, .int 0, .int 0, .int ((-1)), .int 0, .ref qN, .int 0, .ref qR, .int 0, .int 0, .ref qC])), (qT, .inl (cT, 1000, .inl (f)))] sz) := by
  refine Met.ofW (cc := cX5_putOnTape) (maxL := 3) (ret := none) (by decide) rfl ?_
  intro p e s m args below meth c s₁ B hml hv
  obtain ⟨rfl, hsz, hP, hK, hD0⟩ := hv
  have hx := B.exec
  have hb := B.bytes
  have hr := B.returns
  have hts := atoms_spec (ws := wX5_putOnTape_4) B.pre
  have hown : s.vm.findClass RX5 = some m.cls := findClass_of_methodNamed B.named
  have hlocks := B.notSynchronized
  have hin5 : ∀ w ∈ wsX50, w ∈ wX5_putOnTape_4 := by decide +kernel
  subst hsz
  have hD := hD0.self (sz := s.heap.size)
  generalize hAe : va_A [(h0, .inr (5, [.ref qT, .int 4, .ref qF, .int 0, .int 0, .int ((-1)), .int 0, .ref qN, .int 0, .ref qR, .int 0, .int 0, .ref qC])), (qT, .inl (cT, 1000, .inl (f)))] s.heap.size = A at hD ⊢
  have hA : ∀ q : Nat, s.heap.size ≤ q → A q := fun q h => by rw [← hAe]; exact Or.inr h
  have hS : va_S A s.heap s.heap [] := va_S.rf
  have hP : va_P (dC, dI) vwCl [(h0, .inr (5, [.ref qT, .int 4, .ref qF, .int 0, .int 0, .int ((-1)), .int 0, .ref qN, .int 0, .ref qR, .int 0, .int 0, .ref qC])), (qT, .inl (cT, 1000, .inl (f)))] s.heap := hP
  have hl := lv_entry ([.ref h0, .int p0]) (n := 3) (Nat.le_of_ble_eq_true rfl)
  rw [lg_entry_eq]
  generalize (lg_sl ([.ref h0, .int p0]) ++ List.replicate (3 - (lg_sl ([.ref h0, .int p0])).length) Slot.unset).toArray = ls at hl ⊢
  have hl : lv_has ls 3 [(0, .ref h0), (1, .int p0)] := hl
  refine lv_bipush (v := 24) hx hb dX5_putOnTape_0 (by decide) ?_
  refine lv_istore_n (lv' := [(2, .int 24), (0, .ref h0), (1, .int p0)]) hx hb dX5_putOnTape_2 rfl hl (by decide) rfl (fun ls hl => ?_)
  refine lv_iload_n hx hb dX5_putOnTape_3 rfl (lv_at hl 0 rfl) ?_
  refine lv_if_lt (tgt := 46) hx hb dX5_putOnTape_4 (by decide) (fun c_1 => absurd c_1 (by decide)) (fun c_1 => ?_)
  refine lv_aload_n hx hb dX5_putOnTape_7 rfl (lv_at hl 1 rfl) ?_
  refine va_get (D := (dC, dI)) (ci := 5) (v := .int 4) (C := RX5) (T := TX5) (N := 13) hx hb hts hin5 hown hK hP 0 rfl rfl 1 (by decide) (hts (.fieldLink RX5 36 "SkiShots" "tapeLength" "I") (by decide +kernel)) (fun _ h9 => h9) rfl dX5_putOnTape_8 ?_
  refine lv_sipush (v := 1000) hx hb dX5_putOnTape_11 (by decide) ?_
  refine lv_icmp_ge (tgt := 46) hx hb dX5_putOnTape_14 (by decide) (fun c_2 => absurd c_2 (by decide)) (fun c_2 => ?_)
  refine lv_aload_n hx hb dX5_putOnTape_17 rfl (lv_at hl 1 rfl) ?_
  refine va_get (D := (dC, dI)) (ci := 5) (v := .ref qT) (C := RX5) (T := TX5) (N := 13) hx hb hts hin5 hown hK hP 0 rfl rfl 0 (by decide) (hts (.fieldLink RX5 9 "SkiShots" "tape" "[B") (by decide +kernel)) (fun _ h9 => h9) rfl dX5_putOnTape_18 ?_
  refine lv_aload_n hx hb dX5_putOnTape_21 rfl (lv_at hl 1 rfl) ?_
  refine va_get (D := (dC, dI)) (ci := 5) (v := .int 4) (C := RX5) (T := TX5) (N := 13) hx hb hts hin5 hown hK hP 0 rfl rfl 1 (by decide) (hts (.fieldLink RX5 36 "SkiShots" "tapeLength" "I") (by decide +kernel)) (fun _ h9 => h9) rfl dX5_putOnTape_22 ?_
  refine lv_iload_n hx hb dX5_putOnTape_25 rfl (lv_at hl 2 rfl) ?_
  refine lv_iload_n hx hb dX5_putOnTape_26 rfl (lv_at hl 0 rfl) ?_
  refine lv_ishr hx hb dX5_putOnTape_27 ?_
  refine lv_i2b hx hb dX5_putOnTape_28 rfl ?_
  refine va_bast hx hb hK hP hD hS 1 0 rfl rfl (by unfold vp_in; decide) dX5_putOnTape_29 (fun H locs hP hD hS => ?_)
  obtain ⟨f_3, ef_3⟩ : ∃ g : Nat → Int32, g = upd (f) (Int32.toNatClampNeg 4) (vp_nar .byte ((p0 >>> (24 &&& 31)).toInt8.toInt32)) := ⟨_, rfl⟩
  have hP : va_P (dC, dI) vwCl [(h0, .inr (5, [.ref qT, .int 4, .ref qF, .int 0, .int 0, .int ((-1)), .int 0, .ref qN, .int 0, .ref qR, .int 0, .int 0, .ref qC])), (qT, .inl (cT, 1000, .inl (f_3)))] H := by rw [ef_3]; exact hP
  have hD : va_D A [(h0, .inr (5, [.ref qT, .int 4, .ref qF, .int 0, .int 0, .int ((-1)), .int 0, .ref qN, .int 0, .ref qR, .int 0, .int 0, .ref qC])), (qT, .inl (cT, 1000, .inl (f_3)))] := by rw [ef_3]; exact hD
  refine lv_aload_n hx hb dX5_putOnTape_30 rfl (lv_at hl 1 rfl) ?_
  refine lv_dup hx hb dX5_putOnTape_31 rfl ?_
  refine va_get (D := (dC, dI)) (ci := 5) (v := .int 4) (C := RX5) (T := TX5) (N := 13) hx hb hts hin5 hown hK hP 0 rfl rfl 1 (by decide) (hts (.fieldLink RX5 36 "SkiShots" "tapeLength" "I") (by decide +kernel)) (fun _ h9 => h9) rfl dX5_putOnTape_32 ?_
  refine lv_iconst (v := 1) hx hb dX5_putOnTape_35 (by decide) ?_
  refine lv_iadd hx hb dX5_putOnTape_36 ?_
  rw [show (4 + 1 : Int32) = 5 from by decide]
  refine va_put (D := (dC, dI)) (ci := 5) (v := .int 5) (ty := .int) (C := RX5) (T := TX5) (N := 13) hx hb hts hin5 tyX5 tyX5_ok nmX5 hown hK hP hD hS 0 rfl rfl 1 (by decide) (hts (.fieldLink RX5 36 "SkiShots" "tapeLength" "I") (by decide +kernel)) (fun _ h9 => h9) rfl (by decide +kernel) rfl rfl (Nat.le_of_ble_eq_true rfl) dX5_putOnTape_37 (fun H locs hP hD hS => ?_)
  have hP : va_P (dC, dI) vwCl [(h0, .inr (5, [.ref qT, .int 5, .ref qF, .int 0, .int 0, .int ((-1)), .int 0, .ref qN, .int 0, .ref qR, .int 0, .int 0, .ref qC])), (qT, .inl (cT, 1000, .inl (f_3)))] H := hP
  have hD : va_D A [(h0, .inr (5, [.ref qT, .int 5, .ref qF, .int 0, .int 0, .int ((-1)), .int 0, .ref qN, .int 0, .ref qR, .int 0, .int 0, .ref qC])), (qT, .inl (cT, 1000, .inl (f_3)))] := hD
  refine lv_iinc (v := 16) (lv' := [(2, .int 16), (0, .ref h0), (1, .int p0)]) hx hb dX5_putOnTape_40 hl (k := 0) rfl (by decide) (by decide) rfl (fun ls hl => ?_)
  refine lv_goto (tgt := 3) hx hb dX5_putOnTape_43 (by decide) ?_
  refine lv_iload_n hx hb dX5_putOnTape_3 rfl (lv_at hl 0 rfl) ?_
  refine lv_if_lt (tgt := 46) hx hb dX5_putOnTape_4 (by decide) (fun c_4 => absurd c_4 (by decide)) (fun c_4 => ?_)
  refine lv_aload_n hx hb dX5_putOnTape_7 rfl (lv_at hl 1 rfl) ?_
  refine va_get (D := (dC, dI)) (ci := 5) (v := .int 5) (C := RX5) (T := TX5) (N := 13) hx hb hts hin5 hown hK hP 0 rfl rfl 1 (by decide) (hts (.fieldLink RX5 36 "SkiShots" "tapeLength" "I") (by decide +kernel)) (fun _ h9 => h9) rfl dX5_putOnTape_8 ?_
  refine lv_sipush (v := 1000) hx hb dX5_putOnTape_11 (by decide) ?_
  refine lv_icmp_ge (tgt := 46) hx hb dX5_putOnTape_14 (by decide) (fun c_5 => absurd c_5 (by decide)) (fun c_5 => ?_)
  refine lv_aload_n hx hb dX5_putOnTape_17 rfl (lv_at hl 1 rfl) ?_
  refine va_get (D := (dC, dI)) (ci := 5) (v := .ref qT) (C := RX5) (T := TX5) (N := 13) hx hb hts hin5 hown hK hP 0 rfl rfl 0 (by decide) (hts (.fieldLink RX5 9 "SkiShots" "tape" "[B") (by decide +kernel)) (fun _ h9 => h9) rfl dX5_putOnTape_18 ?_
  refine lv_aload_n hx hb dX5_putOnTape_21 rfl (lv_at hl 1 rfl) ?_
  refine va_get (D := (dC, dI)) (ci := 5) (v := .int 5) (C := RX5) (T := TX5) (N := 13) hx hb hts hin5 hown hK hP 0 rfl rfl 1 (by decide) (hts (.fieldLink RX5 36 "SkiShots" "tapeLength" "I") (by decide +kernel)) (fun _ h9 => h9) rfl dX5_putOnTape_22 ?_
  refine lv_iload_n hx hb dX5_putOnTape_25 rfl (lv_at hl 2 rfl) ?_
  refine lv_iload_n hx hb dX5_putOnTape_26 rfl (lv_at hl 0 rfl) ?_
  refine lv_ishr hx hb dX5_putOnTape_27 ?_
  refine lv_i2b hx hb dX5_putOnTape_28 rfl ?_
  refine va_bast hx hb hK hP hD hS 1 0 rfl rfl (by unfold vp_in; decide) dX5_putOnTape_29 (fun H locs hP hD hS => ?_)
  obtain ⟨f_6, ef_6⟩ : ∃ g : Nat → Int32, g = upd (f_3) (Int32.toNatClampNeg 5) (vp_nar .byte ((p0 >>> (16 &&& 31)).toInt8.toInt32)) := ⟨_, rfl⟩
  have hP : va_P (dC, dI) vwCl [(h0, .inr (5, [.ref qT, .int 5, .ref qF, .int 0, .int 0, .int ((-1)), .int 0, .ref qN, .int 0, .ref qR, .int 0, .int 0, .ref qC])), (qT, .inl (cT, 1000, .inl (f_6)))] H := by rw [ef_6]; exact hP
  have hD : va_D A [(h0, .inr (5, [.ref qT, .int 5, .ref qF, .int 0, .int 0, .int ((-1)), .int 0, .ref qN, .int 0, .ref qR, .int 0, .int 0, .ref qC])), (qT, .inl (cT, 1000, .inl (f_6)))] := by rw [ef_6]; exact hD
  refine lv_aload_n hx hb dX5_putOnTape_30 rfl (lv_at hl 1 rfl) ?_
  refine lv_dup hx hb dX5_putOnTape_31 rfl ?_
  refine va_get (D := (dC, dI)) (ci := 5) (v := .int 5) (C := RX5) (T := TX5) (N := 13) hx hb hts hin5 hown hK hP 0 rfl rfl 1 (by decide) (hts (.fieldLink RX5 36 "SkiShots" "tapeLength" "I") (by decide +kernel)) (fun _ h9 => h9) rfl dX5_putOnTape_32 ?_
  refine lv_iconst (v := 1) hx hb dX5_putOnTape_35 (by decide) ?_
  refine lv_iadd hx hb dX5_putOnTape_36 ?_
  rw [show (5 + 1 : Int32) = 6 from by decide]
  refine va_put (D := (dC, dI)) (ci := 5) (v := .int 6) (ty := .int) (C := RX5) (T := TX5) (N := 13) hx hb hts hin5 tyX5 tyX5_ok nmX5 hown hK hP hD hS 0 rfl rfl 1 (by decide) (hts (.fieldLink RX5 36 "SkiShots" "tapeLength" "I") (by decide +kernel)) (fun _ h9 => h9) rfl (by decide +kernel) rfl rfl (Nat.le_of_ble_eq_true rfl) dX5_putOnTape_37 (fun H locs hP hD hS => ?_)
  have hP : va_P (dC, dI) vwCl [(h0, .inr (5, [.ref qT, .int 6, .ref qF, .int 0, .int 0, .int ((-1)), .int 0, .ref qN, .int 0, .ref qR, .int 0, .int 0, .ref qC])), (qT, .inl (cT, 1000, .inl (f_6)))] H := hP
  have hD : va_D A [(h0, .inr (5, [.ref qT, .int 6, .ref qF, .int 0, .int 0, .int ((-1)), .int 0, .ref qN, .int 0, .ref qR, .int 0, .int 0, .ref qC])), (qT, .inl (cT, 1000, .inl (f_6)))] := hD
  refine lv_iinc (v := 8) (lv' := [(2, .int 8), (0, .ref h0), (1, .int p0)]) hx hb dX5_putOnTape_40 hl (k := 0) rfl (by decide) (by decide) rfl (fun ls hl => ?_)
  refine lv_goto (tgt := 3) hx hb dX5_putOnTape_43 (by decide) ?_
  refine lv_iload_n hx hb dX5_putOnTape_3 rfl (lv_at hl 0 rfl) ?_
  refine lv_if_lt (tgt := 46) hx hb dX5_putOnTape_4 (by decide) (fun c_7 => absurd c_7 (by decide)) (fun c_7 => ?_)
  refine lv_aload_n hx hb dX5_putOnTape_7 rfl (lv_at hl 1 rfl) ?_
  refine va_get (D := (dC, dI)) (ci := 5) (v := .int 6) (C := RX5) (T := TX5) (N := 13) hx hb hts hin5 hown hK hP 0 rfl rfl 1 (by decide) (hts (.fieldLink RX5 36 "SkiShots" "tapeLength" "I") (by decide +kernel)) (fun _ h9 => h9) rfl dX5_putOnTape_8 ?_
  refine lv_sipush (v := 1000) hx hb dX5_putOnTape_11 (by decide) ?_
  refine lv_icmp_ge (tgt := 46) hx hb dX5_putOnTape_14 (by decide) (fun c_8 => absurd c_8 (by decide)) (fun c_8 => ?_)
  refine lv_aload_n hx hb dX5_putOnTape_17 rfl (lv_at hl 1 rfl) ?_
  refine va_get (D := (dC, dI)) (ci := 5) (v := .ref qT) (C := RX5) (T := TX5) (N := 13) hx hb hts hin5 hown hK hP 0 rfl rfl 0 (by decide) (hts (.fieldLink RX5 9 "SkiShots" "tape" "[B") (by decide +kernel)) (fun _ h9 => h9) rfl dX5_putOnTape_18 ?_
  refine lv_aload_n hx hb dX5_putOnTape_21 rfl (lv_at hl 1 rfl) ?_
  refine va_get (D := (dC, dI)) (ci := 5) (v := .int 6) (C := RX5) (T := TX5) (N := 13) hx hb hts hin5 hown hK hP 0 rfl rfl 1 (by decide) (hts (.fieldLink RX5 36 "SkiShots" "tapeLength" "I") (by decide +kernel)) (fun _ h9 => h9) rfl dX5_putOnTape_22 ?_
  refine lv_iload_n hx hb dX5_putOnTape_25 rfl (lv_at hl 2 rfl) ?_
  refine lv_iload_n hx hb dX5_putOnTape_26 rfl (lv_at hl 0 rfl) ?_
  refine lv_ishr hx hb dX5_putOnTape_27 ?_
  refine lv_i2b hx hb dX5_putOnTape_28 rfl ?_
  refine va_bast hx hb hK hP hD hS 1 0 rfl rfl (by unfold vp_in; decide) dX5_putOnTape_29 (fun H locs hP hD hS => ?_)
  obtain ⟨f_9, ef_9⟩ : ∃ g : Nat → Int32, g = upd (f_6) (Int32.toNatClampNeg 6) (vp_nar .byte ((p0 >>> (8 &&& 31)).toInt8.toInt32)) := ⟨_, rfl⟩
  have hP : va_P (dC, dI) vwCl [(h0, .inr (5, [.ref qT, .int 6, .ref qF, .int 0, .int 0, .int ((-1)), .int 0, .ref qN, .int 0, .ref qR, .int 0, .int 0, .ref qC])), (qT, .inl (cT, 1000, .inl (f_9)))] H := by rw [ef_9]; exact hP
  have hD : va_D A [(h0, .inr (5, [.ref qT, .int 6, .ref qF, .int 0, .int 0, .int ((-1)), .int 0, .ref qN, .int 0, .ref qR, .int 0, .int 0, .ref qC])), (qT, .inl (cT, 1000, .inl (f_9)))] := by rw [ef_9]; exact hD
  refine lv_aload_n hx hb dX5_putOnTape_30 rfl (lv_at hl 1 rfl) ?_
  refine lv_dup hx hb dX5_putOnTape_31 rfl ?_
  refine va_get (D := (dC, dI)) (ci := 5) (v := .int 6) (C := RX5) (T := TX5) (N := 13) hx hb hts hin5 hown hK hP 0 rfl rfl 1 (by decide) (hts (.fieldLink RX5 36 "SkiShots" "tapeLength" "I") (by decide +kernel)) (fun _ h9 => h9) rfl dX5_putOnTape_32 ?_
  refine lv_iconst (v := 1) hx hb dX5_putOnTape_35 (by decide) ?_
  refine lv_iadd hx hb dX5_putOnTape_36 ?_
  rw [show (6 + 1 : Int32) = 7 from by decide]
  refine va_put (D := (dC, dI)) (ci := 5) (v := .int 7) (ty := .int) (C := RX5) (T := TX5) (N := 13) hx hb hts hin5 tyX5 tyX5_ok nmX5 hown hK hP hD hS 0 rfl rfl 1 (by decide) (hts (.fieldLink RX5 36 "SkiShots" "tapeLength" "I") (by decide +kernel)) (fun _ h9 => h9) rfl (by decide +kernel) rfl rfl (Nat.le_of_ble_eq_true rfl) dX5_putOnTape_37 (fun H locs hP hD hS => ?_)
  have hP : va_P (dC, dI) vwCl [(h0, .inr (5, [.ref qT, .int 7, .ref qF, .int 0, .int 0, .int ((-1)), .int 0, .ref qN, .int 0, .ref qR, .int 0, .int 0, .ref qC])), (qT, .inl (cT, 1000, .inl (f_9)))] H := hP
  have hD : va_D A [(h0, .inr (5, [.ref qT, .int 7, .ref qF, .int 0, .int 0, .int ((-1)), .int 0, .ref qN, .int 0, .ref qR, .int 0, .int 0, .ref qC])), (qT, .inl (cT, 1000, .inl (f_9)))] := hD
  refine lv_iinc (v := 0) (lv' := [(2, .int 0), (0, .ref h0), (1, .int p0)]) hx hb dX5_putOnTape_40 hl (k := 0) rfl (by decide) (by decide) rfl (fun ls hl => ?_)
  refine lv_goto (tgt := 3) hx hb dX5_putOnTape_43 (by decide) ?_
  refine lv_iload_n hx hb dX5_putOnTape_3 rfl (lv_at hl 0 rfl) ?_
  refine lv_if_lt (tgt := 46) hx hb dX5_putOnTape_4 (by decide) (fun c_10 => absurd c_10 (by decide)) (fun c_10 => ?_)
  refine lv_aload_n hx hb dX5_putOnTape_7 rfl (lv_at hl 1 rfl) ?_
  refine va_get (D := (dC, dI)) (ci := 5) (v := .int 7) (C := RX5) (T := TX5) (N := 13) hx hb hts hin5 hown hK hP 0 rfl rfl 1 (by decide) (hts (.fieldLink RX5 36 "SkiShots" "tapeLength" "I") (by decide +kernel)) (fun _ h9 => h9) rfl dX5_putOnTape_8 ?_
  refine lv_sipush (v := 1000) hx hb dX5_putOnTape_11 (by decide) ?_
  refine lv_icmp_ge (tgt := 46) hx hb dX5_putOnTape_14 (by decide) (fun c_11 => absurd c_11 (by decide)) (fun c_11 => ?_)
  refine lv_aload_n hx hb dX5_putOnTape_17 rfl (lv_at hl 1 rfl) ?_
  refine va_get (D := (dC, dI)) (ci := 5) (v := .ref qT) (C := RX5) (T := TX5) (N := 13) hx hb hts hin5 hown hK hP 0 rfl rfl 0 (by decide) (hts (.fieldLink RX5 9 "SkiShots" "tape" "[B") (by decide +kernel)) (fun _ h9 => h9) rfl dX5_putOnTape_18 ?_
  refine lv_aload_n hx hb dX5_putOnTape_21 rfl (lv_at hl 1 rfl) ?_
  refine va_get (D := (dC, dI)) (ci := 5) (v := .int 7) (C := RX5) (T := TX5) (N := 13) hx hb hts hin5 hown hK hP 0 rfl rfl 1 (by decide) (hts (.fieldLink RX5 36 "SkiShots" "tapeLength" "I") (by decide +kernel)) (fun _ h9 => h9) rfl dX5_putOnTape_22 ?_
  refine lv_iload_n hx hb dX5_putOnTape_25 rfl (lv_at hl 2 rfl) ?_
  refine lv_iload_n hx hb dX5_putOnTape_26 rfl (lv_at hl 0 rfl) ?_
  refine lv_ishr hx hb dX5_putOnTape_27 ?_
  refine lv_i2b hx hb dX5_putOnTape_28 rfl ?_
  refine va_bast hx hb hK hP hD hS 1 0 rfl rfl (by unfold vp_in; decide) dX5_putOnTape_29 (fun H locs hP hD hS => ?_)
  obtain ⟨f_12, ef_12⟩ : ∃ g : Nat → Int32, g = upd (f_9) (Int32.toNatClampNeg 7) (vp_nar .byte ((p0 >>> (0 &&& 31)).toInt8.toInt32)) := ⟨_, rfl⟩
  have hP : va_P (dC, dI) vwCl [(h0, .inr (5, [.ref qT, .int 7, .ref qF, .int 0, .int 0, .int ((-1)), .int 0, .ref qN, .int 0, .ref qR, .int 0, .int 0, .ref qC])), (qT, .inl (cT, 1000, .inl (f_12)))] H := by rw [ef_12]; exact hP
  have hD : va_D A [(h0, .inr (5, [.ref qT, .int 7, .ref qF, .int 0, .int 0, .int ((-1)), .int 0, .ref qN, .int 0, .ref qR, .int 0, .int 0, .ref qC])), (qT, .inl (cT, 1000, .inl (f_12)))] := by rw [ef_12]; exact hD
  refine lv_aload_n hx hb dX5_putOnTape_30 rfl (lv_at hl 1 rfl) ?_
  refine lv_dup hx hb dX5_putOnTape_31 rfl ?_
  refine va_get (D := (dC, dI)) (ci := 5) (v := .int 7) (C := RX5) (T := TX5) (N := 13) hx hb hts hin5 hown hK hP 0 rfl rfl 1 (by decide) (hts (.fieldLink RX5 36 "SkiShots" "tapeLength" "I") (by decide +kernel)) (fun _ h9 => h9) rfl dX5_putOnTape_32 ?_
  refine lv_iconst (v := 1) hx hb dX5_putOnTape_35 (by decide) ?_
  refine lv_iadd hx hb dX5_putOnTape_36 ?_
  rw [show (7 + 1 : Int32) = 8 from by decide]
  refine va_put (D := (dC, dI)) (ci := 5) (v := .int 8) (ty := .int) (C := RX5) (T := TX5) (N := 13) hx hb hts hin5 tyX5 tyX5_ok nmX5 hown hK hP hD hS 0 rfl rfl 1 (by decide) (hts (.fieldLink RX5 36 "SkiShots" "tapeLength" "I") (by decide +kernel)) (fun _ h9 => h9) rfl (by decide +kernel) rfl rfl (Nat.le_of_ble_eq_true rfl) dX5_putOnTape_37 (fun H locs hP hD hS => ?_)
  have hP : va_P (dC, dI) vwCl [(h0, .inr (5, [.ref qT, .int 8, .ref qF, .int 0, .int 0, .int ((-1)), .int 0, .ref qN, .int 0, .ref qR, .int 0, .int 0, .ref qC])), (qT, .inl (cT, 1000, .inl (f_12)))] H := hP
  have hD : va_D A [(h0, .inr (5, [.ref qT, .int 8, .ref qF, .int 0, .int 0, .int ((-1)), .int 0, .ref qN, .int 0, .ref qR, .int 0, .int 0, .ref qC])), (qT, .inl (cT, 1000, .inl (f_12)))] := hD
  refine lv_iinc (v := (-8)) (lv' := [(2, .int ((-8))), (0, .ref h0), (1, .int p0)]) hx hb dX5_putOnTape_40 hl (k := 0) rfl (by decide) (by decide) rfl (fun ls hl => ?_)
  refine lv_goto (tgt := 3) hx hb dX5_putOnTape_43 (by decide) ?_
  refine lv_iload_n hx hb dX5_putOnTape_3 rfl (lv_at hl 0 rfl) ?_
  refine lv_if_lt (tgt := 46) hx hb dX5_putOnTape_4 (by decide) (fun c_13 => ?_) (fun c_13 => absurd (by decide) c_13)
  have hP9 := hP.sub (ws' := [(h0, .inr (5, [.ref qT, .int 8, .ref qF, .int 0, .int 0, .int ((-1)), .int 0, .ref qN, .int 0, .ref qR, .int 0, .int 0, .ref qC])), (qT, .inl (cT, 1000, .inl (f_12)))]) [0, 1] rfl
  have hD9 := hD.sub (ws' := [(h0, .inr (5, [.ref qT, .int 8, .ref qF, .int 0, .int 0, .int ((-1)), .int 0, .ref qN, .int 0, .ref qR, .int 0, .int 0, .ref qC])), (qT, .inl (cT, 1000, .inl (f_12)))]) [0, 1] (by decide) rfl
  have hK9 := hK.sub (tys' := [(cT, .byte)]) [0] rfl
  exact W.vret hx hb hr (fun t ht hW => ⟨⟨(), rfl, trivial, f_12, by rw [ht]; exact hP9, va_K.moved hW.alike hK9, hD9⟩, hS.F ht⟩) hS.2.2 dX5_putOnTape_46
def wX5_putOnTape_8 : List Cond := .code yX5_putOnTape cX5_putOnTape 3 none :: ([.fieldLink RX5 36 "SkiShots" "tapeLength" "I", .fieldLink RX5 9 "SkiShots" "tape" "[B"] ++ wsX50)
set_option maxHeartbeats 4000000 in
set_option maxRecDepth 100000 in
theorem c_X5_putOnTape_8 (l : Launch) (dC : Nat → ClassId) (dI : Nat → Nat → Nat) (h0 : Nat) (qT : Nat) (qF : Nat) (qN : Nat) (qR : Nat) (qC : Nat) (cT : ClassId) (f : Nat → Int32) (p0 : Int32) (sz : Nat) : Met l yX5_putOnTape wX5_putOnTape_8 ({ frames := 0, cells := 0, slots := 0, locals := 0 }) (va_Pc [.ref h0, .int p0] (fun U => U.heap.size = sz ∧ va_P (dC, dI) vwCl [(h0, .inr (5, [.ref qT, .int 8, .ref qF, .int 0, .int 0, .int ((-1)), .int 0, .ref qN, .int 0, .ref qR, .int 0, .int 0, .ref qC])), (qT, .inl (cT, 1000, .inl (f)))] U.heap ∧ va_K (dC, dI) vwCl [(cT, .byte)] U ∧ va_D (fun _ => True) [(h0, .inr (5, [.ref qT, .int 8, .ref qF, .int 0, .int 0, .int ((-1)), .int 0, .ref qN, .int 0, .ref qR, .int 0, .int 0, .ref qC])), (qT, .inl (cT, 1000, .inl (f)))])) (va_Qv (fun (_ : Unit) => True) (fun _ t => ∃ (f2 : Nat → Int32), va_P (dC, dI) vwCl [(h0, .inr (5, [.ref qT, .int 12, .ref qF, .int 0, .int 0, .int ((-1)), .int 0, .ref qN, .int 0, .ref qR, .int 0, .int 0, .ref qC])), (qT, .inl (cT, 1000, .inl (f2)))] t.heap ∧ va_K (dC, dI) vwCl [(cT, .byte)] t ∧ va_D (va_A [(h0, .inr (5, [.ref qT, .int 8, .ref qF, .int 0, .int 0, .int ((-1)), .int 0, .ref qN, .int 0, .ref qR, .int 0, .int 0, .ref qC])), (qT, .inl (cT, 1000, .inl (f)))] sz) [(h0, .inr (5, [.ref qT, .int 12, .ref qF, .int 0, .int 0, .int ((-1)), .int 0, .ref qN, .int 0, .ref qR, .int 0, .int 0, .ref qC])), (qT, .inl (cT, 1000, .inl (f2)))]) (va_A [(h0, .inr (5, [.ref qT, .int 8, .ref qF, .int 0, .int 0, .int ((-1)), .int 0, .ref qN, .int 0, .ref qR, .int 0, .int 0, .ref qC])), (qT, .inl (cT, 1000, .inl (f)))] sz)) 0 0 (va_A [(h0, .inr (5, [.ref qT, .int 8, .ref qF, .int 0, .int 0, .int ((-1)), .int 0, .ref qN, .int 0, .ref qR, .int 0, .int 0, .ref qC])), (qT, .inl (cT, 1000, .inl (f)))] sz) := by
  refine Met.ofW (cc := cX5_putOnTape) (maxL := 3) (ret := none) (by decide) rfl ?_
  intro p e s m args below meth c s₁ B hml hv
  obtain ⟨rfl, hsz, hP, hK, hD0⟩ := hv
  have hx := B.exec
  have hb := B.bytes
  have hr := B.returns
  have hts := atoms_spec (ws := wX5_putOnTape_8) B.pre
  have hown : s.vm.findClass RX5 = some m.cls := findClass_of_methodNamed B.named
  have hlocks := B.notSynchronized
  have hin5 : ∀ w ∈ wsX50, w ∈ wX5_putOnTape_8 := by decide +kernel
  subst hsz
  have hD := hD0.self (sz := s.heap.size)
  generalize hAe : va_A [(h0, .inr (5, [.ref qT, .int 8, .ref qF, .int 0, .int 0, .int ((-1)), .int 0, .ref qN, .int 0, .ref qR, .int 0, .int 0, .ref qC])), (qT, .inl (cT, 1000, .inl (f)))] s.heap.size = A at hD ⊢
  have hA : ∀ q : Nat, s.heap.size ≤ q → A q := fun q h => by rw [← hAe]; exact Or.inr h
  have hS : va_S A s.heap s.heap [] := va_S.rf
  have hP : va_P (dC, dI) vwCl [(h0, .inr (5, [.ref qT, .int 8, .ref qF, .int 0, .int 0, .int ((-1)), .int 0, .ref qN, .int 0, .ref qR, .int 0, .int 0, .ref qC])), (qT, .inl (cT, 1000, .inl (f)))] s.heap := hP
  have hl := lv_entry ([.ref h0, .int p0]) (n := 3) (Nat.le_of_ble_eq_true rfl)
  rw [lg_entry_eq]
  generalize (lg_sl ([.ref h0, .int p0]) ++ List.replicate (3 - (lg_sl ([.ref h0, .int p0])).length) Slot.unset).toArray = ls at hl ⊢
  have hl : lv_has ls 3 [(0, .ref h0), (1, .int p0)] := hl
  refine lv_bipush (v := 24) hx hb dX5_putOnTape_0 (by decide) ?_
  refine lv_istore_n (lv' := [(2, .int 24), (0, .ref h0), (1, .int p0)]) hx hb dX5_putOnTape_2 rfl hl (by decide) rfl (fun ls hl => ?_)
  refine lv_iload_n hx hb dX5_putOnTape_3 rfl (lv_at hl 0 rfl) ?_
  refine lv_if_lt (tgt := 46) hx hb dX5_putOnTape_4 (by decide) (fun c_1 => absurd c_1 (by decide)) (fun c_1 => ?_)
  refine lv_aload_n hx hb dX5_putOnTape_7 rfl (lv_at hl 1 rfl) ?_
  refine va_get (D := (dC, dI)) (ci := 5) (v := .int 8) (C := RX5) (T := TX5) (N := 13) hx hb hts hin5 hown hK hP 0 rfl rfl 1 (by decide) (hts (.fieldLink RX5 36 "SkiShots" "tapeLength" "I") (by decide +kernel)) (fun _ h9 => h9) rfl dX5_putOnTape_8 ?_
  refine lv_sipush (v := 1000) hx hb dX5_putOnTape_11 (by decide) ?_
  refine lv_icmp_ge (tgt := 46) hx hb dX5_putOnTape_14 (by decide) (fun c_2 => absurd c_2 (by decide)) (fun c_2 => ?_)
  refine lv_aload_n hx hb dX5_putOnTape_17 rfl (lv_at hl 1 rfl) ?_
  refine va_get (D := (dC, dI)) (ci := 5) (v := .ref qT) (C := RX5) (T := TX5) (N := 13) hx hb hts hin5 hown hK hP 0 rfl rfl 0 (by decide) (hts (.fieldLink RX5 9 "SkiShots" "tape" "[B") (by decide +kernel)) (fun _ h9 => h9) rfl dX5_putOnTape_18 ?_
  refine lv_aload_n hx hb dX5_putOnTape_21 rfl (lv_at hl 1 rfl) ?_
  refine va_get (D := (dC, dI)) (ci := 5) (v := .int 8) (C := RX5) (T := TX5) (N := 13) hx hb hts hin5 hown hK hP 0 rfl rfl 1 (by decide) (hts (.fieldLink RX5 36 "SkiShots" "tapeLength" "I") (by decide +kernel)) (fun _ h9 => h9) rfl dX5_putOnTape_22 ?_
  refine lv_iload_n hx hb dX5_putOnTape_25 rfl (lv_at hl 2 rfl) ?_
  refine lv_iload_n hx hb dX5_putOnTape_26 rfl (lv_at hl 0 rfl) ?_
  refine lv_ishr hx hb dX5_putOnTape_27 ?_
  refine lv_i2b hx hb dX5_putOnTape_28 rfl ?_
  refine va_bast hx hb hK hP hD hS 1 0 rfl rfl (by unfold vp_in; decide) dX5_putOnTape_29 (fun H locs hP hD hS => ?_)
  obtain ⟨f_3, ef_3⟩ : ∃ g : Nat → Int32, g = upd (f) (Int32.toNatClampNeg 8) (vp_nar .byte ((p0 >>> (24 &&& 31)).toInt8.toInt32)) := ⟨_, rfl⟩
  have hP : va_P (dC, dI) vwCl [(h0, .inr (5, [.ref qT, .int 8, .ref qF, .int 0, .int 0, .int ((-1)), .int 0, .ref qN, .int 0, .ref qR, .int 0, .int 0, .ref qC])), (qT, .inl (cT, 1000, .inl (f_3)))] H := by rw [ef_3]; exact hP
  have hD : va_D A [(h0, .inr (5, [.ref qT, .int 8, .ref qF, .int 0, .int 0, .int ((-1)), .int 0, .ref qN, .int 0, .ref qR, .int 0, .int 0, .ref qC])), (qT, .inl (cT, 1000, .inl (f_3)))] := by rw [ef_3]; exact hD
  refine lv_aload_n hx hb dX5_putOnTape_30 rfl (lv_at hl 1 rfl) ?_
  refine lv_dup hx hb dX5_putOnTape_31 rfl ?_
  refine va_get (D := (dC, dI)) (ci := 5) (v := .int 8) (C := RX5) (T := TX5) (N := 13) hx hb hts hin5 hown hK hP 0 rfl rfl 1 (by decide) (hts (.fieldLink RX5 36 "SkiShots" "tapeLength" "I") (by decide +kernel)) (fun _ h9 => h9) rfl dX5_putOnTape_32 ?_
  refine lv_iconst (v := 1) hx hb dX5_putOnTape_35 (by decide) ?_
  refine lv_iadd hx hb dX5_putOnTape_36 ?_
  rw [show (8 + 1 : Int32) = 9 from by decide]
  refine va_put (D := (dC, dI)) (ci := 5) (v := .int 9) (ty := .int) (C := RX5) (T := TX5) (N := 13) hx hb hts hin5 tyX5 tyX5_ok nmX5 hown hK hP hD hS 0 rfl rfl 1 (by decide) (hts (.fieldLink RX5 36 "SkiShots" "tapeLength" "I") (by decide +kernel)) (fun _ h9 => h9) rfl (by decide +kernel) rfl rfl (Nat.le_of_ble_eq_true rfl) dX5_putOnTape_37 (fun H locs hP hD hS => ?_)
  have hP : va_P (dC, dI) vwCl [(h0, .inr (5, [.ref qT, .int 9, .ref qF, .int 0, .int 0, .int ((-1)), .int 0, .ref qN, .int 0, .ref qR, .int 0, .int 0, .ref qC])), (qT, .inl (cT, 1000, .inl (f_3)))] H := hP
  have hD : va_D A [(h0, .inr (5, [.ref qT, .int 9, .ref qF, .int 0, .int 0, .int ((-1)), .int 0, .ref qN, .int 0, .ref qR, .int 0, .int 0, .ref qC])), (qT, .inl (cT, 1000, .inl (f_3)))] := hD
  refine lv_iinc (v := 16) (lv' := [(2, .int 16), (0, .ref h0), (1, .int p0)]) hx hb dX5_putOnTape_40 hl (k := 0) rfl (by decide) (by decide) rfl (fun ls hl => ?_)
  refine lv_goto (tgt := 3) hx hb dX5_putOnTape_43 (by decide) ?_
  refine lv_iload_n hx hb dX5_putOnTape_3 rfl (lv_at hl 0 rfl) ?_
  refine lv_if_lt (tgt := 46) hx hb dX5_putOnTape_4 (by decide) (fun c_4 => absurd c_4 (by decide)) (fun c_4 => ?_)
  refine lv_aload_n hx hb dX5_putOnTape_7 rfl (lv_at hl 1 rfl) ?_
  refine va_get (D := (dC, dI)) (ci := 5) (v := .int 9) (C := RX5) (T := TX5) (N := 13) hx hb hts hin5 hown hK hP 0 rfl rfl 1 (by decide) (hts (.fieldLink RX5 36 "SkiShots" "tapeLength" "I") (by decide +kernel)) (fun _ h9 => h9) rfl dX5_putOnTape_8 ?_
  refine lv_sipush (v := 1000) hx hb dX5_putOnTape_11 (by decide) ?_
  refine lv_icmp_ge (tgt := 46) hx hb dX5_putOnTape_14 (by decide) (fun c_5 => absurd c_5 (by decide)) (fun c_5 => ?_)
  refine lv_aload_n hx hb dX5_putOnTape_17 rfl (lv_at hl 1 rfl) ?_
  refine va_get (D := (dC, dI)) (ci := 5) (v := .ref qT) (C := RX5) (T := TX5) (N := 13) hx hb hts hin5 hown hK hP 0 rfl rfl 0 (by decide) (hts (.fieldLink RX5 9 "SkiShots" "tape" "[B") (by decide +kernel)) (fun _ h9 => h9) rfl dX5_putOnTape_18 ?_
  refine lv_aload_n hx hb dX5_putOnTape_21 rfl (lv_at hl 1 rfl) ?_
  refine va_get (D := (dC, dI)) (ci := 5) (v := .int 9) (C := RX5) (T := TX5) (N := 13) hx hb hts hin5 hown hK hP 0 rfl rfl 1 (by decide) (hts (.fieldLink RX5 36 "SkiShots" "tapeLength" "I") (by decide +kernel)) (fun _ h9 => h9) rfl dX5_putOnTape_22 ?_
  refine lv_iload_n hx hb dX5_putOnTape_25 rfl (lv_at hl 2 rfl) ?_
  refine lv_iload_n hx hb dX5_putOnTape_26 rfl (lv_at hl 0 rfl) ?_
  refine lv_ishr hx hb dX5_putOnTape_27 ?_
  refine lv_i2b hx hb dX5_putOnTape_28 rfl ?_
  refine va_bast hx hb hK hP hD hS 1 0 rfl rfl (by unfold vp_in; decide) dX5_putOnTape_29 (fun H locs hP hD hS => ?_)
  obtain ⟨f_6, ef_6⟩ : ∃ g : Nat → Int32, g = upd (f_3) (Int32.toNatClampNeg 9) (vp_nar .byte ((p0 >>> (16 &&& 31)).toInt8.toInt32)) := ⟨_, rfl⟩
  have hP : va_P (dC, dI) vwCl [(h0, .inr (5, [.ref qT, .int 9, .ref qF, .int 0, .int 0, .int ((-1)), .int 0, .ref qN, .int 0, .ref qR, .int 0, .int 0, .ref qC])), (qT, .inl (cT, 1000, .inl (f_6)))] H := by rw [ef_6]; exact hP
  have hD : va_D A [(h0, .inr (5, [.ref qT, .int 9, .ref qF, .int 0, .int 0, .int ((-1)), .int 0, .ref qN, .int 0, .ref qR, .int 0, .int 0, .ref qC])), (qT, .inl (cT, 1000, .inl (f_6)))] := by rw [ef_6]; exact hD
  refine lv_aload_n hx hb dX5_putOnTape_30 rfl (lv_at hl 1 rfl) ?_
  refine lv_dup hx hb dX5_putOnTape_31 rfl ?_
  refine va_get (D := (dC, dI)) (ci := 5) (v := .int 9) (C := RX5) (T := TX5) (N := 13) hx hb hts hin5 hown hK hP 0 rfl rfl 1 (by decide) (hts (.fieldLink RX5 36 "SkiShots" "tapeLength" "I") (by decide +kernel)) (fun _ h9 => h9) rfl dX5_putOnTape_32 ?_
  refine lv_iconst (v := 1) hx hb dX5_putOnTape_35 (by decide) ?_
  refine lv_iadd hx hb dX5_putOnTape_36 ?_
  rw [show (9 + 1 : Int32) = 10 from by decide]
  refine va_put (D := (dC, dI)) (ci := 5) (v := .int 10) (ty := .int) (C := RX5) (T := TX5) (N := 13) hx hb hts hin5 tyX5 tyX5_ok nmX5 hown hK hP hD hS 0 rfl rfl 1 (by decide) (hts (.fieldLink RX5 36 "SkiShots" "tapeLength" "I") (by decide +kernel)) (fun _ h9 => h9) rfl (by decide +kernel) rfl rfl (Nat.le_of_ble_eq_true rfl) dX5_putOnTape_37 (fun H locs hP hD hS => ?_)
  have hP : va_P (dC, dI) vwCl [(h0, .inr (5, [.ref qT, .int 10, .ref qF, .int 0, .int 0, .int ((-1)), .int 0, .ref qN, .int 0, .ref qR, .int 0, .int 0, .ref qC])), (qT, .inl (cT, 1000, .inl (f_6)))] H := hP
  have hD : va_D A [(h0, .inr (5, [.ref qT, .int 10, .ref qF, .int 0, .int 0, .int ((-1)), .int 0, .ref qN, .int 0, .ref qR, .int 0, .int 0, .ref qC])), (qT, .inl (cT, 1000, .inl (f_6)))] := hD
  refine lv_iinc (v := 8) (lv' := [(2, .int 8), (0, .ref h0), (1, .int p0)]) hx hb dX5_putOnTape_40 hl (k := 0) rfl (by decide) (by decide) rfl (fun ls hl => ?_)
  refine lv_goto (tgt := 3) hx hb dX5_putOnTape_43 (by decide) ?_
  refine lv_iload_n hx hb dX5_putOnTape_3 rfl (lv_at hl 0 rfl) ?_
  refine lv_if_lt (tgt := 46) hx hb dX5_putOnTape_4 (by decide) (fun c_7 => absurd c_7 (by decide)) (fun c_7 => ?_)
  refine lv_aload_n hx hb dX5_putOnTape_7 rfl (lv_at hl 1 rfl) ?_
  refine va_get (D := (dC, dI)) (ci := 5) (v := .int 10) (C := RX5) (T := TX5) (N := 13) hx hb hts hin5 hown hK hP 0 rfl rfl 1 (by decide) (hts (.fieldLink RX5 36 "SkiShots" "tapeLength" "I") (by decide +kernel)) (fun _ h9 => h9) rfl dX5_putOnTape_8 ?_
  refine lv_sipush (v := 1000) hx hb dX5_putOnTape_11 (by decide) ?_
  refine lv_icmp_ge (tgt := 46) hx hb dX5_putOnTape_14 (by decide) (fun c_8 => absurd c_8 (by decide)) (fun c_8 => ?_)
  refine lv_aload_n hx hb dX5_putOnTape_17 rfl (lv_at hl 1 rfl) ?_
  refine va_get (D := (dC, dI)) (ci := 5) (v := .ref qT) (C := RX5) (T := TX5) (N := 13) hx hb hts hin5 hown hK hP 0 rfl rfl 0 (by decide) (hts (.fieldLink RX5 9 "SkiShots" "tape" "[B") (by decide +kernel)) (fun _ h9 => h9) rfl dX5_putOnTape_18 ?_
  refine lv_aload_n hx hb dX5_putOnTape_21 rfl (lv_at hl 1 rfl) ?_
  refine va_get (D := (dC, dI)) (ci := 5) (v := .int 10) (C := RX5) (T := TX5) (N := 13) hx hb hts hin5 hown hK hP 0 rfl rfl 1 (by decide) (hts (.fieldLink RX5 36 "SkiShots" "tapeLength" "I") (by decide +kernel)) (fun _ h9 => h9) rfl dX5_putOnTape_22 ?_
  refine lv_iload_n hx hb dX5_putOnTape_25 rfl (lv_at hl 2 rfl) ?_
  refine lv_iload_n hx hb dX5_putOnTape_26 rfl (lv_at hl 0 rfl) ?_
  refine lv_ishr hx hb dX5_putOnTape_27 ?_
  refine lv_i2b hx hb dX5_putOnTape_28 rfl ?_
  refine va_bast hx hb hK hP hD hS 1 0 rfl rfl (by unfold vp_in; decide) dX5_putOnTape_29 (fun H locs hP hD hS => ?_)
  obtain ⟨f_9, ef_9⟩ : ∃ g : Nat → Int32, g = upd (f_6) (Int32.toNatClampNeg 10) (vp_nar .byte ((p0 >>> (8 &&& 31)).toInt8.toInt32)) := ⟨_, rfl⟩
  have hP : va_P (dC, dI) vwCl [(h0, .inr (5, [.ref qT, .int 10, .ref qF, .int 0, .int 0, .int ((-1)), .int 0, .ref qN, .int 0, .ref qR, .int 0, .int 0, .ref qC])), (qT, .inl (cT, 1000, .inl (f_9)))] H := by rw [ef_9]; exact hP
  have hD : va_D A [(h0, .inr (5, [.ref qT, .int 10, .ref qF, .int 0, .int 0, .int ((-1)), .int 0, .ref qN, .int 0, .ref qR, .int 0, .int 0, .ref qC])), (qT, .inl (cT, 1000, .inl (f_9)))] := by rw [ef_9]; exact hD
  refine lv_aload_n hx hb dX5_putOnTape_30 rfl (lv_at hl 1 rfl) ?_
  refine lv_dup hx hb dX5_putOnTape_31 rfl ?_
  refine va_get (D := (dC, dI)) (ci := 5) (v := .int 10) (C := RX5) (T := TX5) (N := 13) hx hb hts hin5 hown hK hP 0 rfl rfl 1 (by decide) (hts (.fieldLink RX5 36 "SkiShots" "tapeLength" "I") (by decide +kernel)) (fun _ h9 => h9) rfl dX5_putOnTape_32 ?_
  refine lv_iconst (v := 1) hx hb dX5_putOnTape_35 (by decide) ?_
  refine lv_iadd hx hb dX5_putOnTape_36 ?_
  rw [show (10 + 1 : Int32) = 11 from by decide]
  refine va_put (D := (dC, dI)) (ci := 5) (v := .int 11) (ty := .int) (C := RX5) (T := TX5) (N := 13) hx hb hts hin5 tyX5 tyX5_ok nmX5 hown hK hP hD hS 0 rfl rfl 1 (by decide) (hts (.fieldLink RX5 36 "SkiShots" "tapeLength" "I") (by decide +kernel)) (fun _ h9 => h9) rfl (by decide +kernel) rfl rfl (Nat.le_of_ble_eq_true rfl) dX5_putOnTape_37 (fun H locs hP hD hS => ?_)
  have hP : va_P (dC, dI) vwCl [(h0, .inr (5, [.ref qT, .int 11, .ref qF, .int 0, .int 0, .int ((-1)), .int 0, .ref qN, .int 0, .ref qR, .int 0, .int 0, .ref qC])), (qT, .inl (cT, 1000, .inl (f_9)))] H := hP
  have hD : va_D A [(h0, .inr (5, [.ref qT, .int 11, .ref qF, .int 0, .int 0, .int ((-1)), .int 0, .ref qN, .int 0, .ref qR, .int 0, .int 0, .ref qC])), (qT, .inl (cT, 1000, .inl (f_9)))] := hD
  refine lv_iinc (v := 0) (lv' := [(2, .int 0), (0, .ref h0), (1, .int p0)]) hx hb dX5_putOnTape_40 hl (k := 0) rfl (by decide) (by decide) rfl (fun ls hl => ?_)
  refine lv_goto (tgt := 3) hx hb dX5_putOnTape_43 (by decide) ?_
  refine lv_iload_n hx hb dX5_putOnTape_3 rfl (lv_at hl 0 rfl) ?_
  refine lv_if_lt (tgt := 46) hx hb dX5_putOnTape_4 (by decide) (fun c_10 => absurd c_10 (by decide)) (fun c_10 => ?_)
  refine lv_aload_n hx hb dX5_putOnTape_7 rfl (lv_at hl 1 rfl) ?_
  refine va_get (D := (dC, dI)) (ci := 5) (v := .int 11) (C := RX5) (T := TX5) (N := 13) hx hb hts hin5 hown hK hP 0 rfl rfl 1 (by decide) (hts (.fieldLink RX5 36 "SkiShots" "tapeLength" "I") (by decide +kernel)) (fun _ h9 => h9) rfl dX5_putOnTape_8 ?_
  refine lv_sipush (v := 1000) hx hb dX5_putOnTape_11 (by decide) ?_
  refine lv_icmp_ge (tgt := 46) hx hb dX5_putOnTape_14 (by decide) (fun c_11 => absurd c_11 (by decide)) (fun c_11 => ?_)
  refine lv_aload_n hx hb dX5_putOnTape_17 rfl (lv_at hl 1 rfl) ?_
  refine va_get (D := (dC, dI)) (ci := 5) (v := .ref qT) (C := RX5) (T := TX5) (N := 13) hx hb hts hin5 hown hK hP 0 rfl rfl 0 (by decide) (hts (.fieldLink RX5 9 "SkiShots" "tape" "[B") (by decide +kernel)) (fun _ h9 => h9) rfl dX5_putOnTape_18 ?_
  refine lv_aload_n hx hb dX5_putOnTape_21 rfl (lv_at hl 1 rfl) ?_
  refine va_get (D := (dC, dI)) (ci := 5) (v := .int 11) (C := RX5) (T := TX5) (N := 13) hx hb hts hin5 hown hK hP 0 rfl rfl 1 (by decide) (hts (.fieldLink RX5 36 "SkiShots" "tapeLength" "I") (by decide +kernel)) (fun _ h9 => h9) rfl dX5_putOnTape_22 ?_
  refine lv_iload_n hx hb dX5_putOnTape_25 rfl (lv_at hl 2 rfl) ?_
  refine lv_iload_n hx hb dX5_putOnTape_26 rfl (lv_at hl 0 rfl) ?_
  refine lv_ishr hx hb dX5_putOnTape_27 ?_
  refine lv_i2b hx hb dX5_putOnTape_28 rfl ?_
  refine va_bast hx hb hK hP hD hS 1 0 rfl rfl (by unfold vp_in; decide) dX5_putOnTape_29 (fun H locs hP hD hS => ?_)
  obtain ⟨f_12, ef_12⟩ : ∃ g : Nat → Int32, g = upd (f_9) (Int32.toNatClampNeg 11) (vp_nar .byte ((p0 >>> (0 &&& 31)).toInt8.toInt32)) := ⟨_, rfl⟩
  have hP : va_P (dC, dI) vwCl [(h0, .inr (5, [.ref qT, .int 11, .ref qF, .int 0, .int 0, .int ((-1)), .int 0, .ref qN, .int 0, .ref qR, .int 0, .int 0, .ref qC])), (qT, .inl (cT, 1000, .inl (f_12)))] H := by rw [ef_12]; exact hP
  have hD : va_D A [(h0, .inr (5, [.ref qT, .int 11, .ref qF, .int 0, .int 0, .int ((-1)), .int 0, .ref qN, .int 0, .ref qR, .int 0, .int 0, .ref qC])), (qT, .inl (cT, 1000, .inl (f_12)))] := by rw [ef_12]; exact hD
  refine lv_aload_n hx hb dX5_putOnTape_30 rfl (lv_at hl 1 rfl) ?_
  refine lv_dup hx hb dX5_putOnTape_31 rfl ?_
  refine va_get (D := (dC, dI)) (ci := 5) (v := .int 11) (C := RX5) (T := TX5) (N := 13) hx hb hts hin5 hown hK hP 0 rfl rfl 1 (by decide) (hts (.fieldLink RX5 36 "SkiShots" "tapeLength" "I") (by decide +kernel)) (fun _ h9 => h9) rfl dX5_putOnTape_32 ?_
  refine lv_iconst (v := 1) hx hb dX5_putOnTape_35 (by decide) ?_
  refine lv_iadd hx hb dX5_putOnTape_36 ?_
  rw [show (11 + 1 : Int32) = 12 from by decide]
  refine va_put (D := (dC, dI)) (ci := 5) (v := .int 12) (ty := .int) (C := RX5) (T := TX5) (N := 13) hx hb hts hin5 tyX5 tyX5_ok nmX5 hown hK hP hD hS 0 rfl rfl 1 (by decide) (hts (.fieldLink RX5 36 "SkiShots" "tapeLength" "I") (by decide +kernel)) (fun _ h9 => h9) rfl (by decide +kernel) rfl rfl (Nat.le_of_ble_eq_true rfl) dX5_putOnTape_37 (fun H locs hP hD hS => ?_)
  have hP : va_P (dC, dI) vwCl [(h0, .inr (5, [.ref qT, .int 12, .ref qF, .int 0, .int 0, .int ((-1)), .int 0, .ref qN, .int 0, .ref qR, .int 0, .int 0, .ref qC])), (qT, .inl (cT, 1000, .inl (f_12)))] H := hP
  have hD : va_D A [(h0, .inr (5, [.ref qT, .int 12, .ref qF, .int 0, .int 0, .int ((-1)), .int 0, .ref qN, .int 0, .ref qR, .int 0, .int 0, .ref qC])), (qT, .inl (cT, 1000, .inl (f_12)))] := hD
  refine lv_iinc (v := (-8)) (lv' := [(2, .int ((-8))), (0, .ref h0), (1, .int p0)]) hx hb dX5_putOnTape_40 hl (k := 0) rfl (by decide) (by decide) rfl (fun ls hl => ?_)
  refine lv_goto (tgt := 3) hx hb dX5_putOnTape_43 (by decide) ?_
  refine lv_iload_n hx hb dX5_putOnTape_3 rfl (lv_at hl 0 rfl) ?_
  refine lv_if_lt (tgt := 46) hx hb dX5_putOnTape_4 (by decide) (fun c_13 => ?_) (fun c_13 => absurd (by decide) c_13)
  have hP9 := hP.sub (ws' := [(h0, .inr (5, [.ref qT, .int 12, .ref qF, .int 0, .int 0, .int ((-1)), .int 0, .ref qN, .int 0, .ref qR, .int 0, .int 0, .ref qC])), (qT, .inl (cT, 1000, .inl (f_12)))]) [0, 1] rfl
  have hD9 := hD.sub (ws' := [(h0, .inr (5, [.ref qT, .int 12, .ref qF, .int 0, .int 0, .int ((-1)), .int 0, .ref qN, .int 0, .ref qR, .int 0, .int 0, .ref qC])), (qT, .inl (cT, 1000, .inl (f_12)))]) [0, 1] (by decide) rfl
  have hK9 := hK.sub (tys' := [(cT, .byte)]) [0] rfl
  exact W.vret hx hb hr (fun t ht hW => ⟨⟨(), rfl, trivial, f_12, by rw [ht]; exact hP9, va_K.moved hW.alike hK9, hD9⟩, hS.F ht⟩) hS.2.2 dX5_putOnTape_46
def wX5_putOnTape_12 : List Cond := .code yX5_putOnTape cX5_putOnTape 3 none :: ([.fieldLink RX5 36 "SkiShots" "tapeLength" "I", .fieldLink RX5 9 "SkiShots" "tape" "[B"] ++ wsX50)
set_option maxHeartbeats 4000000 in
set_option maxRecDepth 100000 in
theorem c_X5_putOnTape_12 (l : Launch) (dC : Nat → ClassId) (dI : Nat → Nat → Nat) (h0 : Nat) (qT : Nat) (qF : Nat) (qN : Nat) (qR : Nat) (qC : Nat) (cT : ClassId) (f : Nat → Int32) (p0 : Int32) (sz : Nat) : Met l yX5_putOnTape wX5_putOnTape_12 ({ frames := 0, cells := 0, slots := 0, locals := 0 }) (va_Pc [.ref h0, .int p0] (fun U => U.heap.size = sz ∧ va_P (dC, dI) vwCl [(h0, .inr (5, [.ref qT, .int 12, .ref qF, .int 0, .int 0, .int ((-1)), .int 0, .ref qN, .int 0, .ref qR, .int 0, .int 0, .ref qC])), (qT, .inl (cT, 1000, .inl (f)))] U.heap ∧ va_K (dC, dI) vwCl [(cT, .byte)] U ∧ va_D (fun _ => True) [(h0, .inr (5, [.ref qT, .int 12, .ref qF, .int 0, .int 0, .int ((-1)), .int 0, .ref qN, .int 0, .ref qR, .int 0, .int 0, .ref qC])), (qT, .inl (cT, 1000, .inl (f)))])) (va_Qv (fun (_ : Unit) => True) (fun _ t => ∃ (f2 : Nat → Int32), va_P (dC, dI) vwCl [(h0, .inr (5, [.ref qT, .int 16, .ref qF, .int 0, .int 0, .int ((-1)), .int 0, .ref qN, .int 0, .ref qR, .int 0, .int 0, .ref qC])), (qT, .inl (cT, 1000, .inl (f2)))] t.heap ∧ va_K (dC, dI) vwCl [(cT, .byte)] t ∧ va_D (va_A [(h0, .inr (5, [.ref qT, .int 12, .ref qF, .int 0, .int 0, .int ((-1)), .int 0, .ref qN, .int 0, .ref qR, .int 0, .int 0, .ref qC])), (qT, .inl (cT, 1000, .inl (f)))] sz) [(h0, .inr (5, [.ref qT, .int 16, .ref qF, .int 0, .int 0, .int ((-1)), .int 0, .ref qN, .int 0, .ref qR, .int 0, .int 0, .ref qC])), (qT, .inl (cT, 1000, .inl (f2)))]) (va_A [(h0, .inr (5, [.ref qT, .int 12, .ref qF, .int 0, .int 0, .int ((-1)), .int 0, .ref qN, .int 0, .ref qR, .int 0, .int 0, .ref qC])), (qT, .inl (cT, 1000, .inl (f)))] sz)) 0 0 (va_A [(h0, .inr (5, [.ref qT, .int 12, .ref qF, .int 0, .int 0, .int ((-1)), .int 0, .ref qN, .int 0, .ref qR, .int 0, .int 0, .ref qC])), (qT, .inl (cT, 1000, .inl (f)))] sz) := by
  refine Met.ofW (cc := cX5_putOnTape) (maxL := 3) (ret := none) (by decide) rfl ?_
  intro p e s m args below meth c s₁ B hml hv
  obtain ⟨rfl, hsz, hP, hK, hD0⟩ := hv
  have hx := B.exec
  have hb := B.bytes
  have hr := B.returns
  have hts := atoms_spec (ws := wX5_putOnTape_12) B.pre
  have hown : s.vm.findClass RX5 = some m.cls := findClass_of_methodNamed B.named
  have hlocks := B.notSynchronized
  have hin5 : ∀ w ∈ wsX50, w ∈ wX5_putOnTape_12 := by decide +kernel
  subst hsz
  have hD := hD0.self (sz := s.heap.size)
  generalize hAe : va_A [(h0, .inr (5, [.ref qT, .int 12, .ref qF, .int 0, .int 0, .int ((-1)), .int 0, .ref qN, .int 0, .ref qR, .int 0, .int 0, .ref qC])), (qT, .inl (cT, 1000, .inl (f)))] s.heap.size = A at hD ⊢
  have hA : ∀ q : Nat, s.heap.size ≤ q → A q := fun q h => by rw [← hAe]; exact Or.inr h
  have hS : va_S A s.heap s.heap [] := va_S.rf
  have hP : va_P (dC, dI) vwCl [(h0, .inr (5, [.ref qT, .int 12, .ref qF, .int 0, .int 0, .int ((-1)), .int 0, .ref qN, .int 0, .ref qR, .int 0, .int 0, .ref qC])), (qT, .inl (cT, 1000, .inl (f)))] s.heap := hP
  have hl := lv_entry ([.ref h0, .int p0]) (n := 3) (Nat.le_of_ble_eq_true rfl)
  rw [lg_entry_eq]
  generalize (lg_sl ([.ref h0, .int p0]) ++ List.replicate (3 - (lg_sl ([.ref h0, .int p0])).length) Slot.unset).toArray = ls at hl ⊢
  have hl : lv_has ls 3 [(0, .ref h0), (1, .int p0)] := hl
  refine lv_bipush (v := 24) hx hb dX5_putOnTape_0 (by decide) ?_
  refine lv_istore_n (lv' := [(2, .int 24), (0, .ref h0), (1, .int p0)]) hx hb dX5_putOnTape_2 rfl hl (by decide) rfl (fun ls hl => ?_)
  refine lv_iload_n hx hb dX5_putOnTape_3 rfl (lv_at hl 0 rfl) ?_
  refine lv_if_lt (tgt := 46) hx hb dX5_putOnTape_4 (by decide) (fun c_1 => absurd c_1 (by decide)) (fun c_1 => ?_)
  refine lv_aload_n hx hb dX5_putOnTape_7 rfl (lv_at hl 1 rfl) ?_
  refine va_get (D := (dC, dI)) (ci := 5) (v := .int 12) (C := RX5) (T := TX5) (N := 13) hx hb hts hin5 hown hK hP 0 rfl rfl 1 (by decide) (hts (.fieldLink RX5 36 "SkiShots" "tapeLength" "I") (by decide +kernel)) (fun _ h9 => h9) rfl dX5_putOnTape_8 ?_
  refine lv_sipush (v := 1000) hx hb dX5_putOnTape_11 (by decide) ?_
  refine lv_icmp_ge (tgt := 46) hx hb dX5_putOnTape_14 (by decide) (fun c_2 => absurd c_2 (by decide)) (fun c_2 => ?_)
  refine lv_aload_n hx hb dX5_putOnTape_17 rfl (lv_at hl 1 rfl) ?_
  refine va_get (D := (dC, dI)) (ci := 5) (v := .ref qT) (C := RX5) (T := TX5) (N := 13) hx hb hts hin5 hown hK hP 0 rfl rfl 0 (by decide) (hts (.fieldLink RX5 9 "SkiShots" "tape" "[B") (by decide +kernel)) (fun _ h9 => h9) rfl dX5_putOnTape_18 ?_
  refine lv_aload_n hx hb dX5_putOnTape_21 rfl (lv_at hl 1 rfl) ?_
  refine va_get (D := (dC, dI)) (ci := 5) (v := .int 12) (C := RX5) (T := TX5) (N := 13) hx hb hts hin5 hown hK hP 0 rfl rfl 1 (by decide) (hts (.fieldLink RX5 36 "SkiShots" "tapeLength" "I") (by decide +kernel)) (fun _ h9 => h9) rfl dX5_putOnTape_22 ?_
  refine lv_iload_n hx hb dX5_putOnTape_25 rfl (lv_at hl 2 rfl) ?_
  refine lv_iload_n hx hb dX5_putOnTape_26 rfl (lv_at hl 0 rfl) ?_
  refine lv_ishr hx hb dX5_putOnTape_27 ?_
  refine lv_i2b hx hb dX5_putOnTape_28 rfl ?_
  refine va_bast hx hb hK hP hD hS 1 0 rfl rfl (by unfold vp_in; decide) dX5_putOnTape_29 (fun H locs hP hD hS => ?_)
  obtain ⟨f_3, ef_3⟩ : ∃ g : Nat → Int32, g = upd (f) (Int32.toNatClampNeg 12) (vp_nar .byte ((p0 >>> (24 &&& 31)).toInt8.toInt32)) := ⟨_, rfl⟩
  have hP : va_P (dC, dI) vwCl [(h0, .inr (5, [.ref qT, .int 12, .ref qF, .int 0, .int 0, .int ((-1)), .int 0, .ref qN, .int 0, .ref qR, .int 0, .int 0, .ref qC])), (qT, .inl (cT, 1000, .inl (f_3)))] H := by rw [ef_3]; exact hP
  have hD : va_D A [(h0, .inr (5, [.ref qT, .int 12, .ref qF, .int 0, .int 0, .int ((-1)), .int 0, .ref qN, .int 0, .ref qR, .int 0, .int 0, .ref qC])), (qT, .inl (cT, 1000, .inl (f_3)))] := by rw [ef_3]; exact hD
  refine lv_aload_n hx hb dX5_putOnTape_30 rfl (lv_at hl 1 rfl) ?_
  refine lv_dup hx hb dX5_putOnTape_31 rfl ?_
  refine va_get (D := (dC, dI)) (ci := 5) (v := .int 12) (C := RX5) (T := TX5) (N := 13) hx hb hts hin5 hown hK hP 0 rfl rfl 1 (by decide) (hts (.fieldLink RX5 36 "SkiShots" "tapeLength" "I") (by decide +kernel)) (fun _ h9 => h9) rfl dX5_putOnTape_32 ?_
  refine lv_iconst (v := 1) hx hb dX5_putOnTape_35 (by decide) ?_
  refine lv_iadd hx hb dX5_putOnTape_36 ?_
  rw [show (12 + 1 : Int32) = 13 from by decide]
  refine va_put (D := (dC, dI)) (ci := 5) (v := .int 13) (ty := .int) (C := RX5) (T := TX5) (N := 13) hx hb hts hin5 tyX5 tyX5_ok nmX5 hown hK hP hD hS 0 rfl rfl 1 (by decide) (hts (.fieldLink RX5 36 "SkiShots" "tapeLength" "I") (by decide +kernel)) (fun _ h9 => h9) rfl (by decide +kernel) rfl rfl (Nat.le_of_ble_eq_true rfl) dX5_putOnTape_37 (fun H locs hP hD hS => ?_)
  have hP : va_P (dC, dI) vwCl [(h0, .inr (5, [.ref qT, .int 13, .ref qF, .int 0, .int 0, .int ((-1)), .int 0, .ref qN, .int 0, .ref qR, .int 0, .int 0, .ref qC])), (qT, .inl (cT, 1000, .inl (f_3)))] H := hP
  have hD : va_D A [(h0, .inr (5, [.ref qT, .int 13, .ref qF, .int 0, .int 0, .int ((-1)), .int 0, .ref qN, .int 0, .ref qR, .int 0, .int 0, .ref qC])), (qT, .inl (cT, 1000, .inl (f_3)))] := hD
  refine lv_iinc (v := 16) (lv' := [(2, .int 16), (0, .ref h0), (1, .int p0)]) hx hb dX5_putOnTape_40 hl (k := 0) rfl (by decide) (by decide) rfl (fun ls hl => ?_)
  refine lv_goto (tgt := 3) hx hb dX5_putOnTape_43 (by decide) ?_
  refine lv_iload_n hx hb dX5_putOnTape_3 rfl (lv_at hl 0 rfl) ?_
  refine lv_if_lt (tgt := 46) hx hb dX5_putOnTape_4 (by decide) (fun c_4 => absurd c_4 (by decide)) (fun c_4 => ?_)
  refine lv_aload_n hx hb dX5_putOnTape_7 rfl (lv_at hl 1 rfl) ?_
  refine va_get (D := (dC, dI)) (ci := 5) (v := .int 13) (C := RX5) (T := TX5) (N := 13) hx hb hts hin5 hown hK hP 0 rfl rfl 1 (by decide) (hts (.fieldLink RX5 36 "SkiShots" "tapeLength" "I") (by decide +kernel)) (fun _ h9 => h9) rfl dX5_putOnTape_8 ?_
  refine lv_sipush (v := 1000) hx hb dX5_putOnTape_11 (by decide) ?_
  refine lv_icmp_ge (tgt := 46) hx hb dX5_putOnTape_14 (by decide) (fun c_5 => absurd c_5 (by decide)) (fun c_5 => ?_)
  refine lv_aload_n hx hb dX5_putOnTape_17 rfl (lv_at hl 1 rfl) ?_
  refine va_get (D := (dC, dI)) (ci := 5) (v := .ref qT) (C := RX5) (T := TX5) (N := 13) hx hb hts hin5 hown hK hP 0 rfl rfl 0 (by decide) (hts (.fieldLink RX5 9 "SkiShots" "tape" "[B") (by decide +kernel)) (fun _ h9 => h9) rfl dX5_putOnTape_18 ?_
  refine lv_aload_n hx hb dX5_putOnTape_21 rfl (lv_at hl 1 rfl) ?_
  refine va_get (D := (dC, dI)) (ci := 5) (v := .int 13) (C := RX5) (T := TX5) (N := 13) hx hb hts hin5 hown hK hP 0 rfl rfl 1 (by decide) (hts (.fieldLink RX5 36 "SkiShots" "tapeLength" "I") (by decide +kernel)) (fun _ h9 => h9) rfl dX5_putOnTape_22 ?_
  refine lv_iload_n hx hb dX5_putOnTape_25 rfl (lv_at hl 2 rfl) ?_
  refine lv_iload_n hx hb dX5_putOnTape_26 rfl (lv_at hl 0 rfl) ?_
  refine lv_ishr hx hb dX5_putOnTape_27 ?_
  refine lv_i2b hx hb dX5_putOnTape_28 rfl ?_
  refine va_bast hx hb hK hP hD hS 1 0 rfl rfl (by unfold vp_in; decide) dX5_putOnTape_29 (fun H locs hP hD hS => ?_)
  obtain ⟨f_6, ef_6⟩ : ∃ g : Nat → Int32, g = upd (f_3) (Int32.toNatClampNeg 13) (vp_nar .byte ((p0 >>> (16 &&& 31)).toInt8.toInt32)) := ⟨_, rfl⟩
  have hP : va_P (dC, dI) vwCl [(h0, .inr (5, [.ref qT, .int 13, .ref qF, .int 0, .int 0, .int ((-1)), .int 0, .ref qN, .int 0, .ref qR, .int 0, .int 0, .ref qC])), (qT, .inl (cT, 1000, .inl (f_6)))] H := by rw [ef_6]; exact hP
  have hD : va_D A [(h0, .inr (5, [.ref qT, .int 13, .ref qF, .int 0, .int 0, .int ((-1)), .int 0, .ref qN, .int 0, .ref qR, .int 0, .int 0, .ref qC])), (qT, .inl (cT, 1000, .inl (f_6)))] := by rw [ef_6]; exact hD
  refine lv_aload_n hx hb dX5_putOnTape_30 rfl (lv_at hl 1 rfl) ?_
  refine lv_dup hx hb dX5_putOnTape_31 rfl ?_
  refine va_get (D := (dC, dI)) (ci := 5) (v := .int 13) (C := RX5) (T := TX5) (N := 13) hx hb hts hin5 hown hK hP 0 rfl rfl 1 (by decide) (hts (.fieldLink RX5 36 "SkiShots" "tapeLength" "I") (by decide +kernel)) (fun _ h9 => h9) rfl dX5_putOnTape_32 ?_
  refine lv_iconst (v := 1) hx hb dX5_putOnTape_35 (by decide) ?_
  refine lv_iadd hx hb dX5_putOnTape_36 ?_
  rw [show (13 + 1 : Int32) = 14 from by decide]
  refine va_put (D := (dC, dI)) (ci := 5) (v := .int 14) (ty := .int) (C := RX5) (T := TX5) (N := 13) hx hb hts hin5 tyX5 tyX5_ok nmX5 hown hK hP hD hS 0 rfl rfl 1 (by decide) (hts (.fieldLink RX5 36 "SkiShots" "tapeLength" "I") (by decide +kernel)) (fun _ h9 => h9) rfl (by decide +kernel) rfl rfl (Nat.le_of_ble_eq_true rfl) dX5_putOnTape_37 (fun H locs hP hD hS => ?_)
  have hP : va_P (dC, dI) vwCl [(h0, .inr (5, [.ref qT, .int 14, .ref qF, .int 0, .int 0, .int ((-1)), .int 0, .ref qN, .int 0, .ref qR, .int 0, .int 0, .ref qC])), (qT, .inl (cT, 1000, .inl (f_6)))] H := hP
  have hD : va_D A [(h0, .inr (5, [.ref qT, .int 14, .ref qF, .int 0, .int 0, .int ((-1)), .int 0, .ref qN, .int 0, .ref qR, .int 0, .int 0, .ref qC])), (qT, .inl (cT, 1000, .inl (f_6)))] := hD
  refine lv_iinc (v := 8) (lv' := [(2, .int 8), (0, .ref h0), (1, .int p0)]) hx hb dX5_putOnTape_40 hl (k := 0) rfl (by decide) (by decide) rfl (fun ls hl => ?_)
  refine lv_goto (tgt := 3) hx hb dX5_putOnTape_43 (by decide) ?_
  refine lv_iload_n hx hb dX5_putOnTape_3 rfl (lv_at hl 0 rfl) ?_
  refine lv_if_lt (tgt := 46) hx hb dX5_putOnTape_4 (by decide) (fun c_7 => absurd c_7 (by decide)) (fun c_7 => ?_)
  refine lv_aload_n hx hb dX5_putOnTape_7 rfl (lv_at hl 1 rfl) ?_
  refine va_get (D := (dC, dI)) (ci := 5) (v := .int 14) (C := RX5) (T := TX5) (N := 13) hx hb hts hin5 hown hK hP 0 rfl rfl 1 (by decide) (hts (.fieldLink RX5 36 "SkiShots" "tapeLength" "I") (by decide +kernel)) (fun _ h9 => h9) rfl dX5_putOnTape_8 ?_
  refine lv_sipush (v := 1000) hx hb dX5_putOnTape_11 (by decide) ?_
  refine lv_icmp_ge (tgt := 46) hx hb dX5_putOnTape_14 (by decide) (fun c_8 => absurd c_8 (by decide)) (fun c_8 => ?_)
  refine lv_aload_n hx hb dX5_putOnTape_17 rfl (lv_at hl 1 rfl) ?_
  refine va_get (D := (dC, dI)) (ci := 5) (v := .ref qT) (C := RX5) (T := TX5) (N := 13) hx hb hts hin5 hown hK hP 0 rfl rfl 0 (by decide) (hts (.fieldLink RX5 9 "SkiShots" "tape" "[B") (by decide +kernel)) (fun _ h9 => h9) rfl dX5_putOnTape_18 ?_
  refine lv_aload_n hx hb dX5_putOnTape_21 rfl (lv_at hl 1 rfl) ?_
  refine va_get (D := (dC, dI)) (ci := 5) (v := .int 14) (C := RX5) (T := TX5) (N := 13) hx hb hts hin5 hown hK hP 0 rfl rfl 1 (by decide) (hts (.fieldLink RX5 36 "SkiShots" "tapeLength" "I") (by decide +kernel)) (fun _ h9 => h9) rfl dX5_putOnTape_22 ?_
  refine lv_iload_n hx hb dX5_putOnTape_25 rfl (lv_at hl 2 rfl) ?_
  refine lv_iload_n hx hb dX5_putOnTape_26 rfl (lv_at hl 0 rfl) ?_
  refine lv_ishr hx hb dX5_putOnTape_27 ?_
  refine lv_i2b hx hb dX5_putOnTape_28 rfl ?_
  refine va_bast hx hb hK hP hD hS 1 0 rfl rfl (by unfold vp_in; decide) dX5_putOnTape_29 (fun H locs hP hD hS => ?_)
  obtain ⟨f_9, ef_9⟩ : ∃ g : Nat → Int32, g = upd (f_6) (Int32.toNatClampNeg 14) (vp_nar .byte ((p0 >>> (8 &&& 31)).toInt8.toInt32)) := ⟨_, rfl⟩
  have hP : va_P (dC, dI) vwCl [(h0, .inr (5, [.ref qT, .int 14, .ref qF, .int 0, .int 0, .int ((-1)), .int 0, .ref qN, .int 0, .ref qR, .int 0, .int 0, .ref qC])), (qT, .inl (cT, 1000, .inl (f_9)))] H := by rw [ef_9]; exact hP
  have hD : va_D A [(h0, .inr (5, [.ref qT, .int 14, .ref qF, .int 0, .int 0, .int ((-1)), .int 0, .ref qN, .int 0, .ref qR, .int 0, .int 0, .ref qC])), (qT, .inl (cT, 1000, .inl (f_9)))] := by rw [ef_9]; exact hD
  refine lv_aload_n hx hb dX5_putOnTape_30 rfl (lv_at hl 1 rfl) ?_
  refine lv_dup hx hb dX5_putOnTape_31 rfl ?_
  refine va_get (D := (dC, dI)) (ci := 5) (v := .int 14) (C := RX5) (T := TX5) (N := 13) hx hb hts hin5 hown hK hP 0 rfl rfl 1 (by decide) (hts (.fieldLink RX5 36 "SkiShots" "tapeLength" "I") (by decide +kernel)) (fun _ h9 => h9) rfl dX5_putOnTape_32 ?_
  refine lv_iconst (v := 1) hx hb dX5_putOnTape_35 (by decide) ?_
  refine lv_iadd hx hb dX5_putOnTape_36 ?_
  rw [show (14 + 1 : Int32) = 15 from by decide]
  refine va_put (D := (dC, dI)) (ci := 5) (v := .int 15) (ty := .int) (C := RX5) (T := TX5) (N := 13) hx hb hts hin5 tyX5 tyX5_ok nmX5 hown hK hP hD hS 0 rfl rfl 1 (by decide) (hts (.fieldLink RX5 36 "SkiShots" "tapeLength" "I") (by decide +kernel)) (fun _ h9 => h9) rfl (by decide +kernel) rfl rfl (Nat.le_of_ble_eq_true rfl) dX5_putOnTape_37 (fun H locs hP hD hS => ?_)
  have hP : va_P (dC, dI) vwCl [(h0, .inr (5, [.ref qT, .int 15, .ref qF, .int 0, .int 0, .int ((-1)), .int 0, .ref qN, .int 0, .ref qR, .int 0, .int 0, .ref qC])), (qT, .inl (cT, 1000, .inl (f_9)))] H := hP
  have hD : va_D A [(h0, .inr (5, [.ref qT, .int 15, .ref qF, .int 0, .int 0, .int ((-1)), .int 0, .ref qN, .int 0, .ref qR, .int 0, .int 0, .ref qC])), (qT, .inl (cT, 1000, .inl (f_9)))] := hD
  refine lv_iinc (v := 0) (lv' := [(2, .int 0), (0, .ref h0), (1, .int p0)]) hx hb dX5_putOnTape_40 hl (k := 0) rfl (by decide) (by decide) rfl (fun ls hl => ?_)
  refine lv_goto (tgt := 3) hx hb dX5_putOnTape_43 (by decide) ?_
  refine lv_iload_n hx hb dX5_putOnTape_3 rfl (lv_at hl 0 rfl) ?_
  refine lv_if_lt (tgt := 46) hx hb dX5_putOnTape_4 (by decide) (fun c_10 => absurd c_10 (by decide)) (fun c_10 => ?_)
  refine lv_aload_n hx hb dX5_putOnTape_7 rfl (lv_at hl 1 rfl) ?_
  refine va_get (D := (dC, dI)) (ci := 5) (v := .int 15) (C := RX5) (T := TX5) (N := 13) hx hb hts hin5 hown hK hP 0 rfl rfl 1 (by decide) (hts (.fieldLink RX5 36 "SkiShots" "tapeLength" "I") (by decide +kernel)) (fun _ h9 => h9) rfl dX5_putOnTape_8 ?_
  refine lv_sipush (v := 1000) hx hb dX5_putOnTape_11 (by decide) ?_
  refine lv_icmp_ge (tgt := 46) hx hb dX5_putOnTape_14 (by decide) (fun c_11 => absurd c_11 (by decide)) (fun c_11 => ?_)
  refine lv_aload_n hx hb dX5_putOnTape_17 rfl (lv_at hl 1 rfl) ?_
  refine va_get (D := (dC, dI)) (ci := 5) (v := .ref qT) (C := RX5) (T := TX5) (N := 13) hx hb hts hin5 hown hK hP 0 rfl rfl 0 (by decide) (hts (.fieldLink RX5 9 "SkiShots" "tape" "[B") (by decide +kernel)) (fun _ h9 => h9) rfl dX5_putOnTape_18 ?_
  refine lv_aload_n hx hb dX5_putOnTape_21 rfl (lv_at hl 1 rfl) ?_
  refine va_get (D := (dC, dI)) (ci := 5) (v := .int 15) (C := RX5) (T := TX5) (N := 13) hx hb hts hin5 hown hK hP 0 rfl rfl 1 (by decide) (hts (.fieldLink RX5 36 "SkiShots" "tapeLength" "I") (by decide +kernel)) (fun _ h9 => h9) rfl dX5_putOnTape_22 ?_
  refine lv_iload_n hx hb dX5_putOnTape_25 rfl (lv_at hl 2 rfl) ?_
  refine lv_iload_n hx hb dX5_putOnTape_26 rfl (lv_at hl 0 rfl) ?_
  refine lv_ishr hx hb dX5_putOnTape_27 ?_
  refine lv_i2b hx hb dX5_putOnTape_28 rfl ?_
  refine va_bast hx hb hK hP hD hS 1 0 rfl rfl (by unfold vp_in; decide) dX5_putOnTape_29 (fun H locs hP hD hS => ?_)
  obtain ⟨f_12, ef_12⟩ : ∃ g : Nat → Int32, g = upd (f_9) (Int32.toNatClampNeg 15) (vp_nar .byte ((p0 >>> (0 &&& 31)).toInt8.toInt32)) := ⟨_, rfl⟩
  have hP : va_P (dC, dI) vwCl [(h0, .inr (5, [.ref qT, .int 15, .ref qF, .int 0, .int 0, .int ((-1)), .int 0, .ref qN, .int 0, .ref qR, .int 0, .int 0, .ref qC])), (qT, .inl (cT, 1000, .inl (f_12)))] H := by rw [ef_12]; exact hP
  have hD : va_D A [(h0, .inr (5, [.ref qT, .int 15, .ref qF, .int 0, .int 0, .int ((-1)), .int 0, .ref qN, .int 0, .ref qR, .int 0, .int 0, .ref qC])), (qT, .inl (cT, 1000, .inl (f_12)))] := by rw [ef_12]; exact hD
  refine lv_aload_n hx hb dX5_putOnTape_30 rfl (lv_at hl 1 rfl) ?_
  refine lv_dup hx hb dX5_putOnTape_31 rfl ?_
  refine va_get (D := (dC, dI)) (ci := 5) (v := .int 15) (C := RX5) (T := TX5) (N := 13) hx hb hts hin5 hown hK hP 0 rfl rfl 1 (by decide) (hts (.fieldLink RX5 36 "SkiShots" "tapeLength" "I") (by decide +kernel)) (fun _ h9 => h9) rfl dX5_putOnTape_32 ?_
  refine lv_iconst (v := 1) hx hb dX5_putOnTape_35 (by decide) ?_
  refine lv_iadd hx hb dX5_putOnTape_36 ?_
  rw [show (15 + 1 : Int32) = 16 from by decide]
  refine va_put (D := (dC, dI)) (ci := 5) (v := .int 16) (ty := .int) (C := RX5) (T := TX5) (N := 13) hx hb hts hin5 tyX5 tyX5_ok nmX5 hown hK hP hD hS 0 rfl rfl 1 (by decide) (hts (.fieldLink RX5 36 "SkiShots" "tapeLength" "I") (by decide +kernel)) (fun _ h9 => h9) rfl (by decide +kernel) rfl rfl (Nat.le_of_ble_eq_true rfl) dX5_putOnTape_37 (fun H locs hP hD hS => ?_)
  have hP : va_P (dC, dI) vwCl [(h0, .inr (5, [.ref qT, .int 16, .ref qF, .int 0, .int 0, .int ((-1)), .int 0, .ref qN, .int 0, .ref qR, .int 0, .int 0, .ref qC])), (qT, .inl (cT, 1000, .inl (f_12)))] H := hP
  have hD : va_D A [(h0, .inr (5, [.ref qT, .int 16, .ref qF, .int 0, .int 0, .int ((-1)), .int 0, .ref qN, .int 0, .ref qR, .int 0, .int 0, .ref qC])), (qT, .inl (cT, 1000, .inl (f_12)))] := hD
  refine lv_iinc (v := (-8)) (lv' := [(2, .int ((-8))), (0, .ref h0), (1, .int p0)]) hx hb dX5_putOnTape_40 hl (k := 0) rfl (by decide) (by decide) rfl (fun ls hl => ?_)
  refine lv_goto (tgt := 3) hx hb dX5_putOnTape_43 (by decide) ?_
  refine lv_iload_n hx hb dX5_putOnTape_3 rfl (lv_at hl 0 rfl) ?_
  refine lv_if_lt (tgt := 46) hx hb dX5_putOnTape_4 (by decide) (fun c_13 => ?_) (fun c_13 => absurd (by decide) c_13)
  have hP9 := hP.sub (ws' := [(h0, .inr (5, [.ref qT, .int 16, .ref qF, .int 0, .int 0, .int ((-1)), .int 0, .ref qN, .int 0, .ref qR, .int 0, .int 0, .ref qC])), (qT, .inl (cT, 1000, .inl (f_12)))]) [0, 1] rfl
  have hD9 := hD.sub (ws' := [(h0, .inr (5, [.ref qT, .int 16, .ref qF, .int 0, .int 0, .int ((-1)), .int 0, .ref qN, .int 0, .ref qR, .int 0, .int 0, .ref qC])), (qT, .inl (cT, 1000, .inl (f_12)))]) [0, 1] (by decide) rfl
  have hK9 := hK.sub (tys' := [(cT, .byte)]) [0] rfl
  exact W.vret hx hb hr (fun t ht hW => ⟨⟨(), rfl, trivial, f_12, by rw [ht]; exact hP9, va_K.moved hW.alike hK9, hD9⟩, hS.F ht⟩) hS.2.2 dX5_putOnTape_46
def wX5_putOnTape_16 : List Cond := .code yX5_putOnTape cX5_putOnTape 3 none :: ([.fieldLink RX5 36 "SkiShots" "tapeLength" "I", .fieldLink RX5 9 "SkiShots" "tape" "[B"] ++ wsX50)
set_option maxHeartbeats 4000000 in
set_option maxRecDepth 100000 in
theorem c_X5_putOnTape_16 (l : Launch) (dC : Nat → ClassId) (dI : Nat → Nat → Nat) (h0 : Nat) (qT : Nat) (qF : Nat) (qN : Nat) (qR : Nat) (qC : Nat) (cT : ClassId) (f : Nat → Int32) (p0 : Int32) (sz : Nat) : Met l yX5_putOnTape wX5_putOnTape_16 ({ frames := 0, cells := 0, slots := 0, locals := 0 }) (va_Pc [.ref h0, .int p0] (fun U => U.heap.size = sz ∧ va_P (dC, dI) vwCl [(h0, .inr (5, [.ref qT, .int 16, .ref qF, .int 0, .int 0, .int ((-1)), .int 0, .ref qN, .int 0, .ref qR, .int 0, .int 0, .ref qC])), (qT, .inl (cT, 1000, .inl (f)))] U.heap ∧ va_K (dC, dI) vwCl [(cT, .byte)] U ∧ va_D (fun _ => True) [(h0, .inr (5, [.ref qT, .int 16, .ref qF, .int 0, .int 0, .int ((-1)), .int 0, .ref qN, .int 0, .ref qR, .int 0, .int 0, .ref qC])), (qT, .inl (cT, 1000, .inl (f)))])) (va_Qv (fun (_ : Unit) => True) (fun _ t => ∃ (f2 : Nat → Int32), va_P (dC, dI) vwCl [(h0, .inr (5, [.ref qT, .int 20, .ref qF, .int 0, .int 0, .int ((-1)), .int 0, .ref qN, .int 0, .ref qR, .int 0, .int 0, .ref qC])), (qT, .inl (cT, 1000, .inl (f2)))] t.heap ∧ va_K (dC, dI) vwCl [(cT, .byte)] t ∧ va_D (va_A [(h0, .inr (5, [.ref qT, .int 16, .ref qF, .int 0, .int 0, .int ((-1)), .int 0, .ref qN, .int 0, .ref qR, .int 0, .int 0, .ref qC])), (qT, .inl (cT, 1000, .inl (f)))] sz) [(h0, .inr (5, [.ref qT, .int 20, .ref qF, .int 0, .int 0, .int ((-1)), .int 0, .ref qN, .int 0, .ref qR, .int 0, .int 0, .ref qC])), (qT, .inl (cT, 1000, .inl (f2)))]) (va_A [(h0, .inr (5, [.ref qT, .int 16, .ref qF, .int 0, .int 0, .int ((-1)), .int 0, .ref qN, .int 0, .ref qR, .int 0, .int 0, .ref qC])), (qT, .inl (cT, 1000, .inl (f)))] sz)) 0 0 (va_A [(h0, .inr (5, [.ref qT, .int 16, .ref qF, .int 0, .int 0, .int ((-1)), .int 0, .ref qN, .int 0, .ref qR, .int 0, .int 0, .ref qC])), (qT, .inl (cT, 1000, .inl (f)))] sz) := by
  refine Met.ofW (cc := cX5_putOnTape) (maxL := 3) (ret := none) (by decide) rfl ?_
  intro p e s m args below meth c s₁ B hml hv
  obtain ⟨rfl, hsz, hP, hK, hD0⟩ := hv
  have hx := B.exec
  have hb := B.bytes
  have hr := B.returns
  have hts := atoms_spec (ws := wX5_putOnTape_16) B.pre
  have hown : s.vm.findClass RX5 = some m.cls := findClass_of_methodNamed B.named
  have hlocks := B.notSynchronized
  have hin5 : ∀ w ∈ wsX50, w ∈ wX5_putOnTape_16 := by decide +kernel
  subst hsz
  have hD := hD0.self (sz := s.heap.size)
  generalize hAe : va_A [(h0, .inr (5, [.ref qT, .int 16, .ref qF, .int 0, .int 0, .int ((-1)), .int 0, .ref qN, .int 0, .ref qR, .int 0, .int 0, .ref qC])), (qT, .inl (cT, 1000, .inl (f)))] s.heap.size = A at hD ⊢
  have hA : ∀ q : Nat, s.heap.size ≤ q → A q := fun q h => by rw [← hAe]; exact Or.inr h
  have hS : va_S A s.heap s.heap [] := va_S.rf
  have hP : va_P (dC, dI) vwCl [(h0, .inr (5, [.ref qT, .int 16, .ref qF, .int 0, .int 0, .int ((-1)), .int 0, .ref qN, .int 0, .ref qR, .int 0, .int 0, .ref qC])), (qT, .inl (cT, 1000, .inl (f)))] s.heap := hP
  have hl := lv_entry ([.ref h0, .int p0]) (n := 3) (Nat.le_of_ble_eq_true rfl)
  rw [lg_entry_eq]
  generalize (lg_sl ([.ref h0, .int p0]) ++ List.replicate (3 - (lg_sl ([.ref h0, .int p0])).length) Slot.unset).toArray = ls at hl ⊢
  have hl : lv_has ls 3 [(0, .ref h0), (1, .int p0)] := hl
  refine lv_bipush (v := 24) hx hb dX5_putOnTape_0 (by decide) ?_
  refine lv_istore_n (lv' := [(2, .int 24), (0, .ref h0), (1, .int p0)]) hx hb dX5_putOnTape_2 rfl hl (by decide) rfl (fun ls hl => ?_)
  refine lv_iload_n hx hb dX5_putOnTape_3 rfl (lv_at hl 0 rfl) ?_
  refine lv_if_lt (tgt := 46) hx hb dX5_putOnTape_4 (by decide) (fun c_1 => absurd c_1 (by decide)) (fun c_1 => ?_)
  refine lv_aload_n hx hb dX5_putOnTape_7 rfl (lv_at hl 1 rfl) ?_
  refine va_get (D := (dC, dI)) (ci := 5) (v := .int 16) (C := RX5) (T := TX5) (N := 13) hx hb hts hin5 hown hK hP 0 rfl rfl 1 (by decide) (hts (.fieldLink RX5 36 "SkiShots" "tapeLength" "I") (by decide +kernel)) (fun _ h9 => h9) rfl dX5_putOnTape_8 ?_
  refine lv_sipush (v := 1000) hx hb dX5_putOnTape_11 (by decide) ?_
  refine lv_icmp_ge (tgt := 46) hx hb dX5_putOnTape_14 (by decide) (fun c_2 => absurd c_2 (by decide)) (fun c_2 => ?_)
  refine lv_aload_n hx hb dX5_putOnTape_17 rfl (lv_at hl 1 rfl) ?_
  refine va_get (D := (dC, dI)) (ci := 5) (v := .ref qT) (C := RX5) (T := TX5) (N := 13) hx hb hts hin5 hown hK hP 0 rfl rfl 0 (by decide) (hts (.fieldLink RX5 9 "SkiShots" "tape" "[B") (by decide +kernel)) (fun _ h9 => h9) rfl dX5_putOnTape_18 ?_
  refine lv_aload_n hx hb dX5_putOnTape_21 rfl (lv_at hl 1 rfl) ?_
  refine va_get (D := (dC, dI)) (ci := 5) (v := .int 16) (C := RX5) (T := TX5) (N := 13) hx hb hts hin5 hown hK hP 0 rfl rfl 1 (by decide) (hts (.fieldLink RX5 36 "SkiShots" "tapeLength" "I") (by decide +kernel)) (fun _ h9 => h9) rfl dX5_putOnTape_22 ?_
  refine lv_iload_n hx hb dX5_putOnTape_25 rfl (lv_at hl 2 rfl) ?_
  refine lv_iload_n hx hb dX5_putOnTape_26 rfl (lv_at hl 0 rfl) ?_
  refine lv_ishr hx hb dX5_putOnTape_27 ?_
  refine lv_i2b hx hb dX5_putOnTape_28 rfl ?_
  refine va_bast hx hb hK hP hD hS 1 0 rfl rfl (by unfold vp_in; decide) dX5_putOnTape_29 (fun H locs hP hD hS => ?_)
  obtain ⟨f_3, ef_3⟩ : ∃ g : Nat → Int32, g = upd (f) (Int32.toNatClampNeg 16) (vp_nar .byte ((p0 >>> (24 &&& 31)).toInt8.toInt32)) := ⟨_, rfl⟩
  have hP : va_P (dC, dI) vwCl [(h0, .inr (5, [.ref qT, .int 16, .ref qF, .int 0, .int 0, .int ((-1)), .int 0, .ref qN, .int 0, .ref qR, .int 0, .int 0, .ref qC])), (qT, .inl (cT, 1000, .inl (f_3)))] H := by rw [ef_3]; exact hP
  have hD : va_D A [(h0, .inr (5, [.ref qT, .int 16, .ref qF, .int 0, .int 0, .int ((-1)), .int 0, .ref qN, .int 0, .ref qR, .int 0, .int 0, .ref qC])), (qT, .inl (cT, 1000, .inl (f_3)))] := by rw [ef_3]; exact hD
  refine lv_aload_n hx hb dX5_putOnTape_30 rfl (lv_at hl 1 rfl) ?_
  refine lv_dup hx hb dX5_putOnTape_31 rfl ?_
  refine va_get (D := (dC, dI)) (ci := 5) (v := .int 16) (C := RX5) (T := TX5) (N := 13) hx hb hts hin5 hown hK hP 0 rfl rfl 1 (by decide) (hts (.fieldLink RX5 36 "SkiShots" "tapeLength" "I") (by decide +kernel)) (fun _ h9 => h9) rfl dX5_putOnTape_32 ?_
  refine lv_iconst (v := 1) hx hb dX5_putOnTape_35 (by decide) ?_
  refine lv_iadd hx hb dX5_putOnTape_36 ?_
  rw [show (16 + 1 : Int32) = 17 from by decide]
  refine va_put (D := (dC, dI)) (ci := 5) (v := .int 17) (ty := .int) (C := RX5) (T := TX5) (N := 13) hx hb hts hin5 tyX5 tyX5_ok nmX5 hown hK hP hD hS 0 rfl rfl 1 (by decide) (hts (.fieldLink RX5 36 "SkiShots" "tapeLength" "I") (by decide +kernel)) (fun _ h9 => h9) rfl (by decide +kernel) rfl rfl (Nat.le_of_ble_eq_true rfl) dX5_putOnTape_37 (fun H locs hP hD hS => ?_)
  have hP : va_P (dC, dI) vwCl [(h0, .inr (5, [.ref qT, .int 17, .ref qF, .int 0, .int 0, .int ((-1)), .int 0, .ref qN, .int 0, .ref qR, .int 0, .int 0, .ref qC])), (qT, .inl (cT, 1000, .inl (f_3)))] H := hP
  have hD : va_D A [(h0, .inr (5, [.ref qT, .int 17, .ref qF, .int 0, .int 0, .int ((-1)), .int 0, .ref qN, .int 0, .ref qR, .int 0, .int 0, .ref qC])), (qT, .inl (cT, 1000, .inl (f_3)))] := hD
  refine lv_iinc (v := 16) (lv' := [(2, .int 16), (0, .ref h0), (1, .int p0)]) hx hb dX5_putOnTape_40 hl (k := 0) rfl (by decide) (by decide) rfl (fun ls hl => ?_)
  refine lv_goto (tgt := 3) hx hb dX5_putOnTape_43 (by decide) ?_
  refine lv_iload_n hx hb dX5_putOnTape_3 rfl (lv_at hl 0 rfl) ?_
  refine lv_if_lt (tgt := 46) hx hb dX5_putOnTape_4 (by decide) (fun c_4 => absurd c_4 (by decide)) (fun c_4 => ?_)
  refine lv_aload_n hx hb dX5_putOnTape_7 rfl (lv_at hl 1 rfl) ?_
  refine va_get (D := (dC, dI)) (ci := 5) (v := .int 17) (C := RX5) (T := TX5) (N := 13) hx hb hts hin5 hown hK hP 0 rfl rfl 1 (by decide) (hts (.fieldLink RX5 36 "SkiShots" "tapeLength" "I") (by decide +kernel)) (fun _ h9 => h9) rfl dX5_putOnTape_8 ?_
  refine lv_sipush (v := 1000) hx hb dX5_putOnTape_11 (by decide) ?_
  refine lv_icmp_ge (tgt := 46) hx hb dX5_putOnTape_14 (by decide) (fun c_5 => absurd c_5 (by decide)) (fun c_5 => ?_)
  refine lv_aload_n hx hb dX5_putOnTape_17 rfl (lv_at hl 1 rfl) ?_
  refine va_get (D := (dC, dI)) (ci := 5) (v := .ref qT) (C := RX5) (T := TX5) (N := 13) hx hb hts hin5 hown hK hP 0 rfl rfl 0 (by decide) (hts (.fieldLink RX5 9 "SkiShots" "tape" "[B") (by decide +kernel)) (fun _ h9 => h9) rfl dX5_putOnTape_18 ?_
  refine lv_aload_n hx hb dX5_putOnTape_21 rfl (lv_at hl 1 rfl) ?_
  refine va_get (D := (dC, dI)) (ci := 5) (v := .int 17) (C := RX5) (T := TX5) (N := 13) hx hb hts hin5 hown hK hP 0 rfl rfl 1 (by decide) (hts (.fieldLink RX5 36 "SkiShots" "tapeLength" "I") (by decide +kernel)) (fun _ h9 => h9) rfl dX5_putOnTape_22 ?_
  refine lv_iload_n hx hb dX5_putOnTape_25 rfl (lv_at hl 2 rfl) ?_
  refine lv_iload_n hx hb dX5_putOnTape_26 rfl (lv_at hl 0 rfl) ?_
  refine lv_ishr hx hb dX5_putOnTape_27 ?_
  refine lv_i2b hx hb dX5_putOnTape_28 rfl ?_
  refine va_bast hx hb hK hP hD hS 1 0 rfl rfl (by unfold vp_in; decide) dX5_putOnTape_29 (fun H locs hP hD hS => ?_)
  obtain ⟨f_6, ef_6⟩ : ∃ g : Nat → Int32, g = upd (f_3) (Int32.toNatClampNeg 17) (vp_nar .byte ((p0 >>> (16 &&& 31)).toInt8.toInt32)) := ⟨_, rfl⟩
  have hP : va_P (dC, dI) vwCl [(h0, .inr (5, [.ref qT, .int 17, .ref qF, .int 0, .int 0, .int ((-1)), .int 0, .ref qN, .int 0, .ref qR, .int 0, .int 0, .ref qC])), (qT, .inl (cT, 1000, .inl (f_6)))] H := by rw [ef_6]; exact hP
  have hD : va_D A [(h0, .inr (5, [.ref qT, .int 17, .ref qF, .int 0, .int 0, .int ((-1)), .int 0, .ref qN, .int 0, .ref qR, .int 0, .int 0, .ref qC])), (qT, .inl (cT, 1000, .inl (f_6)))] := by rw [ef_6]; exact hD
  refine lv_aload_n hx hb dX5_putOnTape_30 rfl (lv_at hl 1 rfl) ?_
  refine lv_dup hx hb dX5_putOnTape_31 rfl ?_
  refine va_get (D := (dC, dI)) (ci := 5) (v := .int 17) (C := RX5) (T := TX5) (N := 13) hx hb hts hin5 hown hK hP 0 rfl rfl 1 (by decide) (hts (.fieldLink RX5 36 "SkiShots" "tapeLength" "I") (by decide +kernel)) (fun _ h9 => h9) rfl dX5_putOnTape_32 ?_
  refine lv_iconst (v := 1) hx hb dX5_putOnTape_35 (by decide) ?_
  refine lv_iadd hx hb dX5_putOnTape_36 ?_
  rw [show (17 + 1 : Int32) = 18 from by decide]
  refine va_put (D := (dC, dI)) (ci := 5) (v := .int 18) (ty := .int) (C := RX5) (T := TX5) (N := 13) hx hb hts hin5 tyX5 tyX5_ok nmX5 hown hK hP hD hS 0 rfl rfl 1 (by decide) (hts (.fieldLink RX5 36 "SkiShots" "tapeLength" "I") (by decide +kernel)) (fun _ h9 => h9) rfl (by decide +kernel) rfl rfl (Nat.le_of_ble_eq_true rfl) dX5_putOnTape_37 (fun H locs hP hD hS => ?_)
  have hP : va_P (dC, dI) vwCl [(h0, .inr (5, [.ref qT, .int 18, .ref qF, .int 0, .int 0, .int ((-1)), .int 0, .ref qN, .int 0, .ref qR, .int 0, .int 0, .ref qC])), (qT, .inl (cT, 1000, .inl (f_6)))] H := hP
  have hD : va_D A [(h0, .inr (5, [.ref qT, .int 18, .ref qF, .int 0, .int 0, .int ((-1)), .int 0, .ref qN, .int 0, .ref qR, .int 0, .int 0, .ref qC])), (qT, .inl (cT, 1000, .inl (f_6)))] := hD
  refine lv_iinc (v := 8) (lv' := [(2, .int 8), (0, .ref h0), (1, .int p0)]) hx hb dX5_putOnTape_40 hl (k := 0) rfl (by decide) (by decide) rfl (fun ls hl => ?_)
  refine lv_goto (tgt := 3) hx hb dX5_putOnTape_43 (by decide) ?_
  refine lv_iload_n hx hb dX5_putOnTape_3 rfl (lv_at hl 0 rfl) ?_
  refine lv_if_lt (tgt := 46) hx hb dX5_putOnTape_4 (by decide) (fun c_7 => absurd c_7 (by decide)) (fun c_7 => ?_)
  refine lv_aload_n hx hb dX5_putOnTape_7 rfl (lv_at hl 1 rfl) ?_
  refine va_get (D := (dC, dI)) (ci := 5) (v := .int 18) (C := RX5) (T := TX5) (N := 13) hx hb hts hin5 hown hK hP 0 rfl rfl 1 (by decide) (hts (.fieldLink RX5 36 "SkiShots" "tapeLength" "I") (by decide +kernel)) (fun _ h9 => h9) rfl dX5_putOnTape_8 ?_
  refine lv_sipush (v := 1000) hx hb dX5_putOnTape_11 (by decide) ?_
  refine lv_icmp_ge (tgt := 46) hx hb dX5_putOnTape_14 (by decide) (fun c_8 => absurd c_8 (by decide)) (fun c_8 => ?_)
  refine lv_aload_n hx hb dX5_putOnTape_17 rfl (lv_at hl 1 rfl) ?_
  refine va_get (D := (dC, dI)) (ci := 5) (v := .ref qT) (C := RX5) (T := TX5) (N := 13) hx hb hts hin5 hown hK hP 0 rfl rfl 0 (by decide) (hts (.fieldLink RX5 9 "SkiShots" "tape" "[B") (by decide +kernel)) (fun _ h9 => h9) rfl dX5_putOnTape_18 ?_
  refine lv_aload_n hx hb dX5_putOnTape_21 rfl (lv_at hl 1 rfl) ?_
  refine va_get (D := (dC, dI)) (ci := 5) (v := .int 18) (C := RX5) (T := TX5) (N := 13) hx hb hts hin5 hown hK hP 0 rfl rfl 1 (by decide) (hts (.fieldLink RX5 36 "SkiShots" "tapeLength" "I") (by decide +kernel)) (fun _ h9 => h9) rfl dX5_putOnTape_22 ?_
  refine lv_iload_n hx hb dX5_putOnTape_25 rfl (lv_at hl 2 rfl) ?_
  refine lv_iload_n hx hb dX5_putOnTape_26 rfl (lv_at hl 0 rfl) ?_
  refine lv_ishr hx hb dX5_putOnTape_27 ?_
  refine lv_i2b hx hb dX5_putOnTape_28 rfl ?_
  refine va_bast hx hb hK hP hD hS 1 0 rfl rfl (by unfold vp_in; decide) dX5_putOnTape_29 (fun H locs hP hD hS => ?_)
  obtain ⟨f_9, ef_9⟩ : ∃ g : Nat → Int32, g = upd (f_6) (Int32.toNatClampNeg 18) (vp_nar .byte ((p0 >>> (8 &&& 31)).toInt8.toInt32)) := ⟨_, rfl⟩
  have hP : va_P (dC, dI) vwCl [(h0, .inr (5, [.ref qT, .int 18, .ref qF, .int 0, .int 0, .int ((-1)), .int 0, .ref qN, .int 0, .ref qR, .int 0, .int 0, .ref qC])), (qT, .inl (cT, 1000, .inl (f_9)))] H := by rw [ef_9]; exact hP
  have hD : va_D A [(h0, .inr (5, [.ref qT, .int 18, .ref qF, .int 0, .int 0, .int ((-1)), .int 0, .ref qN, .int 0, .ref qR, .int 0, .int 0, .ref qC])), (qT, .inl (cT, 1000, .inl (f_9)))] := by rw [ef_9]; exact hD
  refine lv_aload_n hx hb dX5_putOnTape_30 rfl (lv_at hl 1 rfl) ?_
  refine lv_dup hx hb dX5_putOnTape_31 rfl ?_
  refine va_get (D := (dC, dI)) (ci := 5) (v := .int 18) (C := RX5) (T := TX5) (N := 13) hx hb hts hin5 hown hK hP 0 rfl rfl 1 (by decide) (hts (.fieldLink RX5 36 "SkiShots" "tapeLength" "I") (by decide +kernel)) (fun _ h9 => h9) rfl dX5_putOnTape_32 ?_
  refine lv_iconst (v := 1) hx hb dX5_putOnTape_35 (by decide) ?_
  refine lv_iadd hx hb dX5_putOnTape_36 ?_
  rw [show (18 + 1 : Int32) = 19 from by decide]
  refine va_put (D := (dC, dI)) (ci := 5) (v := .int 19) (ty := .int) (C := RX5) (T := TX5) (N := 13) hx hb hts hin5 tyX5 tyX5_ok nmX5 hown hK hP hD hS 0 rfl rfl 1 (by decide) (hts (.fieldLink RX5 36 "SkiShots" "tapeLength" "I") (by decide +kernel)) (fun _ h9 => h9) rfl (by decide +kernel) rfl rfl (Nat.le_of_ble_eq_true rfl) dX5_putOnTape_37 (fun H locs hP hD hS => ?_)
  have hP : va_P (dC, dI) vwCl [(h0, .inr (5, [.ref qT, .int 19, .ref qF, .int 0, .int 0, .int ((-1)), .int 0, .ref qN, .int 0, .ref qR, .int 0, .int 0, .ref qC])), (qT, .inl (cT, 1000, .inl (f_9)))] H := hP
  have hD : va_D A [(h0, .inr (5, [.ref qT, .int 19, .ref qF, .int 0, .int 0, .int ((-1)), .int 0, .ref qN, .int 0, .ref qR, .int 0, .int 0, .ref qC])), (qT, .inl (cT, 1000, .inl (f_9)))] := hD
  refine lv_iinc (v := 0) (lv' := [(2, .int 0), (0, .ref h0), (1, .int p0)]) hx hb dX5_putOnTape_40 hl (k := 0) rfl (by decide) (by decide) rfl (fun ls hl => ?_)
  refine lv_goto (tgt := 3) hx hb dX5_putOnTape_43 (by decide) ?_
  refine lv_iload_n hx hb dX5_putOnTape_3 rfl (lv_at hl 0 rfl) ?_
  refine lv_if_lt (tgt := 46) hx hb dX5_putOnTape_4 (by decide) (fun c_10 => absurd c_10 (by decide)) (fun c_10 => ?_)
  refine lv_aload_n hx hb dX5_putOnTape_7 rfl (lv_at hl 1 rfl) ?_
  refine va_get (D := (dC, dI)) (ci := 5) (v := .int 19) (C := RX5) (T := TX5) (N := 13) hx hb hts hin5 hown hK hP 0 rfl rfl 1 (by decide) (hts (.fieldLink RX5 36 "SkiShots" "tapeLength" "I") (by decide +kernel)) (fun _ h9 => h9) rfl dX5_putOnTape_8 ?_
  refine lv_sipush (v := 1000) hx hb dX5_putOnTape_11 (by decide) ?_
  refine lv_icmp_ge (tgt := 46) hx hb dX5_putOnTape_14 (by decide) (fun c_11 => absurd c_11 (by decide)) (fun c_11 => ?_)
  refine lv_aload_n hx hb dX5_putOnTape_17 rfl (lv_at hl 1 rfl) ?_
  refine va_get (D := (dC, dI)) (ci := 5) (v := .ref qT) (C := RX5) (T := TX5) (N := 13) hx hb hts hin5 hown hK hP 0 rfl rfl 0 (by decide) (hts (.fieldLink RX5 9 "SkiShots" "tape" "[B") (by decide +kernel)) (fun _ h9 => h9) rfl dX5_putOnTape_18 ?_
  refine lv_aload_n hx hb dX5_putOnTape_21 rfl (lv_at hl 1 rfl) ?_
  refine va_get (D := (dC, dI)) (ci := 5) (v := .int 19) (C := RX5) (T := TX5) (N := 13) hx hb hts hin5 hown hK hP 0 rfl rfl 1 (by decide) (hts (.fieldLink RX5 36 "SkiShots" "tapeLength" "I") (by decide +kernel)) (fun _ h9 => h9) rfl dX5_putOnTape_22 ?_
  refine lv_iload_n hx hb dX5_putOnTape_25 rfl (lv_at hl 2 rfl) ?_
  refine lv_iload_n hx hb dX5_putOnTape_26 rfl (lv_at hl 0 rfl) ?_
  refine lv_ishr hx hb dX5_putOnTape_27 ?_
  refine lv_i2b hx hb dX5_putOnTape_28 rfl ?_
  refine va_bast hx hb hK hP hD hS 1 0 rfl rfl (by unfold vp_in; decide) dX5_putOnTape_29 (fun H locs hP hD hS => ?_)
  obtain ⟨f_12, ef_12⟩ : ∃ g : Nat → Int32, g = upd (f_9) (Int32.toNatClampNeg 19) (vp_nar .byte ((p0 >>> (0 &&& 31)).toInt8.toInt32)) := ⟨_, rfl⟩
  have hP : va_P (dC, dI) vwCl [(h0, .inr (5, [.ref qT, .int 19, .ref qF, .int 0, .int 0, .int ((-1)), .int 0, .ref qN, .int 0, .ref qR, .int 0, .int 0, .ref qC])), (qT, .inl (cT, 1000, .inl (f_12)))] H := by rw [ef_12]; exact hP
  have hD : va_D A [(h0, .inr (5, [.ref qT, .int 19, .ref qF, .int 0, .int 0, .int ((-1)), .int 0, .ref qN, .int 0, .ref qR, .int 0, .int 0, .ref qC])), (qT, .inl (cT, 1000, .inl (f_12)))] := by rw [ef_12]; exact hD
  refine lv_aload_n hx hb dX5_putOnTape_30 rfl (lv_at hl 1 rfl) ?_
  refine lv_dup hx hb dX5_putOnTape_31 rfl ?_
  refine va_get (D := (dC, dI)) (ci := 5) (v := .int 19) (C := RX5) (T := TX5) (N := 13) hx hb hts hin5 hown hK hP 0 rfl rfl 1 (by decide) (hts (.fieldLink RX5 36 "SkiShots" "tapeLength" "I") (by decide +kernel)) (fun _ h9 => h9) rfl dX5_putOnTape_32 ?_
  refine lv_iconst (v := 1) hx hb dX5_putOnTape_35 (by decide) ?_
  refine lv_iadd hx hb dX5_putOnTape_36 ?_
  rw [show (19 + 1 : Int32) = 20 from by decide]
  refine va_put (D := (dC, dI)) (ci := 5) (v := .int 20) (ty := .int) (C := RX5) (T := TX5) (N := 13) hx hb hts hin5 tyX5 tyX5_ok nmX5 hown hK hP hD hS 0 rfl rfl 1 (by decide) (hts (.fieldLink RX5 36 "SkiShots" "tapeLength" "I") (by decide +kernel)) (fun _ h9 => h9) rfl (by decide +kernel) rfl rfl (Nat.le_of_ble_eq_true rfl) dX5_putOnTape_37 (fun H locs hP hD hS => ?_)
  have hP : va_P (dC, dI) vwCl [(h0, .inr (5, [.ref qT, .int 20, .ref qF, .int 0, .int 0, .int ((-1)), .int 0, .ref qN, .int 0, .ref qR, .int 0, .int 0, .ref qC])), (qT, .inl (cT, 1000, .inl (f_12)))] H := hP
  have hD : va_D A [(h0, .inr (5, [.ref qT, .int 20, .ref qF, .int 0, .int 0, .int ((-1)), .int 0, .ref qN, .int 0, .ref qR, .int 0, .int 0, .ref qC])), (qT, .inl (cT, 1000, .inl (f_12)))] := hD
  refine lv_iinc (v := (-8)) (lv' := [(2, .int ((-8))), (0, .ref h0), (1, .int p0)]) hx hb dX5_putOnTape_40 hl (k := 0) rfl (by decide) (by decide) rfl (fun ls hl => ?_)
  refine lv_goto (tgt := 3) hx hb dX5_putOnTape_43 (by decide) ?_
  refine lv_iload_n hx hb dX5_putOnTape_3 rfl (lv_at hl 0 rfl) ?_
  refine lv_if_lt (tgt := 46) hx hb dX5_putOnTape_4 (by decide) (fun c_13 => ?_) (fun c_13 => absurd (by decide) c_13)
  have hP9 := hP.sub (ws' := [(h0, .inr (5, [.ref qT, .int 20, .ref qF, .int 0, .int 0, .int ((-1)), .int 0, .ref qN, .int 0, .ref qR, .int 0, .int 0, .ref qC])), (qT, .inl (cT, 1000, .inl (f_12)))]) [0, 1] rfl
  have hD9 := hD.sub (ws' := [(h0, .inr (5, [.ref qT, .int 20, .ref qF, .int 0, .int 0, .int ((-1)), .int 0, .ref qN, .int 0, .ref qR, .int 0, .int 0, .ref qC])), (qT, .inl (cT, 1000, .inl (f_12)))]) [0, 1] (by decide) rfl
  have hK9 := hK.sub (tys' := [(cT, .byte)]) [0] rfl
  exact W.vret hx hb hr (fun t ht hW => ⟨⟨(), rfl, trivial, f_12, by rw [ht]; exact hP9, va_K.moved hW.alike hK9, hD9⟩, hS.F ht⟩) hS.2.2 dX5_putOnTape_46
def wX5_feed : List Cond := .code yX5_feed cX5_feed 6 (some .int) :: ([.fieldLink RX5 36 "SkiShots" "tapeLength" "I", .methodLink RX5 39 yX5_putOnTape, .instanceMethod yX5_putOnTape, .selects RX5 yX5_putOnTape yX5_putOnTape, .initialized RX5, .code yX5_putOnTape cX5_putOnTape 3 none, .fieldLink RX5 9 "SkiShots" "tape" "[B"] ++ wsX50)
set_option maxRecDepth 20000 in
theorem gX5_feed_c_X5_putOnTape_0_3 : GoodIn wX5_feed (wsV RX5 39 RX5 yX5_putOnTape wX5_putOnTape_0) := goodIn_p _ [6] rfl (by decide +kernel)
set_option maxRecDepth 20000 in
theorem gX5_feed_c_X5_putOnTape_4_7 : GoodIn wX5_feed (wsV RX5 39 RX5 yX5_putOnTape wX5_putOnTape_4) := goodIn_p _ [6] rfl (by decide +kernel)
set_option maxRecDepth 20000 in
theorem gX5_feed_c_X5_putOnTape_8_11 : GoodIn wX5_feed (wsV RX5 39 RX5 yX5_putOnTape wX5_putOnTape_8) := goodIn_p _ [6] rfl (by decide +kernel)
set_option maxRecDepth 20000 in
theorem gX5_feed_c_X5_putOnTape_12_15 : GoodIn wX5_feed (wsV RX5 39 RX5 yX5_putOnTape wX5_putOnTape_12) := goodIn_p _ [6] rfl (by decide +kernel)
set_option maxRecDepth 20000 in
theorem gX5_feed_c_X5_putOnTape_16_19 : GoodIn wX5_feed (wsV RX5 39 RX5 yX5_putOnTape wX5_putOnTape_16) := goodIn_p _ [6] rfl (by decide +kernel)
set_option maxHeartbeats 4000000 in
set_option maxRecDepth 100000 in
theorem c_X5_feed (l : Launch) (dC : Nat → ClassId) (dI : Nat → Nat → Nat) (h0 : Nat) (qT : Nat) (qF : Nat) (qN : Nat) (qR : Nat) (qC : Nat) (cT : ClassId) (f : Nat → Int32) (p0 : Int32) (p1 : Int32) (p2 : Int32) (p3 : Int32) (p4 : Int32) (sz : Nat) : Met l yX5_feed wX5_feed ({ frames := 1, cells := 0, slots := 0, locals := 22 }) (va_Pc [.ref h0, .int p0, .int p1, .int p2, .int p3, .int p4] (fun U => U.heap.size = sz ∧ va_P (dC, dI) vwCl [(h0, .inr (5, [.ref qT, .int 0, .ref qF, .int 0, .int 0, .int ((-1)), .int 0, .ref qN, .int 0, .ref qR, .int 0, .int 0, .ref qC])), (qT, .inl (cT, 1000, .inl (f)))] U.heap ∧ va_K (dC, dI) vwCl [(cT, .byte)] U ∧ va_D (fun _ => True) [(h0, .inr (5, [.ref qT, .int 0, .ref qF, .int 0, .int 0, .int ((-1)), .int 0, .ref qN, .int 0, .ref qR, .int 0, .int 0, .ref qC])), (qT, .inl (cT, 1000, .inl (f)))])) (va_Qi (fun (r : Int32) (_ : Unit) => r = 20) (fun _ t => True) (va_A [(h0, .inr (5, [.ref qT, .int 0, .ref qF, .int 0, .int 0, .int ((-1)), .int 0, .ref qN, .int 0, .ref qR, .int 0, .int 0, .ref qC])), (qT, .inl (cT, 1000, .inl (f)))] sz)) 0 0 (va_A [(h0, .inr (5, [.ref qT, .int 0, .ref qF, .int 0, .int 0, .int ((-1)), .int 0, .ref qN, .int 0, .ref qR, .int 0, .int 0, .ref qC])), (qT, .inl (cT, 1000, .inl (f)))] sz) := by
  refine Met.ofW (cc := cX5_feed) (maxL := 6) (ret := (some .int)) (by decide) rfl ?_
  intro p e s m args below meth c s₁ B hml hv
  obtain ⟨rfl, hsz, hP, hK, hD0⟩ := hv
  have hx := B.exec
  have hb := B.bytes
  have hr := B.returns
  have hts := atoms_spec (ws := wX5_feed) B.pre
  have hown : s.vm.findClass RX5 = some m.cls := findClass_of_methodNamed B.named
  have hlocks := B.notSynchronized
  have hin5 : ∀ w ∈ wsX50, w ∈ wX5_feed := by decide +kernel
  subst hsz
  have hD := hD0.self (sz := s.heap.size)
  generalize hAe : va_A [(h0, .inr (5, [.ref qT, .int 0, .ref qF, .int 0, .int 0, .int ((-1)), .int 0, .ref qN, .int 0, .ref qR, .int 0, .int 0, .ref qC])), (qT, .inl (cT, 1000, .inl (f)))] s.heap.size = A at hD ⊢
  have hA : ∀ q : Nat, s.heap.size ≤ q → A q := fun q h => by rw [← hAe]; exact Or.inr h
  have hS : va_S A s.heap s.heap [] := va_S.rf
  have hP : va_P (dC, dI) vwCl [(h0, .inr (5, [.ref qT, .int 0, .ref qF, .int 0, .int 0, .int ((-1)), .int 0, .ref qN, .int 0, .ref qR, .int 0, .int 0, .ref qC])), (qT, .inl (cT, 1000, .inl (f)))] s.heap := hP
  have hl := lv_entry ([.ref h0, .int p0, .int p1, .int p2, .int p3, .int p4]) (n := 6) (Nat.le_of_ble_eq_true rfl)
  rw [lg_entry_eq]
  generalize (lg_sl ([.ref h0, .int p0, .int p1, .int p2, .int p3, .int p4]) ++ List.replicate (6 - (lg_sl ([.ref h0, .int p0, .int p1, .int p2, .int p3, .int p4])).length) Slot.unset).toArray = ls at hl ⊢
  have hl : lv_has ls 6 [(0, .ref h0), (1, .int p0), (2, .int p1), (3, .int p2), (4, .int p3), (5, .int p4)] := hl
  refine lv_aload_n hx hb dX5_feed_0 rfl (lv_at hl 0 rfl) ?_
  refine va_get (D := (dC, dI)) (ci := 5) (v := .int 0) (C := RX5) (T := TX5) (N := 13) hx hb hts hin5 hown hK hP 0 rfl rfl 1 (by decide) (hts (.fieldLink RX5 36 "SkiShots" "tapeLength" "I") (by decide +kernel)) (fun _ h9 => h9) rfl dX5_feed_1 ?_
  refine lv_bipush (v := 20) hx hb dX5_feed_4 (by decide) ?_
  refine lv_iadd hx hb dX5_feed_6 ?_
  rw [show (0 + 20 : Int32) = 20 from by decide]
  refine lv_sipush (v := 1000) hx hb dX5_feed_7 (by decide) ?_
  refine lv_icmp_le (tgt := 15) hx hb dX5_feed_10 (by decide) (fun c_1 => ?_) (fun c_1 => absurd (by decide) c_1)
  refine lv_aload_n hx hb dX5_feed_15 rfl (lv_at hl 0 rfl) ?_
  refine lv_iload_n hx hb dX5_feed_16 rfl (lv_at hl 1 rfl) ?_
  have hPc := hP.sub (ws' := [(h0, .inr (5, [.ref qT, .int 0, .ref qF, .int 0, .int 0, .int ((-1)), .int 0, .ref qN, .int 0, .ref qR, .int 0, .int 0, .ref qC])), (qT, .inl (cT, 1000, .inl (f)))]) [0, 1] rfl
  have hDc := hD.sub (ws' := [(h0, .inr (5, [.ref qT, .int 0, .ref qF, .int 0, .int 0, .int ((-1)), .int 0, .ref qN, .int 0, .ref qR, .int 0, .int 0, .ref qC])), (qT, .inl (cT, 1000, .inl (f)))]) [0, 1] (by decide) rfl
  have hKc := hK.sub (tys' := [(cT, .byte)]) [0] rfl
  have hFc := va_free (wc := [(h0, .inr (5, [.ref qT, .int 0, .ref qF, .int 0, .int 0, .int ((-1)), .int 0, .ref qN, .int 0, .ref qR, .int 0, .int 0, .ref qC])), (qT, .inl (cT, 1000, .inl (f)))]) hD hS hA [0, 1] rfl
  refine va_callv (va_runV (As := [.int p0]) (rest := []) ⟨hx, hb, hml, hown, hts⟩ (c_X5_putOnTape_0 l dC dI h0 qT qF qN qR qC cT (f) p0 s.heap.size) (cwV 1 hts gX5_feed_c_X5_putOnTape_0_3 rfl rfl rfl (by decide +kernel) ⟨Nat.le_of_ble_eq_true rfl, Nat.le_of_ble_eq_true rfl⟩) ⟨fun a U g mk q => by obtain ⟨q0, q1, qP, qK, qD⟩ := q; exact ⟨q0, q1, qP, va_K.moved (u := U) (U := U.calling g mk a) (Vm.Alike.refl U.vm) qK, qD⟩, va_recv hKc hPc (ci := 5) (q0 := 0) rfl rfl, fun U hU hW => ⟨rfl, by rw [hU], by rw [hU]; exact hPc, va_K.moved hW.alike hKc, hDc.weaken (fun _ _ _ _ => trivial)⟩⟩ rfl rfl hl.1 rfl (lv_room (Nat.le_of_ble_eq_true rfl)) dX5_feed_17 ⟨show (0 + 0 : Nat) ≤ 0 from by omega, show (0 + 0 : Nat) ≤ 0 from by omega⟩) hS (fun q _ h => hFc q h) hFc (fun u t H1 locs ht hvm hw hB hz1 hk1 hS => ?_)
  obtain ⟨f2_4, hP1, hK1, hD1⟩ := hB
  rw [ht] at hP1
  have hK1 := va_K.moved hvm.symm hK1
  try dsimp only at hw
  obtain ⟨hP, hD⟩ := va_join (wr := []) (w1 := [(h0, .inr (5, [.ref qT, .int 4, .ref qF, .int 0, .int 0, .int ((-1)), .int 0, .ref qN, .int 0, .ref qR, .int 0, .int 0, .ref qC])), (qT, .inl (cT, 1000, .inl (f2_4)))]) hP hD [0, 1] [] rfl rfl (by decide) (by decide) hk1 hFc hP1 hD1
  generalize H1 = H at hP hS ⊢
  have hP : va_P (dC, dI) vwCl [(h0, .inr (5, [.ref qT, .int 4, .ref qF, .int 0, .int 0, .int ((-1)), .int 0, .ref qN, .int 0, .ref qR, .int 0, .int 0, .ref qC])), (qT, .inl (cT, 1000, .inl (f2_4)))] H := hP
  have hD : va_D A [(h0, .inr (5, [.ref qT, .int 4, .ref qF, .int 0, .int 0, .int ((-1)), .int 0, .ref qN, .int 0, .ref qR, .int 0, .int 0, .ref qC])), (qT, .inl (cT, 1000, .inl (f2_4)))] := hD
  have hw_5 := hw
  refine lv_aload_n hx hb dX5_feed_20 rfl (lv_at hl 0 rfl) ?_
  refine lv_iload_n hx hb dX5_feed_21 rfl (lv_at hl 2 rfl) ?_
  have hPc := hP.sub (ws' := [(h0, .inr (5, [.ref qT, .int 4, .ref qF, .int 0, .int 0, .int ((-1)), .int 0, .ref qN, .int 0, .ref qR, .int 0, .int 0, .ref qC])), (qT, .inl (cT, 1000, .inl (f2_4)))]) [0, 1] rfl
  have hDc := hD.sub (ws' := [(h0, .inr (5, [.ref qT, .int 4, .ref qF, .int 0, .int 0, .int ((-1)), .int 0, .ref qN, .int 0, .ref qR, .int 0, .int 0, .ref qC])), (qT, .inl (cT, 1000, .inl (f2_4)))]) [0, 1] (by decide) rfl
  have hKc := hK.sub (tys' := [(cT, .byte)]) [0] rfl
  have hFc := va_free (wc := [(h0, .inr (5, [.ref qT, .int 4, .ref qF, .int 0, .int 0, .int ((-1)), .int 0, .ref qN, .int 0, .ref qR, .int 0, .int 0, .ref qC])), (qT, .inl (cT, 1000, .inl (f2_4)))]) hD hS hA [0, 1] rfl
  refine va_callv (va_runV (As := [.int p1]) (rest := []) ⟨hx, hb, hml, hown, hts⟩ (c_X5_putOnTape_4 l dC dI h0 qT qF qN qR qC cT (f2_4) p1 H.size) (cwV 1 hts gX5_feed_c_X5_putOnTape_4_7 rfl rfl rfl (by decide +kernel) ⟨Nat.le_of_ble_eq_true rfl, Nat.le_of_ble_eq_true rfl⟩) ⟨fun a U g mk q => by obtain ⟨q0, q1, qP, qK, qD⟩ := q; exact ⟨q0, q1, qP, va_K.moved (u := U) (U := U.calling g mk a) (Vm.Alike.refl U.vm) qK, qD⟩, va_recv hKc hPc (ci := 5) (q0 := 0) rfl rfl, fun U hU hW => ⟨rfl, by rw [hU], by rw [hU]; exact hPc, va_K.moved hW.alike hKc, hDc.weaken (fun _ _ _ _ => trivial)⟩⟩ rfl rfl hl.1 rfl (lv_room (Nat.le_of_ble_eq_true rfl)) dX5_feed_22 ⟨show (0 + 0 : Nat) ≤ 0 from by omega, show (0 + 0 : Nat) ≤ 0 from by omega⟩) hS (fun q _ h => hFc q h) hFc (fun u t H1 locs ht hvm hw hB hz1 hk1 hS => ?_)
  obtain ⟨f2_8, hP1, hK1, hD1⟩ := hB
  rw [ht] at hP1
  have hK1 := va_K.moved hvm.symm hK1
  try dsimp only at hw
  obtain ⟨hP, hD⟩ := va_join (wr := []) (w1 := [(h0, .inr (5, [.ref qT, .int 8, .ref qF, .int 0, .int 0, .int ((-1)), .int 0, .ref qN, .int 0, .ref qR, .int 0, .int 0, .ref qC])), (qT, .inl (cT, 1000, .inl (f2_8)))]) hP hD [0, 1] [] rfl rfl (by decide) (by decide) hk1 hFc hP1 hD1
  generalize H1 = H at hP hS ⊢
  have hP : va_P (dC, dI) vwCl [(h0, .inr (5, [.ref qT, .int 8, .ref qF, .int 0, .int 0, .int ((-1)), .int 0, .ref qN, .int 0, .ref qR, .int 0, .int 0, .ref qC])), (qT, .inl (cT, 1000, .inl (f2_8)))] H := hP
  have hD : va_D A [(h0, .inr (5, [.ref qT, .int 8, .ref qF, .int 0, .int 0, .int ((-1)), .int 0, .ref qN, .int 0, .ref qR, .int 0, .int 0, .ref qC])), (qT, .inl (cT, 1000, .inl (f2_8)))] := hD
  have hw_9 := hw
  refine lv_aload_n hx hb dX5_feed_25 rfl (lv_at hl 0 rfl) ?_
  refine lv_iload_n hx hb dX5_feed_26 rfl (lv_at hl 3 rfl) ?_
  have hPc := hP.sub (ws' := [(h0, .inr (5, [.ref qT, .int 8, .ref qF, .int 0, .int 0, .int ((-1)), .int 0, .ref qN, .int 0, .ref qR, .int 0, .int 0, .ref qC])), (qT, .inl (cT, 1000, .inl (f2_8)))]) [0, 1] rfl
  have hDc := hD.sub (ws' := [(h0, .inr (5, [.ref qT, .int 8, .ref qF, .int 0, .int 0, .int ((-1)), .int 0, .ref qN, .int 0, .ref qR, .int 0, .int 0, .ref qC])), (qT, .inl (cT, 1000, .inl (f2_8)))]) [0, 1] (by decide) rfl
  have hKc := hK.sub (tys' := [(cT, .byte)]) [0] rfl
  have hFc := va_free (wc := [(h0, .inr (5, [.ref qT, .int 8, .ref qF, .int 0, .int 0, .int ((-1)), .int 0, .ref qN, .int 0, .ref qR, .int 0, .int 0, .ref qC])), (qT, .inl (cT, 1000, .inl (f2_8)))]) hD hS hA [0, 1] rfl
  refine va_callv (va_runV (As := [.int p2]) (rest := []) ⟨hx, hb, hml, hown, hts⟩ (c_X5_putOnTape_8 l dC dI h0 qT qF qN qR qC cT (f2_8) p2 H.size) (cwV 1 hts gX5_feed_c_X5_putOnTape_8_11 rfl rfl rfl (by decide +kernel) ⟨Nat.le_of_ble_eq_true rfl, Nat.le_of_ble_eq_true rfl⟩) ⟨fun a U g mk q => by obtain ⟨q0, q1, qP, qK, qD⟩ := q; exact ⟨q0, q1, qP, va_K.moved (u := U) (U := U.calling g mk a) (Vm.Alike.refl U.vm) qK, qD⟩, va_recv hKc hPc (ci := 5) (q0 := 0) rfl rfl, fun U hU hW => ⟨rfl, by rw [hU], by rw [hU]; exact hPc, va_K.moved hW.alike hKc, hDc.weaken (fun _ _ _ _ => trivial)⟩⟩ rfl rfl hl.1 rfl (lv_room (Nat.le_of_ble_eq_true rfl)) dX5_feed_27 ⟨show (0 + 0 : Nat) ≤ 0 from by omega, show (0 + 0 : Nat) ≤ 0 from by omega⟩) hS (fun q _ h => hFc q h) hFc (fun u t H1 locs ht hvm hw hB hz1 hk1 hS => ?_)
  obtain ⟨f2_12, hP1, hK1, hD1⟩ := hB
  rw [ht] at hP1
  have hK1 := va_K.moved hvm.symm hK1
  try dsimp only at hw
  obtain ⟨hP, hD⟩ := va_join (wr := []) (w1 := [(h0, .inr (5, [.ref qT, .int 12, .ref qF, .int 0, .int 0, .int ((-1)), .int 0, .ref qN, .int 0, .ref qR, .int 0, .int 0, .ref qC])), (qT, .inl (cT, 1000, .inl (f2_12)))]) hP hD [0, 1] [] rfl rfl (by decide) (by decide) hk1 hFc hP1 hD1
  generalize H1 = H at hP hS ⊢
  have hP : va_P (dC, dI) vwCl [(h0, .inr (5, [.ref qT, .int 12, .ref qF, .int 0, .int 0, .int ((-1)), .int 0, .ref qN, .int 0, .ref qR, .int 0, .int 0, .ref qC])), (qT, .inl (cT, 1000, .inl (f2_12)))] H := hP
  have hD : va_D A [(h0, .inr (5, [.ref qT, .int 12, .ref qF, .int 0, .int 0, .int ((-1)), .int 0, .ref qN, .int 0, .ref qR, .int 0, .int 0, .ref qC])), (qT, .inl (cT, 1000, .inl (f2_12)))] := hD
  have hw_13 := hw
  refine lv_aload_n hx hb dX5_feed_30 rfl (lv_at hl 0 rfl) ?_
  refine lv_iload hx hb dX5_feed_31 (lv_at hl 4 rfl) ?_
  have hPc := hP.sub (ws' := [(h0, .inr (5, [.ref qT, .int 12, .ref qF, .int 0, .int 0, .int ((-1)), .int 0, .ref qN, .int 0, .ref qR, .int 0, .int 0, .ref qC])), (qT, .inl (cT, 1000, .inl (f2_12)))]) [0, 1] rfl
  have hDc := hD.sub (ws' := [(h0, .inr (5, [.ref qT, .int 12, .ref qF, .int 0, .int 0, .int ((-1)), .int 0, .ref qN, .int 0, .ref qR, .int 0, .int 0, .ref qC])), (qT, .inl (cT, 1000, .inl (f2_12)))]) [0, 1] (by decide) rfl
  have hKc := hK.sub (tys' := [(cT, .byte)]) [0] rfl
  have hFc := va_free (wc := [(h0, .inr (5, [.ref qT, .int 12, .ref qF, .int 0, .int 0, .int ((-1)), .int 0, .ref qN, .int 0, .ref qR, .int 0, .int 0, .ref qC])), (qT, .inl (cT, 1000, .inl (f2_12)))]) hD hS hA [0, 1] rfl
  refine va_callv (va_runV (As := [.int p3]) (rest := []) ⟨hx, hb, hml, hown, hts⟩ (c_X5_putOnTape_12 l dC dI h0 qT qF qN qR qC cT (f2_12) p3 H.size) (cwV 1 hts gX5_feed_c_X5_putOnTape_12_15 rfl rfl rfl (by decide +kernel) ⟨Nat.le_of_ble_eq_true rfl, Nat.le_of_ble_eq_true rfl⟩) ⟨fun a U g mk q => by obtain ⟨q0, q1, qP, qK, qD⟩ := q; exact ⟨q0, q1, qP, va_K.moved (u := U) (U := U.calling g mk a) (Vm.Alike.refl U.vm) qK, qD⟩, va_recv hKc hPc (ci := 5) (q0 := 0) rfl rfl, fun U hU hW => ⟨rfl, by rw [hU], by rw [hU]; exact hPc, va_K.moved hW.alike hKc, hDc.weaken (fun _ _ _ _ => trivial)⟩⟩ rfl rfl hl.1 rfl (lv_room (Nat.le_of_ble_eq_true rfl)) dX5_feed_33 ⟨show (0 + 0 : Nat) ≤ 0 from by omega, show (0 + 0 : Nat) ≤ 0 from by omega⟩) hS (fun q _ h => hFc q h) hFc (fun u t H1 locs ht hvm hw hB hz1 hk1 hS => ?_)
  obtain ⟨f2_16, hP1, hK1, hD1⟩ := hB
  rw [ht] at hP1
  have hK1 := va_K.moved hvm.symm hK1
  try dsimp only at hw
  obtain ⟨hP, hD⟩ := va_join (wr := []) (w1 := [(h0, .inr (5, [.ref qT, .int 16, .ref qF, .int 0, .int 0, .int ((-1)), .int 0, .ref qN, .int 0, .ref qR, .int 0, .int 0, .ref qC])), (qT, .inl (cT, 1000, .inl (f2_16)))]) hP hD [0, 1] [] rfl rfl (by decide) (by decide) hk1 hFc hP1 hD1
  generalize H1 = H at hP hS ⊢
  have hP : va_P (dC, dI) vwCl [(h0, .inr (5, [.ref qT, .int 16, .ref qF, .int 0, .int 0, .int ((-1)), .int 0, .ref qN, .int 0, .ref qR, .int 0, .int 0, .ref qC])), (qT, .inl (cT, 1000, .inl (f2_16)))] H := hP
  have hD : va_D A [(h0, .inr (5, [.ref qT, .int 16, .ref qF, .int 0, .int 0, .int ((-1)), .int 0, .ref qN, .int 0, .ref qR, .int 0, .int 0, .ref qC])), (qT, .inl (cT, 1000, .inl (f2_16)))] := hD
  have hw_17 := hw
  refine lv_aload_n hx hb dX5_feed_36 rfl (lv_at hl 0 rfl) ?_
  refine lv_iload hx hb dX5_feed_37 (lv_at hl 5 rfl) ?_
  have hPc := hP.sub (ws' := [(h0, .inr (5, [.ref qT, .int 16, .ref qF, .int 0, .int 0, .int ((-1)), .int 0, .ref qN, .int 0, .ref qR, .int 0, .int 0, .ref qC])), (qT, .inl (cT, 1000, .inl (f2_16)))]) [0, 1] rfl
  have hDc := hD.sub (ws' := [(h0, .inr (5, [.ref qT, .int 16, .ref qF, .int 0, .int 0, .int ((-1)), .int 0, .ref qN, .int 0, .ref qR, .int 0, .int 0, .ref qC])), (qT, .inl (cT, 1000, .inl (f2_16)))]) [0, 1] (by decide) rfl
  have hKc := hK.sub (tys' := [(cT, .byte)]) [0] rfl
  have hFc := va_free (wc := [(h0, .inr (5, [.ref qT, .int 16, .ref qF, .int 0, .int 0, .int ((-1)), .int 0, .ref qN, .int 0, .ref qR, .int 0, .int 0, .ref qC])), (qT, .inl (cT, 1000, .inl (f2_16)))]) hD hS hA [0, 1] rfl
  refine va_callv (va_runV (As := [.int p4]) (rest := []) ⟨hx, hb, hml, hown, hts⟩ (c_X5_putOnTape_16 l dC dI h0 qT qF qN qR qC cT (f2_16) p4 H.size) (cwV 1 hts gX5_feed_c_X5_putOnTape_16_19 rfl rfl rfl (by decide +kernel) ⟨Nat.le_of_ble_eq_true rfl, Nat.le_of_ble_eq_true rfl⟩) ⟨fun a U g mk q => by obtain ⟨q0, q1, qP, qK, qD⟩ := q; exact ⟨q0, q1, qP, va_K.moved (u := U) (U := U.calling g mk a) (Vm.Alike.refl U.vm) qK, qD⟩, va_recv hKc hPc (ci := 5) (q0 := 0) rfl rfl, fun U hU hW => ⟨rfl, by rw [hU], by rw [hU]; exact hPc, va_K.moved hW.alike hKc, hDc.weaken (fun _ _ _ _ => trivial)⟩⟩ rfl rfl hl.1 rfl (lv_room (Nat.le_of_ble_eq_true rfl)) dX5_feed_39 ⟨show (0 + 0 : Nat) ≤ 0 from by omega, show (0 + 0 : Nat) ≤ 0 from by omega⟩) hS (fun q _ h => hFc q h) hFc (fun u t H1 locs ht hvm hw hB hz1 hk1 hS => ?_)
  obtain ⟨f2_20, hP1, hK1, hD1⟩ := hB
  rw [ht] at hP1
  have hK1 := va_K.moved hvm.symm hK1
  try dsimp only at hw
  obtain ⟨hP, hD⟩ := va_join (wr := []) (w1 := [(h0, .inr (5, [.ref qT, .int 20, .ref qF, .int 0, .int 0, .int ((-1)), .int 0, .ref qN, .int 0, .ref qR, .int 0, .int 0, .ref qC])), (qT, .inl (cT, 1000, .inl (f2_20)))]) hP hD [0, 1] [] rfl rfl (by decide) (by decide) hk1 hFc hP1 hD1
  generalize H1 = H at hP hS ⊢
  have hP : va_P (dC, dI) vwCl [(h0, .inr (5, [.ref qT, .int 20, .ref qF, .int 0, .int 0, .int ((-1)), .int 0, .ref qN, .int 0, .ref qR, .int 0, .int 0, .ref qC])), (qT, .inl (cT, 1000, .inl (f2_20)))] H := hP
  have hD : va_D A [(h0, .inr (5, [.ref qT, .int 20, .ref qF, .int 0, .int 0, .int ((-1)), .int 0, .ref qN, .int 0, .ref qR, .int 0, .int 0, .ref qC])), (qT, .inl (cT, 1000, .inl (f2_20)))] := hD
  have hw_21 := hw
  refine lv_aload_n hx hb dX5_feed_42 rfl (lv_at hl 0 rfl) ?_
  refine va_get (D := (dC, dI)) (ci := 5) (v := .int 20) (C := RX5) (T := TX5) (N := 13) hx hb hts hin5 hown hK hP 0 rfl rfl 1 (by decide) (hts (.fieldLink RX5 36 "SkiShots" "tapeLength" "I") (by decide +kernel)) (fun _ h9 => h9) rfl dX5_feed_43 ?_
  exact W.iret (v := 20) hx hb hr (fun t ht hW => ⟨⟨20, (), rfl, rfl, trivial⟩, hS.F ht⟩) hS.2.2 dX5_feed_46
def wX4_sortAt : List Cond := .code yX4_sortAt cX4_sortAt 3 (some .int) :: ([.fieldLink RX4 21 "SkiShots$Reader" "length" "I"] ++ wsX40)
set_option maxHeartbeats 4000000 in
set_option maxRecDepth 100000 in
theorem c_X4_sortAt (l : Launch) (dC : Nat → ClassId) (dI : Nat → Nat → Nat) (h0 : Nat) (qX : Nat) (qY : Nat) (sz : Nat) : Met l yX4_sortAt wX4_sortAt ({ frames := 0, cells := 0, slots := 0, locals := 0 }) (va_Pc [.ref h0, .int 0] (fun U => U.heap.size = sz ∧ va_P (dC, dI) vwCl [(h0, .inr (4, [.ref qX, .int 0, .ref qY, .int 0, .int 0, .int ((-1)), .int 0, .int 0, .int 0, .int 0]))] U.heap ∧ va_K (dC, dI) vwCl [] U ∧ va_D (fun _ => True) [(h0, .inr (4, [.ref qX, .int 0, .ref qY, .int 0, .int 0, .int ((-1)), .int 0, .int 0, .int 0, .int 0]))])) (va_Qi (fun (r : Int32) (_ : Unit) => r = 0) (fun _ t => va_P (dC, dI) vwCl [(h0, .inr (4, [.ref qX, .int 0, .ref qY, .int 0, .int 0, .int ((-1)), .int 0, .int 0, .int 0, .int 0]))] t.heap ∧ va_K (dC, dI) vwCl [] t ∧ va_D (va_A [(h0, .inr (4, [.ref qX, .int 0, .ref qY, .int 0, .int 0, .int ((-1)), .int 0, .int 0, .int 0, .int 0]))] sz) [(h0, .inr (4, [.ref qX, .int 0, .ref qY, .int 0, .int 0, .int ((-1)), .int 0, .int 0, .int 0, .int 0]))]) (va_A [(h0, .inr (4, [.ref qX, .int 0, .ref qY, .int 0, .int 0, .int ((-1)), .int 0, .int 0, .int 0, .int 0]))] sz)) 0 0 (va_A [(h0, .inr (4, [.ref qX, .int 0, .ref qY, .int 0, .int 0, .int ((-1)), .int 0, .int 0, .int 0, .int 0]))] sz) := by
  refine Met.ofW (cc := cX4_sortAt) (maxL := 3) (ret := (some .int)) (by decide) rfl ?_
  intro p e s m args below meth c s₁ B hml hv
  obtain ⟨rfl, hsz, hP, hK, hD0⟩ := hv
  have hx := B.exec
  have hb := B.bytes
  have hr := B.returns
  have hts := atoms_spec (ws := wX4_sortAt) B.pre
  have hown : s.vm.findClass RX4 = some m.cls := findClass_of_methodNamed B.named
  have hlocks := B.notSynchronized
  have hin4 : ∀ w ∈ wsX40, w ∈ wX4_sortAt := by decide +kernel
  subst hsz
  have hD := hD0.self (sz := s.heap.size)
  generalize hAe : va_A [(h0, .inr (4, [.ref qX, .int 0, .ref qY, .int 0, .int 0, .int ((-1)), .int 0, .int 0, .int 0, .int 0]))] s.heap.size = A at hD ⊢
  have hA : ∀ q : Nat, s.heap.size ≤ q → A q := fun q h => by rw [← hAe]; exact Or.inr h
  have hS : va_S A s.heap s.heap [] := va_S.rf
  have hP : va_P (dC, dI) vwCl [(h0, .inr (4, [.ref qX, .int 0, .ref qY, .int 0, .int 0, .int ((-1)), .int 0, .int 0, .int 0, .int 0]))] s.heap := hP
  have hl := lv_entry ([.ref h0, .int 0]) (n := 3) (Nat.le_of_ble_eq_true rfl)
  rw [lg_entry_eq]
  generalize (lg_sl ([.ref h0, .int 0]) ++ List.replicate (3 - (lg_sl ([.ref h0, .int 0])).length) Slot.unset).toArray = ls at hl ⊢
  have hl : lv_has ls 3 [(0, .ref h0), (1, .int 0)] := hl
  refine lv_iload_n hx hb dX4_sortAt_0 rfl (lv_at hl 1 rfl) ?_
  refine lv_if_lt (tgt := 12) hx hb dX4_sortAt_1 (by decide) (fun c_1 => absurd c_1 (by decide)) (fun c_1 => ?_)
  refine lv_iload_n hx hb dX4_sortAt_4 rfl (lv_at hl 1 rfl) ?_
  refine lv_aload_n hx hb dX4_sortAt_5 rfl (lv_at hl 0 rfl) ?_
  refine va_get (D := (dC, dI)) (ci := 4) (v := .int 0) (C := RX4) (T := TX4) (N := 10) hx hb hts hin4 hown hK hP 0 rfl rfl 1 (by decide) (hts (.fieldLink RX4 21 "SkiShots$Reader" "length" "I") (by decide +kernel)) (fun _ h9 => h9) rfl dX4_sortAt_6 ?_
  refine lv_icmp_lt (tgt := 14) hx hb dX4_sortAt_9 (by decide) (fun c_2 => absurd c_2 (by decide)) (fun c_2 => ?_)
  refine lv_iconst (v := 0) hx hb dX4_sortAt_12 (by decide) ?_
  have hP9 := hP.sub (ws' := [(h0, .inr (4, [.ref qX, .int 0, .ref qY, .int 0, .int 0, .int ((-1)), .int 0, .int 0, .int 0, .int 0]))]) [0] rfl
  have hD9 := hD.sub (ws' := [(h0, .inr (4, [.ref qX, .int 0, .ref qY, .int 0, .int 0, .int ((-1)), .int 0, .int 0, .int 0, .int 0]))]) [0] (by decide) rfl
  have hK9 := hK.sub (tys' := []) [] rfl
  exact W.iret (v := 0) hx hb hr (fun t ht hW => ⟨⟨0, (), rfl, rfl, by rw [ht]; exact hP9, va_K.moved hW.alike hK9, hD9⟩, hS.F ht⟩) hS.2.2 dX4_sortAt_13
def wX4_step : List Cond := .code yX4_step cX4_step 1 none :: ([.fieldLink RX4 133 "SkiShots$Reader" "behind" "I", .fieldLink RX4 54 "SkiShots$Reader" "place" "I", .fieldLink RX4 21 "SkiShots$Reader" "length" "I", .fieldLink RX4 37 "SkiShots$Reader" "sort" "I", .methodLink RX4 15 Lib.Math.min.name, .static Lib.Math.min.name, .initialized "java/lang/Math", .code Lib.Math.min.name Lib.Math.min.code 2 (some .int), .methodLink RX4 149 yX4_sortAt, .instanceMethod yX4_sortAt, .selects RX4 yX4_sortAt yX4_sortAt, .initialized RX4, .code yX4_sortAt cX4_sortAt 3 (some .int)] ++ wsX40)
set_option maxRecDepth 20000 in
theorem gX4_step_c_X4_sortAt_3 : GoodIn wX4_step (wsV RX4 149 RX4 yX4_sortAt wX4_sortAt) := goodIn_p _ [13] rfl (by decide +kernel)
set_option maxHeartbeats 4000000 in
set_option maxRecDepth 100000 in
theorem c_X4_step (l : Launch) (dC : Nat → ClassId) (dI : Nat → Nat → Nat) (h0 : Nat) (qX : Nat) (qY : Nat) (sz : Nat) : Met l yX4_step wX4_step ({ frames := 1, cells := 0, slots := 0, locals := 22 }) (va_Pc [.ref h0] (fun U => U.heap.size = sz ∧ va_P (dC, dI) vwCl [(h0, .inr (4, [.ref qX, .int 0, .ref qY, .int 0, .int 0, .int ((-1)), .int 0, .int 0, .int 0, .int 0]))] U.heap ∧ va_K (dC, dI) vwCl [] U ∧ va_D (fun _ => True) [(h0, .inr (4, [.ref qX, .int 0, .ref qY, .int 0, .int 0, .int ((-1)), .int 0, .int 0, .int 0, .int 0]))])) (va_Qv (fun (_ : Unit) => True) (fun _ t => va_P (dC, dI) vwCl [(h0, .inr (4, [.ref qX, .int 0, .ref qY, .int 0, .int 0, .int ((-1)), .int 0, .int 0, .int 0, .int 0]))] t.heap ∧ va_K (dC, dI) vwCl [] t ∧ va_D (va_A [(h0, .inr (4, [.ref qX, .int 0, .ref qY, .int 0, .int 0, .int ((-1)), .int 0, .int 0, .int 0, .int 0]))] sz) [(h0, .inr (4, [.ref qX, .int 0, .ref qY, .int 0, .int 0, .int ((-1)), .int 0, .int 0, .int 0, .int 0]))]) (va_A [(h0, .inr (4, [.ref qX, .int 0, .ref qY, .int 0, .int 0, .int ((-1)), .int 0, .int 0, .int 0, .int 0]))] sz)) 0 0 (va_A [(h0, .inr (4, [.ref qX, .int 0, .ref qY, .int 0, .int 0, .int ((-1)), .int 0, .int 0, .int 0, .int 0]))] sz) := by
  refine Met.ofW (cc := cX4_step) (maxL := 1) (ret := none) (by decide) rfl ?_
  intro p e s m args below meth c s₁ B hml hv
  obtain ⟨rfl, hsz, hP, hK, hD0⟩ := hv
  have hx := B.exec
  have hb := B.bytes
  have hr := B.returns
  have hts := atoms_spec (ws := wX4_step) B.pre
  have hown : s.vm.findClass RX4 = some m.cls := findClass_of_methodNamed B.named
  have hlocks := B.notSynchronized
  have hin4 : ∀ w ∈ wsX40, w ∈ wX4_step := by decide +kernel
  subst hsz
  have hD := hD0.self (sz := s.heap.size)
  generalize hAe : va_A [(h0, .inr (4, [.ref qX, .int 0, .ref qY, .int 0, .int 0, .int ((-1)), .int 0, .int 0, .int 0, .int 0]))] s.heap.size = A at hD ⊢
  have hA : ∀ q : Nat, s.heap.size ≤ q → A q := fun q h => by rw [← hAe]; exact Or.inr h
  have hS : va_S A s.heap s.heap [] := va_S.rf
  have hP : va_P (dC, dI) vwCl [(h0, .inr (4, [.ref qX, .int 0, .ref qY, .int 0, .int 0, .int ((-1)), .int 0, .int 0, .int 0, .int 0]))] s.heap := hP
  have hl := lv_entry ([.ref h0]) (n := 1) (Nat.le_of_ble_eq_true rfl)
  rw [lg_entry_eq]
  generalize (lg_sl ([.ref h0]) ++ List.replicate (1 - (lg_sl ([.ref h0])).length) Slot.unset).toArray = ls at hl ⊢
  have hl : lv_has ls 1 [(0, .ref h0)] := hl
  refine lv_aload_n hx hb dX4_step_0 rfl (lv_at hl 0 rfl) ?_
  refine lv_aload_n hx hb dX4_step_1 rfl (lv_at hl 0 rfl) ?_
  refine va_get (D := (dC, dI)) (ci := 4) (v := .int 0) (C := RX4) (T := TX4) (N := 10) hx hb hts hin4 hown hK hP 0 rfl rfl 8 (by decide) (hts (.fieldLink RX4 133 "SkiShots$Reader" "behind" "I") (by decide +kernel)) (fun _ h9 => h9) rfl dX4_step_2 ?_
  refine va_put (D := (dC, dI)) (ci := 4) (v := .int 0) (ty := .int) (C := RX4) (T := TX4) (N := 10) hx hb hts hin4 tyX4 tyX4_ok nmX4 hown hK hP hD hS 0 rfl rfl 7 (by decide) (hts (.fieldLink RX4 54 "SkiShots$Reader" "place" "I") (by decide +kernel)) (fun _ h9 => h9) rfl (by decide +kernel) rfl rfl (Nat.le_of_ble_eq_true rfl) dX4_step_5 (fun H locs hP hD hS => ?_)
  have hP : va_P (dC, dI) vwCl [(h0, .inr (4, [.ref qX, .int 0, .ref qY, .int 0, .int 0, .int ((-1)), .int 0, .int 0, .int 0, .int 0]))] H := hP
  have hD : va_D A [(h0, .inr (4, [.ref qX, .int 0, .ref qY, .int 0, .int 0, .int ((-1)), .int 0, .int 0, .int 0, .int 0]))] := hD
  refine lv_aload_n hx hb dX4_step_8 rfl (lv_at hl 0 rfl) ?_
  refine va_get (D := (dC, dI)) (ci := 4) (v := .int 0) (C := RX4) (T := TX4) (N := 10) hx hb hts hin4 hown hK hP 0 rfl rfl 7 (by decide) (hts (.fieldLink RX4 54 "SkiShots$Reader" "place" "I") (by decide +kernel)) (fun _ h9 => h9) rfl dX4_step_9 ?_
  refine lv_aload_n hx hb dX4_step_12 rfl (lv_at hl 0 rfl) ?_
  refine va_get (D := (dC, dI)) (ci := 4) (v := .int 0) (C := RX4) (T := TX4) (N := 10) hx hb hts hin4 hown hK hP 0 rfl rfl 1 (by decide) (hts (.fieldLink RX4 21 "SkiShots$Reader" "length" "I") (by decide +kernel)) (fun _ h9 => h9) rfl dX4_step_13 ?_
  refine lv_icmp_ge (tgt := 44) hx hb dX4_step_16 (by decide) (fun c_1 => ?_) (fun c_1 => absurd (by decide) c_1)
  refine lv_aload_n hx hb dX4_step_44 rfl (lv_at hl 0 rfl) ?_
  refine lv_aload_n hx hb dX4_step_45 rfl (lv_at hl 0 rfl) ?_
  refine lv_aload_n hx hb dX4_step_46 rfl (lv_at hl 0 rfl) ?_
  refine va_get (D := (dC, dI)) (ci := 4) (v := .int 0) (C := RX4) (T := TX4) (N := 10) hx hb hts hin4 hown hK hP 0 rfl rfl 7 (by decide) (hts (.fieldLink RX4 54 "SkiShots$Reader" "place" "I") (by decide +kernel)) (fun _ h9 => h9) rfl dX4_step_47 ?_
  have hPc := hP.sub (ws' := [(h0, .inr (4, [.ref qX, .int 0, .ref qY, .int 0, .int 0, .int ((-1)), .int 0, .int 0, .int 0, .int 0]))]) [0] rfl
  have hDc := hD.sub (ws' := [(h0, .inr (4, [.ref qX, .int 0, .ref qY, .int 0, .int 0, .int ((-1)), .int 0, .int 0, .int 0, .int 0]))]) [0] (by decide) rfl
  have hKc := hK.sub (tys' := []) [] rfl
  have hFc := va_free (wc := [(h0, .inr (4, [.ref qX, .int 0, .ref qY, .int 0, .int 0, .int ((-1)), .int 0, .int 0, .int 0, .int 0]))]) hD hS hA [0] rfl
  refine va_calli (va_runV (As := [.int 0]) (rest := [.ref h0]) ⟨hx, hb, hml, hown, hts⟩ (c_X4_sortAt l dC dI h0 qX qY H.size) (cwV 1 hts gX4_step_c_X4_sortAt_3 rfl rfl rfl (by decide +kernel) ⟨Nat.le_of_ble_eq_true rfl, Nat.le_of_ble_eq_true rfl⟩) ⟨fun a U g mk q => by obtain ⟨q0, q1, qP, qK, qD⟩ := q; exact ⟨q0, q1, qP, va_K.moved (u := U) (U := U.calling g mk a) (Vm.Alike.refl U.vm) qK, qD⟩, va_recv hKc hPc (ci := 4) (q0 := 0) rfl rfl, fun U hU hW => ⟨rfl, by rw [hU], by rw [hU]; exact hPc, va_K.moved hW.alike hKc, hDc.weaken (fun _ _ _ _ => trivial)⟩⟩ rfl rfl hl.1 rfl (lv_room (Nat.le_of_ble_eq_true rfl)) dX4_step_50 ⟨show (0 + 0 : Nat) ≤ 0 from by omega, show (0 + 0 : Nat) ≤ 0 from by omega⟩) hS (fun q _ h => hFc q h) hFc (fun r_2 u t H1 locs ht hvm hw hB hz1 hk1 hS => ?_)
  obtain ⟨hP1, hK1, hD1⟩ := hB
  rw [ht] at hP1
  have hK1 := va_K.moved hvm.symm hK1
  try dsimp only at hw
  obtain ⟨hP, hD⟩ := va_join (wr := []) (w1 := [(h0, .inr (4, [.ref qX, .int 0, .ref qY, .int 0, .int 0, .int ((-1)), .int 0, .int 0, .int 0, .int 0]))]) hP hD [0] [] rfl rfl (by decide) (by decide) hk1 hFc hP1 hD1
  generalize H1 = H at hP hS ⊢
  have hP : va_P (dC, dI) vwCl [(h0, .inr (4, [.ref qX, .int 0, .ref qY, .int 0, .int 0, .int ((-1)), .int 0, .int 0, .int 0, .int 0]))] H := hP
  have hD : va_D A [(h0, .inr (4, [.ref qX, .int 0, .ref qY, .int 0, .int 0, .int ((-1)), .int 0, .int 0, .int 0, .int 0]))] := hD
  have hw_4 := hw
  subst hw_4
  refine va_put (D := (dC, dI)) (ci := 4) (v := .int 0) (ty := .int) (C := RX4) (T := TX4) (N := 10) hx hb hts hin4 tyX4 tyX4_ok nmX4 hown hK hP hD hS 0 rfl rfl 6 (by decide) (hts (.fieldLink RX4 37 "SkiShots$Reader" "sort" "I") (by decide +kernel)) (fun _ h9 => h9) rfl (by decide +kernel) rfl rfl (Nat.le_of_ble_eq_true rfl) dX4_step_53 (fun H locs hP hD hS => ?_)
  have hP : va_P (dC, dI) vwCl [(h0, .inr (4, [.ref qX, .int 0, .ref qY, .int 0, .int 0, .int ((-1)), .int 0, .int 0, .int 0, .int 0]))] H := hP
  have hD : va_D A [(h0, .inr (4, [.ref qX, .int 0, .ref qY, .int 0, .int 0, .int ((-1)), .int 0, .int 0, .int 0, .int 0]))] := hD
  refine lv_aload_n hx hb dX4_step_56 rfl (lv_at hl 0 rfl) ?_
  refine lv_aload_n hx hb dX4_step_57 rfl (lv_at hl 0 rfl) ?_
  refine va_get (D := (dC, dI)) (ci := 4) (v := .int 0) (C := RX4) (T := TX4) (N := 10) hx hb hts hin4 hown hK hP 0 rfl rfl 7 (by decide) (hts (.fieldLink RX4 54 "SkiShots$Reader" "place" "I") (by decide +kernel)) (fun _ h9 => h9) rfl dX4_step_58 ?_
  refine lv_iconst (v := 1) hx hb dX4_step_61 (by decide) ?_
  refine lv_iadd hx hb dX4_step_62 ?_
  rw [show (0 + 1 : Int32) = 1 from by decide]
  refine lv_aload_n hx hb dX4_step_63 rfl (lv_at hl 0 rfl) ?_
  refine va_get (D := (dC, dI)) (ci := 4) (v := .int 0) (C := RX4) (T := TX4) (N := 10) hx hb hts hin4 hown hK hP 0 rfl rfl 1 (by decide) (hts (.fieldLink RX4 21 "SkiShots$Reader" "length" "I") (by decide +kernel)) (fun _ h9 => h9) rfl dX4_step_64 ?_
  refine va_mmin hx hb (hml.trans hl.1.symm) hown (hts (.methodLink RX4 15 Lib.Math.min.name) (by decide +kernel)) (hts (.static Lib.Math.min.name) (by decide +kernel)) (hts (.initialized "java/lang/Math") (by decide +kernel)) (hts (.code Lib.Math.min.name Lib.Math.min.code 2 (some .int)) (by decide +kernel)) (Nat.le_of_ble_eq_true rfl) (Nat.le_of_ble_eq_true rfl) (Nat.le_of_ble_eq_true rfl) (Nat.le_of_ble_eq_true rfl) dX4_step_67 ?_
  rw [show ((if (0 : Int32) < 1 then 0 else 1 : Int32)) = 0 from by decide]
  refine va_put (D := (dC, dI)) (ci := 4) (v := .int 0) (ty := .int) (C := RX4) (T := TX4) (N := 10) hx hb hts hin4 tyX4 tyX4_ok nmX4 hown hK hP hD hS 0 rfl rfl 8 (by decide) (hts (.fieldLink RX4 133 "SkiShots$Reader" "behind" "I") (by decide +kernel)) (fun _ h9 => h9) rfl (by decide +kernel) rfl rfl (Nat.le_of_ble_eq_true rfl) dX4_step_70 (fun H locs hP hD hS => ?_)
  have hP : va_P (dC, dI) vwCl [(h0, .inr (4, [.ref qX, .int 0, .ref qY, .int 0, .int 0, .int ((-1)), .int 0, .int 0, .int 0, .int 0]))] H := hP
  have hD : va_D A [(h0, .inr (4, [.ref qX, .int 0, .ref qY, .int 0, .int 0, .int ((-1)), .int 0, .int 0, .int 0, .int 0]))] := hD
  refine lv_aload_n hx hb dX4_step_73 rfl (lv_at hl 0 rfl) ?_
  refine va_get (D := (dC, dI)) (ci := 4) (v := .int 0) (C := RX4) (T := TX4) (N := 10) hx hb hts hin4 hown hK hP 0 rfl rfl 6 (by decide) (hts (.fieldLink RX4 37 "SkiShots$Reader" "sort" "I") (by decide +kernel)) (fun _ h9 => h9) rfl dX4_step_74 ?_
  refine lv_iconst (v := 1) hx hb dX4_step_77 (by decide) ?_
  refine lv_icmp_eq (tgt := 89) hx hb dX4_step_78 (by decide) (fun c_5 => absurd c_5 (by decide)) (fun c_5 => ?_)
  refine lv_aload_n hx hb dX4_step_81 rfl (lv_at hl 0 rfl) ?_
  refine va_get (D := (dC, dI)) (ci := 4) (v := .int 0) (C := RX4) (T := TX4) (N := 10) hx hb hts hin4 hown hK hP 0 rfl rfl 6 (by decide) (hts (.fieldLink RX4 37 "SkiShots$Reader" "sort" "I") (by decide +kernel)) (fun _ h9 => h9) rfl dX4_step_82 ?_
  refine lv_iconst (v := 2) hx hb dX4_step_85 (by decide) ?_
  refine lv_icmp_ne (tgt := 128) hx hb dX4_step_86 (by decide) (fun c_6 => ?_) (fun c_6 => absurd c_6 (by decide))
  have hP9 := hP.sub (ws' := [(h0, .inr (4, [.ref qX, .int 0, .ref qY, .int 0, .int 0, .int ((-1)), .int 0, .int 0, .int 0, .int 0]))]) [0] rfl
  have hD9 := hD.sub (ws' := [(h0, .inr (4, [.ref qX, .int 0, .ref qY, .int 0, .int 0, .int ((-1)), .int 0, .int 0, .int 0, .int 0]))]) [0] (by decide) rfl
  have hK9 := hK.sub (tys' := []) [] rfl
  exact W.vret hx hb hr (fun t ht hW => ⟨⟨(), rfl, trivial, by rw [ht]; exact hP9, va_K.moved hW.alike hK9, hD9⟩, hS.F ht⟩) hS.2.2 dX4_step_128
def wX4_readFormats : List Cond := .code yX4_readFormats cX4_readFormats 2 (some .boolean) :: ([.fieldLink RX4 37 "SkiShots$Reader" "sort" "I", .methodLink RX4 34 yX4_step, .instanceMethod yX4_step, .selects RX4 yX4_step yX4_step, .initialized RX4, .code yX4_step cX4_step 1 none, .fieldLink RX4 133 "SkiShots$Reader" "behind" "I", .fieldLink RX4 54 "SkiShots$Reader" "place" "I", .fieldLink RX4 21 "SkiShots$Reader" "length" "I", .methodLink RX4 15 Lib.Math.min.name, .static Lib.Math.min.name, .initialized "java/lang/Math", .code Lib.Math.min.name Lib.Math.min.code 2 (some .int), .methodLink RX4 149 yX4_sortAt, .instanceMethod yX4_sortAt, .selects RX4 yX4_sortAt yX4_sortAt, .code yX4_sortAt cX4_sortAt 3 (some .int)] ++ wsX40)
set_option maxRecDepth 20000 in
theorem gX4_readFormats_c_X4_step_2 : GoodIn wX4_readFormats (wsV RX4 34 RX4 yX4_step wX4_step) := goodIn_p _ [6, 13, 17] rfl (by decide +kernel)
set_option maxHeartbeats 4000000 in
set_option maxRecDepth 100000 in
theorem c_X4_readFormats (l : Launch) (dC : Nat → ClassId) (dI : Nat → Nat → Nat) (h0 : Nat) (qX : Nat) (qY : Nat) (sz : Nat) : Met l yX4_readFormats wX4_readFormats ({ frames := 2, cells := 0, slots := 0, locals := 42 }) (va_Pc [.ref h0] (fun U => U.heap.size = sz ∧ va_P (dC, dI) vwCl [(h0, .inr (4, [.ref qX, .int 0, .ref qY, .int 0, .int 0, .int ((-1)), .int 0, .int 0, .int 0, .int 0]))] U.heap ∧ va_K (dC, dI) vwCl [] U ∧ va_D (fun _ => True) [(h0, .inr (4, [.ref qX, .int 0, .ref qY, .int 0, .int 0, .int ((-1)), .int 0, .int 0, .int 0, .int 0]))])) (va_Qi (fun (r : Int32) (_ : Unit) => r = 1) (fun _ t => va_P (dC, dI) vwCl [(h0, .inr (4, [.ref qX, .int 0, .ref qY, .int 0, .int 0, .int ((-1)), .int 0, .int 0, .int 0, .int 0]))] t.heap ∧ va_K (dC, dI) vwCl [] t ∧ va_D (va_A [(h0, .inr (4, [.ref qX, .int 0, .ref qY, .int 0, .int 0, .int ((-1)), .int 0, .int 0, .int 0, .int 0]))] sz) [(h0, .inr (4, [.ref qX, .int 0, .ref qY, .int 0, .int 0, .int ((-1)), .int 0, .int 0, .int 0, .int 0]))]) (va_A [(h0, .inr (4, [.ref qX, .int 0, .ref qY, .int 0, .int 0, .int ((-1)), .int 0, .int 0, .int 0, .int 0]))] sz)) 0 0 (va_A [(h0, .inr (4, [.ref qX, .int 0, .ref qY, .int 0, .int 0, .int ((-1)), .int 0, .int 0, .int 0, .int 0]))] sz) := by
  refine Met.ofW (cc := cX4_readFormats) (maxL := 2) (ret := (some .boolean)) (by decide) rfl ?_
  intro p e s m args below meth c s₁ B hml hv
  obtain ⟨rfl, hsz, hP, hK, hD0⟩ := hv
  have hx := B.exec
  have hb := B.bytes
  have hr := B.returns
  have hts := atoms_spec (ws := wX4_readFormats) B.pre
  have hown : s.vm.findClass RX4 = some m.cls := findClass_of_methodNamed B.named
  have hlocks := B.notSynchronized
  have hin4 : ∀ w ∈ wsX40, w ∈ wX4_readFormats := by decide +kernel
  subst hsz
  have hD := hD0.self (sz := s.heap.size)
  generalize hAe : va_A [(h0, .inr (4, [.ref qX, .int 0, .ref qY, .int 0, .int 0, .int ((-1)), .int 0, .int 0, .int 0, .int 0]))] s.heap.size = A at hD ⊢
  have hA : ∀ q : Nat, s.heap.size ≤ q → A q := fun q h => by rw [← hAe]; exact Or.inr h
  have hS : va_S A s.heap s.heap [] := va_S.rf
  have hP : va_P (dC, dI) vwCl [(h0, .inr (4, [.ref qX, .int 0, .ref qY, .int 0, .int 0, .int ((-1)), .int 0, .int 0, .int 0, .int 0]))] s.heap := hP
  have hl := lv_entry ([.ref h0]) (n := 2) (Nat.le_of_ble_eq_true rfl)
  rw [lg_entry_eq]
  generalize (lg_sl ([.ref h0]) ++ List.replicate (2 - (lg_sl ([.ref h0])).length) Slot.unset).toArray = ls at hl ⊢
  have hl : lv_has ls 2 [(0, .ref h0)] := hl
  refine lv_aload_n hx hb dX4_readFormats_0 rfl (lv_at hl 0 rfl) ?_
  have hPc := hP.sub (ws' := [(h0, .inr (4, [.ref qX, .int 0, .ref qY, .int 0, .int 0, .int ((-1)), .int 0, .int 0, .int 0, .int 0]))]) [0] rfl
  have hDc := hD.sub (ws' := [(h0, .inr (4, [.ref qX, .int 0, .ref qY, .int 0, .int 0, .int ((-1)), .int 0, .int 0, .int 0, .int 0]))]) [0] (by decide) rfl
  have hKc := hK.sub (tys' := []) [] rfl
  have hFc := va_free (wc := [(h0, .inr (4, [.ref qX, .int 0, .ref qY, .int 0, .int 0, .int ((-1)), .int 0, .int 0, .int 0, .int 0]))]) hD hS hA [0] rfl
  refine va_callv (va_runV (As := []) (rest := []) ⟨hx, hb, hml, hown, hts⟩ (c_X4_step l dC dI h0 qX qY s.heap.size) (cwV 0 hts gX4_readFormats_c_X4_step_2 rfl rfl rfl (by decide +kernel) ⟨Nat.le_of_ble_eq_true rfl, Nat.le_of_ble_eq_true rfl⟩) ⟨fun a U g mk q => by obtain ⟨q0, q1, qP, qK, qD⟩ := q; exact ⟨q0, q1, qP, va_K.moved (u := U) (U := U.calling g mk a) (Vm.Alike.refl U.vm) qK, qD⟩, va_recv hKc hPc (ci := 4) (q0 := 0) rfl rfl, fun U hU hW => ⟨rfl, by rw [hU], by rw [hU]; exact hPc, va_K.moved hW.alike hKc, hDc.weaken (fun _ _ _ _ => trivial)⟩⟩ rfl rfl hl.1 rfl (lv_room (Nat.le_of_ble_eq_true rfl)) dX4_readFormats_1 ⟨show (0 + 0 : Nat) ≤ 0 from by omega, show (0 + 0 : Nat) ≤ 0 from by omega⟩) hS (fun q _ h => hFc q h) hFc (fun u t H1 locs ht hvm hw hB hz1 hk1 hS => ?_)
  obtain ⟨hP1, hK1, hD1⟩ := hB
  rw [ht] at hP1
  have hK1 := va_K.moved hvm.symm hK1
  try dsimp only at hw
  obtain ⟨hP, hD⟩ := va_join (wr := []) (w1 := [(h0, .inr (4, [.ref qX, .int 0, .ref qY, .int 0, .int 0, .int ((-1)), .int 0, .int 0, .int 0, .int 0]))]) hP hD [0] [] rfl rfl (by decide) (by decide) hk1 hFc hP1 hD1
  generalize H1 = H at hP hS ⊢
  have hP : va_P (dC, dI) vwCl [(h0, .inr (4, [.ref qX, .int 0, .ref qY, .int 0, .int 0, .int ((-1)), .int 0, .int 0, .int 0, .int 0]))] H := hP
  have hD : va_D A [(h0, .inr (4, [.ref qX, .int 0, .ref qY, .int 0, .int 0, .int ((-1)), .int 0, .int 0, .int 0, .int 0]))] := hD
  have hw_3 := hw
  refine lv_iconst (v := 0) hx hb dX4_readFormats_4 (by decide) ?_
  refine lv_istore_n (lv' := [(1, .int 0), (0, .ref h0)]) hx hb dX4_readFormats_5 rfl hl (by decide) rfl (fun ls hl => ?_)
  refine lv_iload_n hx hb dX4_readFormats_6 rfl (lv_at hl 0 rfl) ?_
  refine lv_bipush (v := 8) hx hb dX4_readFormats_7 (by decide) ?_
  refine lv_icmp_ge (tgt := 34) hx hb dX4_readFormats_9 (by decide) (fun c_4 => absurd c_4 (by decide)) (fun c_4 => ?_)
  refine lv_aload_n hx hb dX4_readFormats_12 rfl (lv_at hl 1 rfl) ?_
  refine va_get (D := (dC, dI)) (ci := 4) (v := .int 0) (C := RX4) (T := TX4) (N := 10) hx hb hts hin4 hown hK hP 0 rfl rfl 6 (by decide) (hts (.fieldLink RX4 37 "SkiShots$Reader" "sort" "I") (by decide +kernel)) (fun _ h9 => h9) rfl dX4_readFormats_13 ?_
  refine lv_if_eq (tgt := 34) hx hb dX4_readFormats_16 (by decide) (fun c_5 => ?_) (fun c_5 => absurd (by decide) c_5)
  refine lv_aload_n hx hb dX4_readFormats_34 rfl (lv_at hl 1 rfl) ?_
  refine va_get (D := (dC, dI)) (ci := 4) (v := .int 0) (C := RX4) (T := TX4) (N := 10) hx hb hts hin4 hown hK hP 0 rfl rfl 6 (by decide) (hts (.fieldLink RX4 37 "SkiShots$Reader" "sort" "I") (by decide +kernel)) (fun _ h9 => h9) rfl dX4_readFormats_35 ?_
  refine lv_if_eq (tgt := 49) hx hb dX4_readFormats_38 (by decide) (fun c_6 => ?_) (fun c_6 => absurd (by decide) c_6)
  refine lv_iconst (v := 1) hx hb dX4_readFormats_49 (by decide) ?_
  refine lv_goto (tgt := 54) hx hb dX4_readFormats_50 (by decide) ?_
  have hP9 := hP.sub (ws' := [(h0, .inr (4, [.ref qX, .int 0, .ref qY, .int 0, .int 0, .int ((-1)), .int 0, .int 0, .int 0, .int 0]))]) [0] rfl
  have hD9 := hD.sub (ws' := [(h0, .inr (4, [.ref qX, .int 0, .ref qY, .int 0, .int 0, .int ((-1)), .int 0, .int 0, .int 0, .int 0]))]) [0] (by decide) rfl
  have hK9 := hK.sub (tys' := []) [] rfl
  exact W.zret (v := 1) (ty := .boolean) hx hb hr rfl (fun t ht hW => ⟨⟨1, (), rfl, rfl, by rw [ht]; exact hP9, va_K.moved hW.alike hK9, hD9⟩, hS.F ht⟩) hS.2.2 dX4_readFormats_54
def wX4_init : List Cond := .code yX4_init cX4_init 3 none :: ([.methodLink RX4 3 objectInit, .instanceMethod objectInit, .code objectInit ⟨#[0xb1]⟩ 1 none, .fieldLink RX4 9 "SkiShots$Reader" "text" "[B", .methodLink RX4 15 Lib.Math.min.name, .static Lib.Math.min.name, .initialized "java/lang/Math", .code Lib.Math.min.name Lib.Math.min.code 2 (some .int), .fieldLink RX4 21 "SkiShots$Reader" "length" "I", .classLink RX4 25 RX2, .fieldLink RX4 27 "SkiShots$Reader" "found" "[LSkiShots$Format;", .fieldLink RX4 31 "SkiShots$Reader" "faultPlace" "I"] ++ wsX40)
set_option maxHeartbeats 4000000 in
set_option maxRecDepth 100000 in
theorem c_X4_init (l : Launch) (dC : Nat → ClassId) (dI : Nat → Nat → Nat) (h0 : Nat) (qX : Nat) (cX : ClassId) (f : Nat → Int32) (sz : Nat) : Met l yX4_init wX4_init ({ frames := 1, cells := 1, slots := 8, locals := 14 }) (va_Pc [.ref h0, .ref qX, .int 0] (fun U => U.heap.size = sz ∧ va_P (dC, dI) vwCl [(h0, .inr (4, [.null, .int 0, .null, .int 0, .int 0, .int 0, .int 0, .int 0, .int 0, .int 0])), (qX, .inl (cX, 1000, .inl (f)))] U.heap ∧ va_K (dC, dI) vwCl [(cX, .byte)] U ∧ va_D (fun _ => True) [(h0, .inr (4, [.null, .int 0, .null, .int 0, .int 0, .int 0, .int 0, .int 0, .int 0, .int 0])), (qX, .inl (cX, 1000, .inl (f)))] ∧ va_AO RX2 U)) (va_Qv (fun (_ : Unit) => True) (fun _ t => ∃ (qY : Nat) (cY : ClassId), va_P (dC, dI) vwCl [(h0, .inr (4, [.ref qX, .int 0, .ref qY, .int 0, .int 0, .int ((-1)), .int 0, .int 0, .int 0, .int 0])), (qX, .inl (cX, 1000, .inl (f))), (qY, .inl (cY, 8, .inr (.inr (.inr (.inr (fun _ => none))))))] t.heap ∧ va_K (dC, dI) vwCl [(cX, .byte), (cY, .object RX2)] t ∧ va_D (va_A [(h0, .inr (4, [.null, .int 0, .null, .int 0, .int 0, .int 0, .int 0, .int 0, .int 0, .int 0])), (qX, .inl (cX, 1000, .inl (f)))] sz) [(h0, .inr (4, [.ref qX, .int 0, .ref qY, .int 0, .int 0, .int ((-1)), .int 0, .int 0, .int 0, .int 0])), (qX, .inl (cX, 1000, .inl (f))), (qY, .inl (cY, 8, .inr (.inr (.inr (.inr (fun _ => none))))))]) (va_A [(h0, .inr (4, [.null, .int 0, .null, .int 0, .int 0, .int 0, .int 0, .int 0, .int 0, .int 0])), (qX, .inl (cX, 1000, .inl (f)))] sz)) 1 8 (va_A [(h0, .inr (4, [.null, .int 0, .null, .int 0, .int 0, .int 0, .int 0, .int 0, .int 0, .int 0])), (qX, .inl (cX, 1000, .inl (f)))] sz) := by
  refine Met.ofW (cc := cX4_init) (maxL := 3) (ret := none) (by decide) rfl ?_
  intro p e s m args below meth c s₁ B hml hv
  obtain ⟨rfl, hsz, hP, hK, hD0, hE⟩ := hv
  have hx := B.exec
  have hb := B.bytes
  have hr := B.returns
  have hts := atoms_spec (ws := wX4_init) B.pre
  have hown : s.vm.findClass RX4 = some m.cls := findClass_of_methodNamed B.named
  have hlocks := B.notSynchronized
  have hin : meth.name = "<init>" := (name_of_methodNamed B.named B.method).1
  have hin4 : ∀ w ∈ wsX40, w ∈ wX4_init := by decide +kernel
  subst hsz
  have hD := hD0.self (sz := s.heap.size)
  generalize hAe : va_A [(h0, .inr (4, [.null, .int 0, .null, .int 0, .int 0, .int 0, .int 0, .int 0, .int 0, .int 0])), (qX, .inl (cX, 1000, .inl (f)))] s.heap.size = A at hD ⊢
  have hA : ∀ q : Nat, s.heap.size ≤ q → A q := fun q h => by rw [← hAe]; exact Or.inr h
  have hS : va_S A s.heap s.heap [] := va_S.rf
  have hP : va_P (dC, dI) vwCl [(h0, .inr (4, [.null, .int 0, .null, .int 0, .int 0, .int 0, .int 0, .int 0, .int 0, .int 0])), (qX, .inl (cX, 1000, .inl (f)))] s.heap := hP
  have hl := lv_entry ([.ref h0, .ref qX, .int 0]) (n := 3) (Nat.le_of_ble_eq_true rfl)
  rw [lg_entry_eq]
  generalize (lg_sl ([.ref h0, .ref qX, .int 0]) ++ List.replicate (3 - (lg_sl ([.ref h0, .ref qX, .int 0])).length) Slot.unset).toArray = ls at hl ⊢
  have hl : lv_has ls 3 [(0, .ref h0), (1, .ref qX), (2, .int 0)] := hl
  refine lv_aload_n hx hb dX4_init_0 rfl (lv_at hl 0 rfl) ?_
  refine W.objInit hx hb hown (hts (.methodLink RX4 3 objectInit) (by decide +kernel)) (hts (.instanceMethod objectInit) (by decide +kernel)) (hts (.code objectInit ⟨#[0xb1]⟩ 1 none) (by decide +kernel)) rfl (by rw [hml]; exact hl.1) rfl dX4_init_1 (Nat.le_of_ble_eq_true rfl) (Nat.le_of_ble_eq_true rfl) ?_
  refine W.eq (g2 := F0 m 4 ls []) rfl ?_
  refine lv_aload_n hx hb dX4_init_4 rfl (lv_at hl 0 rfl) ?_
  refine lv_aload_n hx hb dX4_init_5 rfl (lv_at hl 1 rfl) ?_
  refine va_putF (D := (dC, dI)) (ci := 4) (v := .ref qX) (ty := .array .byte) (C := RX4) (T := TX4) (N := 10) hx hb hts hin4 tyX4 tyX4_ok nmX4 hown hK hP hD hS 0 rfl rfl 0 (by decide) (hts (.fieldLink RX4 9 "SkiShots$Reader" "text" "[B") (by decide +kernel)) (fun _ h9 => h9) rfl hin rfl (by decide +kernel) rfl rfl (Nat.le_of_ble_eq_true rfl) dX4_init_6 (fun H locs hP hD hS => ?_)
  have hP : va_P (dC, dI) vwCl [(h0, .inr (4, [.ref qX, .int 0, .null, .int 0, .int 0, .int 0, .int 0, .int 0, .int 0, .int 0])), (qX, .inl (cX, 1000, .inl (f)))] H := hP
  have hD : va_D A [(h0, .inr (4, [.ref qX, .int 0, .null, .int 0, .int 0, .int 0, .int 0, .int 0, .int 0, .int 0])), (qX, .inl (cX, 1000, .inl (f)))] := hD
  refine lv_aload_n hx hb dX4_init_9 rfl (lv_at hl 0 rfl) ?_
  refine lv_iload_n hx hb dX4_init_10 rfl (lv_at hl 2 rfl) ?_
  refine lv_aload_n hx hb dX4_init_11 rfl (lv_at hl 1 rfl) ?_
  refine va_alen (v := 1000) hx hb hK hP 1 0 rfl rfl rfl dX4_init_12 ?_
  refine va_mmin hx hb (hml.trans hl.1.symm) hown (hts (.methodLink RX4 15 Lib.Math.min.name) (by decide +kernel)) (hts (.static Lib.Math.min.name) (by decide +kernel)) (hts (.initialized "java/lang/Math") (by decide +kernel)) (hts (.code Lib.Math.min.name Lib.Math.min.code 2 (some .int)) (by decide +kernel)) (Nat.le_of_ble_eq_true rfl) (Nat.le_of_ble_eq_true rfl) (Nat.le_of_ble_eq_true rfl) (Nat.le_of_ble_eq_true rfl) dX4_init_13 ?_
  rw [show ((if (1000 : Int32) < 0 then 1000 else 0 : Int32)) = 0 from by decide]
  refine va_putF (D := (dC, dI)) (ci := 4) (v := .int 0) (ty := .int) (C := RX4) (T := TX4) (N := 10) hx hb hts hin4 tyX4 tyX4_ok nmX4 hown hK hP hD hS 0 rfl rfl 1 (by decide) (hts (.fieldLink RX4 21 "SkiShots$Reader" "length" "I") (by decide +kernel)) (fun _ h9 => h9) rfl hin rfl (by decide +kernel) rfl rfl (Nat.le_of_ble_eq_true rfl) dX4_init_16 (fun H locs hP hD hS => ?_)
  have hP : va_P (dC, dI) vwCl [(h0, .inr (4, [.ref qX, .int 0, .null, .int 0, .int 0, .int 0, .int 0, .int 0, .int 0, .int 0])), (qX, .inl (cX, 1000, .inl (f)))] H := hP
  have hD : va_D A [(h0, .inr (4, [.ref qX, .int 0, .null, .int 0, .int 0, .int 0, .int 0, .int 0, .int 0, .int 0])), (qX, .inl (cX, 1000, .inl (f)))] := hD
  refine lv_aload_n hx hb dX4_init_19 rfl (lv_at hl 0 rfl) ?_
  refine lv_bipush (v := 8) hx hb dX4_init_20 (by decide) ?_
  refine va_newq (N' := 8) hx hb hown (hts (.classLink RX4 25 RX2) (by decide +kernel)) (hE) hK hP hD hS hA (by decide +kernel) (by decide +kernel) (by decide +kernel) (show (0 + 1 : Nat) ≤ 1 from by omega) (show (0 + 8 : Nat) ≤ 8 from by omega) dX4_init_22 (fun q22 cA22 H hK hP hD hS => ?_)
  have hP : va_P (dC, dI) vwCl [(h0, .inr (4, [.ref qX, .int 0, .null, .int 0, .int 0, .int 0, .int 0, .int 0, .int 0, .int 0])), (qX, .inl (cX, 1000, .inl (f))), (q22, .inl (cA22, 8, .inr (.inr (.inr (.inr (fun _ => none))))))] H := hP
  have hD : va_D A [(h0, .inr (4, [.ref qX, .int 0, .null, .int 0, .int 0, .int 0, .int 0, .int 0, .int 0, .int 0])), (qX, .inl (cX, 1000, .inl (f))), (q22, .inl (cA22, 8, .inr (.inr (.inr (.inr (fun _ => none))))))] := hD
  have hK : va_K (dC, dI) vwCl [(cX, .byte), (cA22, .object RX2)] s := hK
  refine W.widen (k := 1) (n := 8) (by omega) (by omega) ?_
  refine va_putF (D := (dC, dI)) (ci := 4) (v := .ref q22) (ty := .array (.object "SkiShots$Format")) (C := RX4) (T := TX4) (N := 10) hx hb hts hin4 tyX4 tyX4_ok nmX4 hown hK hP hD hS 0 rfl rfl 2 (by decide) (hts (.fieldLink RX4 27 "SkiShots$Reader" "found" "[LSkiShots$Format;") (by decide +kernel)) (fun _ h9 => h9) rfl hin rfl (by decide +kernel) rfl rfl (Nat.le_of_ble_eq_true rfl) dX4_init_25 (fun H locs hP hD hS => ?_)
  have hP : va_P (dC, dI) vwCl [(h0, .inr (4, [.ref qX, .int 0, .ref q22, .int 0, .int 0, .int 0, .int 0, .int 0, .int 0, .int 0])), (qX, .inl (cX, 1000, .inl (f))), (q22, .inl (cA22, 8, .inr (.inr (.inr (.inr (fun _ => none))))))] H := hP
  have hD : va_D A [(h0, .inr (4, [.ref qX, .int 0, .ref q22, .int 0, .int 0, .int 0, .int 0, .int 0, .int 0, .int 0])), (qX, .inl (cX, 1000, .inl (f))), (q22, .inl (cA22, 8, .inr (.inr (.inr (.inr (fun _ => none))))))] := hD
  refine lv_aload_n hx hb dX4_init_28 rfl (lv_at hl 0 rfl) ?_
  refine lv_iconst (v := (-1)) hx hb dX4_init_29 (by decide) ?_
  refine va_put (D := (dC, dI)) (ci := 4) (v := .int ((-1))) (ty := .int) (C := RX4) (T := TX4) (N := 10) hx hb hts hin4 tyX4 tyX4_ok nmX4 hown hK hP hD hS 0 rfl rfl 5 (by decide) (hts (.fieldLink RX4 31 "SkiShots$Reader" "faultPlace" "I") (by decide +kernel)) (fun _ h9 => h9) rfl (by decide +kernel) rfl rfl (Nat.le_of_ble_eq_true rfl) dX4_init_30 (fun H locs hP hD hS => ?_)
  have hP : va_P (dC, dI) vwCl [(h0, .inr (4, [.ref qX, .int 0, .ref q22, .int 0, .int 0, .int ((-1)), .int 0, .int 0, .int 0, .int 0])), (qX, .inl (cX, 1000, .inl (f))), (q22, .inl (cA22, 8, .inr (.inr (.inr (.inr (fun _ => none))))))] H := hP
  have hD : va_D A [(h0, .inr (4, [.ref qX, .int 0, .ref q22, .int 0, .int 0, .int ((-1)), .int 0, .int 0, .int 0, .int 0])), (qX, .inl (cX, 1000, .inl (f))), (q22, .inl (cA22, 8, .inr (.inr (.inr (.inr (fun _ => none))))))] := hD
  have hP9 := hP.sub (ws' := [(h0, .inr (4, [.ref qX, .int 0, .ref q22, .int 0, .int 0, .int ((-1)), .int 0, .int 0, .int 0, .int 0])), (qX, .inl (cX, 1000, .inl (f))), (q22, .inl (cA22, 8, .inr (.inr (.inr (.inr (fun _ => none))))))]) [0, 1, 2] rfl
  have hD9 := hD.sub (ws' := [(h0, .inr (4, [.ref qX, .int 0, .ref q22, .int 0, .int 0, .int ((-1)), .int 0, .int 0, .int 0, .int 0])), (qX, .inl (cX, 1000, .inl (f))), (q22, .inl (cA22, 8, .inr (.inr (.inr (.inr (fun _ => none))))))]) [0, 1, 2] (by decide) rfl
  have hK9 := hK.sub (tys' := [(cX, .byte), (cA22, .object RX2)]) [0, 1] rfl
  refine W.widen (k := 1) (n := 8) (by omega) (by omega) ?_
  exact W.vret hx hb hr (fun t ht hW => ⟨⟨(), rfl, trivial, q22, cA22, by rw [ht]; exact hP9, va_K.moved hW.alike hK9, hD9⟩, hS.F ht⟩) hS.2.2 dX4_init_33
def wX5_formats : List Cond := .code yX5_formats cX5_formats 4 (some .int) :: ([.fieldLink RX5 36 "SkiShots" "tapeLength" "I", .classLink RX5 43 RX4, .instantiable RX4 10, .initialized RX4, .fieldLink RX5 9 "SkiShots" "tape" "[B", .methodLink RX5 45 yX4_init, .instanceMethod yX4_init, .fieldLink RX5 52 "SkiShots$Reader" "fault" "I", .fieldLink RX5 55 "SkiShots" "latestFault" "I", .fieldLink RX5 58 "SkiShots$Reader" "faultPlace" "I", .fieldLink RX5 19 "SkiShots" "latestFaultPlace" "I", .fieldLink RX5 61 "SkiShots$Reader" "found" "[LSkiShots$Format;", .fieldLink RX5 15 "SkiShots" "formatsByName" "[LSkiShots$Format;", .fieldLink RX5 64 "SkiShots$Reader" "foundCount" "I", .fieldLink RX5 67 "SkiShots" "formatCount" "I", .code yX4_init cX4_init 3 none, .methodLink RX4 3 objectInit, .instanceMethod objectInit, .code objectInit ⟨#[0xb1]⟩ 1 none, .fieldLink RX4 9 "SkiShots$Reader" "text" "[B", .methodLink RX4 15 Lib.Math.min.name, .static Lib.Math.min.name, .initialized "java/lang/Math", .code Lib.Math.min.name Lib.Math.min.code 2 (some .int), .fieldLink RX4 21 "SkiShots$Reader" "length" "I", .classLink RX4 25 RX2, .fieldLink RX4 27 "SkiShots$Reader" "found" "[LSkiShots$Format;", .fieldLink RX4 31 "SkiShots$Reader" "faultPlace" "I", .methodLink RX5 48 yX4_readFormats, .instanceMethod yX4_readFormats, .selects RX4 yX4_readFormats yX4_readFormats, .code yX4_readFormats cX4_readFormats 2 (some .boolean), .fieldLink RX4 37 "SkiShots$Reader" "sort" "I", .methodLink RX4 34 yX4_step, .instanceMethod yX4_step, .selects RX4 yX4_step yX4_step, .code yX4_step cX4_step 1 none, .fieldLink RX4 133 "SkiShots$Reader" "behind" "I", .fieldLink RX4 54 "SkiShots$Reader" "place" "I", .methodLink RX4 149 yX4_sortAt, .instanceMethod yX4_sortAt, .selects RX4 yX4_sortAt yX4_sortAt, .code yX4_sortAt cX4_sortAt 3 (some .int)] ++ wsX40 ++ wsX50)
set_option maxRecDepth 20000 in
theorem gX5_formats_c_X4_init_4 : GoodIn wX5_formats (wX4_init) := goodIn_p _ [16, 19, 24] rfl (by decide +kernel)
set_option maxRecDepth 20000 in
theorem gX5_formats_c_X4_readFormats_9 : GoodIn wX5_formats (wsV RX5 48 RX4 yX4_readFormats wX4_readFormats) := goodIn_p _ [32, 37, 24, 43] rfl (by decide +kernel)
set_option maxHeartbeats 4000000 in
set_option maxRecDepth 100000 in
theorem c_X5_formats (l : Launch) (dC : Nat → ClassId) (dI : Nat → Nat → Nat) (h0 : Nat) (qT : Nat) (qF : Nat) (qN : Nat) (qR : Nat) (qC : Nat) (cT : ClassId) (f : Nat → Int32) (p0 : Int32) (sz : Nat) : Met l yX5_formats wX5_formats ({ frames := 3, cells := 2, slots := 18, locals := 63 }) (va_Pc [.ref h0, .int p0] (fun U => U.heap.size = sz ∧ va_P (dC, dI) vwCl [(h0, .inr (5, [.ref qT, .int 0, .ref qF, .int 0, .int 0, .int ((-1)), .int 0, .ref qN, .int 0, .ref qR, .int 0, .int 0, .ref qC])), (qT, .inl (cT, 1000, .inl (f)))] U.heap ∧ va_K (dC, dI) vwCl [(cT, .byte)] U ∧ va_D (fun _ => True) [(h0, .inr (5, [.ref qT, .int 0, .ref qF, .int 0, .int 0, .int ((-1)), .int 0, .ref qN, .int 0, .ref qR, .int 0, .int 0, .ref qC])), (qT, .inl (cT, 1000, .inl (f)))] ∧ va_AO RX2 U)) (va_Qi (fun (r : Int32) (_ : Unit) => (p0.toInt = 0 ∧ r = 0) ∨ (¬ p0.toInt = 0 ∧ r = -2)) (fun _ t => True) (va_A [(h0, .inr (5, [.ref qT, .int 0, .ref qF, .int 0, .int 0, .int ((-1)), .int 0, .ref qN, .int 0, .ref qR, .int 0, .int 0, .ref qC])), (qT, .inl (cT, 1000, .inl (f)))] sz)) 2 18 (va_A [(h0, .inr (5, [.ref qT, .int 0, .ref qF, .int 0, .int 0, .int ((-1)), .int 0, .ref qN, .int 0, .ref qR, .int 0, .int 0, .ref qC])), (qT, .inl (cT, 1000, .inl (f)))] sz) := by
  refine Met.ofW (cc := cX5_formats) (maxL := 4) (ret := (some .int)) (by decide) rfl ?_
  intro p e s m args below meth c s₁ B hml hv
  obtain ⟨rfl, hsz, hP, hK, hD0, hE⟩ := hv
  have hx := B.exec
  have hb := B.bytes
  have hr := B.returns
  have hts := atoms_spec (ws := wX5_formats) B.pre
  have hown : s.vm.findClass RX5 = some m.cls := findClass_of_methodNamed B.named
  have hlocks := B.notSynchronized
  have hin4 : ∀ w ∈ wsX40, w ∈ wX5_formats := by decide +kernel
  have hin5 : ∀ w ∈ wsX50, w ∈ wX5_formats := by decide +kernel
  subst hsz
  have hD := hD0.self (sz := s.heap.size)
  generalize hAe : va_A [(h0, .inr (5, [.ref qT, .int 0, .ref qF, .int 0, .int 0, .int ((-1)), .int 0, .ref qN, .int 0, .ref qR, .int 0, .int 0, .ref qC])), (qT, .inl (cT, 1000, .inl (f)))] s.heap.size = A at hD ⊢
  have hA : ∀ q : Nat, s.heap.size ≤ q → A q := fun q h => by rw [← hAe]; exact Or.inr h
  have hS : va_S A s.heap s.heap [] := va_S.rf
  have hP : va_P (dC, dI) vwCl [(h0, .inr (5, [.ref qT, .int 0, .ref qF, .int 0, .int 0, .int ((-1)), .int 0, .ref qN, .int 0, .ref qR, .int 0, .int 0, .ref qC])), (qT, .inl (cT, 1000, .inl (f)))] s.heap := hP
  have hl := lv_entry ([.ref h0, .int p0]) (n := 4) (Nat.le_of_ble_eq_true rfl)
  rw [lg_entry_eq]
  generalize (lg_sl ([.ref h0, .int p0]) ++ List.replicate (4 - (lg_sl ([.ref h0, .int p0])).length) Slot.unset).toArray = ls at hl ⊢
  have hl : lv_has ls 4 [(0, .ref h0), (1, .int p0)] := hl
  refine lv_iload_n hx hb dX5_formats_0 rfl (lv_at hl 1 rfl) ?_
  refine lv_if_lt (tgt := 12) hx hb dX5_formats_1 (by decide) (fun c_1 => ?_) (fun c_1 => ?_)
  · refine lv_bipush (v := (-2)) hx hb dX5_formats_12 (by decide) ?_
    refine W.widen (k := 2) (n := 18) (by omega) (by omega) ?_
    exact W.iret (v := (-2)) hx hb hr (fun t ht hW => ⟨⟨(-2), (), rfl, by (try simp only [and_true, true_and, and_false, false_and, or_true, true_or, or_false, false_or, not_true_eq_false, not_false_eq_true, num_lt, num_le, num_eq, Int32.zero_add, Int32.sub_zero, Int32.add_zero, num_m2, num_m1, num_0, num_1, num_2, num_3, num_4, num_5, num_6, num_7, num_8, num_16, num_20, num_31, num_200, num_1000] at c_1 ⊢) <;> omega, trivial⟩, hS.F ht⟩) hS.2.2 dX5_formats_14
  · refine lv_iload_n hx hb dX5_formats_4 rfl (lv_at hl 1 rfl) ?_
    refine lv_aload_n hx hb dX5_formats_5 rfl (lv_at hl 0 rfl) ?_
    refine va_get (D := (dC, dI)) (ci := 5) (v := .int 0) (C := RX5) (T := TX5) (N := 13) hx hb hts hin5 hown hK hP 0 rfl rfl 1 (by decide) (hts (.fieldLink RX5 36 "SkiShots" "tapeLength" "I") (by decide +kernel)) (fun _ h9 => h9) rfl dX5_formats_6 ?_
    refine lv_icmp_le (tgt := 15) hx hb dX5_formats_9 (by decide) (fun c_2 => ?_) (fun c_2 => ?_)
    · have e0 : p0 = 0 := by (simp only [and_true, true_and, and_false, false_and, or_true, true_or, or_false, false_or, not_true_eq_false, not_false_eq_true, num_lt, num_le, num_eq, Int32.zero_add, Int32.sub_zero, Int32.add_zero, num_m2, num_m1, num_0, num_1, num_2, num_3, num_4, num_5, num_6, num_7, num_8, num_16, num_20, num_31, num_200, num_1000] at c_1 c_2 ⊢); omega
      subst e0
      refine va_new (ci := 4) (fs := [.null, .int 0, .null, .int 0, .int 0, .int 0, .int 0, .int 0, .int 0, .int 0]) (C := RX4) (T := TX4) (N := 10) hx hb hts hin4 tyX4 tyX4_ok hown (hts (.classLink RX5 43 RX4) (by decide +kernel)) (hts (.instantiable RX4 10) (by decide +kernel)) (hts (.initialized RX4) (by decide +kernel)) hK hP hD hS hA rfl (fun j hj => by rcases (show j = 0 ∨ j = 1 ∨ j = 2 ∨ j = 3 ∨ j = 4 ∨ j = 5 ∨ j = 6 ∨ j = 7 ∨ j = 8 ∨ j = 9 by omega) with rfl | rfl | rfl | rfl | rfl | rfl | rfl | rfl | rfl | rfl <;> rfl) (show (0 + 1 : Nat) ≤ 2 from by omega) (show (0 + 10 : Nat) ≤ 18 from by omega) dX5_formats_15 (fun q15 H hP hD hS => ?_)
      have hP : va_P (dC, dI) vwCl [(h0, .inr (5, [.ref qT, .int 0, .ref qF, .int 0, .int 0, .int ((-1)), .int 0, .ref qN, .int 0, .ref qR, .int 0, .int 0, .ref qC])), (qT, .inl (cT, 1000, .inl (f))), (q15, .inr (4, [.null, .int 0, .null, .int 0, .int 0, .int 0, .int 0, .int 0, .int 0, .int 0]))] H := hP
      have hD : va_D A [(h0, .inr (5, [.ref qT, .int 0, .ref qF, .int 0, .int 0, .int ((-1)), .int 0, .ref qN, .int 0, .ref qR, .int 0, .int 0, .ref qC])), (qT, .inl (cT, 1000, .inl (f))), (q15, .inr (4, [.null, .int 0, .null, .int 0, .int 0, .int 0, .int 0, .int 0, .int 0, .int 0]))] := hD
      refine W.widen (k := 1) (n := 10) (by omega) (by omega) ?_
      refine lv_dup hx hb dX5_formats_18 rfl ?_
      refine lv_aload_n hx hb dX5_formats_19 rfl (lv_at hl 0 rfl) ?_
      refine va_get (D := (dC, dI)) (ci := 5) (v := .ref qT) (C := RX5) (T := TX5) (N := 13) hx hb hts hin5 hown hK hP 0 rfl rfl 0 (by decide) (hts (.fieldLink RX5 9 "SkiShots" "tape" "[B") (by decide +kernel)) (fun _ h9 => h9) rfl dX5_formats_20 ?_
      refine lv_iload_n hx hb dX5_formats_23 rfl (lv_at hl 1 rfl) ?_
      have hPc := hP.sub (ws' := [(q15, .inr (4, [.null, .int 0, .null, .int 0, .int 0, .int 0, .int 0, .int 0, .int 0, .int 0])), (qT, .inl (cT, 1000, .inl (f)))]) [2, 1] rfl
      have hDc := hD.sub (ws' := [(q15, .inr (4, [.null, .int 0, .null, .int 0, .int 0, .int 0, .int 0, .int 0, .int 0, .int 0])), (qT, .inl (cT, 1000, .inl (f)))]) [2, 1] (by decide) rfl
      have hKc := hK.sub (tys' := [(cT, .byte)]) [0] rfl
      have hFc := va_free (wc := [(q15, .inr (4, [.null, .int 0, .null, .int 0, .int 0, .int 0, .int 0, .int 0, .int 0, .int 0])), (qT, .inl (cT, 1000, .inl (f)))]) hD hS hA [2, 1] rfl
      refine va_callv (va_runI (As := [.ref qT, .int 0]) (rest := [.ref q15]) ⟨hx, hb, hml, hown, hts⟩ (c_X4_init l dC dI q15 qT cT (f) H.size) (cwI 2 hts gX5_formats_c_X4_init_4 rfl rfl rfl (hts (.initialized RX4) (by decide +kernel)) (hts (.methodLink RX5 45 yX4_init) (by decide +kernel)) (hts (.instanceMethod yX4_init) (by decide +kernel)) rfl (by decide +kernel) ⟨Nat.le_of_ble_eq_true rfl, Nat.le_of_ble_eq_true rfl⟩) ⟨fun a U g mk q => by obtain ⟨q0, q1, qP, qK, qD, qE⟩ := q; exact ⟨q0, q1, qP, va_K.moved (u := U) (U := U.calling g mk a) (Vm.Alike.refl U.vm) qK, qD, va_AO.moved (u := U) (U := U.calling g mk a) (Vm.Alike.refl U.vm) qE⟩, fun U hU hW => ⟨rfl, by rw [hU], by rw [hU]; exact hPc, va_K.moved hW.alike hKc, hDc.weaken (fun _ _ _ _ => trivial), va_AO.moved hW.alike hE⟩⟩ rfl rfl hl.1 rfl (lv_room (Nat.le_of_ble_eq_true rfl)) dX5_formats_24 ⟨show (1 + 1 : Nat) ≤ 2 from by omega, show (10 + 8 : Nat) ≤ 18 from by omega⟩) hS (fun q _ h => hFc q h) hFc (fun u t H1 locs ht hvm hw hB hz1 hk1 hS => ?_)
      obtain ⟨qY_5, cY_6, hP1, hK1, hD1⟩ := hB
      rw [ht] at hP1
      have hK1 := va_K.moved hvm.symm hK1
      try dsimp only at hw
      obtain ⟨hP, hD⟩ := va_join (wr := [(h0, .inr (5, [.ref qT, .int 0, .ref qF, .int 0, .int 0, .int ((-1)), .int 0, .ref qN, .int 0, .ref qR, .int 0, .int 0, .ref qC]))]) (w1 := [(q15, .inr (4, [.ref qT, .int 0, .ref qY_5, .int 0, .int 0, .int ((-1)), .int 0, .int 0, .int 0, .int 0])), (qT, .inl (cT, 1000, .inl ((f)))), (qY_5, .inl (cY_6, 8, .inr (.inr (.inr (.inr (fun _ => none))))))]) hP hD [2, 1] [0] rfl rfl (by decide) (by decide) hk1 hFc hP1 hD1
      have hK := hK.app hK1
      have hK : va_K (dC, dI) vwCl [(cT, .byte), (cT, .byte), (cY_6, .object RX2)] s := hK
      generalize H1 = H at hP hS ⊢
      have hP : va_P (dC, dI) vwCl [(h0, .inr (5, [.ref qT, .int 0, .ref qF, .int 0, .int 0, .int ((-1)), .int 0, .ref qN, .int 0, .ref qR, .int 0, .int 0, .ref qC])), (q15, .inr (4, [.ref qT, .int 0, .ref qY_5, .int 0, .int 0, .int ((-1)), .int 0, .int 0, .int 0, .int 0])), (qT, .inl (cT, 1000, .inl ((f)))), (qY_5, .inl (cY_6, 8, .inr (.inr (.inr (.inr (fun _ => none))))))] H := hP
      have hD : va_D A [(h0, .inr (5, [.ref qT, .int 0, .ref qF, .int 0, .int 0, .int ((-1)), .int 0, .ref qN, .int 0, .ref qR, .int 0, .int 0, .ref qC])), (q15, .inr (4, [.ref qT, .int 0, .ref qY_5, .int 0, .int 0, .int ((-1)), .int 0, .int 0, .int 0, .int 0])), (qT, .inl (cT, 1000, .inl ((f)))), (qY_5, .inl (cY_6, 8, .inr (.inr (.inr (.inr (fun _ => none))))))] := hD
      refine W.widen (k := 2) (n := 18) (by omega) (by omega) ?_
      have hw_7 := hw
      refine lv_astore_n (lv' := [(2, .ref q15), (0, .ref h0), (1, .int 0)]) hx hb dX5_formats_27 rfl hl (by decide) rfl (fun ls hl => ?_)
      refine lv_aload_n hx hb dX5_formats_28 rfl (lv_at hl 0 rfl) ?_
      have hPc := hP.sub (ws' := [(q15, .inr (4, [.ref qT, .int 0, .ref qY_5, .int 0, .int 0, .int ((-1)), .int 0, .int 0, .int 0, .int 0]))]) [1] rfl
      have hDc := hD.sub (ws' := [(q15, .inr (4, [.ref qT, .int 0, .ref qY_5, .int 0, .int 0, .int ((-1)), .int 0, .int 0, .int 0, .int 0]))]) [1] (by decide) rfl
      have hKc := hK.sub (tys' := []) [] rfl
      have hFc := va_free (wc := [(q15, .inr (4, [.ref qT, .int 0, .ref qY_5, .int 0, .int 0, .int ((-1)), .int 0, .int 0, .int 0, .int 0]))]) hD hS hA [1] rfl
      refine va_calli (va_runV (As := []) (rest := []) ⟨hx, hb, hml, hown, hts⟩ (c_X4_readFormats l dC dI q15 qT qY_5 H.size) (cwV 0 hts gX5_formats_c_X4_readFormats_9 rfl rfl rfl (by decide +kernel) ⟨Nat.le_of_ble_eq_true rfl, Nat.le_of_ble_eq_true rfl⟩) ⟨fun a U g mk q => by obtain ⟨q0, q1, qP, qK, qD⟩ := q; exact ⟨q0, q1, qP, va_K.moved (u := U) (U := U.calling g mk a) (Vm.Alike.refl U.vm) qK, qD⟩, va_recv hKc hPc (ci := 4) (q0 := 0) rfl rfl, fun U hU hW => ⟨rfl, by rw [hU], by rw [hU]; exact hPc, va_K.moved hW.alike hKc, hDc.weaken (fun _ _ _ _ => trivial)⟩⟩ rfl rfl hl.1 rfl (lv_room (Nat.le_of_ble_eq_true rfl)) dX5_formats_29 ⟨show (2 + 0 : Nat) ≤ 2 from by omega, show (18 + 0 : Nat) ≤ 18 from by omega⟩) hS (fun q _ h => hFc q h) hFc (fun r_8 u t H1 locs ht hvm hw hB hz1 hk1 hS => ?_)
      obtain ⟨hP1, hK1, hD1⟩ := hB
      rw [ht] at hP1
      have hK1 := va_K.moved hvm.symm hK1
      try dsimp only at hw
      obtain ⟨hP, hD⟩ := va_join (wr := [(h0, .inr (5, [.ref qT, .int 0, .ref qF, .int 0, .int 0, .int ((-1)), .int 0, .ref qN, .int 0, .ref qR, .int 0, .int 0, .ref qC])), (qT, .inl (cT, 1000, .inl ((f)))), (qY_5, .inl (cY_6, 8, .inr (.inr (.inr (.inr (fun _ => none))))))]) (w1 := [(q15, .inr (4, [.ref qT, .int 0, .ref qY_5, .int 0, .int 0, .int ((-1)), .int 0, .int 0, .int 0, .int 0]))]) hP hD [1] [0, 2, 3] rfl rfl (by decide) (by decide) hk1 hFc hP1 hD1
      generalize H1 = H at hP hS ⊢
      have hP : va_P (dC, dI) vwCl [(h0, .inr (5, [.ref qT, .int 0, .ref qF, .int 0, .int 0, .int ((-1)), .int 0, .ref qN, .int 0, .ref qR, .int 0, .int 0, .ref qC])), (qT, .inl (cT, 1000, .inl ((f)))), (qY_5, .inl (cY_6, 8, .inr (.inr (.inr (.inr (fun _ => none)))))), (q15, .inr (4, [.ref qT, .int 0, .ref qY_5, .int 0, .int 0, .int ((-1)), .int 0, .int 0, .int 0, .int 0]))] H := hP
      have hD : va_D A [(h0, .inr (5, [.ref qT, .int 0, .ref qF, .int 0, .int 0, .int ((-1)), .int 0, .ref qN, .int 0, .ref qR, .int 0, .int 0, .ref qC])), (qT, .inl (cT, 1000, .inl ((f)))), (qY_5, .inl (cY_6, 8, .inr (.inr (.inr (.inr (fun _ => none)))))), (q15, .inr (4, [.ref qT, .int 0, .ref qY_5, .int 0, .int 0, .int ((-1)), .int 0, .int 0, .int 0, .int 0]))] := hD
      have hw_10 := hw
      subst hw_10
      refine lv_istore_n (lv' := [(3, .int 1), (2, .ref q15), (0, .ref h0), (1, .int 0)]) hx hb dX5_formats_32 rfl hl (by decide) rfl (fun ls hl => ?_)
      refine lv_aload_n hx hb dX5_formats_33 rfl (lv_at hl 2 rfl) ?_
      refine lv_iconst (v := 0) hx hb dX5_formats_34 (by decide) ?_
      refine va_put (D := (dC, dI)) (ci := 5) (v := .int 0) (ty := .int) (C := RX5) (T := TX5) (N := 13) hx hb hts hin5 tyX5 tyX5_ok nmX5 hown hK hP hD hS 0 rfl rfl 1 (by decide) (hts (.fieldLink RX5 36 "SkiShots" "tapeLength" "I") (by decide +kernel)) (fun _ h9 => h9) rfl (by decide +kernel) rfl rfl (Nat.le_of_ble_eq_true rfl) dX5_formats_35 (fun H locs hP hD hS => ?_)
      have hP : va_P (dC, dI) vwCl [(h0, .inr (5, [.ref qT, .int 0, .ref qF, .int 0, .int 0, .int ((-1)), .int 0, .ref qN, .int 0, .ref qR, .int 0, .int 0, .ref qC])), (qT, .inl (cT, 1000, .inl ((f)))), (qY_5, .inl (cY_6, 8, .inr (.inr (.inr (.inr (fun _ => none)))))), (q15, .inr (4, [.ref qT, .int 0, .ref qY_5, .int 0, .int 0, .int ((-1)), .int 0, .int 0, .int 0, .int 0]))] H := hP
      have hD : va_D A [(h0, .inr (5, [.ref qT, .int 0, .ref qF, .int 0, .int 0, .int ((-1)), .int 0, .ref qN, .int 0, .ref qR, .int 0, .int 0, .ref qC])), (qT, .inl (cT, 1000, .inl ((f)))), (qY_5, .inl (cY_6, 8, .inr (.inr (.inr (.inr (fun _ => none)))))), (q15, .inr (4, [.ref qT, .int 0, .ref qY_5, .int 0, .int 0, .int ((-1)), .int 0, .int 0, .int 0, .int 0]))] := hD
      refine lv_aload_n hx hb dX5_formats_38 rfl (lv_at hl 2 rfl) ?_
      refine lv_aload_n hx hb dX5_formats_39 rfl (lv_at hl 1 rfl) ?_
      refine va_get (D := (dC, dI)) (ci := 4) (v := .int 0) (C := RX4) (T := TX4) (N := 10) hx hb hts hin4 hown hK hP 3 rfl rfl 4 (by decide) (hts (.fieldLink RX5 52 "SkiShots$Reader" "fault" "I") (by decide +kernel)) (fun _ h9 => h9) rfl dX5_formats_40 ?_
      refine va_put (D := (dC, dI)) (ci := 5) (v := .int 0) (ty := .int) (C := RX5) (T := TX5) (N := 13) hx hb hts hin5 tyX5 tyX5_ok nmX5 hown hK hP hD hS 0 rfl rfl 4 (by decide) (hts (.fieldLink RX5 55 "SkiShots" "latestFault" "I") (by decide +kernel)) (fun _ h9 => h9) rfl (by decide +kernel) rfl rfl (Nat.le_of_ble_eq_true rfl) dX5_formats_43 (fun H locs hP hD hS => ?_)
      have hP : va_P (dC, dI) vwCl [(h0, .inr (5, [.ref qT, .int 0, .ref qF, .int 0, .int 0, .int ((-1)), .int 0, .ref qN, .int 0, .ref qR, .int 0, .int 0, .ref qC])), (qT, .inl (cT, 1000, .inl ((f)))), (qY_5, .inl (cY_6, 8, .inr (.inr (.inr (.inr (fun _ => none)))))), (q15, .inr (4, [.ref qT, .int 0, .ref qY_5, .int 0, .int 0, .int ((-1)), .int 0, .int 0, .int 0, .int 0]))] H := hP
      have hD : va_D A [(h0, .inr (5, [.ref qT, .int 0, .ref qF, .int 0, .int 0, .int ((-1)), .int 0, .ref qN, .int 0, .ref qR, .int 0, .int 0, .ref qC])), (qT, .inl (cT, 1000, .inl ((f)))), (qY_5, .inl (cY_6, 8, .inr (.inr (.inr (.inr (fun _ => none)))))), (q15, .inr (4, [.ref qT, .int 0, .ref qY_5, .int 0, .int 0, .int ((-1)), .int 0, .int 0, .int 0, .int 0]))] := hD
      refine lv_aload_n hx hb dX5_formats_46 rfl (lv_at hl 2 rfl) ?_
      refine lv_aload_n hx hb dX5_formats_47 rfl (lv_at hl 1 rfl) ?_
      refine va_get (D := (dC, dI)) (ci := 4) (v := .int ((-1))) (C := RX4) (T := TX4) (N := 10) hx hb hts hin4 hown hK hP 3 rfl rfl 5 (by decide) (hts (.fieldLink RX5 58 "SkiShots$Reader" "faultPlace" "I") (by decide +kernel)) (fun _ h9 => h9) rfl dX5_formats_48 ?_
      refine va_put (D := (dC, dI)) (ci := 5) (v := .int ((-1))) (ty := .int) (C := RX5) (T := TX5) (N := 13) hx hb hts hin5 tyX5 tyX5_ok nmX5 hown hK hP hD hS 0 rfl rfl 5 (by decide) (hts (.fieldLink RX5 19 "SkiShots" "latestFaultPlace" "I") (by decide +kernel)) (fun _ h9 => h9) rfl (by decide +kernel) rfl rfl (Nat.le_of_ble_eq_true rfl) dX5_formats_51 (fun H locs hP hD hS => ?_)
      have hP : va_P (dC, dI) vwCl [(h0, .inr (5, [.ref qT, .int 0, .ref qF, .int 0, .int 0, .int ((-1)), .int 0, .ref qN, .int 0, .ref qR, .int 0, .int 0, .ref qC])), (qT, .inl (cT, 1000, .inl ((f)))), (qY_5, .inl (cY_6, 8, .inr (.inr (.inr (.inr (fun _ => none)))))), (q15, .inr (4, [.ref qT, .int 0, .ref qY_5, .int 0, .int 0, .int ((-1)), .int 0, .int 0, .int 0, .int 0]))] H := hP
      have hD : va_D A [(h0, .inr (5, [.ref qT, .int 0, .ref qF, .int 0, .int 0, .int ((-1)), .int 0, .ref qN, .int 0, .ref qR, .int 0, .int 0, .ref qC])), (qT, .inl (cT, 1000, .inl ((f)))), (qY_5, .inl (cY_6, 8, .inr (.inr (.inr (.inr (fun _ => none)))))), (q15, .inr (4, [.ref qT, .int 0, .ref qY_5, .int 0, .int 0, .int ((-1)), .int 0, .int 0, .int 0, .int 0]))] := hD
      refine lv_iload_n hx hb dX5_formats_54 rfl (lv_at hl 0 rfl) ?_
      refine lv_if_ne (tgt := 60) hx hb dX5_formats_55 (by decide) (fun c_11 => ?_) (fun c_11 => absurd c_11 (by decide))
      refine lv_aload_n hx hb dX5_formats_60 rfl (lv_at hl 2 rfl) ?_
      refine lv_aload_n hx hb dX5_formats_61 rfl (lv_at hl 1 rfl) ?_
      refine va_get (D := (dC, dI)) (ci := 4) (v := .ref qY_5) (C := RX4) (T := TX4) (N := 10) hx hb hts hin4 hown hK hP 3 rfl rfl 2 (by decide) (hts (.fieldLink RX5 61 "SkiShots$Reader" "found" "[LSkiShots$Format;") (by decide +kernel)) (fun _ h9 => h9) rfl dX5_formats_62 ?_
      refine va_put (D := (dC, dI)) (ci := 5) (v := .ref qY_5) (ty := .array (.object "SkiShots$Format")) (C := RX5) (T := TX5) (N := 13) hx hb hts hin5 tyX5 tyX5_ok nmX5 hown hK hP hD hS 0 rfl rfl 2 (by decide) (hts (.fieldLink RX5 15 "SkiShots" "formatsByName" "[LSkiShots$Format;") (by decide +kernel)) (fun _ h9 => h9) rfl (by decide +kernel) rfl rfl (Nat.le_of_ble_eq_true rfl) dX5_formats_65 (fun H locs hP hD hS => ?_)
      have hP : va_P (dC, dI) vwCl [(h0, .inr (5, [.ref qT, .int 0, .ref qY_5, .int 0, .int 0, .int ((-1)), .int 0, .ref qN, .int 0, .ref qR, .int 0, .int 0, .ref qC])), (qT, .inl (cT, 1000, .inl ((f)))), (qY_5, .inl (cY_6, 8, .inr (.inr (.inr (.inr (fun _ => none)))))), (q15, .inr (4, [.ref qT, .int 0, .ref qY_5, .int 0, .int 0, .int ((-1)), .int 0, .int 0, .int 0, .int 0]))] H := hP
      have hD : va_D A [(h0, .inr (5, [.ref qT, .int 0, .ref qY_5, .int 0, .int 0, .int ((-1)), .int 0, .ref qN, .int 0, .ref qR, .int 0, .int 0, .ref qC])), (qT, .inl (cT, 1000, .inl ((f)))), (qY_5, .inl (cY_6, 8, .inr (.inr (.inr (.inr (fun _ => none)))))), (q15, .inr (4, [.ref qT, .int 0, .ref qY_5, .int 0, .int 0, .int ((-1)), .int 0, .int 0, .int 0, .int 0]))] := hD
      refine lv_aload_n hx hb dX5_formats_68 rfl (lv_at hl 2 rfl) ?_
      refine lv_aload_n hx hb dX5_formats_69 rfl (lv_at hl 1 rfl) ?_
      refine va_get (D := (dC, dI)) (ci := 4) (v := .int 0) (C := RX4) (T := TX4) (N := 10) hx hb hts hin4 hown hK hP 3 rfl rfl 3 (by decide) (hts (.fieldLink RX5 64 "SkiShots$Reader" "foundCount" "I") (by decide +kernel)) (fun _ h9 => h9) rfl dX5_formats_70 ?_
      refine va_put (D := (dC, dI)) (ci := 5) (v := .int 0) (ty := .int) (C := RX5) (T := TX5) (N := 13) hx hb hts hin5 tyX5 tyX5_ok nmX5 hown hK hP hD hS 0 rfl rfl 3 (by decide) (hts (.fieldLink RX5 67 "SkiShots" "formatCount" "I") (by decide +kernel)) (fun _ h9 => h9) rfl (by decide +kernel) rfl rfl (Nat.le_of_ble_eq_true rfl) dX5_formats_73 (fun H locs hP hD hS => ?_)
      have hP : va_P (dC, dI) vwCl [(h0, .inr (5, [.ref qT, .int 0, .ref qY_5, .int 0, .int 0, .int ((-1)), .int 0, .ref qN, .int 0, .ref qR, .int 0, .int 0, .ref qC])), (qT, .inl (cT, 1000, .inl ((f)))), (qY_5, .inl (cY_6, 8, .inr (.inr (.inr (.inr (fun _ => none)))))), (q15, .inr (4, [.ref qT, .int 0, .ref qY_5, .int 0, .int 0, .int ((-1)), .int 0, .int 0, .int 0, .int 0]))] H := hP
      have hD : va_D A [(h0, .inr (5, [.ref qT, .int 0, .ref qY_5, .int 0, .int 0, .int ((-1)), .int 0, .ref qN, .int 0, .ref qR, .int 0, .int 0, .ref qC])), (qT, .inl (cT, 1000, .inl ((f)))), (qY_5, .inl (cY_6, 8, .inr (.inr (.inr (.inr (fun _ => none)))))), (q15, .inr (4, [.ref qT, .int 0, .ref qY_5, .int 0, .int 0, .int ((-1)), .int 0, .int 0, .int 0, .int 0]))] := hD
      refine lv_aload_n hx hb dX5_formats_76 rfl (lv_at hl 2 rfl) ?_
      refine va_get (D := (dC, dI)) (ci := 5) (v := .int 0) (C := RX5) (T := TX5) (N := 13) hx hb hts hin5 hown hK hP 0 rfl rfl 3 (by decide) (hts (.fieldLink RX5 67 "SkiShots" "formatCount" "I") (by decide +kernel)) (fun _ h9 => h9) rfl dX5_formats_77 ?_
      refine W.widen (k := 2) (n := 18) (by omega) (by omega) ?_
      exact W.iret (v := 0) hx hb hr (fun t ht hW => ⟨⟨0, (), rfl, by (try simp only [and_true, true_and, and_false, false_and, or_true, true_or, or_false, false_or, not_true_eq_false, not_false_eq_true, num_lt, num_le, num_eq, Int32.zero_add, Int32.sub_zero, Int32.add_zero, num_m2, num_m1, num_0, num_1, num_2, num_3, num_4, num_5, num_6, num_7, num_8, num_16, num_20, num_31, num_200, num_1000] at c_11 ⊢) <;> omega, trivial⟩, hS.F ht⟩) hS.2.2 dX5_formats_80
    · refine lv_bipush (v := (-2)) hx hb dX5_formats_12 (by decide) ?_
      refine W.widen (k := 2) (n := 18) (by omega) (by omega) ?_
      exact W.iret (v := (-2)) hx hb hr (fun t ht hW => ⟨⟨(-2), (), rfl, by (try simp only [and_true, true_and, and_false, false_and, or_true, true_or, or_false, false_or, not_true_eq_false, not_false_eq_true, num_lt, num_le, num_eq, Int32.zero_add, Int32.sub_zero, Int32.add_zero, num_m2, num_m1, num_0, num_1, num_2, num_3, num_4, num_5, num_6, num_7, num_8, num_16, num_20, num_31, num_200, num_1000] at c_1 c_2 ⊢) <;> omega, trivial⟩, hS.F ht⟩) hS.2.2 dX5_formats_14
end
section
theorem ha_i (N : Nat) (ty : FieldType) (h : defaultValue ty = .int 0) : ∀ cA : ClassId, vp_cell cA (N, .inl (fun _ => 0)) = arrV cA N (fun _ => defaultValue ty) := by intro cA; rw [h]; rfl
def wX5_init : List Cond := .code yX5_init cX5_init 1 none :: ([.methodLink RX5 1 objectInit, .instanceMethod objectInit, .code objectInit ⟨#[0xb1]⟩ 1 none, .arrayClass .byte, .fieldLink RX5 9 "SkiShots" "tape" "[B", .classLink RX5 13 RX2, .fieldLink RX5 15 "SkiShots" "formatsByName" "[LSkiShots$Format;", .fieldLink RX5 19 "SkiShots" "latestFaultPlace" "I", .arrayClass .int, .fieldLink RX5 23 "SkiShots" "nations" "[I", .classLink RX5 27 RX3, .fieldLink RX5 29 "SkiShots" "races" "[LSkiShots$Race;", .fieldLink RX5 33 "SkiShots" "cup" "[I"] ++ wsX50)
set_option maxHeartbeats 4000000 in
set_option maxRecDepth 100000 in
theorem c_X5_init (l : Launch) (dC : Nat → ClassId) (dI : Nat → Nat → Nat) (h0 : Nat) (sz : Nat) : Met l yX5_init wX5_init ({ frames := 1, cells := 5, slots := 1048, locals := 12 }) (va_Pc [.ref h0] (fun U => U.heap.size = sz ∧ va_P (dC, dI) vwCl [(h0, .inr (5, [.null, .int 0, .null, .int 0, .int 0, .int 0, .int 0, .null, .int 0, .null, .int 0, .int 0, .null]))] U.heap ∧ va_K (dC, dI) vwCl [] U ∧ va_D (fun _ => True) [(h0, .inr (5, [.null, .int 0, .null, .int 0, .int 0, .int 0, .int 0, .null, .int 0, .null, .int 0, .int 0, .null]))] ∧ va_AO RX2 U ∧ va_AO RX3 U)) (va_Qv (fun (_ : Unit) => True) (fun _ t => ∃ (qT : Nat) (qF : Nat) (qN : Nat) (qR : Nat) (qC : Nat) (cT : ClassId) (cF : ClassId) (cN : ClassId) (cR : ClassId) (cC : ClassId), va_P (dC, dI) vwCl [(h0, .inr (5, [.ref qT, .int 0, .ref qF, .int 0, .int 0, .int ((-1)), .int 0, .ref qN, .int 0, .ref qR, .int 0, .int 0, .ref qC])), (qT, .inl (cT, 1000, .inl (fun _ => 0))), (qF, .inl (cF, 8, .inr (.inr (.inr (.inr (fun _ => none)))))), (qN, .inl (cN, 16, .inl (fun _ => 0))), (qR, .inl (cR, 8, .inr (.inr (.inr (.inr (fun _ => none)))))), (qC, .inl (cC, 16, .inl (fun _ => 0)))] t.heap ∧ va_K (dC, dI) vwCl [(cT, .byte), (cF, .object RX2), (cN, .int), (cR, .object RX3), (cC, .int)] t ∧ va_D (va_A [(h0, .inr (5, [.null, .int 0, .null, .int 0, .int 0, .int 0, .int 0, .null, .int 0, .null, .int 0, .int 0, .null]))] sz) [(h0, .inr (5, [.ref qT, .int 0, .ref qF, .int 0, .int 0, .int ((-1)), .int 0, .ref qN, .int 0, .ref qR, .int 0, .int 0, .ref qC])), (qT, .inl (cT, 1000, .inl (fun _ => 0))), (qF, .inl (cF, 8, .inr (.inr (.inr (.inr (fun _ => none)))))), (qN, .inl (cN, 16, .inl (fun _ => 0))), (qR, .inl (cR, 8, .inr (.inr (.inr (.inr (fun _ => none)))))), (qC, .inl (cC, 16, .inl (fun _ => 0)))]) (va_A [(h0, .inr (5, [.null, .int 0, .null, .int 0, .int 0, .int 0, .int 0, .null, .int 0, .null, .int 0, .int 0, .null]))] sz)) 5 1048 (va_A [(h0, .inr (5, [.null, .int 0, .null, .int 0, .int 0, .int 0, .int 0, .null, .int 0, .null, .int 0, .int 0, .null]))] sz) := by
  refine Met.ofW (cc := cX5_init) (maxL := 1) (ret := none) (by decide) rfl ?_
  intro p e s m args below meth c s₁ B hml hv
  obtain ⟨rfl, hsz, hP, hK, hD0, hE⟩ := hv
  have hx := B.exec
  have hb := B.bytes
  have hr := B.returns
  have hts := atoms_spec (ws := wX5_init) B.pre
  have hown : s.vm.findClass RX5 = some m.cls := findClass_of_methodNamed B.named
  have hlocks := B.notSynchronized
  have hin : meth.name = "<init>" := (name_of_methodNamed B.named B.method).1
  have hin5 : ∀ w ∈ wsX50, w ∈ wX5_init := by decide +kernel
  subst hsz
  have hD := hD0.self (sz := s.heap.size)
  generalize hAe : va_A [(h0, .inr (5, [.null, .int 0, .null, .int 0, .int 0, .int 0, .int 0, .null, .int 0, .null, .int 0, .int 0, .null]))] s.heap.size = A at hD ⊢
  have hA : ∀ q : Nat, s.heap.size ≤ q → A q := fun q h => by rw [← hAe]; exact Or.inr h
  have hS : va_S A s.heap s.heap [] := va_S.rf
  have hP : va_P (dC, dI) vwCl [(h0, .inr (5, [.null, .int 0, .null, .int 0, .int 0, .int 0, .int 0, .null, .int 0, .null, .int 0, .int 0, .null]))] s.heap := hP
  have hl := lv_entry ([.ref h0]) (n := 1) (Nat.le_of_ble_eq_true rfl)
  rw [lg_entry_eq]
  generalize (lg_sl ([.ref h0]) ++ List.replicate (1 - (lg_sl ([.ref h0])).length) Slot.unset).toArray = ls at hl ⊢
  have hl : lv_has ls 1 [(0, .ref h0)] := hl
  refine lv_aload_n hx hb dX5_init_0 rfl (lv_at hl 0 rfl) ?_
  refine W.objInit hx hb hown (hts (.methodLink RX5 1 objectInit) (by decide +kernel)) (hts (.instanceMethod objectInit) (by decide +kernel)) (hts (.code objectInit ⟨#[0xb1]⟩ 1 none) (by decide +kernel)) rfl (by rw [hml]; exact hl.1) rfl dX5_init_1 (Nat.le_of_ble_eq_true rfl) (Nat.le_of_ble_eq_true rfl) ?_
  refine W.eq (g2 := F0 m 4 ls []) rfl ?_
  refine lv_aload_n hx hb dX5_init_4 rfl (lv_at hl 0 rfl) ?_
  refine lv_sipush (v := 1000) hx hb dX5_init_5 (by decide) ?_
  refine va_newa (atype := .byte) (ty := .byte) (N' := 1000) (a0 := (1000, .inl (fun _ => 0))) hx hb (hts (.arrayClass .byte) (by decide +kernel)) rfl hK hP hD hS hA (ha_i 1000 .byte rfl) (by decide +kernel) (by decide +kernel) (by decide +kernel) (show (0 + 1 : Nat) ≤ 5 from by omega) (show (0 + 1000 : Nat) ≤ 1048 from by omega) dX5_init_8 (fun q8 cA8 H hK hP hD hS => ?_)
  have hP : va_P (dC, dI) vwCl [(h0, .inr (5, [.null, .int 0, .null, .int 0, .int 0, .int 0, .int 0, .null, .int 0, .null, .int 0, .int 0, .null])), (q8, .inl (cA8, 1000, .inl (fun _ => 0)))] H := hP
  have hD : va_D A [(h0, .inr (5, [.null, .int 0, .null, .int 0, .int 0, .int 0, .int 0, .null, .int 0, .null, .int 0, .int 0, .null])), (q8, .inl (cA8, 1000, .inl (fun _ => 0)))] := hD
  have hK : va_K (dC, dI) vwCl [(cA8, .byte)] s := hK
  refine W.widen (k := 1) (n := 1000) (by omega) (by omega) ?_
  refine va_putF (D := (dC, dI)) (ci := 5) (v := .ref q8) (ty := .array .byte) (C := RX5) (T := TX5) (N := 13) hx hb hts hin5 tyX5 tyX5_ok nmX5 hown hK hP hD hS 0 rfl rfl 0 (by decide) (hts (.fieldLink RX5 9 "SkiShots" "tape" "[B") (by decide +kernel)) (fun _ h9 => h9) rfl hin rfl (by decide +kernel) rfl rfl (Nat.le_of_ble_eq_true rfl) dX5_init_10 (fun H locs hP hD hS => ?_)
  have hP : va_P (dC, dI) vwCl [(h0, .inr (5, [.ref q8, .int 0, .null, .int 0, .int 0, .int 0, .int 0, .null, .int 0, .null, .int 0, .int 0, .null])), (q8, .inl (cA8, 1000, .inl (fun _ => 0)))] H := hP
  have hD : va_D A [(h0, .inr (5, [.ref q8, .int 0, .null, .int 0, .int 0, .int 0, .int 0, .null, .int 0, .null, .int 0, .int 0, .null])), (q8, .inl (cA8, 1000, .inl (fun _ => 0)))] := hD
  refine lv_aload_n hx hb dX5_init_13 rfl (lv_at hl 0 rfl) ?_
  refine lv_bipush (v := 8) hx hb dX5_init_14 (by decide) ?_
  refine va_newq (N' := 8) hx hb hown (hts (.classLink RX5 13 RX2) (by decide +kernel)) (hE.1) hK hP hD hS hA (by decide +kernel) (by decide +kernel) (by decide +kernel) (show (1 + 1 : Nat) ≤ 5 from by omega) (show (1000 + 8 : Nat) ≤ 1048 from by omega) dX5_init_16 (fun q16 cA16 H hK hP hD hS => ?_)
  have hP : va_P (dC, dI) vwCl [(h0, .inr (5, [.ref q8, .int 0, .null, .int 0, .int 0, .int 0, .int 0, .null, .int 0, .null, .int 0, .int 0, .null])), (q8, .inl (cA8, 1000, .inl (fun _ => 0))), (q16, .inl (cA16, 8, .inr (.inr (.inr (.inr (fun _ => none))))))] H := hP
  have hD : va_D A [(h0, .inr (5, [.ref q8, .int 0, .null, .int 0, .int 0, .int 0, .int 0, .null, .int 0, .null, .int 0, .int 0, .null])), (q8, .inl (cA8, 1000, .inl (fun _ => 0))), (q16, .inl (cA16, 8, .inr (.inr (.inr (.inr (fun _ => none))))))] := hD
  have hK : va_K (dC, dI) vwCl [(cA8, .byte), (cA16, .object RX2)] s := hK
  refine W.widen (k := 2) (n := 1008) (by omega) (by omega) ?_
  refine va_put (D := (dC, dI)) (ci := 5) (v := .ref q16) (ty := .array (.object "SkiShots$Format")) (C := RX5) (T := TX5) (N := 13) hx hb hts hin5 tyX5 tyX5_ok nmX5 hown hK hP hD hS 0 rfl rfl 2 (by decide) (hts (.fieldLink RX5 15 "SkiShots" "formatsByName" "[LSkiShots$Format;") (by decide +kernel)) (fun _ h9 => h9) rfl (by decide +kernel) rfl rfl (Nat.le_of_ble_eq_true rfl) dX5_init_19 (fun H locs hP hD hS => ?_)
  have hP : va_P (dC, dI) vwCl [(h0, .inr (5, [.ref q8, .int 0, .ref q16, .int 0, .int 0, .int 0, .int 0, .null, .int 0, .null, .int 0, .int 0, .null])), (q8, .inl (cA8, 1000, .inl (fun _ => 0))), (q16, .inl (cA16, 8, .inr (.inr (.inr (.inr (fun _ => none))))))] H := hP
  have hD : va_D A [(h0, .inr (5, [.ref q8, .int 0, .ref q16, .int 0, .int 0, .int 0, .int 0, .null, .int 0, .null, .int 0, .int 0, .null])), (q8, .inl (cA8, 1000, .inl (fun _ => 0))), (q16, .inl (cA16, 8, .inr (.inr (.inr (.inr (fun _ => none))))))] := hD
  refine lv_aload_n hx hb dX5_init_22 rfl (lv_at hl 0 rfl) ?_
  refine lv_iconst (v := (-1)) hx hb dX5_init_23 (by decide) ?_
  refine va_put (D := (dC, dI)) (ci := 5) (v := .int ((-1))) (ty := .int) (C := RX5) (T := TX5) (N := 13) hx hb hts hin5 tyX5 tyX5_ok nmX5 hown hK hP hD hS 0 rfl rfl 5 (by decide) (hts (.fieldLink RX5 19 "SkiShots" "latestFaultPlace" "I") (by decide +kernel)) (fun _ h9 => h9) rfl (by decide +kernel) rfl rfl (Nat.le_of_ble_eq_true rfl) dX5_init_24 (fun H locs hP hD hS => ?_)
  have hP : va_P (dC, dI) vwCl [(h0, .inr (5, [.ref q8, .int 0, .ref q16, .int 0, .int 0, .int ((-1)), .int 0, .null, .int 0, .null, .int 0, .int 0, .null])), (q8, .inl (cA8, 1000, .inl (fun _ => 0))), (q16, .inl (cA16, 8, .inr (.inr (.inr (.inr (fun _ => none))))))] H := hP
  have hD : va_D A [(h0, .inr (5, [.ref q8, .int 0, .ref q16, .int 0, .int 0, .int ((-1)), .int 0, .null, .int 0, .null, .int 0, .int 0, .null])), (q8, .inl (cA8, 1000, .inl (fun _ => 0))), (q16, .inl (cA16, 8, .inr (.inr (.inr (.inr (fun _ => none))))))] := hD
  refine lv_aload_n hx hb dX5_init_27 rfl (lv_at hl 0 rfl) ?_
  refine lv_bipush (v := 16) hx hb dX5_init_28 (by decide) ?_
  refine va_newa (atype := .int) (ty := .int) (N' := 16) (a0 := (16, .inl (fun _ => 0))) hx hb (hts (.arrayClass .int) (by decide +kernel)) rfl hK hP hD hS hA (ha_i 16 .int rfl) (by decide +kernel) (by decide +kernel) (by decide +kernel) (show (2 + 1 : Nat) ≤ 5 from by omega) (show (1008 + 16 : Nat) ≤ 1048 from by omega) dX5_init_30 (fun q30 cA30 H hK hP hD hS => ?_)
  have hP : va_P (dC, dI) vwCl [(h0, .inr (5, [.ref q8, .int 0, .ref q16, .int 0, .int 0, .int ((-1)), .int 0, .null, .int 0, .null, .int 0, .int 0, .null])), (q8, .inl (cA8, 1000, .inl (fun _ => 0))), (q16, .inl (cA16, 8, .inr (.inr (.inr (.inr (fun _ => none)))))), (q30, .inl (cA30, 16, .inl (fun _ => 0)))] H := hP
  have hD : va_D A [(h0, .inr (5, [.ref q8, .int 0, .ref q16, .int 0, .int 0, .int ((-1)), .int 0, .null, .int 0, .null, .int 0, .int 0, .null])), (q8, .inl (cA8, 1000, .inl (fun _ => 0))), (q16, .inl (cA16, 8, .inr (.inr (.inr (.inr (fun _ => none)))))), (q30, .inl (cA30, 16, .inl (fun _ => 0)))] := hD
  have hK : va_K (dC, dI) vwCl [(cA8, .byte), (cA16, .object RX2), (cA30, .int)] s := hK
  refine W.widen (k := 3) (n := 1024) (by omega) (by omega) ?_
  refine va_putF (D := (dC, dI)) (ci := 5) (v := .ref q30) (ty := .array .int) (C := RX5) (T := TX5) (N := 13) hx hb hts hin5 tyX5 tyX5_ok nmX5 hown hK hP hD hS 0 rfl rfl 7 (by decide) (hts (.fieldLink RX5 23 "SkiShots" "nations" "[I") (by decide +kernel)) (fun _ h9 => h9) rfl hin rfl (by decide +kernel) rfl rfl (Nat.le_of_ble_eq_true rfl) dX5_init_32 (fun H locs hP hD hS => ?_)
  have hP : va_P (dC, dI) vwCl [(h0, .inr (5, [.ref q8, .int 0, .ref q16, .int 0, .int 0, .int ((-1)), .int 0, .ref q30, .int 0, .null, .int 0, .int 0, .null])), (q8, .inl (cA8, 1000, .inl (fun _ => 0))), (q16, .inl (cA16, 8, .inr (.inr (.inr (.inr (fun _ => none)))))), (q30, .inl (cA30, 16, .inl (fun _ => 0)))] H := hP
  have hD : va_D A [(h0, .inr (5, [.ref q8, .int 0, .ref q16, .int 0, .int 0, .int ((-1)), .int 0, .ref q30, .int 0, .null, .int 0, .int 0, .null])), (q8, .inl (cA8, 1000, .inl (fun _ => 0))), (q16, .inl (cA16, 8, .inr (.inr (.inr (.inr (fun _ => none)))))), (q30, .inl (cA30, 16, .inl (fun _ => 0)))] := hD
  refine lv_aload_n hx hb dX5_init_35 rfl (lv_at hl 0 rfl) ?_
  refine lv_bipush (v := 8) hx hb dX5_init_36 (by decide) ?_
  refine va_newq (N' := 8) hx hb hown (hts (.classLink RX5 27 RX3) (by decide +kernel)) (hE.2) hK hP hD hS hA (by decide +kernel) (by decide +kernel) (by decide +kernel) (show (3 + 1 : Nat) ≤ 5 from by omega) (show (1024 + 8 : Nat) ≤ 1048 from by omega) dX5_init_38 (fun q38 cA38 H hK hP hD hS => ?_)
  have hP : va_P (dC, dI) vwCl [(h0, .inr (5, [.ref q8, .int 0, .ref q16, .int 0, .int 0, .int ((-1)), .int 0, .ref q30, .int 0, .null, .int 0, .int 0, .null])), (q8, .inl (cA8, 1000, .inl (fun _ => 0))), (q16, .inl (cA16, 8, .inr (.inr (.inr (.inr (fun _ => none)))))), (q30, .inl (cA30, 16, .inl (fun _ => 0))), (q38, .inl (cA38, 8, .inr (.inr (.inr (.inr (fun _ => none))))))] H := hP
  have hD : va_D A [(h0, .inr (5, [.ref q8, .int 0, .ref q16, .int 0, .int 0, .int ((-1)), .int 0, .ref q30, .int 0, .null, .int 0, .int 0, .null])), (q8, .inl (cA8, 1000, .inl (fun _ => 0))), (q16, .inl (cA16, 8, .inr (.inr (.inr (.inr (fun _ => none)))))), (q30, .inl (cA30, 16, .inl (fun _ => 0))), (q38, .inl (cA38, 8, .inr (.inr (.inr (.inr (fun _ => none))))))] := hD
  have hK : va_K (dC, dI) vwCl [(cA8, .byte), (cA16, .object RX2), (cA30, .int), (cA38, .object RX3)] s := hK
  refine W.widen (k := 4) (n := 1032) (by omega) (by omega) ?_
  refine va_putF (D := (dC, dI)) (ci := 5) (v := .ref q38) (ty := .array (.object "SkiShots$Race")) (C := RX5) (T := TX5) (N := 13) hx hb hts hin5 tyX5 tyX5_ok nmX5 hown hK hP hD hS 0 rfl rfl 9 (by decide) (hts (.fieldLink RX5 29 "SkiShots" "races" "[LSkiShots$Race;") (by decide +kernel)) (fun _ h9 => h9) rfl hin rfl (by decide +kernel) rfl rfl (Nat.le_of_ble_eq_true rfl) dX5_init_41 (fun H locs hP hD hS => ?_)
  have hP : va_P (dC, dI) vwCl [(h0, .inr (5, [.ref q8, .int 0, .ref q16, .int 0, .int 0, .int ((-1)), .int 0, .ref q30, .int 0, .ref q38, .int 0, .int 0, .null])), (q8, .inl (cA8, 1000, .inl (fun _ => 0))), (q16, .inl (cA16, 8, .inr (.inr (.inr (.inr (fun _ => none)))))), (q30, .inl (cA30, 16, .inl (fun _ => 0))), (q38, .inl (cA38, 8, .inr (.inr (.inr (.inr (fun _ => none))))))] H := hP
  have hD : va_D A [(h0, .inr (5, [.ref q8, .int 0, .ref q16, .int 0, .int 0, .int ((-1)), .int 0, .ref q30, .int 0, .ref q38, .int 0, .int 0, .null])), (q8, .inl (cA8, 1000, .inl (fun _ => 0))), (q16, .inl (cA16, 8, .inr (.inr (.inr (.inr (fun _ => none)))))), (q30, .inl (cA30, 16, .inl (fun _ => 0))), (q38, .inl (cA38, 8, .inr (.inr (.inr (.inr (fun _ => none))))))] := hD
  refine lv_aload_n hx hb dX5_init_44 rfl (lv_at hl 0 rfl) ?_
  refine lv_bipush (v := 16) hx hb dX5_init_45 (by decide) ?_
  refine va_newa (atype := .int) (ty := .int) (N' := 16) (a0 := (16, .inl (fun _ => 0))) hx hb (hts (.arrayClass .int) (by decide +kernel)) rfl hK hP hD hS hA (ha_i 16 .int rfl) (by decide +kernel) (by decide +kernel) (by decide +kernel) (show (4 + 1 : Nat) ≤ 5 from by omega) (show (1032 + 16 : Nat) ≤ 1048 from by omega) dX5_init_47 (fun q47 cA47 H hK hP hD hS => ?_)
  have hP : va_P (dC, dI) vwCl [(h0, .inr (5, [.ref q8, .int 0, .ref q16, .int 0, .int 0, .int ((-1)), .int 0, .ref q30, .int 0, .ref q38, .int 0, .int 0, .null])), (q8, .inl (cA8, 1000, .inl (fun _ => 0))), (q16, .inl (cA16, 8, .inr (.inr (.inr (.inr (fun _ => none)))))), (q30, .inl (cA30, 16, .inl (fun _ => 0))), (q38, .inl (cA38, 8, .inr (.inr (.inr (.inr (fun _ => none)))))), (q47, .inl (cA47, 16, .inl (fun _ => 0)))] H := hP
  have hD : va_D A [(h0, .inr (5, [.ref q8, .int 0, .ref q16, .int 0, .int 0, .int ((-1)), .int 0, .ref q30, .int 0, .ref q38, .int 0, .int 0, .null])), (q8, .inl (cA8, 1000, .inl (fun _ => 0))), (q16, .inl (cA16, 8, .inr (.inr (.inr (.inr (fun _ => none)))))), (q30, .inl (cA30, 16, .inl (fun _ => 0))), (q38, .inl (cA38, 8, .inr (.inr (.inr (.inr (fun _ => none)))))), (q47, .inl (cA47, 16, .inl (fun _ => 0)))] := hD
  have hK : va_K (dC, dI) vwCl [(cA8, .byte), (cA16, .object RX2), (cA30, .int), (cA38, .object RX3), (cA47, .int)] s := hK
  refine W.widen (k := 5) (n := 1048) (by omega) (by omega) ?_
  refine va_putF (D := (dC, dI)) (ci := 5) (v := .ref q47) (ty := .array .int) (C := RX5) (T := TX5) (N := 13) hx hb hts hin5 tyX5 tyX5_ok nmX5 hown hK hP hD hS 0 rfl rfl 12 (by decide) (hts (.fieldLink RX5 33 "SkiShots" "cup" "[I") (by decide +kernel)) (fun _ h9 => h9) rfl hin rfl (by decide +kernel) rfl rfl (Nat.le_of_ble_eq_true rfl) dX5_init_49 (fun H locs hP hD hS => ?_)
  have hP : va_P (dC, dI) vwCl [(h0, .inr (5, [.ref q8, .int 0, .ref q16, .int 0, .int 0, .int ((-1)), .int 0, .ref q30, .int 0, .ref q38, .int 0, .int 0, .ref q47])), (q8, .inl (cA8, 1000, .inl (fun _ => 0))), (q16, .inl (cA16, 8, .inr (.inr (.inr (.inr (fun _ => none)))))), (q30, .inl (cA30, 16, .inl (fun _ => 0))), (q38, .inl (cA38, 8, .inr (.inr (.inr (.inr (fun _ => none)))))), (q47, .inl (cA47, 16, .inl (fun _ => 0)))] H := hP
  have hD : va_D A [(h0, .inr (5, [.ref q8, .int 0, .ref q16, .int 0, .int 0, .int ((-1)), .int 0, .ref q30, .int 0, .ref q38, .int 0, .int 0, .ref q47])), (q8, .inl (cA8, 1000, .inl (fun _ => 0))), (q16, .inl (cA16, 8, .inr (.inr (.inr (.inr (fun _ => none)))))), (q30, .inl (cA30, 16, .inl (fun _ => 0))), (q38, .inl (cA38, 8, .inr (.inr (.inr (.inr (fun _ => none)))))), (q47, .inl (cA47, 16, .inl (fun _ => 0)))] := hD
  have hP9 := hP.sub (ws' := [(h0, .inr (5, [.ref q8, .int 0, .ref q16, .int 0, .int 0, .int ((-1)), .int 0, .ref q30, .int 0, .ref q38, .int 0, .int 0, .ref q47])), (q8, .inl (cA8, 1000, .inl (fun _ => 0))), (q16, .inl (cA16, 8, .inr (.inr (.inr (.inr (fun _ => none)))))), (q30, .inl (cA30, 16, .inl (fun _ => 0))), (q38, .inl (cA38, 8, .inr (.inr (.inr (.inr (fun _ => none)))))), (q47, .inl (cA47, 16, .inl (fun _ => 0)))]) [0, 1, 2, 3, 4, 5] rfl
  have hD9 := hD.sub (ws' := [(h0, .inr (5, [.ref q8, .int 0, .ref q16, .int 0, .int 0, .int ((-1)), .int 0, .ref q30, .int 0, .ref q38, .int 0, .int 0, .ref q47])), (q8, .inl (cA8, 1000, .inl (fun _ => 0))), (q16, .inl (cA16, 8, .inr (.inr (.inr (.inr (fun _ => none)))))), (q30, .inl (cA30, 16, .inl (fun _ => 0))), (q38, .inl (cA38, 8, .inr (.inr (.inr (.inr (fun _ => none)))))), (q47, .inl (cA47, 16, .inl (fun _ => 0)))]) [0, 1, 2, 3, 4, 5] (by decide) rfl
  have hK9 := hK.sub (tys' := [(cA8, .byte), (cA16, .object RX2), (cA30, .int), (cA38, .object RX3), (cA47, .int)]) [0, 1, 2, 3, 4] rfl
  refine W.widen (k := 5) (n := 1048) (by omega) (by omega) ?_
  exact W.vret hx hb hr (fun t ht hW => ⟨⟨(), rfl, trivial, q8, q16, q30, q38, q47, cA8, cA16, cA30, cA38, cA47, by rw [ht]; exact hP9, va_K.moved hW.alike hK9, hD9⟩, hS.F ht⟩) hS.2.2 dX5_init_52
end
