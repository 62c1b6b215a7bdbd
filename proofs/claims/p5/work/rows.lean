section
-- ===== PART A: goes FIRST, ahead of the names: the tables' words, and 'selects' of the private methods out of them =====
/-- a private method of a class that the tables say can be made, by its rows of tables_1 -/
def lw_okq (q : MethodName × Nat) : Prop := (q.1.cls ≠ "java/lang/invoke/MethodHandle" ∧ q.1.cls ≠ "java/lang/invoke/VarHandle") ∧ Cond.instantiable q.1.cls q.2 ∈ tables_1 ∧ Cond.privateMethod q.1 ∈ tables_1 ∧ Cond.instanceMethod q.1 ∈ tables_1
theorem lw_p0 : lw_okq (⟨"SkiShots", "putOnTape", "(I)V"⟩, 13) := ⟨⟨by decide +kernel, by decide +kernel⟩, List.mem_of_getElem? (i := 20) (by decide +kernel), List.mem_of_getElem? (i := 78) (by decide +kernel), List.mem_of_getElem? (i := 79) (by decide +kernel)⟩
theorem lw_p1 : lw_okq (⟨"SkiShots", "raceAt", "(I)LSkiShots$Race;"⟩, 13) := ⟨⟨by decide +kernel, by decide +kernel⟩, List.mem_of_getElem? (i := 20) (by decide +kernel), List.mem_of_getElem? (i := 309) (by decide +kernel), List.mem_of_getElem? (i := 310) (by decide +kernel)⟩
theorem lw_p2 : lw_okq (⟨"SkiShots", "isRacer", "(I)Z"⟩, 13) := ⟨⟨by decide +kernel, by decide +kernel⟩, List.mem_of_getElem? (i := 20) (by decide +kernel), List.mem_of_getElem? (i := 350) (by decide +kernel), List.mem_of_getElem? (i := 351) (by decide +kernel)⟩
theorem lw_p3 : lw_okq (⟨"SkiShots", "isDay", "(I)Z"⟩, 13) := ⟨⟨by decide +kernel, by decide +kernel⟩, List.mem_of_getElem? (i := 20) (by decide +kernel), List.mem_of_getElem? (i := 456) (by decide +kernel), List.mem_of_getElem? (i := 457) (by decide +kernel)⟩
theorem lw_p4 : lw_okq (⟨"SkiShots", "workOut", "(II)V"⟩, 13) := ⟨⟨by decide +kernel, by decide +kernel⟩, List.mem_of_getElem? (i := 20) (by decide +kernel), List.mem_of_getElem? (i := 460) (by decide +kernel), List.mem_of_getElem? (i := 461) (by decide +kernel)⟩
theorem lw_p5 : lw_okq (⟨"SkiShots", "addUpCup", "(I)V"⟩, 13) := ⟨⟨by decide +kernel, by decide +kernel⟩, List.mem_of_getElem? (i := 20) (by decide +kernel), List.mem_of_getElem? (i := 534) (by decide +kernel), List.mem_of_getElem? (i := 535) (by decide +kernel)⟩
theorem lw_p6 : lw_okq (⟨"SkiShots", "addToCup", "(LSkiShots$Race;)V"⟩, 13) := ⟨⟨by decide +kernel, by decide +kernel⟩, List.mem_of_getElem? (i := 20) (by decide +kernel), List.mem_of_getElem? (i := 538) (by decide +kernel), List.mem_of_getElem? (i := 539) (by decide +kernel)⟩
theorem lw_p7 : lw_okq (⟨"SkiShots", "standingInCup", "(I)I"⟩, 13) := ⟨⟨by decide +kernel, by decide +kernel⟩, List.mem_of_getElem? (i := 20) (by decide +kernel), List.mem_of_getElem? (i := 547) (by decide +kernel), List.mem_of_getElem? (i := 548) (by decide +kernel)⟩
theorem lw_p8 : lw_okq (⟨"java/lang/Throwable", "fillInStackTrace", "(I)Ljava/lang/Throwable;"⟩, 6) := ⟨⟨by decide +kernel, by decide +kernel⟩, List.mem_of_getElem? (i := 606) (by decide +kernel), List.mem_of_getElem? (i := 604) (by decide +kernel), List.mem_of_getElem? (i := 605) (by decide +kernel)⟩
theorem lw_p9 : lw_okq (⟨"SkiShotsModel", "take", "()V"⟩, 52) := ⟨⟨by decide +kernel, by decide +kernel⟩, List.mem_of_getElem? (i := 651) (by decide +kernel), List.mem_of_getElem? (i := 823) (by decide +kernel), List.mem_of_getElem? (i := 824) (by decide +kernel)⟩
theorem lw_p10 : lw_okq (⟨"SkiShotsModel", "isSmall", "(I)Z"⟩, 52) := ⟨⟨by decide +kernel, by decide +kernel⟩, List.mem_of_getElem? (i := 651) (by decide +kernel), List.mem_of_getElem? (i := 827) (by decide +kernel), List.mem_of_getElem? (i := 828) (by decide +kernel)⟩
theorem lw_p11 : lw_okq (⟨"SkiShotsModel", "wordAt", "(II)I"⟩, 52) := ⟨⟨by decide +kernel, by decide +kernel⟩, List.mem_of_getElem? (i := 651) (by decide +kernel), List.mem_of_getElem? (i := 831) (by decide +kernel), List.mem_of_getElem? (i := 832) (by decide +kernel)⟩
theorem lw_p12 : lw_okq (⟨"SkiShotsModel", "isDigit", "(I)Z"⟩, 52) := ⟨⟨by decide +kernel, by decide +kernel⟩, List.mem_of_getElem? (i := 651) (by decide +kernel), List.mem_of_getElem? (i := 835) (by decide +kernel), List.mem_of_getElem? (i := 836) (by decide +kernel)⟩
theorem lw_p13 : lw_okq (⟨"SkiShotsModel", "format", "()Z"⟩, 52) := ⟨⟨by decide +kernel, by decide +kernel⟩, List.mem_of_getElem? (i := 651) (by decide +kernel), List.mem_of_getElem? (i := 840) (by decide +kernel), List.mem_of_getElem? (i := 841) (by decide +kernel)⟩
theorem lw_p14 : lw_okq (⟨"SkiShotsModel", "word", "(I)Z"⟩, 52) := ⟨⟨by decide +kernel, by decide +kernel⟩, List.mem_of_getElem? (i := 651) (by decide +kernel), List.mem_of_getElem? (i := 844) (by decide +kernel), List.mem_of_getElem? (i := 845) (by decide +kernel)⟩
theorem lw_p15 : lw_okq (⟨"SkiShotsModel", "wrong", "(II)Z"⟩, 52) := ⟨⟨by decide +kernel, by decide +kernel⟩, List.mem_of_getElem? (i := 651) (by decide +kernel), List.mem_of_getElem? (i := 848) (by decide +kernel), List.mem_of_getElem? (i := 849) (by decide +kernel)⟩
def lw_privs_1 : List (MethodName × Nat) := [(⟨"SkiShots", "putOnTape", "(I)V"⟩, 13), (⟨"SkiShots", "raceAt", "(I)LSkiShots$Race;"⟩, 13), (⟨"SkiShots", "isRacer", "(I)Z"⟩, 13), (⟨"SkiShots", "isDay", "(I)Z"⟩, 13), (⟨"SkiShots", "workOut", "(II)V"⟩, 13), (⟨"SkiShots", "addUpCup", "(I)V"⟩, 13), (⟨"SkiShots", "addToCup", "(LSkiShots$Race;)V"⟩, 13), (⟨"SkiShots", "standingInCup", "(I)I"⟩, 13), (⟨"java/lang/Throwable", "fillInStackTrace", "(I)Ljava/lang/Throwable;"⟩, 6), (⟨"SkiShotsModel", "take", "()V"⟩, 52), (⟨"SkiShotsModel", "isSmall", "(I)Z"⟩, 52), (⟨"SkiShotsModel", "wordAt", "(II)I"⟩, 52), (⟨"SkiShotsModel", "isDigit", "(I)Z"⟩, 52), (⟨"SkiShotsModel", "format", "()Z"⟩, 52), (⟨"SkiShotsModel", "word", "(I)Z"⟩, 52), (⟨"SkiShotsModel", "wrong", "(II)Z"⟩, 52)]
theorem lw_r1 : ∀ q ∈ lw_privs_1, lw_okq q := List.forall_mem_cons.mpr ⟨lw_p0, List.forall_mem_cons.mpr ⟨lw_p1, List.forall_mem_cons.mpr ⟨lw_p2, List.forall_mem_cons.mpr ⟨lw_p3, List.forall_mem_cons.mpr ⟨lw_p4, List.forall_mem_cons.mpr ⟨lw_p5, List.forall_mem_cons.mpr ⟨lw_p6, List.forall_mem_cons.mpr ⟨lw_p7, List.forall_mem_cons.mpr ⟨lw_p8, List.forall_mem_cons.mpr ⟨lw_p9, List.forall_mem_cons.mpr ⟨lw_p10, List.forall_mem_cons.mpr ⟨lw_p11, List.forall_mem_cons.mpr ⟨lw_p12, List.forall_mem_cons.mpr ⟨lw_p13, List.forall_mem_cons.mpr ⟨lw_p14, List.forall_mem_cons.mpr ⟨lw_p15, fun _ h => absurd h List.not_mem_nil⟩⟩⟩⟩⟩⟩⟩⟩⟩⟩⟩⟩⟩⟩⟩⟩
theorem lw_p16 : lw_okq (⟨"SkiShotsModel", "sign", "(I)Z"⟩, 52) := ⟨⟨by decide +kernel, by decide +kernel⟩, List.mem_of_getElem? (i := 651) (by decide +kernel), List.mem_of_getElem? (i := 852) (by decide +kernel), List.mem_of_getElem? (i := 853) (by decide +kernel)⟩
theorem lw_p17 : lw_okq (⟨"SkiShotsModel", "number", "(II)Z"⟩, 52) := ⟨⟨by decide +kernel, by decide +kernel⟩, List.mem_of_getElem? (i := 651) (by decide +kernel), List.mem_of_getElem? (i := 856) (by decide +kernel), List.mem_of_getElem? (i := 857) (by decide +kernel)⟩
theorem lw_p18 : lw_okq (⟨"SkiShotsModel", "shots", "(I)Z"⟩, 52) := ⟨⟨by decide +kernel, by decide +kernel⟩, List.mem_of_getElem? (i := 651) (by decide +kernel), List.mem_of_getElem? (i := 860) (by decide +kernel), List.mem_of_getElem? (i := 861) (by decide +kernel)⟩
theorem lw_p19 : lw_okq (⟨"SkiShotsModel", "starts", "(I)Z"⟩, 52) := ⟨⟨by decide +kernel, by decide +kernel⟩, List.mem_of_getElem? (i := 651) (by decide +kernel), List.mem_of_getElem? (i := 864) (by decide +kernel), List.mem_of_getElem? (i := 865) (by decide +kernel)⟩
theorem lw_p20 : lw_okq (⟨"SkiShotsModel", "isRace", "(I)Z"⟩, 52) := ⟨⟨by decide +kernel, by decide +kernel⟩, List.mem_of_getElem? (i := 651) (by decide +kernel), List.mem_of_getElem? (i := 884) (by decide +kernel), List.mem_of_getElem? (i := 885) (by decide +kernel)⟩
theorem lw_p21 : lw_okq (⟨"SkiShotsModel", "isRacer", "(I)Z"⟩, 52) := ⟨⟨by decide +kernel, by decide +kernel⟩, List.mem_of_getElem? (i := 651) (by decide +kernel), List.mem_of_getElem? (i := 892) (by decide +kernel), List.mem_of_getElem? (i := 893) (by decide +kernel)⟩
theorem lw_p22 : lw_okq (⟨"SkiShotsModel", "isIn", "(II)Z"⟩, 52) := ⟨⟨by decide +kernel, by decide +kernel⟩, List.mem_of_getElem? (i := 651) (by decide +kernel), List.mem_of_getElem? (i := 900) (by decide +kernel), List.mem_of_getElem? (i := 901) (by decide +kernel)⟩
theorem lw_p23 : lw_okq (⟨"SkiShotsModel", "can", "(IIII)Z"⟩, 52) := ⟨⟨by decide +kernel, by decide +kernel⟩, List.mem_of_getElem? (i := 651) (by decide +kernel), List.mem_of_getElem? (i := 904) (by decide +kernel), List.mem_of_getElem? (i := 905) (by decide +kernel)⟩
theorem lw_p24 : lw_okq (⟨"SkiShotsModel", "fails", "(I)I"⟩, 52) := ⟨⟨by decide +kernel, by decide +kernel⟩, List.mem_of_getElem? (i := 651) (by decide +kernel), List.mem_of_getElem? (i := 913) (by decide +kernel), List.mem_of_getElem? (i := 914) (by decide +kernel)⟩
theorem lw_p25 : lw_okq (⟨"SkiShotsModel", "isDay", "(I)Z"⟩, 52) := ⟨⟨by decide +kernel, by decide +kernel⟩, List.mem_of_getElem? (i := 651) (by decide +kernel), List.mem_of_getElem? (i := 925) (by decide +kernel), List.mem_of_getElem? (i := 926) (by decide +kernel)⟩
theorem lw_p26 : lw_okq (⟨"SkiShotsModel", "workAll", "(II)V"⟩, 52) := ⟨⟨by decide +kernel, by decide +kernel⟩, List.mem_of_getElem? (i := 651) (by decide +kernel), List.mem_of_getElem? (i := 929) (by decide +kernel), List.mem_of_getElem? (i := 930) (by decide +kernel)⟩
theorem lw_p27 : lw_okq (⟨"SkiShotsModel", "work", "(III)V"⟩, 52) := ⟨⟨by decide +kernel, by decide +kernel⟩, List.mem_of_getElem? (i := 651) (by decide +kernel), List.mem_of_getElem? (i := 933) (by decide +kernel), List.mem_of_getElem? (i := 934) (by decide +kernel)⟩
theorem lw_p28 : lw_okq (⟨"SkiShotsModel", "startOf", "(II)I"⟩, 52) := ⟨⟨by decide +kernel, by decide +kernel⟩, List.mem_of_getElem? (i := 651) (by decide +kernel), List.mem_of_getElem? (i := 937) (by decide +kernel), List.mem_of_getElem? (i := 938) (by decide +kernel)⟩
theorem lw_p29 : lw_okq (⟨"SkiShotsModel", "least", "(I)I"⟩, 52) := ⟨⟨by decide +kernel, by decide +kernel⟩, List.mem_of_getElem? (i := 651) (by decide +kernel), List.mem_of_getElem? (i := 941) (by decide +kernel), List.mem_of_getElem? (i := 942) (by decide +kernel)⟩
theorem lw_p30 : lw_okq (⟨"SkiShotsModel", "known", "(IIIII)I"⟩, 52) := ⟨⟨by decide +kernel, by decide +kernel⟩, List.mem_of_getElem? (i := 651) (by decide +kernel), List.mem_of_getElem? (i := 945) (by decide +kernel), List.mem_of_getElem? (i := 946) (by decide +kernel)⟩
theorem lw_p31 : lw_okq (⟨"SkiShotsModel", "placed", "(IIZ)I"⟩, 52) := ⟨⟨by decide +kernel, by decide +kernel⟩, List.mem_of_getElem? (i := 651) (by decide +kernel), List.mem_of_getElem? (i := 952) (by decide +kernel), List.mem_of_getElem? (i := 953) (by decide +kernel)⟩
def lw_privs_2 : List (MethodName × Nat) := [(⟨"SkiShotsModel", "sign", "(I)Z"⟩, 52), (⟨"SkiShotsModel", "number", "(II)Z"⟩, 52), (⟨"SkiShotsModel", "shots", "(I)Z"⟩, 52), (⟨"SkiShotsModel", "starts", "(I)Z"⟩, 52), (⟨"SkiShotsModel", "isRace", "(I)Z"⟩, 52), (⟨"SkiShotsModel", "isRacer", "(I)Z"⟩, 52), (⟨"SkiShotsModel", "isIn", "(II)Z"⟩, 52), (⟨"SkiShotsModel", "can", "(IIII)Z"⟩, 52), (⟨"SkiShotsModel", "fails", "(I)I"⟩, 52), (⟨"SkiShotsModel", "isDay", "(I)Z"⟩, 52), (⟨"SkiShotsModel", "workAll", "(II)V"⟩, 52), (⟨"SkiShotsModel", "work", "(III)V"⟩, 52), (⟨"SkiShotsModel", "startOf", "(II)I"⟩, 52), (⟨"SkiShotsModel", "least", "(I)I"⟩, 52), (⟨"SkiShotsModel", "known", "(IIIII)I"⟩, 52), (⟨"SkiShotsModel", "placed", "(IIZ)I"⟩, 52)]
theorem lw_r2 : ∀ q ∈ lw_privs_2, lw_okq q := List.forall_mem_cons.mpr ⟨lw_p16, List.forall_mem_cons.mpr ⟨lw_p17, List.forall_mem_cons.mpr ⟨lw_p18, List.forall_mem_cons.mpr ⟨lw_p19, List.forall_mem_cons.mpr ⟨lw_p20, List.forall_mem_cons.mpr ⟨lw_p21, List.forall_mem_cons.mpr ⟨lw_p22, List.forall_mem_cons.mpr ⟨lw_p23, List.forall_mem_cons.mpr ⟨lw_p24, List.forall_mem_cons.mpr ⟨lw_p25, List.forall_mem_cons.mpr ⟨lw_p26, List.forall_mem_cons.mpr ⟨lw_p27, List.forall_mem_cons.mpr ⟨lw_p28, List.forall_mem_cons.mpr ⟨lw_p29, List.forall_mem_cons.mpr ⟨lw_p30, List.forall_mem_cons.mpr ⟨lw_p31, fun _ h => absurd h List.not_mem_nil⟩⟩⟩⟩⟩⟩⟩⟩⟩⟩⟩⟩⟩⟩⟩⟩
theorem lw_p32 : lw_okq (⟨"SkiShotsModel", "cup", "(I)V"⟩, 52) := ⟨⟨by decide +kernel, by decide +kernel⟩, List.mem_of_getElem? (i := 651) (by decide +kernel), List.mem_of_getElem? (i := 968) (by decide +kernel), List.mem_of_getElem? (i := 969) (by decide +kernel)⟩
theorem lw_p33 : lw_okq (⟨"SkiShotsModel", "stands", "(I)I"⟩, 52) := ⟨⟨by decide +kernel, by decide +kernel⟩, List.mem_of_getElem? (i := 651) (by decide +kernel), List.mem_of_getElem? (i := 976) (by decide +kernel), List.mem_of_getElem? (i := 977) (by decide +kernel)⟩
def lw_privs_3 : List (MethodName × Nat) := [(⟨"SkiShotsModel", "cup", "(I)V"⟩, 52), (⟨"SkiShotsModel", "stands", "(I)I"⟩, 52)]
theorem lw_r3 : ∀ q ∈ lw_privs_3, lw_okq q := List.forall_mem_cons.mpr ⟨lw_p32, List.forall_mem_cons.mpr ⟨lw_p33, fun _ h => absurd h List.not_mem_nil⟩⟩
def lw_privs : List (MethodName × Nat) := lw_privs_1 ++ (lw_privs_2 ++ (lw_privs_3))
def lw_tbl : List Cond := k2_sels lw_privs ++ tables_1
theorem lw_privs_ok : ∀ q ∈ lw_privs, lw_okq q := by
  show ∀ q ∈ lw_privs_1 ++ (lw_privs_2 ++ (lw_privs_3)), lw_okq q
  exact List.forall_mem_append.mpr ⟨lw_r1, List.forall_mem_append.mpr ⟨lw_r2, lw_r3⟩⟩
end
section
/-! ===== BEGIN words of one list among another's, by their places ===== -/
theorem goodIn_r {big : List Cond} (ws : List Cond) (ps : List Nat) (hp : ws = ps.filterMap (fun i => big[i]?)) (h : ws.all goodWord = true) : GoodIn big ws := by
  intro w hw
  have h1 := List.all_eq_true.mp h w hw
  rw [hp] at hw
  obtain ⟨i, -, hi⟩ := List.mem_filterMap.mp hw
  have hm : w ∈ big := by first | exact List.mem_of_getElem? hi | exact List.getElem?_mem hi
  exact ⟨hm, good_of_word h1⟩
theorem goodIn_app {big a b : List Cond} (ha : GoodIn big a) (hb : GoodIn big b) : GoodIn big (a ++ b) := fun w h => (List.mem_append.mp h).elim (ha w) (hb w)
theorem goodIn_ca {big a b : List Cond} {c : Cond} (ha : GoodIn big (c :: a)) (hb : GoodIn big b) : GoodIn big (c :: (a ++ b)) := fun w h => (List.mem_cons.mp h).elim (fun e => ha w (List.mem_cons.mpr (Or.inl e))) (fun h => (List.mem_append.mp h).elim (fun h => ha w (List.mem_cons.mpr (Or.inr h))) (hb w))
theorem goodIn_sub {big ws : List Cond} (hm : ∀ w ∈ ws, w ∈ big) (h : ws.all goodWord = true) : GoodIn big ws := fun w hw => ⟨hm w hw, good_of_word (List.all_eq_true.mp h w hw)⟩
/-! ===== END ===== -/

/-! ===== BEGIN exceptions that leave a method, and their catching by the caller (launches without stack traces) ===== -/
section VXA
/-! The laws vx_back, vx_callV, vx_callS, vx_callSW, vx_throw0, vx_throwS follow proofs of the library, with one case more: JvmDerived/Free/Laws.lean (Back.of_free), Shelf42/LK1.lean (callV, callS), Shelf/KitTraced.lean (throwNew0V, throwNewS). -/
/-- where a method has thrown q: the class by its name, the cell, what was written, the world -/
def vx_T (XC : String → State → State → Prop) (st : State) (q : Addr) (t : State) (mc ms : Nat) (free : Addr → Prop) : Prop :=
  ∃ (E : String) (ce : Cell) (L : List Loc), XC E st t ∧ t.heap[q]? = some ce ∧ ce.vm = .none ∧ st.vm.findClass E = some ce.cls ∧ st.WarmedH t.vm ∧ st.sameButNew ({ t with vm := st.vm } : State) L mc ms ∧ ∀ z ∈ L, free z.base
def vx_Q (Qc : Array Value → State → Outcome → State → Prop) (XC : String → State → State → Prop) (mc ms : Nat) (free : Addr → Prop) : Array Value → State → Outcome → State → Prop := fun a st o t =>
  (Qc a st o t ∧ ∃ L, FrameEnd st o t L mc ms ∧ ∀ q ∈ L, free q.base) ∨ ∃ q, o = .threw q ∧ vx_T XC st q t mc ms free
/-- a callee that returns or throws -/
def vx_Met (l : Launch) (y : MethodName) (ws : List Cond) (rm : Room) (Pc : Array Value → State → Prop) (Qc : Array Value → State → Outcome → State → Prop) (XC : String → State → State → Prop) (mc ms : Nat) (free : Addr → Prop) : Prop :=
  MetFree l y (headSpec ws rm) Pc (fun _ _ _ _ _ => True) (vx_Q Qc XC mc ms free)
def vx_Post (XC : String → State → State → Prop) (mc ms : Nat) (free : Addr → Prop) : Pt → Array Value → Addr → Pt → Prop := fun A a q B =>
  ∃ (g : JFrame) (mk : MethodId) (t : State) (L : List Loc) (E : String) (ce : Cell), B.U.heap = t.heap ∧ B.U.vm = t.vm ∧ XC E (A.U.calling g mk a) t ∧ t.heap[q]? = some ce ∧ ce.vm = .none ∧ A.U.vm.findClass E = some ce.cls ∧ B.locs = A.locs ++ L ∧ (∀ z ∈ L, free z.base) ∧ B.cells = A.cells + mc ∧ B.slots = A.slots + ms
def vx_Back (l : Launch) (R : Room) (p : Program) (e : Env) (below : List Frame) (s : State) (sargs : Array Value) (y : MethodName) (len W9 : Nat)
    (Pre : Pt → Array Value → Prop) (Post : Pt → Array Value → Option Value → Pt → Prop) (PostX : Pt → Array Value → Addr → Pt → Prop) : Prop :=
  ∀ (m : MethodId) (meth : Method) (c : Code) (A : Pt) (g : JFrame) (ig : Instr) (mk : MethodId) (a : Array Value),
    Stand p l e R s m sargs below meth c A.U A.locs A.cells A.slots → g.method = m → g.locals.size = c.maxLocals → decode c.code g.pc = .ok (ig, len) →
    2 * g.monitorRoom + (g.stack.map fun v => v.category).sum ≤ W9 → A.U.methodNamed? y = some mk → Pre A a →
    (∃ (v : Option Value) (B : Pt), Stand p l e R s m sargs below meth c B.U B.locs B.cells B.slots ∧ Post A a v B ∧
      Steps p.tables e below (doInvoke e (A.U.setTop g) [] mk a).1 (B.U.setTop { g with pc := g.pc + len, stack := v.toList ++ g.stack })) ∨
    (∃ (q : Addr) (B : Pt), Stand p l e R s m sargs below meth c B.U B.locs B.cells B.slots ∧ PostX A a q B ∧
      Steps p.tables e below (doInvoke e (A.U.setTop g) [] mk a).1 ((B.U.setTop g).pushFrame (.throwing q)))
section Payer
variable {l : Launch} {R : Room} {p : Program} {e : Env} {below : List Frame} {s : State} {sargs : Array Value} {y : MethodName} {len W9 : Nat}
theorem vx_back {ws : List Cond} {rm : Room} {Pc : Array Value → State → Prop} {Qc : Array Value → State → Outcome → State → Prop} {XC : String → State → State → Prop} {mc ms : Nat} {free : Addr → Prop} {bytes : ByteArray} {maxL : Nat} {ret : Option FieldType}
    (hM : vx_Met l y ws rm Pc Qc XC mc ms free) (hblind : FrameBlind Pc) (hrc : rm.cells = mc) (hrs : rm.slots = ms)
    (hframes : rm.frames + 1 ≤ R.frames) (hlocals : W9 + (maxL + 11) + rm.locals ≤ R.locals)
    (hws : ∀ w ∈ ws, ∀ a' U, s.WarmedH U.vm → w.before a' U = true) (hcode : Cond.code y bytes maxL ret ∈ ws) (hinit : ∀ a' U, s.WarmedH U.vm → (Cond.initialized y.cls).before a' U = true) :
    vx_Back l R p e below s sargs y len W9 (PreOf R mc ms Pc) (PostOf Qc mc ms free) (vx_Post XC mc ms free) := by
  intro m meth c A g ig mk a X hg hsize hdg hW hn hp
  have h1 : (headSpec ws rm).pre.before a A.U = true := atoms_intro fun w hw => hws w hw _ _ X.warmed
  have h2 : (Cond.code y bytes maxL ret).before a A.U = true := hws _ hcode _ _ X.warmed
  have h3 : (Cond.initialized y.cls).before a A.U = true := hinit _ _ X.warmed
  have h4 : A.cells + (headSpec ws rm).room.cells ≤ R.cells := by rw [show (headSpec ws rm).room.cells = mc from hrc]; exact hp.1
  have h5 : A.slots + (headSpec ws rm).room.slots ≤ R.slots := by rw [show (headSpec ws rm).room.slots = ms from hrs]; exact hp.2.1
  have hPc : Pc a (A.U.calling g mk a) := hblind _ _ _ _ hp.2.2
  obtain ⟨U, Ls, c0, s0⟩ := A
  dsimp only [Pt.U, Pt.locs, Pt.cells, Pt.slots] at h1 h2 h3 h4 h5 X hn hPc ⊢
  obtain ⟨methY, cY, hmY, hcY, -, hlY, -, -, -, -⟩ := Cond.code_spec hn h2
  obtain ⟨kY, hkY, -⟩ := className_of_methodNamed hn
  have hinitY : kY.init = .initialized := Cond.initialized_spec (findClass_of_methodNamed hn) hkY h3
  have h : At U g.method c below := by rw [hg]; exact X.here
  have hlocals9 : W9 + (maxL + 11) + (headSpec ws rm).room.locals ≤ R.locals := hlocals
  have happ : (headSpec ws rm).appliesLoose y e.platform (U.calling g mk a) = true :=
    Spec.appliesLoose_calling (g := g) h hdg hn hkY hinitY
      (X.room_calling (g := g) (R' := (headSpec ws rm).room) hsize hmY hcY hframes (by rw [hlY]; omega) h4 h5) h1
  obtain ⟨mid, hmid⟩ := h.above
  have hfr : (U.setTop g).frames = (.java g :: mid) ++ below := by rw [State.frames_setTop' g h.top, hmid]; rfl
  obtain ⟨o, s₂, hsteps, -, hend, hq⟩ := Steps.callFree hM p X.admits X.cas X.clock (acts := []) hfr happ hPc trivial
  have hq' : vx_Q Qc XC mc ms free a (U.calling g mk a) o s₂ := hq
  rw [State.frames_setTop' g h.top] at hend
  obtain ⟨g₀, hg0⟩ := Option.isSome_iff_exists.mp h.top
  obtain ⟨r, hr⟩ := State.topJava?_eq_some.mp hg0
  have hr' : (({ U with heap := s₂.heap, slotsUsed := s₂.slotsUsed } : State).setVm s₂.vm).frames = .java g₀ :: r := hr
  rcases hq' with ⟨hqc, L, hfe, hL⟩ | ⟨q, rfl, E, ce, L, hx, hce, hcv, hcl, hW₂, hsm, hL⟩
  · obtain ⟨⟨v, rfl⟩, hW₂, e2, q2, q3, q4, q5, q6⟩ := id hfe
    have e3 : s₂ = ({ (U.calling g mk a).setFrames s₂.frames with heap := s₂.heap, slotsUsed := s₂.slotsUsed } : State).setVm s₂.vm := by
      have : s₂ = ({ s₂ with vm := (U.calling g mk a).vm } : State).setVm s₂.vm := rfl
      rw [e2] at this
      exact this
    obtain ⟨c₂, i₂, len₂, hc₂, hd₂, hf₂⟩ := hend
    have hW' : U.WarmedH s₂.vm := hW₂
    have hcc : c₂ = c := by
      have h1 : s₂.code? g.method = U.code? g.method := by
        rw [State.code?_eq, State.code?_eq, hW'.alike.method?]
      exact Option.some.inj (hc₂.symm.trans (h1.trans h.code))
    subst hcc
    have hlen : len₂ = len := by rw [hdg] at hd₂; cases hd₂; rfl
    subst hlen
    have hs₂ : s₂ = (({ U with heap := s₂.heap, slotsUsed := s₂.slotsUsed } : State).setVm s₂.vm).setTop { g with pc := g.pc + len₂, stack := v.toList ++ g.stack } := by
      refine e3.trans ?_
      rw [hf₂, State.calling_eq h.top, State.setFrames_setFrames, State.setTop_of_frames _ hr', hr]
      rfl
    have hsame : U.sameButNew ({ U with heap := s₂.heap, slotsUsed := s₂.slotsUsed } : State) L mc ms := by
      refine ⟨?_, q2, q3, q4, q5, q6⟩
      obtain ⟨t, ht, -⟩ := State.frames_cons hr
      show ({ U with heap := s₂.heap, slotsUsed := s₂.slotsUsed } : State) = { U.setFrames U.frames with heap := s₂.heap, slotsUsed := s₂.slotsUsed }
      rw [State.setFrames_self ht]
    subst hg
    refine Or.inl ⟨v, ⟨(({ U with heap := s₂.heap, slotsUsed := s₂.slotsUsed } : State).setVm s₂.vm), Ls ++ L, c0 + mc, s0 + ms⟩,
      ⟨X.admits, X.cas, X.clock, X.frames, X.room, X.hears, X.method, X.code, (X.here.setHeapUsed s₂.heap s₂.slotsUsed).setVm hW'.alike, X.tail, State.WarmedH.trans X.warmed hW', X.limits, X.bytes, X.same.trans (hsame.setVm s.vm)⟩,
      ⟨g, mk, s₂, L, rfl, rfl, hqc, rfl, hL, rfl, rfl⟩, ?_⟩
    show Steps p.tables e below _ ((({ U with heap := s₂.heap, slotsUsed := s₂.slotsUsed } : State).setVm s₂.vm).setTop { g with pc := g.pc + len₂, stack := v.toList ++ g.stack })
    rw [← hs₂]
    exact hsteps
  · obtain ⟨e2, q2, q3, q4, q5, q6⟩ := id hsm
    have e3 : s₂ = ({ (U.calling g mk a).setFrames s₂.frames with heap := s₂.heap, slotsUsed := s₂.slotsUsed } : State).setVm s₂.vm := by
      have : s₂ = ({ s₂ with vm := (U.calling g mk a).vm } : State).setVm s₂.vm := rfl
      rw [e2] at this
      exact this
    have hf₂ : s₂.frames = .throwing q :: .java g :: U.frames.tail := hend
    have hW' : U.WarmedH s₂.vm := hW₂
    have hs₂ : s₂ = ((({ U with heap := s₂.heap, slotsUsed := s₂.slotsUsed } : State).setVm s₂.vm).setTop g).pushFrame (.throwing q) := by
      refine e3.trans ?_
      rw [hf₂, State.calling_eq h.top, State.setFrames_setFrames, State.pushFrame, State.frames_setTop _ hr', State.setTop_of_frames _ hr', State.setFrames_setFrames, hr]
      rfl
    have hsame : U.sameButNew ({ U with heap := s₂.heap, slotsUsed := s₂.slotsUsed } : State) L mc ms := by
      refine ⟨?_, q2, q3, q4, q5, q6⟩
      obtain ⟨t, ht, -⟩ := State.frames_cons hr
      show ({ U with heap := s₂.heap, slotsUsed := s₂.slotsUsed } : State) = { U.setFrames U.frames with heap := s₂.heap, slotsUsed := s₂.slotsUsed }
      rw [State.setFrames_self ht]
    subst hg
    refine Or.inr ⟨q, ⟨(({ U with heap := s₂.heap, slotsUsed := s₂.slotsUsed } : State).setVm s₂.vm), Ls ++ L, c0 + mc, s0 + ms⟩,
      ⟨X.admits, X.cas, X.clock, X.frames, X.room, X.hears, X.method, X.code, (X.here.setHeapUsed s₂.heap s₂.slotsUsed).setVm hW'.alike, X.tail, State.WarmedH.trans X.warmed hW', X.limits, X.bytes, X.same.trans (hsame.setVm s.vm)⟩,
      ⟨g, mk, s₂, L, E, ce, rfl, rfl, hx, hce, hcv, hcl, rfl, hL, rfl, rfl⟩, ?_⟩
    show Steps p.tables e below _ (((({ U with heap := s₂.heap, slotsUsed := s₂.slotsUsed } : State).setVm s₂.vm).setTop g).pushFrame (.throwing q))
    rw [← hs₂]
    exact hsteps
end Payer
section Calls
variable {p : Program} {l : Launch} {e : Env} {R : Room} {s : State} {m : MethodId} {args : Array Value} {below : List Frame} {meth : Method} {c : Code} {T : State} {locs : List Loc} {cells slots : Nat}
theorem vx_callV (X : Stand p l e R s m args below meth c T locs cells slots) (hexec : p.tables.exec = Jvm.exec) {own C : String} {index : Nat} {y : MethodName} {bytes : ByteArray} {maxL : Nat} {ret : Option FieldType}
    (hown : s.vm.findClass own = some m.cls) (hlink : (Cond.methodLink own index y).before args s = true) (hinst : (Cond.instanceMethod y).before args s = true) (hsel : (Cond.selects C y y).before args s = true)
    (hcode : (Cond.code y bytes maxL ret).before args s = true) (hy : y.cls ≠ "java/lang/invoke/MethodHandle" ∧ y.cls ≠ "java/lang/invoke/VarHandle")
    {W9 : Nat} {Pre : Pt → Array Value → Prop} {Post : Pt → Array Value → Option Value → Pt → Prop} {PostX : Pt → Array Value → Addr → Pt → Prop} (hK : vx_Back l R p e below s args y 3 W9 Pre Post PostX)
    {b : Addr} {cellB : Cell} (hcell : T.heap[b]? = some cellB) (hobj : cellB.vm.isStatics = false) (hcls : s.vm.findClass C = some cellB.cls)
    {g : JFrame} (hg : g.method = m) (hsize : g.locals.size = c.maxLocals) {argsL rest : List Value} (hlen : ∀ sig, parseMethodDescriptor y.desc = some sig → argsL.length = sig.parameters.length)
    (hstack : g.stack = argsL.reverse ++ .ref b :: rest) (hW : 2 * g.monitorRoom + (rest.map fun v => v.category).sum ≤ W9) (hdg : decode c.code g.pc = .ok (.invokevirtual index, 3))
    (hpre : ∀ vm₁, s.WarmedH vm₁ → Pre ⟨T.setVm vm₁, locs, cells, slots⟩ (Value.ref b :: argsL).toArray) :
    (∃ (v : Option Value) (vm₁ : Vm) (B : Pt), s.WarmedH vm₁ ∧ Stand p l e R s m args below meth c B.U B.locs B.cells B.slots ∧ Post ⟨T.setVm vm₁, locs, cells, slots⟩ (Value.ref b :: argsL).toArray v B ∧
      ∀ target, Steps p.tables e below (B.U.setTop { g with pc := g.pc + 3, stack := v.toList ++ rest }) target → Steps p.tables e below (T.setTop g) target) ∨
    (∃ (q : Addr) (vm₁ : Vm) (B : Pt), s.WarmedH vm₁ ∧ Stand p l e R s m args below meth c B.U B.locs B.cells B.slots ∧ PostX ⟨T.setVm vm₁, locs, cells, slots⟩ (Value.ref b :: argsL).toArray q B ∧
      Steps p.tables e below (T.setTop g) ((B.U.setTop { g with stack := rest }).pushFrame (.throwing q))) := by
  obtain ⟨mk, methM, hnamed, hmethM, hstM, habM⟩ := Cond.instanceMethod_spec hinst
  obtain ⟨methM', cM, hmethM', -, -, -, -, -, -, hsigM⟩ := Cond.code_spec hnamed hcode
  cases hmethM.symm.trans hmethM'
  obtain ⟨c2, r2, m2, q1, q2, q3, q4, kP, hkP, hkPi⟩ := Cond.selects_spec hsel
  cases hcls.symm.trans q1
  cases (State.methodFound?_of_named hnamed hy).symm.trans q2
  cases hnamed.symm.trans q3
  have hselP : selectMethod e.platform s.vm cellB.cls mk = .method mk := by rw [Launch.admits_selectMethod X.admits]; exact q4
  obtain ⟨vm₁, X₁, hstep₁⟩ := X.invokevirtual hexec hown hlink hnamed hmethM hstM hkP hkPi hy (a := b) (cell := cellB) hcell
    (fun z h => by rw [h] at hobj; cases hobj) hselP hmethM habM hkP hkPi (g := g) hg (argsL := argsL) (rest := rest) (hlen _ hsigM) hstack hdg
  rcases hK m meth c ⟨T.setVm vm₁, locs, cells, slots⟩ { g with stack := rest } (.invokevirtual index) mk (Value.ref b :: argsL).toArray X₁ hg hsize hdg hW (X₁.named hnamed) (hpre vm₁ X₁.warmed) with ⟨v, B, X', hpost, hsteps⟩ | ⟨q, B, X', hpost, hsteps⟩
  · exact Or.inl ⟨v, vm₁, B, X₁.warmed, X', hpost, fun target h => hstep₁ _ fun acts => by rw [doInvoke_state]; exact hsteps.trans h⟩
  · exact Or.inr ⟨q, vm₁, B, X₁.warmed, X', hpost, hstep₁ _ fun acts => by rw [doInvoke_state]; exact hsteps⟩
theorem vx_callS (X : Stand p l e R s m args below meth c T locs cells slots) (hexec : p.tables.exec = Jvm.exec) {own : String} {index : Nat} {y : MethodName} {bytes : ByteArray} {maxL : Nat} {ret : Option FieldType}
    (hown : s.vm.findClass own = some m.cls) (hlink : (Cond.methodLink own index y).before args s = true) (hstat : (Cond.static y).before args s = true) (hinit : (Cond.initialized y.cls).before args s = true)
    (hcode : (Cond.code y bytes maxL ret).before args s = true) (hy : y.cls ≠ "java/lang/invoke/MethodHandle" ∧ y.cls ≠ "java/lang/invoke/VarHandle")
    {W9 : Nat} {Pre : Pt → Array Value → Prop} {Post : Pt → Array Value → Option Value → Pt → Prop} {PostX : Pt → Array Value → Addr → Pt → Prop} (hK : vx_Back l R p e below s args y 3 W9 Pre Post PostX)
    {g : JFrame} (hg : g.method = m) (hsize : g.locals.size = c.maxLocals) {argsL rest : List Value} (hlen : ∀ sig, parseMethodDescriptor y.desc = some sig → argsL.length = sig.parameters.length)
    (hstack : g.stack = argsL.reverse ++ rest) (hW : 2 * g.monitorRoom + (rest.map fun v => v.category).sum ≤ W9) (hdg : decode c.code g.pc = .ok (.invokestatic index, 3))
    (hpre : ∀ vm₁, s.WarmedH vm₁ → Pre ⟨T.setVm vm₁, locs, cells, slots⟩ argsL.toArray) :
    (∃ (v : Option Value) (vm₁ : Vm) (B : Pt), s.WarmedH vm₁ ∧ Stand p l e R s m args below meth c B.U B.locs B.cells B.slots ∧ Post ⟨T.setVm vm₁, locs, cells, slots⟩ argsL.toArray v B ∧
      ∀ target, Steps p.tables e below (B.U.setTop { g with pc := g.pc + 3, stack := v.toList ++ rest }) target → Steps p.tables e below (T.setTop g) target) ∨
    (∃ (q : Addr) (vm₁ : Vm) (B : Pt), s.WarmedH vm₁ ∧ Stand p l e R s m args below meth c B.U B.locs B.cells B.slots ∧ PostX ⟨T.setVm vm₁, locs, cells, slots⟩ argsL.toArray q B ∧
      Steps p.tables e below (T.setTop g) ((B.U.setTop { g with stack := rest }).pushFrame (.throwing q))) := by
  obtain ⟨mk, hnamed⟩ := Cond.code_named hcode
  obtain ⟨methM, cM, hmethM, -, -, -, -, -, -, hsigM⟩ := Cond.code_spec hnamed hcode
  have hstatic : methM.isStatic = true := Cond.static_spec hnamed hmethM hstat
  obtain ⟨kP, hkP, -⟩ := className_of_methodNamed hnamed
  have hinitP : kP.init = .initialized := Cond.initialized_spec (findClass_of_methodNamed hnamed) hkP hinit
  obtain ⟨vm₁, X₁, hstep₁⟩ := X.invokestatic hexec hown hlink hnamed hmethM hstatic hkP hinitP hy (g := g) hg (argsL := argsL) (rest := rest) (hlen _ hsigM) hstack hdg
  rcases hK m meth c ⟨T.setVm vm₁, locs, cells, slots⟩ { g with stack := rest } (.invokestatic index) mk argsL.toArray X₁ hg hsize hdg hW (X₁.named hnamed) (hpre vm₁ X₁.warmed) with ⟨v, B, X', hpost, hsteps⟩ | ⟨q, B, X', hpost, hsteps⟩
  · exact Or.inl ⟨v, vm₁, B, X₁.warmed, X', hpost, fun target h => hstep₁ _ fun acts => by rw [doInvoke_state]; exact hsteps.trans h⟩
  · exact Or.inr ⟨q, vm₁, B, X₁.warmed, X', hpost, hstep₁ _ fun acts => by rw [doInvoke_state]; exact hsteps⟩
end Calls
theorem vx_cls {s : State} {T : State} {vm₁ : Vm} {E : String} {k : ClassId} (hW : s.WarmedH vm₁) (h : (T.setVm vm₁).vm.findClass E = some k) : s.vm.findClass E = some k := by
  have h1 : vm₁.findClass E = some k := h
  rw [hW.alike.findClass] at h1
  exact h1
/-- the method's frame g, with q thrown over it -/
def vx_W (p : Program) (l : Launch) (e : Env) (R : Room) (s : State) (m : MethodId) (args : Array Value) (below : List Frame) (meth : Method) (c : Code) (H : Heap) (locs : List Loc) (cells slots : Nat) (Q : State → Prop) (g : JFrame) (q : Addr) : Prop :=
  ∀ T : State, T.heap = H → Stand p l e R s m args below meth c T locs cells slots → ∃ t, Steps p.tables e below ((T.setTop g).pushFrame (.throwing q)) t ∧ Q t
def vx_Run (p : Program) (l : Launch) (e : Env) (R : Room) (s : State) (m : MethodId) (args : Array Value) (below : List Frame) (meth : Method) (c : Code) (H : Heap) (locs : List Loc) (cells slots mc ms : Nat) (g : JFrame) (rest : List Value) (Qa : State → Outcome → State → Prop) (XC : String → State → State → Prop) (free : Addr → Prop) : Prop :=
  ∀ T : State, T.heap = H → Stand p l e R s m args below meth c T locs cells slots →
    (∃ (v : Option Value) (st₀ t T' : State) (L : List Loc), st₀.heap = H ∧ Stand p l e R s m args below meth c T' (locs ++ L) (cells + mc) (slots + ms) ∧ (∀ q ∈ L, free q.base) ∧ T'.heap = t.heap ∧ T'.vm = t.vm ∧ Qa st₀ (.returned v) t ∧
      Goes p e below T g T' { g with pc := g.pc + 3, stack := v.toList ++ rest }) ∨
    (∃ (q : Addr) (st₀ t T' : State) (L : List Loc) (E : String) (ce : Cell), st₀.heap = H ∧ Stand p l e R s m args below meth c T' (locs ++ L) (cells + mc) (slots + ms) ∧ (∀ z ∈ L, free z.base) ∧ T'.heap = t.heap ∧ T'.vm = t.vm ∧ XC E st₀ t ∧ t.heap[q]? = some ce ∧ ce.vm = .none ∧ s.vm.findClass E = some ce.cls ∧
      Steps p.tables e below (T.setTop g) ((T'.setTop { g with stack := rest }).pushFrame (.throwing q)))
def vx_X {S : Type} (px : S → Prop) (B : String → S → State → Prop) (A : Nat → Prop) : String → State → State → Prop := fun E st t => ∃ u : S, px u ∧ B E u t ∧ va_F A st t
section Runs
variable {p : Program} {l : Launch} {e : Env} {R : Room} {s : State} {m : MethodId} {args : Array Value} {below : List Frame} {meth : Method} {c : Code} {H : Heap} {locs : List Loc} {cells slots : Nat}
variable {y : MethodName} {bytes cc : ByteArray} {maxL nL mc ms n index : Nat} {ret : Option FieldType} {ws : List Cond} {rm : Room} {Pc : Array Value → State → Prop} {Qc : Array Value → State → Outcome → State → Prop} {XC : String → State → State → Prop} {free : Addr → Prop} {Ts : List Cond} {own C : String} {b : Addr} {As rest : List Value} {g : JFrame}
theorem vx_callBack (cb : CallB R s args own index y bytes maxL ret ws rm mc ms n) (hM : vx_Met l y ws rm Pc Qc XC mc ms free) (hbl : FrameBlind Pc) : vx_Back l R p e below s args y 3 8 (PreOf R mc ms Pc) (PostOf Qc mc ms free) (vx_Post XC mc ms free) := by
  obtain ⟨hrc, hrs, hfr, hlo, hws, hcw, -, hini, -⟩ := cb
  exact vx_back (bytes := bytes) (maxL := maxL) (ret := ret) hM hbl hrc hrs hfr hlo hws hcw (fun a' U hW => word_at hW (Or.inl (by first | rfl | simp [Cond.onTables, Cond.keeps, Cond.steady])) hini)
theorem vx_runV (S : CallFix p m c cc nL s args Ts own) (hM : vx_Met l y ws rm Pc Qc XC mc ms free) (cw : CallW R s args own C index y bytes maxL ret ws rm mc ms n) (hp : PreV s H C b Pc As)
    (hg : g.method = m) (hn : As.length = n) (hsize : g.locals.size = nL) (hstack : g.stack = As.reverse ++ .ref b :: rest) (hW : 2 * g.monitorRoom + (rest.map fun v => v.category).sum ≤ 8) (hdg : decode cc g.pc = .ok (.invokevirtual index, 3)) (hf : cells + mc ≤ R.cells ∧ slots + ms ≤ R.slots) :
    vx_Run p l e R s m args below meth c H locs cells slots mc ms g rest (Qc (Value.ref b :: As).toArray) XC free := by
  have hK : vx_Back l R p e below s args y 3 8 (PreOf R mc ms Pc) (PostOf Qc mc ms free) (vx_Post XC mc ms free) := vx_callBack cw.1 hM hp.1
  obtain ⟨⟨-, -, -, -, -, -, hcode, -, hy, hlen, hl⟩, hin, hse⟩ := cw
  obtain ⟨hx, hb, hml, ho, -⟩ := S
  obtain ⟨-, ⟨cellB, hcB, hoB, hclB⟩, hPc⟩ := hp
  intro T hT X
  rcases vx_callV X hx (C := C) (bytes := bytes) (maxL := maxL) (ret := ret) ho hl hin hse hcode hy hK (by rw [hT]; exact hcB) hoB hclB hg (hsize.trans hml.symm) (argsL := As) (rest := rest) (fun sig h => hn.trans (hlen sig h)) hstack hW (by rw [hb]; exact hdg)
    (fun vm₁ hW₁ => ⟨hf.1, hf.2, hPc (T.setVm vm₁) hT hW₁⟩) with ⟨v, vm₁, ⟨U', l2, c2, s2⟩, hW₁, X', ⟨g', mk, t, L, e1, e2, hq, h1, hL, h2, h3⟩, st⟩ | ⟨q, vm₁, ⟨U', l2, c2, s2⟩, hW₁, X', ⟨g', mk, t, L, E, ce, e1, e2, hq, hce, hcv, hcl, h1, hL, h2, h3⟩, st⟩
  · dsimp only [Pt.U, Pt.locs, Pt.cells, Pt.slots] at X' e1 e2 h1 h2 h3 st
    subst h1; subst h2; subst h3
    exact Or.inl ⟨v, (T.setVm vm₁).calling g' mk (Value.ref b :: As).toArray, t, U', L, hT, X', hL, e1, e2, hq, st⟩
  · dsimp only [Pt.U, Pt.locs, Pt.cells, Pt.slots] at X' e1 e2 h1 h2 h3 st hcl
    subst h1; subst h2; subst h3
    exact Or.inr ⟨q, (T.setVm vm₁).calling g' mk (Value.ref b :: As).toArray, t, U', L, E, ce, hT, X', hL, e1, e2, hq, hce, hcv, vx_cls hW₁ hcl, st⟩
theorem vx_runS (S : CallFix p m c cc nL s args Ts own) (hM : vx_Met l y ws rm Pc Qc XC mc ms free) (cw : CallB R s args own index y bytes maxL ret ws rm mc ms n ∧ (Cond.static y).before args s = true) (hp : PreS s H Pc As)
    (hg : g.method = m) (hn : As.length = n) (hsize : g.locals.size = nL) (hstack : g.stack = As.reverse ++ rest) (hW : 2 * g.monitorRoom + (rest.map fun v => v.category).sum ≤ 8) (hdg : decode cc g.pc = .ok (.invokestatic index, 3)) (hf : cells + mc ≤ R.cells ∧ slots + ms ≤ R.slots) :
    vx_Run p l e R s m args below meth c H locs cells slots mc ms g rest (Qc As.toArray) XC free := by
  have hK : vx_Back l R p e below s args y 3 8 (PreOf R mc ms Pc) (PostOf Qc mc ms free) (vx_Post XC mc ms free) := vx_callBack cw.1 hM hp.1
  obtain ⟨⟨-, -, -, -, -, -, hcode, hini, hy, hlen, hl⟩, hstt⟩ := cw
  obtain ⟨hx, hb, hml, ho, -⟩ := S
  intro T hT X
  rcases vx_callS X hx (bytes := bytes) (maxL := maxL) (ret := ret) ho hl hstt hini hcode hy hK hg (hsize.trans hml.symm) (argsL := As) (rest := rest) (fun sig h => hn.trans (hlen sig h)) hstack hW (by rw [hb]; exact hdg)
    (fun vm₁ hW₁ => ⟨hf.1, hf.2, hp.2 (T.setVm vm₁) hT hW₁⟩) with ⟨v, vm₁, ⟨U', l2, c2, s2⟩, hW₁, X', ⟨g', mk, t, L, e1, e2, hq, h1, hL, h2, h3⟩, st⟩ | ⟨q, vm₁, ⟨U', l2, c2, s2⟩, hW₁, X', ⟨g', mk, t, L, E, ce, e1, e2, hq, hce, hcv, hcl, h1, hL, h2, h3⟩, st⟩
  · dsimp only [Pt.U, Pt.locs, Pt.cells, Pt.slots] at X' e1 e2 h1 h2 h3 st
    subst h1; subst h2; subst h3
    exact Or.inl ⟨v, (T.setVm vm₁).calling g' mk As.toArray, t, U', L, hT, X', hL, e1, e2, hq, st⟩
  · dsimp only [Pt.U, Pt.locs, Pt.cells, Pt.slots] at X' e1 e2 h1 h2 h3 st hcl
    subst h1; subst h2; subst h3
    exact Or.inr ⟨q, (T.setVm vm₁).calling g' mk As.toArray, t, U', L, E, ce, hT, X', hL, e1, e2, hq, hce, hcv, vx_cls hW₁ hcl, st⟩
end Runs
section Rows
variable {p : Program} {l : Launch} {e : Env} {R : Room} {s : State} {m : MethodId} {args : Array Value} {below : List Frame} {meth : Method} {c : Code} {H : Heap} {locs : List Loc} {cells slots : Nat} {Q : State → Prop}
variable {mc ms : Nat} {free : Addr → Prop} {A0 A1 : Nat → Prop} {H0 : Heap} {a : Array Value} {pc : Nat} {ls : Array Slot} {st0 rest : List Value}
theorem vx_keep {st₀ t T' : State} {L : List Loc} (h0 : st₀.heap = H) (e1 : T'.heap = t.heap) (hS : va_S A0 H0 H locs) (hA : ∀ q, q < H.size → A1 q → A0 q) (hf : ∀ q, free q → A0 q) (hL : ∀ q ∈ L, free q.base) (hF : va_F A1 st₀ t) :
    H.size ≤ T'.heap.size ∧ (∀ q : Nat, q < H.size → ¬ A1 q → T'.heap[q]? = H[q]?) ∧ va_S A0 H0 T'.heap (locs ++ L) := by
  obtain ⟨hz, hk⟩ := hF
  rw [h0] at hz hk
  exact ⟨by rw [e1]; exact hz, fun q h1 h2 => by rw [e1]; exact hk q h1 h2,
    ⟨Nat.le_trans hS.1 (by rw [e1]; exact hz), fun q h1 h2 => by rw [e1, hk q (Nat.lt_of_lt_of_le h1 hS.1) (fun z => h2 (hA q (Nat.lt_of_lt_of_le h1 hS.1) z))]; exact hS.2.1 q h1 h2, fun q hq => by
      rcases List.mem_append.mp hq with h | h
      · exact hS.2.2 q h
      · exact hf _ (hL q h)⟩⟩
theorem vx_calli {S SX : Type} {post : Int32 → S → Prop} {px : SX → Prop} {B : S → State → Prop} {BX : String → SX → State → Prop} {AX : Nat → Prop} (hr : vx_Run p l e R s m args below meth c H locs cells slots mc ms (F0 m pc ls st0) rest (va_Qi post B A1 a) (vx_X px BX AX) free) (hS : va_S A0 H0 H locs) (hA : ∀ q, q < H.size → A1 q → A0 q) (hf : ∀ q, free q → A0 q) (hAX : ∀ q, q < H.size → AX q → A0 q)
    (kx : ∀ (E : String) (ce : Cell) (q9 : Addr) (u : SX) (t : State) (H1 : Heap) (locs1 : List Loc), t.heap = H1 → s.vm.Alike t.vm → px u → BX E u t → H.size ≤ H1.size → (∀ q : Nat, q < H.size → ¬ AX q → H1[q]? = H[q]?) → va_S A0 H0 H1 locs1 → H1[q9]? = some ce → ce.vm = .none → s.vm.findClass E = some ce.cls → vx_W p l e R s m args below meth c H1 locs1 (cells + mc) (slots + ms) Q (F0 m pc ls rest) q9)
    (kk : ∀ (r : Int32) (u : S) (t : State) (H1 : Heap) (locs1 : List Loc), t.heap = H1 → s.vm.Alike t.vm → post r u → B u t → H.size ≤ H1.size → (∀ q : Nat, q < H.size → ¬ A1 q → H1[q]? = H[q]?) → va_S A0 H0 H1 locs1 → W p l e R s m args below meth c H1 locs1 (cells + mc) (slots + ms) Q (F0 m (pc + 3) ls (.int r :: rest))) : W p l e R s m args below meth c H locs cells slots Q (F0 m pc ls st0) := by
  intro T hT X
  rcases hr T hT X with ⟨v, st₀, t, T', L, h0, X', hL, e1, e2, ⟨⟨r, u, hv, hp, hb⟩, hF⟩, st⟩ | ⟨q, st₀, t, T', L, E, ce, h0, X', hL, e1, e2, ⟨u, hp, hb, hF⟩, hce, hcv, hcl, st⟩
  · cases hv
    obtain ⟨k1, k2, k3⟩ := vx_keep h0 e1 hS hA hf hL hF
    obtain ⟨t2, a1, b1⟩ := kk r u t T'.heap (locs ++ L) e1.symm (by rw [← e2]; exact X'.warmed.alike) hp hb k1 k2 k3 T' rfl X'
    exact ⟨t2, st t2 a1, b1⟩
  · obtain ⟨k1, k2, k3⟩ := vx_keep h0 e1 hS hAX hf hL hF
    obtain ⟨t2, a1, b1⟩ := kx E ce q u t T'.heap (locs ++ L) e1.symm (by rw [← e2]; exact X'.warmed.alike) hp hb k1 k2 k3 (by rw [e1]; exact hce) hcv hcl T' rfl X'
    exact ⟨t2, st.trans a1, b1⟩
theorem vx_calll {S SX : Type} {post : Int64 → S → Prop} {px : SX → Prop} {B : S → State → Prop} {BX : String → SX → State → Prop} {AX : Nat → Prop} (hr : vx_Run p l e R s m args below meth c H locs cells slots mc ms (F0 m pc ls st0) rest (va_Ql post B A1 a) (vx_X px BX AX) free) (hS : va_S A0 H0 H locs) (hA : ∀ q, q < H.size → A1 q → A0 q) (hf : ∀ q, free q → A0 q) (hAX : ∀ q, q < H.size → AX q → A0 q)
    (kx : ∀ (E : String) (ce : Cell) (q9 : Addr) (u : SX) (t : State) (H1 : Heap) (locs1 : List Loc), t.heap = H1 → s.vm.Alike t.vm → px u → BX E u t → H.size ≤ H1.size → (∀ q : Nat, q < H.size → ¬ AX q → H1[q]? = H[q]?) → va_S A0 H0 H1 locs1 → H1[q9]? = some ce → ce.vm = .none → s.vm.findClass E = some ce.cls → vx_W p l e R s m args below meth c H1 locs1 (cells + mc) (slots + ms) Q (F0 m pc ls rest) q9)
    (kk : ∀ (r : Int64) (u : S) (t : State) (H1 : Heap) (locs1 : List Loc), t.heap = H1 → s.vm.Alike t.vm → post r u → B u t → H.size ≤ H1.size → (∀ q : Nat, q < H.size → ¬ A1 q → H1[q]? = H[q]?) → va_S A0 H0 H1 locs1 → W p l e R s m args below meth c H1 locs1 (cells + mc) (slots + ms) Q (F0 m (pc + 3) ls (.long r :: rest))) : W p l e R s m args below meth c H locs cells slots Q (F0 m pc ls st0) := by
  intro T hT X
  rcases hr T hT X with ⟨v, st₀, t, T', L, h0, X', hL, e1, e2, ⟨⟨r, u, hv, hp, hb⟩, hF⟩, st⟩ | ⟨q, st₀, t, T', L, E, ce, h0, X', hL, e1, e2, ⟨u, hp, hb, hF⟩, hce, hcv, hcl, st⟩
  · cases hv
    obtain ⟨k1, k2, k3⟩ := vx_keep h0 e1 hS hA hf hL hF
    obtain ⟨t2, a1, b1⟩ := kk r u t T'.heap (locs ++ L) e1.symm (by rw [← e2]; exact X'.warmed.alike) hp hb k1 k2 k3 T' rfl X'
    exact ⟨t2, st t2 a1, b1⟩
  · obtain ⟨k1, k2, k3⟩ := vx_keep h0 e1 hS hAX hf hL hF
    obtain ⟨t2, a1, b1⟩ := kx E ce q u t T'.heap (locs ++ L) e1.symm (by rw [← e2]; exact X'.warmed.alike) hp hb k1 k2 k3 (by rw [e1]; exact hce) hcv hcl T' rfl X'
    exact ⟨t2, st.trans a1, b1⟩
theorem vx_callf {S SX : Type} {post : UInt32 → S → Prop} {px : SX → Prop} {B : S → State → Prop} {BX : String → SX → State → Prop} {AX : Nat → Prop} (hr : vx_Run p l e R s m args below meth c H locs cells slots mc ms (F0 m pc ls st0) rest (va_Qf post B A1 a) (vx_X px BX AX) free) (hS : va_S A0 H0 H locs) (hA : ∀ q, q < H.size → A1 q → A0 q) (hf : ∀ q, free q → A0 q) (hAX : ∀ q, q < H.size → AX q → A0 q)
    (kx : ∀ (E : String) (ce : Cell) (q9 : Addr) (u : SX) (t : State) (H1 : Heap) (locs1 : List Loc), t.heap = H1 → s.vm.Alike t.vm → px u → BX E u t → H.size ≤ H1.size → (∀ q : Nat, q < H.size → ¬ AX q → H1[q]? = H[q]?) → va_S A0 H0 H1 locs1 → H1[q9]? = some ce → ce.vm = .none → s.vm.findClass E = some ce.cls → vx_W p l e R s m args below meth c H1 locs1 (cells + mc) (slots + ms) Q (F0 m pc ls rest) q9)
    (kk : ∀ (r : UInt32) (u : S) (t : State) (H1 : Heap) (locs1 : List Loc), t.heap = H1 → s.vm.Alike t.vm → post r u → B u t → H.size ≤ H1.size → (∀ q : Nat, q < H.size → ¬ A1 q → H1[q]? = H[q]?) → va_S A0 H0 H1 locs1 → W p l e R s m args below meth c H1 locs1 (cells + mc) (slots + ms) Q (F0 m (pc + 3) ls (.float r :: rest))) : W p l e R s m args below meth c H locs cells slots Q (F0 m pc ls st0) := by
  intro T hT X
  rcases hr T hT X with ⟨v, st₀, t, T', L, h0, X', hL, e1, e2, ⟨⟨r, u, hv, hp, hb⟩, hF⟩, st⟩ | ⟨q, st₀, t, T', L, E, ce, h0, X', hL, e1, e2, ⟨u, hp, hb, hF⟩, hce, hcv, hcl, st⟩
  · cases hv
    obtain ⟨k1, k2, k3⟩ := vx_keep h0 e1 hS hA hf hL hF
    obtain ⟨t2, a1, b1⟩ := kk r u t T'.heap (locs ++ L) e1.symm (by rw [← e2]; exact X'.warmed.alike) hp hb k1 k2 k3 T' rfl X'
    exact ⟨t2, st t2 a1, b1⟩
  · obtain ⟨k1, k2, k3⟩ := vx_keep h0 e1 hS hAX hf hL hF
    obtain ⟨t2, a1, b1⟩ := kx E ce q u t T'.heap (locs ++ L) e1.symm (by rw [← e2]; exact X'.warmed.alike) hp hb k1 k2 k3 (by rw [e1]; exact hce) hcv hcl T' rfl X'
    exact ⟨t2, st.trans a1, b1⟩
theorem vx_calld {S SX : Type} {post : UInt64 → S → Prop} {px : SX → Prop} {B : S → State → Prop} {BX : String → SX → State → Prop} {AX : Nat → Prop} (hr : vx_Run p l e R s m args below meth c H locs cells slots mc ms (F0 m pc ls st0) rest (va_Qd post B A1 a) (vx_X px BX AX) free) (hS : va_S A0 H0 H locs) (hA : ∀ q, q < H.size → A1 q → A0 q) (hf : ∀ q, free q → A0 q) (hAX : ∀ q, q < H.size → AX q → A0 q)
    (kx : ∀ (E : String) (ce : Cell) (q9 : Addr) (u : SX) (t : State) (H1 : Heap) (locs1 : List Loc), t.heap = H1 → s.vm.Alike t.vm → px u → BX E u t → H.size ≤ H1.size → (∀ q : Nat, q < H.size → ¬ AX q → H1[q]? = H[q]?) → va_S A0 H0 H1 locs1 → H1[q9]? = some ce → ce.vm = .none → s.vm.findClass E = some ce.cls → vx_W p l e R s m args below meth c H1 locs1 (cells + mc) (slots + ms) Q (F0 m pc ls rest) q9)
    (kk : ∀ (r : UInt64) (u : S) (t : State) (H1 : Heap) (locs1 : List Loc), t.heap = H1 → s.vm.Alike t.vm → post r u → B u t → H.size ≤ H1.size → (∀ q : Nat, q < H.size → ¬ A1 q → H1[q]? = H[q]?) → va_S A0 H0 H1 locs1 → W p l e R s m args below meth c H1 locs1 (cells + mc) (slots + ms) Q (F0 m (pc + 3) ls (.double r :: rest))) : W p l e R s m args below meth c H locs cells slots Q (F0 m pc ls st0) := by
  intro T hT X
  rcases hr T hT X with ⟨v, st₀, t, T', L, h0, X', hL, e1, e2, ⟨⟨r, u, hv, hp, hb⟩, hF⟩, st⟩ | ⟨q, st₀, t, T', L, E, ce, h0, X', hL, e1, e2, ⟨u, hp, hb, hF⟩, hce, hcv, hcl, st⟩
  · cases hv
    obtain ⟨k1, k2, k3⟩ := vx_keep h0 e1 hS hA hf hL hF
    obtain ⟨t2, a1, b1⟩ := kk r u t T'.heap (locs ++ L) e1.symm (by rw [← e2]; exact X'.warmed.alike) hp hb k1 k2 k3 T' rfl X'
    exact ⟨t2, st t2 a1, b1⟩
  · obtain ⟨k1, k2, k3⟩ := vx_keep h0 e1 hS hAX hf hL hF
    obtain ⟨t2, a1, b1⟩ := kx E ce q u t T'.heap (locs ++ L) e1.symm (by rw [← e2]; exact X'.warmed.alike) hp hb k1 k2 k3 (by rw [e1]; exact hce) hcv hcl T' rfl X'
    exact ⟨t2, st.trans a1, b1⟩
theorem vx_callv {S SX : Type} {post : S → Prop} {px : SX → Prop} {B : S → State → Prop} {BX : String → SX → State → Prop} {AX : Nat → Prop} (hr : vx_Run p l e R s m args below meth c H locs cells slots mc ms (F0 m pc ls st0) rest (va_Qv post B A1 a) (vx_X px BX AX) free) (hS : va_S A0 H0 H locs) (hA : ∀ q, q < H.size → A1 q → A0 q) (hf : ∀ q, free q → A0 q) (hAX : ∀ q, q < H.size → AX q → A0 q)
    (kx : ∀ (E : String) (ce : Cell) (q9 : Addr) (u : SX) (t : State) (H1 : Heap) (locs1 : List Loc), t.heap = H1 → s.vm.Alike t.vm → px u → BX E u t → H.size ≤ H1.size → (∀ q : Nat, q < H.size → ¬ AX q → H1[q]? = H[q]?) → va_S A0 H0 H1 locs1 → H1[q9]? = some ce → ce.vm = .none → s.vm.findClass E = some ce.cls → vx_W p l e R s m args below meth c H1 locs1 (cells + mc) (slots + ms) Q (F0 m pc ls rest) q9)
    (kk : ∀ (u : S) (t : State) (H1 : Heap) (locs1 : List Loc), t.heap = H1 → s.vm.Alike t.vm → post u → B u t → H.size ≤ H1.size → (∀ q : Nat, q < H.size → ¬ A1 q → H1[q]? = H[q]?) → va_S A0 H0 H1 locs1 → W p l e R s m args below meth c H1 locs1 (cells + mc) (slots + ms) Q (F0 m (pc + 3) ls (rest))) : W p l e R s m args below meth c H locs cells slots Q (F0 m pc ls st0) := by
  intro T hT X
  rcases hr T hT X with ⟨v, st₀, t, T', L, h0, X', hL, e1, e2, ⟨⟨u, hv, hp, hb⟩, hF⟩, st⟩ | ⟨q, st₀, t, T', L, E, ce, h0, X', hL, e1, e2, ⟨u, hp, hb, hF⟩, hce, hcv, hcl, st⟩
  · cases hv
    obtain ⟨k1, k2, k3⟩ := vx_keep h0 e1 hS hA hf hL hF
    obtain ⟨t2, a1, b1⟩ := kk u t T'.heap (locs ++ L) e1.symm (by rw [← e2]; exact X'.warmed.alike) hp hb k1 k2 k3 T' rfl X'
    exact ⟨t2, st t2 a1, b1⟩
  · obtain ⟨k1, k2, k3⟩ := vx_keep h0 e1 hS hAX hf hL hF
    obtain ⟨t2, a1, b1⟩ := kx E ce q u t T'.heap (locs ++ L) e1.symm (by rw [← e2]; exact X'.warmed.alike) hp hb k1 k2 k3 (by rw [e1]; exact hce) hcv hcl T' rfl X'
    exact ⟨t2, st.trans a1, b1⟩
end Rows
section Ends
variable {p : Program} {l : Launch} {e : Env} {R : Room} {s : State} {m : MethodId} {args : Array Value} {below : List Frame} {meth : Method} {c : Code} {H : Heap} {locs : List Loc} {cells slots : Nat} {Q : State → Prop}
variable {mc ms : Nat} {free : Addr → Prop} {A0 A1 : Nat → Prop} {H0 : Heap} {a : Array Value} {ls : Array Slot} {st0 rest : List Value}
variable {Qc : Array Value → State → Outcome → State → Prop} {XC : String → State → State → Prop}
/-- what a body that may throw owes at its end -/
def vx_MQ (below : List Frame) (Qc : Array Value → State → Outcome → State → Prop) (XC : String → State → State → Prop) (a : Array Value) (s : State) (mc ms : Nat) (free : Addr → Prop) : State → Prop := fun t =>
  ∃ o, t.status = .running ∧ Ended t below o ∧ vx_Q Qc XC mc ms free a s o t
theorem vx_ret {g : JFrame} {mc ms : Nat} (k : W p l e R s m args below meth c H locs cells slots (MQ below Qc args s mc ms free) g) : W p l e R s m args below meth c H locs cells slots (vx_MQ below Qc XC args s mc ms free) g := by
  intro T hT X
  obtain ⟨t, a1, o, b1, b2, b3, b4⟩ := k T hT X
  exact ⟨t, a1, o, b1, b2, Or.inl ⟨b3, b4⟩⟩
/-- not caught here: it goes on to the caller -/
theorem vx_widen {g : JFrame} {q : Addr} {k n : Nat} (h1 : cells ≤ k) (h2 : slots ≤ n) (kk : vx_W p l e R s m args below meth c H locs k n Q g q) : vx_W p l e R s m args below meth c H locs cells slots Q g q := fun T hT X => kk T hT (stand_widen X h1 h2)
theorem vx_out {pc : Nat} {E : String} {ce : Cell} {q : Addr} {mc ms : Nat} (hout : ∀ x ∈ c.exceptionTable.toList, covers x pc = false) (hlocks : meth.locks = false) (hcell : H[q]? = some ce) (hv : ce.vm = .none) (hcl : s.vm.findClass E = some ce.cls)
    (hx : ∀ t : State, t.heap = H → s.vm.Alike t.vm → XC E s t) (hf : ∀ z ∈ locs, free z.base) (hc : cells ≤ mc) (hs : slots ≤ ms) :
    vx_W p l e R s m args below meth c H locs cells slots (vx_MQ below Qc XC args s mc ms free) (F0 m pc ls rest) q := by
  intro T hT X
  obtain ⟨st1, hrun, hend, hW, hsm⟩ := X.leaveThrown q (g := F0 m pc ls rest) rfl rfl rfl hout hlocks
  have hcell9 : (T.setFrames (.throwing q :: below)).heap[q]? = some ce := by
    show T.heap[q]? = some ce
    rw [hT]; exact hcell
  exact ⟨_, st1, .threw q, hrun, hend, Or.inr ⟨q, rfl, E, ce, locs, hx _ hT hW.alike, hcell9, hv, hcl, hW, hsm.mono hc hs, hf⟩⟩
theorem vx_frame {U : State} {k n : Nat} (h : s.sameButNew ({ U with vm := s.vm } : State) locs k n) : s.heap.size ≤ U.heap.size ∧ ∀ q : Nat, q < s.heap.size → (∀ z ∈ locs, z.base ≠ q) → U.heap[q]? = s.heap[q]? := by
  obtain ⟨-, h2, -, -, -, h6⟩ := h
  refine ⟨h2, fun q hq hz => ?_⟩
  obtain ⟨c9, e1, e2, e3, e4⟩ := h6 q _ (Array.getElem?_eq_getElem hq)
  have hs : c9.slots = (s.heap[q]).slots := Array.ext_getElem? fun i => e4 i fun hm => hz _ hm rfl
  have h9 : c9 = s.heap[q] := by
    rw [hs] at e2
    exact e2
  have e5 : U.heap[q]? = some c9 := e1
  rw [e5, h9, Array.getElem?_eq_getElem hq]
/-- the words of a throw but the four that speak of the heap -/
def vx_no (w : Cond) : Bool := decide (w ≠ .isRef (.static Bundle.tN "UNASSIGNED_STACK" Bundle.steD)) && decide (w ≠ .isRef (.static Bundle.tN "SUPPRESSED_SENTINEL" Bundle.listD)) && decide (w ≠ .laysStatic Bundle.tN "UNASSIGNED_STACK" Bundle.steD) && decide (w ≠ .laysStatic Bundle.tN "SUPPRESSED_SENTINEL" Bundle.listD)
def vx_at0 (own : String) (ic : Nat) (X : String) (names : List String) : List Cond := (Bundle.ownAtoms0 own ic X names).filter vx_no
def vx_atS (own : String) (ic : Nat) (X : String) (names : List String) : List Cond := (Bundle.ownAtoms own ic X names).filter vx_no
/-- a word that the tables alone decide, or a good one -/
def vx_ot (w : Cond) : Bool := w.onTables || goodWord w
theorem vx_ot_at {args a' : Array Value} {s U : State} {w : Cond} (hW : s.WarmedH U.vm) (hvm : s.vm = U.vm) (hg : vx_ot w = true) (h : w.before args s = true) : w.before a' U = true := by
  simp only [vx_ot, Bool.or_eq_true] at hg
  rcases hg with hg | hg
  · exact va_tabs hg hvm h
  · exact word_at hW (good_of_word hg) h
/-- a list's words: the good ones out of the method's own list, the others by premises of their own -/
theorem vx_hat {args : Array Value} {s : State} {L B : List Cond} (h1 : ∀ w ∈ L.filter goodWord, w.before args s = true) (h2 : ∀ w ∈ L.filter (fun w => !goodWord w), w ∈ B) (h3 : ∀ w ∈ B, w.before args s = true) : ∀ w ∈ L, w.before args s = true := by
  intro w hw
  by_cases g : goodWord w = true
  · exact h1 w (List.mem_filter.mpr ⟨hw, g⟩)
  · refine h3 w (h2 w (List.mem_filter.mpr ⟨hw, ?_⟩))
    show (!goodWord w) = true
    cases hgw : goodWord w
    · rfl
    · exact absurd hgw g
theorem vx_c {args : Array Value} {s : State} {w : Cond} {B : List Cond} (h : w.before args s = true) (t : ∀ w ∈ B, w.before args s = true) : ∀ w' ∈ w :: B, w'.before args s = true := fun w' h' => (List.mem_cons.mp h').elim (fun e => by rw [e]; exact h) (t w')
theorem vx_n {args : Array Value} {s : State} : ∀ w ∈ ([] : List Cond), w.before args s = true := fun _ h => nomatch h
theorem vx_own {args : Array Value} {s : State} {L : List Cond} (h1 : ∀ w ∈ L.filter vx_no, w.before args s = true)
    (hU : (Cond.isRef (.static Bundle.tN "UNASSIGNED_STACK" Bundle.steD)).before args s = true) (hN : (Cond.isRef (.static Bundle.tN "SUPPRESSED_SENTINEL" Bundle.listD)).before args s = true)
    (lU : (Cond.laysStatic Bundle.tN "UNASSIGNED_STACK" Bundle.steD).before args s = true) (lN : (Cond.laysStatic Bundle.tN "SUPPRESSED_SENTINEL" Bundle.listD).before args s = true) : ∀ w ∈ L, w.before args s = true := by
  intro w hw
  by_cases e1 : w = .isRef (.static Bundle.tN "UNASSIGNED_STACK" Bundle.steD)
  · rw [e1]; exact hU
  · by_cases e2 : w = .isRef (.static Bundle.tN "SUPPRESSED_SENTINEL" Bundle.listD)
    · rw [e2]; exact hN
    · by_cases e3 : w = .laysStatic Bundle.tN "UNASSIGNED_STACK" Bundle.steD
      · rw [e3]; exact lU
      · by_cases e4 : w = .laysStatic Bundle.tN "SUPPRESSED_SENTINEL" Bundle.listD
        · rw [e4]; exact lN
        · exact h1 w (List.mem_filter.mpr ⟨hw, by unfold vx_no; rw [decide_eq_true e1, decide_eq_true e2, decide_eq_true e3, decide_eq_true e4]; rfl⟩)
/-- where a static field lies, its class's statics cell in H -/
def vx_L (C n d : String) (A : Nat → Prop) (U : State) (H : Heap) : Prop := ∃ (c : ClassId) (k : Class) (i : Nat) (f : Field) (a : Nat) (cell : Cell), U.vm.findClass C = some c ∧ U.fieldFound? C n d = some (c, k, i, f) ∧ f.isStatic = true ∧ k.statics = some a ∧ H[a]? = some cell ∧ cell.vm.isStatics = true ∧ cell.cls = c ∧ f.slot < cell.slots.size ∧ k.staticTypes[f.slot]? = some f.type ∧ ¬ A a
theorem vx_L.moved {C n d : String} {A : Nat → Prop} {u U : State} {H : Heap} (hvm : u.vm.Alike U.vm) (h : vx_L C n d A u H) : vx_L C n d A U H := by
  obtain ⟨c, k, i, f, a, cell, h1, h2, h3, h4, h5, h6, h7, h8, h9, h10⟩ := h
  obtain ⟨k', hi', he⟩ := State.fieldFound?_setVm hvm h2
  exact ⟨c, k', i, f, a, cell, by rw [hvm.findClass]; exact h1, hi', h3, by rw [he]; exact h4, h5, h6, h7, h8, by rw [he]; exact h9, h10⟩
theorem vx_L.kept {C n d : String} {A : Nat → Prop} {U : State} {H H1 : Heap} (h : vx_L C n d A U H) (hq : ∀ a : Nat, a < H.size → ¬ A a → H1[a]? = H[a]?) : vx_L C n d A U H1 := by
  obtain ⟨c, k, i, f, a, cell, h1, h2, h3, h4, h5, h6, h7, h8, h9, h10⟩ := h
  exact ⟨c, k, i, f, a, cell, h1, h2, h3, h4, by rw [hq a (Array.getElem?_eq_some_iff.mp h5).1 h10]; exact h5, h6, h7, h8, h9, h10⟩
theorem vx_L.narrow {C n d : String} {A B : Nat → Prop} {U : State} {H : Heap} (h : vx_L C n d A U H) (hAB : ∀ q, B q → A q) : vx_L C n d B U H := by
  obtain ⟨c, k, i, f, a, cell, h1, h2, h3, h4, h5, h6, h7, h8, h9, h10⟩ := h
  exact ⟨c, k, i, f, a, cell, h1, h2, h3, h4, h5, h6, h7, h8, h9, fun z => h10 (hAB _ z)⟩
theorem vx_L.word {C n d : String} {A : Nat → Prop} {s : State} {args : Array Value} (h : vx_L C n d A s s.heap) : (Cond.laysStatic C n d).before args s = true := by
  obtain ⟨c, k, i, f, a, cell, h1, h2, h3, h4, h5, h6, h7, h8, h9, -⟩ := h
  show (Cond.laysStatic C n d).holds args s none s [] = true
  exact Cond.laysStatic_of h1 h2 h3 h4 h5 h6 h7 h8 h9
/-- .. and what it holds: null or some reference -/
def vx_Zq (C n d : String) (A : Nat → Prop) (U : State) (H : Heap) : Prop := va_Zq C n d A U H ∧ vx_L C n d A U H
theorem vx_Zq.moved {C n d : String} {A : Nat → Prop} {u U : State} {H : Heap} (hvm : u.vm.Alike U.vm) (h : vx_Zq C n d A u H) : vx_Zq C n d A U H := ⟨va_Zq.moved hvm h.1, vx_L.moved hvm h.2⟩
theorem vx_Zq.kept {C n d : String} {A : Nat → Prop} {U : State} {H H1 : Heap} (h : vx_Zq C n d A U H) (hq : ∀ a : Nat, a < H.size → ¬ A a → H1[a]? = H[a]?) : vx_Zq C n d A U H1 := ⟨va_Zq.kept h.1 hq, vx_L.kept h.2 hq⟩
theorem vx_Zq.narrow {C n d : String} {A B : Nat → Prop} {U : State} {H : Heap} (h : vx_Zq C n d A U H) (hAB : ∀ q, B q → A q) : vx_Zq C n d B U H := ⟨va_Zq.narrow h.1 hAB, vx_L.narrow h.2 hAB⟩
theorem vx_Zqof {args : Array Value} {s : State} {C n d : String} {A : Nat → Prop} (hl : (Cond.laysStatic C n d).before args s = true) (hini : (Cond.initialized C).before args s = true) (h : (Cond.isRef (.static C n d)).before args s = true) (hA : ∀ a : Nat, a < s.heap.size → ¬ A a) : vx_Zq C n d A s s.heap := by
  refine ⟨va_Zqof hl hini h hA, ?_⟩
  obtain ⟨c, k, i, f, a, cell, h1, h2, h3, h4, h5, h6, h7, h8, h9⟩ := Cond.laysStatic_spec hl
  exact ⟨c, k, i, f, a, cell, h1, h2, h3, h4, h5, h6, h7, h8, h9, hA a (Array.getElem?_eq_some_iff.mp h5).1⟩
theorem vx_isRef {C n d : String} {v : Value} {A : Nat → Prop} {s : State} {args : Array Value} (h : va_Z C n d v A s s.heap) (hv : v.isRef = true) : (Cond.isRef (.static C n d)).before args s = true := by
  obtain ⟨cf, kf, fi, f, a, cell, h1, h2, h3, h4, h5, h6, h7, -⟩ := h
  have he : (Term.static C n d).eval args s none [] s = some v := by
    simp [Term.eval, State.fieldNamed?, h1, h2, h4, h5, h6, h7]
  simp only [Cond.before, Cond.holds, Cond.value, he]
  cases v <;> simp_all [Value.isRef]
theorem vx_isRefq {C n d : String} {A : Nat → Prop} {s : State} {args : Array Value} (h : va_Zq C n d A s s.heap) : (Cond.isRef (.static C n d)).before args s = true := by
  rcases h with h | ⟨t, h⟩
  · exact vx_isRef h rfl
  · exact vx_isRef h rfl
/-- the same frame, seen from here: as if the method were called anew in this heap -/
theorem vx_rebase {T : State} (X : Stand p l e R s m args below meth c T locs cells slots) {R' : Room} (hf : R'.frames ≤ R.frames) (hl : R'.locals ≤ R.locals) (hc : cells + R'.cells ≤ R.cells) (hs : slots + R'.slots ≤ R.slots) :
    Stand p l e R' ((T.setVm s.vm).setFrames (.invoking m args :: below)) m args below meth c T [] 0 0 := by
  have htop : (T.setVm s.vm).topJava?.isSome := X.here.top
  have hF : ((T.setVm s.vm).setFrames (.invoking m args :: below)).frames = .invoking m args :: below := State.frames_setFrames _ (State.cur_lt_of_top htop)
  obtain ⟨g₀, hg0⟩ := Option.isSome_iff_exists.mp htop
  obtain ⟨r, hr⟩ := State.topJava?_eq_some.mp hg0
  have hl9 : e.platform.stackLimits (T.setVm s.vm).me = e.platform.stackLimits s.me := X.limits
  have hb9 : (T.setVm s.vm).me.stackBytes = s.me.stackBytes := X.bytes
  refine ⟨X.admits, X.cas, X.clock, hF, ?_, X.hears, X.method, X.code, X.here, X.tail, X.warmed, ?_, ?_, ?_⟩
  · have h := X.room
    have hU : ((T.setVm s.vm).setFrames (.invoking m args :: below)).localsInUse = s.localsInUse := by
      rw [State.localsInUse_invoking hF (meth := meth) (c := c) X.method X.code, State.localsInUse_invoking X.frames X.method X.code]
    simp only [State.hasRoom, Bool.and_eq_true, decide_eq_true_eq] at h ⊢
    obtain ⟨⟨⟨⟨h1, h2, h3, h4, h5, h6⟩, h7⟩, h8⟩, h9⟩ := h
    rw [X.frames, List.length_cons] at h2 h3
    have q1 := X.heapSize
    have q2 := X.used
    simp only [hF, hU, List.length_cons, State.stackLimits_setFrames, State.stackBytes_setFrames, hl9, hb9]
    refine ⟨⟨⟨⟨by omega, by omega, by omega, by omega, by omega, h6⟩, ?_⟩, ?_⟩, X.book⟩
    · show T.heap.size + R'.cells ≤ e.platform.maxCells
      omega
    · show T.slotsUsed + R'.slots ≤ e.platform.maxSlots
      omega
  · rw [State.stackLimits_setFrames]; rfl
  · rw [State.stackBytes_setFrames]; rfl
  · refine ⟨?_, Nat.le_refl _, Nat.le_refl _, ?_, ?_, fun a c9 h9 => ⟨c9, h9, rfl, rfl, fun _ _ => rfl⟩⟩
    · obtain ⟨t, ht, -⟩ := State.frames_cons hr
      show T.setVm s.vm = { ((T.setVm s.vm).setFrames (.invoking m args :: below)).setFrames (T.setVm s.vm).frames with heap := T.heap, slotsUsed := T.slotsUsed }
      rw [State.setFrames_setFrames, State.setFrames_self ht]
      rfl
    · show T.slotsUsed = T.slotsUsed + ((T.heap.toList.drop T.heap.size).map (·.slots.size)).sum
      rw [List.drop_eq_nil_of_le (Nat.le_of_eq Array.length_toList)]
      rfl
    · show ((T.heap.toList.drop T.heap.size).map (·.slots.size)).sum ≤ 0
      rw [List.drop_eq_nil_of_le (Nat.le_of_eq Array.length_toList)]
      exact Nat.le_refl _
/-- 'throw new E()': new; dup; invokespecial; athrow -/
theorem vx_throw0 {cc : ByteArray} {pc : Nat} (hexec : p.tables.exec = Jvm.exec) (hb : c.code = cc) (hl : l.stackTraces = false) {own cls : String} {names : List String} {ik ic mc ms : Nat} {A : Nat → Prop}
    (hown : s.vm.findClass own = some m.cls) (hcls : Bundle.fit cls = true) (hnames : ∀ n ∈ names, Bundle.fit n = true)
    (hk : (Cond.classLink own ik cls).before args s = true) (hini : (Cond.initialized cls).before args s = true) (hat : ∀ w ∈ vx_at0 own ic cls names, w.before args s = true)
    (hgood : ∀ w ∈ Cond.classLink own ik cls :: Cond.initialized cls :: vx_at0 own ic cls names, vx_ot w = true)
    (hU : vx_Zq Bundle.tN "UNASSIGNED_STACK" Bundle.steD A s s.heap) (hN : vx_Zq Bundle.tN "SUPPRESSED_SENTINEL" Bundle.listD A s s.heap) (hS : va_S A s.heap H locs) (hsize : ls.size = c.maxLocals)
    (d0 : decode cc pc = .ok (.new ik, 3)) (d3 : decode cc (pc + 3) = .ok (.dup, 1)) (d4 : decode cc (pc + 4) = .ok (.invokespecial ic, 3)) (d7 : decode cc (pc + 7) = .ok (.athrow, 1))
    (hout : ∀ x ∈ c.exceptionTable.toList, covers x (pc + 7) = false)
    (hRframes : names.length + 3 < R.frames) (hRlocals : (rest.map fun v => v.category).sum + (13 * (names.length + 1) + 42) ≤ R.locals) (hRcells : cells + 1 ≤ R.cells) (hRslots : slots + 6 ≤ R.slots) (hlocks : meth.locks = false)
    (hx : ∀ t : State, s.vm.Alike t.vm → H.size ≤ t.heap.size → (∀ q : Nat, q < H.size → t.heap[q]? = H[q]?) → XC cls s t)
    (hf : ∀ z ∈ locs, free z.base) (hc : cells + 1 ≤ mc) (hs : slots + 6 ≤ ms) :
    W p l e R s m args below meth c H locs cells slots (vx_MQ below Qc XC args s mc ms free) (F0 m pc ls rest) := by
  intro T hT X
  have htr : e.platform.stackTraces = false := (show e.platform.stackTraces = l.stackTraces by rw [X.admits.platform]).trans hl
  have Y := vx_rebase X (R' := { frames := R.frames, locals := R.locals, cells := 1, slots := 6 }) (Nat.le_refl _) (Nat.le_refl _) hRcells hRslots
  obtain ⟨s', hA⟩ : ∃ z, z = (T.setVm s.vm).setFrames (.invoking m args :: below) := ⟨_, rfl⟩
  rw [← hA] at Y
  have hvm : s'.vm = s.vm := by rw [hA]; rfl
  have hhp : s'.heap = H := by rw [hA]; exact hT
  have hW0 : s.WarmedH s'.vm := by rw [hvm]; exact State.WarmedH.refl s
  have hat' : ∀ w ∈ vx_at0 own ic cls names, w.before args s' = true := fun w hw => vx_ot_at hW0 hvm.symm (hgood w (List.mem_cons_of_mem _ (List.mem_cons_of_mem _ hw))) (hat w hw)
  have hk' : (Cond.classLink own ik cls).before args s' = true := vx_ot_at hW0 hvm.symm (hgood _ List.mem_cons_self) hk
  have hini' : (Cond.initialized cls).before args s' = true := vx_ot_at hW0 hvm.symm (hgood _ (List.mem_cons_of_mem _ List.mem_cons_self)) hini
  have hU' : vx_Zq Bundle.tN "UNASSIGNED_STACK" Bundle.steD A s' s'.heap := by rw [hhp]; exact vx_Zq.moved hW0.alike (hU.kept hS.2.1)
  have hN' : vx_Zq Bundle.tN "SUPPRESSED_SENTINEL" Bundle.listD A s' s'.heap := by rw [hhp]; exact vx_Zq.moved hW0.alike (hN.kept hS.2.1)
  have h : ∀ w ∈ Bundle.ownAtoms0 own ic cls names, w.before args s' = true := vx_own hat' (vx_isRefq hU'.1) (vx_isRefq hN'.1) hU'.2.word hN'.2.word
  have hown' : s'.vm.findClass own = some m.cls := by rw [hvm]; exact hown
  have hins : (Cond.instantiable cls 6).before args s' = true := h _ (by simp [Bundle.ownAtoms0])
  obtain ⟨vm₁, cX, kX, hfX, hkX, -, -, X₁, st1⟩ := Y.newCold hexec (own := own) (C := cls) (index := ik) (n := 6) hown' hk' hins hini'
    (g := F0 m pc ls rest) rfl (by rw [hb]; exact d0) (Nat.le_refl _) (Nat.le_refl _)
  generalize hT1 : (T.setVm vm₁).pushCell { cls := cX, slots := kX.instanceTypes.map defaultValue, vm := .none } = T1 at X₁ st1
  have hcat : (Value.ref T.heap.size).category = 1 := rfl
  have hcellA : T1.heap[T.heap.size]? = some (freshCell cX kX) := by rw [← hT1]; exact State.heap_pushCell_size _ _
  have d3' : decode c.code (pc + 3) = .ok (.dup, 1) := by rw [hb]; exact d3
  obtain ⟨U, hsteps, hrun, hend, hW, hsame, ce, hce, hO⟩ := X₁.ctorThrow0 hexec htr (own := own) (cls := cls) (names := names) (ic := ic) hown' hcls hnames h (fun x hx => nomatch hx) hfX hkX hcellA (by rw [hhp, hT]; exact Nat.le_refl _)
    (g := { method := m, pc := pc + 4, locals := ls, stack := .ref T.heap.size :: .ref T.heap.size :: rest, locked := none }) rfl hsize rfl rfl (rest := rest) rfl
    (by rw [hb]; exact d4) (by rw [hb]; exact d7) hout hRframes (by simp only [List.map_cons, List.sum_cons, hcat]; omega) hlocks
  obtain ⟨f1, f2⟩ := vx_frame hsame
  rw [hhp] at f1 f2
  have hWs : s.WarmedH U.vm := State.WarmedH.trans hW0 hW
  have hcl : s.vm.findClass cls = some ce.cls := by
    have h9 := hO.cls
    rw [hvm] at h9
    exact h9
  have hall : s.sameButNew ({ U with vm := s.vm } : State) locs mc ms := by
    subst hA
    obtain ⟨e1, e2⟩ := hsame
    rw [State.setFrames_setFrames] at e1
    have h2 : (T.setVm s.vm).sameButNew ({ U with vm := s.vm } : State) [] (0 + 1) (0 + 6) := ⟨e1, e2⟩
    have h3 := X.same.trans h2
    rw [List.append_nil] at h3
    exact h3.mono hc hs
  refine ⟨U, ?_, .threw T.heap.size, hrun, hend, Or.inr ⟨T.heap.size, rfl, cls, ce, locs, hx U hWs.alike f1 (fun q hq => f2 q hq (fun z hz => nomatch hz)), hce, hO.vm, hcl, hWs, hall, hf⟩⟩
  refine st1 _ ?_
  show Steps p.tables e below (T1.setTop { method := m, pc := pc + 3, locals := ls, stack := .ref T.heap.size :: rest, locked := none }) _
  jvm_step X₁.here [X₁.here.top, hexec, d3', Value.category]
  exact hsteps
/-- 'throw new E("text")': new; dup; ldc; invokespecial; athrow -/
theorem vx_throwS {cc : ByteArray} {pc : Nat} (hexec : p.tables.exec = Jvm.exec) (hb : c.code = cc) (hl : l.stackTraces = false) {own cls text : String} {names : List String} {ik is ic mc ms sa : Nat} {A : Nat → Prop}
    (hown : s.vm.findClass own = some m.cls) (hcls : Bundle.fit cls = true) (hnames : ∀ n ∈ names, Bundle.fit n = true)
    (hk : (Cond.classLink own ik cls).before args s = true) (hini : (Cond.initialized cls).before args s = true) (hstr : vk_R own is text sa s) (hat : ∀ w ∈ vx_atS own ic cls names, w.before args s = true)
    (hgood : ∀ w ∈ Cond.classLink own ik cls :: Cond.initialized cls :: vx_atS own ic cls names, vx_ot w = true)
    (hU : vx_Zq Bundle.tN "UNASSIGNED_STACK" Bundle.steD A s s.heap) (hN : vx_Zq Bundle.tN "SUPPRESSED_SENTINEL" Bundle.listD A s s.heap) (hS : va_S A s.heap H locs) (hsize : ls.size = c.maxLocals)
    (d0 : decode cc pc = .ok (.new ik, 3)) (d3 : decode cc (pc + 3) = .ok (.dup, 1)) (d4 : decode cc (pc + 4) = .ok (.ldc is, 2)) (d6 : decode cc (pc + 6) = .ok (.invokespecial ic, 3)) (d9 : decode cc (pc + 9) = .ok (.athrow, 1))
    (hout : ∀ x ∈ c.exceptionTable.toList, covers x (pc + 9) = false)
    (hRframes : names.length + 3 < R.frames) (hRlocals : (rest.map fun v => v.category).sum + (13 * (names.length + 1) + 43) ≤ R.locals) (hRcells : cells + 1 ≤ R.cells) (hRslots : slots + 6 ≤ R.slots) (hlocks : meth.locks = false)
    (hx : ∀ t : State, s.vm.Alike t.vm → H.size ≤ t.heap.size → (∀ q : Nat, q < H.size → t.heap[q]? = H[q]?) → XC cls s t)
    (hf : ∀ z ∈ locs, free z.base) (hc : cells + 1 ≤ mc) (hs : slots + 6 ≤ ms) :
    W p l e R s m args below meth c H locs cells slots (vx_MQ below Qc XC args s mc ms free) (F0 m pc ls rest) := by
  intro T hT X
  have htr : e.platform.stackTraces = false := (show e.platform.stackTraces = l.stackTraces by rw [X.admits.platform]).trans hl
  have Y := vx_rebase X (R' := { frames := R.frames, locals := R.locals, cells := 1, slots := 6 }) (Nat.le_refl _) (Nat.le_refl _) hRcells hRslots
  obtain ⟨s', hA⟩ : ∃ z, z = (T.setVm s.vm).setFrames (.invoking m args :: below) := ⟨_, rfl⟩
  rw [← hA] at Y
  have hvm : s'.vm = s.vm := by rw [hA]; rfl
  have hhp : s'.heap = H := by rw [hA]; exact hT
  have hW0 : s.WarmedH s'.vm := by rw [hvm]; exact State.WarmedH.refl s
  have hat' : ∀ w ∈ vx_atS own ic cls names, w.before args s' = true := fun w hw => vx_ot_at hW0 hvm.symm (hgood w (List.mem_cons_of_mem _ (List.mem_cons_of_mem _ hw))) (hat w hw)
  have hk' : (Cond.classLink own ik cls).before args s' = true := vx_ot_at hW0 hvm.symm (hgood _ List.mem_cons_self) hk
  have hini' : (Cond.initialized cls).before args s' = true := vx_ot_at hW0 hvm.symm (hgood _ (List.mem_cons_of_mem _ List.mem_cons_self)) hini
  have hU' : vx_Zq Bundle.tN "UNASSIGNED_STACK" Bundle.steD A s' s'.heap := by rw [hhp]; exact vx_Zq.moved hW0.alike (hU.kept hS.2.1)
  have hN' : vx_Zq Bundle.tN "SUPPRESSED_SENTINEL" Bundle.listD A s' s'.heap := by rw [hhp]; exact vx_Zq.moved hW0.alike (hN.kept hS.2.1)
  have h : ∀ w ∈ Bundle.ownAtoms own ic cls names, w.before args s' = true := vx_own hat' (vx_isRefq hU'.1) (vx_isRefq hN'.1) hU'.2.word hN'.2.word
  have hown' : s'.vm.findClass own = some m.cls := by rw [hvm]; exact hown
  have hins : (Cond.instantiable cls 6).before args s' = true := h _ (by simp [Bundle.ownAtoms])
  obtain ⟨vm₁, cX, kX, hfX, hkX, -, -, X₁, st1⟩ := Y.newCold hexec (own := own) (C := cls) (index := ik) (n := 6) hown' hk' hins hini'
    (g := F0 m pc ls rest) rfl (by rw [hb]; exact d0) (Nat.le_refl _) (Nat.le_refl _)
  generalize hT1 : (T.setVm vm₁).pushCell { cls := cX, slots := kX.instanceTypes.map defaultValue, vm := .none } = T1 at X₁ st1
  have hcat : (Value.ref T.heap.size).category = 1 := rfl
  have hcellA : T1.heap[T.heap.size]? = some (freshCell cX kX) := by rw [← hT1]; exact State.heap_pushCell_size _ _
  have d3' : decode c.code (pc + 3) = .ok (.dup, 1) := by rw [hb]; exact d3
  have d4' : decode c.code (pc + 4) = .ok (.ldc is, 2) := by rw [hb]; exact d4
  have hstr' : vk_R own is text sa s' := vk_R.warm hW0 hstr
  obtain ⟨U, hsteps, hrun, hend, hW, hsame, ce, hce, hO⟩ := X₁.ctorThrowS hexec htr (own := own) (cls := cls) (names := names) (ic := ic) hown' hcls hnames h (fun x hx => nomatch hx) hfX hkX hcellA (by rw [hhp, hT]; exact Nat.le_refl _) (msg := .ref sa) rfl
    (g := { method := m, pc := pc + 6, locals := ls, stack := .ref sa :: .ref T.heap.size :: .ref T.heap.size :: rest, locked := none }) rfl hsize rfl rfl (rest := rest) rfl
    (by rw [hb]; exact d6) (by rw [hb]; exact d9) hout hRframes (by simp only [List.map_cons, List.sum_cons, hcat]; omega) hlocks
  obtain ⟨f1, f2⟩ := vx_frame hsame
  rw [hhp] at f1 f2
  have hWs : s.WarmedH U.vm := State.WarmedH.trans hW0 hW
  have hcl : s.vm.findClass cls = some ce.cls := by
    have h9 := hO.cls
    rw [hvm] at h9
    exact h9
  have hall : s.sameButNew ({ U with vm := s.vm } : State) locs mc ms := by
    subst hA
    obtain ⟨e1, e2⟩ := hsame
    rw [State.setFrames_setFrames] at e1
    have h2 : (T.setVm s.vm).sameButNew ({ U with vm := s.vm } : State) [] (0 + 1) (0 + 6) := ⟨e1, e2⟩
    have h3 := X.same.trans h2
    rw [List.append_nil] at h3
    exact h3.mono hc hs
  refine ⟨U, ?_, .threw T.heap.size, hrun, hend, Or.inr ⟨T.heap.size, rfl, cls, ce, locs, hx U hWs.alike f1 (fun q hq => f2 q hq (fun z hz => nomatch hz)), hce, hO.vm, hcl, hWs, hall, hf⟩⟩
  refine st1 _ ?_
  show Steps p.tables e below (T1.setTop { method := m, pc := pc + 3, locals := ls, stack := .ref T.heap.size :: rest, locked := none }) _
  jvm_step X₁.here [X₁.here.top, hexec, d3', Value.category]
  exact X₁.ldcString hexec (own := own) (text := text) (index := is) (a := sa) hown' hstr'.1 hstr'.2
    (g := { method := m, pc := pc + 4, locals := ls, stack := .ref T.heap.size :: .ref T.heap.size :: rest, locked := none }) rfl d4' _ hsteps
/-- 'throw new E("text")', the text by a wide index -/
theorem vx_throwSW {cc : ByteArray} {pc : Nat} (hexec : p.tables.exec = Jvm.exec) (hb : c.code = cc) (hl : l.stackTraces = false) {own cls text : String} {names : List String} {ik is ic mc ms sa : Nat} {A : Nat → Prop}
    (hown : s.vm.findClass own = some m.cls) (hcls : Bundle.fit cls = true) (hnames : ∀ n ∈ names, Bundle.fit n = true)
    (hk : (Cond.classLink own ik cls).before args s = true) (hini : (Cond.initialized cls).before args s = true) (hstr : vk_R own is text sa s) (hat : ∀ w ∈ vx_atS own ic cls names, w.before args s = true)
    (hgood : ∀ w ∈ Cond.classLink own ik cls :: Cond.initialized cls :: vx_atS own ic cls names, vx_ot w = true)
    (hU : vx_Zq Bundle.tN "UNASSIGNED_STACK" Bundle.steD A s s.heap) (hN : vx_Zq Bundle.tN "SUPPRESSED_SENTINEL" Bundle.listD A s s.heap) (hS : va_S A s.heap H locs) (hsize : ls.size = c.maxLocals)
    (d0 : decode cc pc = .ok (.new ik, 3)) (d3 : decode cc (pc + 3) = .ok (.dup, 1)) (d4 : decode cc (pc + 4) = .ok (.ldc_w is, 3)) (d7 : decode cc (pc + 7) = .ok (.invokespecial ic, 3)) (d10 : decode cc (pc + 10) = .ok (.athrow, 1))
    (hout : ∀ x ∈ c.exceptionTable.toList, covers x (pc + 10) = false)
    (hRframes : names.length + 3 < R.frames) (hRlocals : (rest.map fun v => v.category).sum + (13 * (names.length + 1) + 43) ≤ R.locals) (hRcells : cells + 1 ≤ R.cells) (hRslots : slots + 6 ≤ R.slots) (hlocks : meth.locks = false)
    (hx : ∀ t : State, s.vm.Alike t.vm → H.size ≤ t.heap.size → (∀ q : Nat, q < H.size → t.heap[q]? = H[q]?) → XC cls s t)
    (hf : ∀ z ∈ locs, free z.base) (hc : cells + 1 ≤ mc) (hs : slots + 6 ≤ ms) :
    W p l e R s m args below meth c H locs cells slots (vx_MQ below Qc XC args s mc ms free) (F0 m pc ls rest) := by
  intro T hT X
  have htr : e.platform.stackTraces = false := (show e.platform.stackTraces = l.stackTraces by rw [X.admits.platform]).trans hl
  have Y := vx_rebase X (R' := { frames := R.frames, locals := R.locals, cells := 1, slots := 6 }) (Nat.le_refl _) (Nat.le_refl _) hRcells hRslots
  obtain ⟨s', hA⟩ : ∃ z, z = (T.setVm s.vm).setFrames (.invoking m args :: below) := ⟨_, rfl⟩
  rw [← hA] at Y
  have hvm : s'.vm = s.vm := by rw [hA]; rfl
  have hhp : s'.heap = H := by rw [hA]; exact hT
  have hW0 : s.WarmedH s'.vm := by rw [hvm]; exact State.WarmedH.refl s
  have hat' : ∀ w ∈ vx_atS own ic cls names, w.before args s' = true := fun w hw => vx_ot_at hW0 hvm.symm (hgood w (List.mem_cons_of_mem _ (List.mem_cons_of_mem _ hw))) (hat w hw)
  have hk' : (Cond.classLink own ik cls).before args s' = true := vx_ot_at hW0 hvm.symm (hgood _ List.mem_cons_self) hk
  have hini' : (Cond.initialized cls).before args s' = true := vx_ot_at hW0 hvm.symm (hgood _ (List.mem_cons_of_mem _ List.mem_cons_self)) hini
  have hU' : vx_Zq Bundle.tN "UNASSIGNED_STACK" Bundle.steD A s' s'.heap := by rw [hhp]; exact vx_Zq.moved hW0.alike (hU.kept hS.2.1)
  have hN' : vx_Zq Bundle.tN "SUPPRESSED_SENTINEL" Bundle.listD A s' s'.heap := by rw [hhp]; exact vx_Zq.moved hW0.alike (hN.kept hS.2.1)
  have h : ∀ w ∈ Bundle.ownAtoms own ic cls names, w.before args s' = true := vx_own hat' (vx_isRefq hU'.1) (vx_isRefq hN'.1) hU'.2.word hN'.2.word
  have hown' : s'.vm.findClass own = some m.cls := by rw [hvm]; exact hown
  have hins : (Cond.instantiable cls 6).before args s' = true := h _ (by simp [Bundle.ownAtoms])
  obtain ⟨vm₁, cX, kX, hfX, hkX, -, -, X₁, st1⟩ := Y.newCold hexec (own := own) (C := cls) (index := ik) (n := 6) hown' hk' hins hini'
    (g := F0 m pc ls rest) rfl (by rw [hb]; exact d0) (Nat.le_refl _) (Nat.le_refl _)
  generalize hT1 : (T.setVm vm₁).pushCell { cls := cX, slots := kX.instanceTypes.map defaultValue, vm := .none } = T1 at X₁ st1
  have hcat : (Value.ref T.heap.size).category = 1 := rfl
  have hcellA : T1.heap[T.heap.size]? = some (freshCell cX kX) := by rw [← hT1]; exact State.heap_pushCell_size _ _
  have d3' : decode c.code (pc + 3) = .ok (.dup, 1) := by rw [hb]; exact d3
  have d4' : decode c.code (pc + 4) = .ok (.ldc_w is, 3) := by rw [hb]; exact d4
  have hstr' : vk_R own is text sa s' := vk_R.warm hW0 hstr
  obtain ⟨U, hsteps, hrun, hend, hW, hsame, ce, hce, hO⟩ := X₁.ctorThrowS hexec htr (own := own) (cls := cls) (names := names) (ic := ic) hown' hcls hnames h (fun x hx => nomatch hx) hfX hkX hcellA (by rw [hhp, hT]; exact Nat.le_refl _) (msg := .ref sa) rfl
    (g := { method := m, pc := pc + 7, locals := ls, stack := .ref sa :: .ref T.heap.size :: .ref T.heap.size :: rest, locked := none }) rfl hsize rfl rfl (rest := rest) rfl
    (by rw [hb]; exact d7) (by rw [hb]; exact d10) hout hRframes (by simp only [List.map_cons, List.sum_cons, hcat]; omega) hlocks
  obtain ⟨f1, f2⟩ := vx_frame hsame
  rw [hhp] at f1 f2
  have hWs : s.WarmedH U.vm := State.WarmedH.trans hW0 hW
  have hcl : s.vm.findClass cls = some ce.cls := by
    have h9 := hO.cls
    rw [hvm] at h9
    exact h9
  have hall : s.sameButNew ({ U with vm := s.vm } : State) locs mc ms := by
    subst hA
    obtain ⟨e1, e2⟩ := hsame
    rw [State.setFrames_setFrames] at e1
    have h2 : (T.setVm s.vm).sameButNew ({ U with vm := s.vm } : State) [] (0 + 1) (0 + 6) := ⟨e1, e2⟩
    have h3 := X.same.trans h2
    rw [List.append_nil] at h3
    exact h3.mono hc hs
  refine ⟨U, ?_, .threw T.heap.size, hrun, hend, Or.inr ⟨T.heap.size, rfl, cls, ce, locs, hx U hWs.alike f1 (fun q hq => f2 q hq (fun z hz => nomatch hz)), hce, hO.vm, hcl, hWs, hall, hf⟩⟩
  refine st1 _ ?_
  show Steps p.tables e below (T1.setTop { method := m, pc := pc + 3, locals := ls, stack := .ref T.heap.size :: rest, locked := none }) _
  jvm_step X₁.here [X₁.here.top, hexec, d3', Value.category]
  exact X₁.ldcStringW hexec (own := own) (text := text) (index := is) (a := sa) hown' hstr'.1 hstr'.2
    (g := { method := m, pc := pc + 4, locals := ls, stack := .ref T.heap.size :: .ref T.heap.size :: rest, locked := none }) rfl d4' _ hsteps
end Ends
section Bodies
variable {l : Launch}
theorem vx_ofW {y : MethodName} {ws ws' : List Cond} {rm : Room} {Pc : Array Value → State → Prop} {Qc : Array Value → State → Outcome → State → Prop} {XC : String → State → State → Prop} {mc ms : Nat} {free : Addr → Prop} {cc : ByteArray} {maxL : Nat} {ret : Option FieldType}
    (hy : plainName y.cls = true) (hw : ws = Cond.code y cc maxL ret :: ws')
    (body : ∀ p e s m args below meth c s₁, BodyLoose p l y (headSpec ws rm) cc maxL ret e s m args below meth c s₁ → c.maxLocals = maxL → (∀ x ∈ c.exceptionTable.toList, False) → Pc args s →
      W p l e (headSpec ws rm).room s m args below meth c s.heap [] 0 0 (vx_MQ below Qc XC args s mc ms free) (entryFrame m args maxL)) : vx_Met l y ws rm Pc Qc XC mc ms free := by
  refine MetFree.of_bodyS (code := cc) (maxLocals := maxL) (ret := ret) hy ?_ ?_
  · intro args s m h hn
    obtain ⟨meth, c, h1, h2, h3, h4, h5, h6, -, -⟩ := Cond.code_spec hn (atoms_spec (ws := ws) h _ (by rw [hw]; exact List.mem_cons_self))
    exact ⟨meth, c, h1, h2, h3, h4, h5, h6⟩
  · intro p e s m args below meth c s₁ B hml hP _
    have hh0 : s₁.heap = s.heap := by rw [B.state]; rfl
    have ht : ∀ x ∈ c.exceptionTable.toList, False := by
      obtain ⟨meth9, c9, h1, h2, -, -, -, -, h7, -⟩ := Cond.code_spec B.named (atoms_spec (ws := ws) B.pre _ (by rw [hw]; exact List.mem_cons_self))
      cases Option.some.inj (h1.symm.trans B.method)
      cases Option.some.inj (h2.symm.trans (Stand.of_body B).code)
      intro x hx
      rw [Array.isEmpty_iff.mp h7] at hx
      cases hx
    obtain ⟨t, a1, o, b1, b2, b3⟩ := body p e s m args below meth c s₁ B hml ht hP s₁ hh0 (Stand.of_body B)
    exact ⟨t, o, a1, b1, b2, b3⟩
/-- the table of a body with handlers -/
theorem vx_table {p : Program} {x y : MethodName} {S : Spec} {cc bytes : ByteArray} {maxL maxL' : Nat} {ret ret' : Option FieldType} {e : Env} {s s₁ : State} {m : MethodId} {args : Array Value} {below : List Frame} {meth : Method} {c : Code} {hh : List (Nat × Nat × Nat × Nat)}
    (B : BodyLoose p l y S cc maxL ret e s m args below meth c s₁) (h : (Cond.codeWith y bytes maxL' ret' hh).before args s = true) : c.exceptionTable.toList = tableOf hh := by
  obtain ⟨m9, meth9, c9, hn9, h1, h2, -, -, h6, -⟩ := Cond.codeWith_spec h
  cases Option.some.inj (hn9.symm.trans B.named)
  cases Option.some.inj (h1.symm.trans B.method)
  cases Option.some.inj (h2.symm.trans (Stand.of_body B).code)
  rw [← h6, table_eq]
end Bodies
end VXA
/-! ===== END ===== -/
/-! ===== BEGIN a static call of a method with an exception table ===== -/
section VXS
variable {p : Program} {l : Launch} {e : Env} {R : Room} {s : State} {m : MethodId} {args : Array Value} {below : List Frame} {meth : Method} {c : Code} {T : State} {H : Heap} {locs : List Loc} {cells slots : Nat}
abbrev vx_CSW (R : Room) (s : State) (args : Array Value) (own : String) (index : Nat) (y : MethodName) (bytes : ByteArray) (maxL : Nat) (ret : Option FieldType) (hh : List (Nat × Nat × Nat × Nat)) (ws : List Cond) (rm : Room) (mc ms n : Nat) : Prop :=
  (rm.cells = mc ∧ rm.slots = ms ∧ rm.frames + 1 ≤ R.frames ∧ 8 + (maxL + 11) + rm.locals ≤ R.locals ∧ (∀ w ∈ ws, ∀ (a' : Array Value) (U : State), s.WarmedH U.vm → w.before a' U = true) ∧ Cond.codeWith y bytes maxL ret hh ∈ ws) ∧
  (Cond.codeWith y bytes maxL ret hh).before args s = true ∧ (Cond.initialized y.cls).before args s = true ∧ (y.cls ≠ "java/lang/invoke/MethodHandle" ∧ y.cls ≠ "java/lang/invoke/VarHandle") ∧
  (∀ sig, parseMethodDescriptor y.desc = some sig → n = sig.parameters.length) ∧ (Cond.methodLink own index y).before args s = true ∧ (Cond.static y).before args s = true
theorem vx_cwSW {own : String} {index maxL mc ms : Nat} {y : MethodName} {bytes : ByteArray} {ret : Option FieldType} {hh : List (Nat × Nat × Nat × Nat)} {Ts ws ws' : List Cond} {rm : Room} (n : Nat) (ht : ∀ w ∈ Ts, w.before args s = true) (hT : GoodIn Ts (va_wsS own index y ws)) (hw : ws = Cond.codeWith y bytes maxL ret hh :: ws') (hrc : rm.cells = mc) (hrs : rm.slots = ms)
    (hd : y.cls ≠ "java/lang/invoke/MethodHandle" ∧ y.cls ≠ "java/lang/invoke/VarHandle" ∧ (parseMethodDescriptor y.desc).map (fun d => d.parameters.length) = some n) (hR : rm.frames + 1 ≤ R.frames ∧ 8 + (maxL + 11) + rm.locals ≤ R.locals) :
    vx_CSW R s args own index y bytes maxL ret hh ws rm mc ms n := by
  have ok : ∀ w ∈ va_wsS own index y ws, w.before args s = true := fun w h => ht w (hT w h).1
  have hG : GoodIn Ts ws := fun w h => hT w (by unfold va_wsS; exact List.mem_append_right _ h)
  have hc : Cond.codeWith y bytes maxL ret hh ∈ ws := by rw [hw]; exact List.mem_cons_self
  refine ⟨⟨hrc, hrs, hR.1, hR.2, pay_in ht hG, hc⟩, ht _ (hG _ hc).1, ok _ (by simp [va_wsS]), ⟨hd.1, hd.2.1⟩, fun sig h => ?_, ok _ (by simp [va_wsS]), ok _ (by simp [va_wsS])⟩
  have h2 := hd.2.2
  rw [h] at h2
  exact (Option.some.inj h2).symm
theorem vx_callSW (X : Stand p l e R s m args below meth c T locs cells slots) (hexec : p.tables.exec = Jvm.exec) {own : String} {index : Nat} {y : MethodName} {bytes : ByteArray} {maxL : Nat} {ret : Option FieldType} {hh : List (Nat × Nat × Nat × Nat)}
    (hown : s.vm.findClass own = some m.cls) (hlink : (Cond.methodLink own index y).before args s = true) (hstat : (Cond.static y).before args s = true) (hinit : (Cond.initialized y.cls).before args s = true)
    (hcode : (Cond.codeWith y bytes maxL ret hh).before args s = true) (hy : y.cls ≠ "java/lang/invoke/MethodHandle" ∧ y.cls ≠ "java/lang/invoke/VarHandle")
    {W9 : Nat} {Pre : Pt → Array Value → Prop} {Post : Pt → Array Value → Option Value → Pt → Prop} (hK : Back l R p e below s args y 3 W9 Pre Post)
    {g : JFrame} (hg : g.method = m) (hsize : g.locals.size = c.maxLocals) {argsL rest : List Value} (hlen : ∀ sig, parseMethodDescriptor y.desc = some sig → argsL.length = sig.parameters.length)
    (hstack : g.stack = argsL.reverse ++ rest) (hW : 2 * g.monitorRoom + (rest.map fun v => v.category).sum ≤ W9) (hdg : decode c.code g.pc = .ok (.invokestatic index, 3))
    (hpre : ∀ vm₁, s.WarmedH vm₁ → Pre ⟨T.setVm vm₁, locs, cells, slots⟩ argsL.toArray) :
    ∃ (v : Option Value) (vm₁ : Vm) (B : Pt), s.WarmedH vm₁ ∧ Stand p l e R s m args below meth c B.U B.locs B.cells B.slots ∧ Post ⟨T.setVm vm₁, locs, cells, slots⟩ argsL.toArray v B ∧
      ∀ target, Steps p.tables e below (B.U.setTop { g with pc := g.pc + 3, stack := v.toList ++ rest }) target → Steps p.tables e below (T.setTop g) target := by
  obtain ⟨mk, methM, cM, hnamed, hmethM, -, -, -, -, -, -, hsigM⟩ := Cond.codeWith_spec hcode
  have hstatic : methM.isStatic = true := Cond.static_spec hnamed hmethM hstat
  obtain ⟨kP, hkP, -⟩ := className_of_methodNamed hnamed
  have hinitP : kP.init = .initialized := Cond.initialized_spec (findClass_of_methodNamed hnamed) hkP hinit
  obtain ⟨vm₁, X₁, hstep₁⟩ := X.invokestatic hexec hown hlink hnamed hmethM hstatic hkP hinitP hy (g := g) hg (argsL := argsL) (rest := rest) (hlen _ hsigM) hstack hdg
  obtain ⟨v, B, X', hpost, hsteps⟩ := hK m meth c ⟨T.setVm vm₁, locs, cells, slots⟩ { g with stack := rest } (.invokestatic index) mk argsL.toArray X₁ hg hsize hdg hW (X₁.named hnamed) (hpre vm₁ X₁.warmed)
  exact ⟨v, vm₁, B, X₁.warmed, X', hpost, fun target h => hstep₁ _ fun acts => by rw [doInvoke_state]; exact hsteps.trans h⟩
theorem vx_runSW {y : MethodName} {bytes cc : ByteArray} {maxL nL mc ms n index : Nat} {ret : Option FieldType} {hh : List (Nat × Nat × Nat × Nat)} {ws : List Cond} {rm : Room} {Pc : Array Value → State → Prop} {Qc : Array Value → State → Outcome → State → Prop} {free : Addr → Prop} {Ts : List Cond} {own : String} {As rest : List Value} {g : JFrame}
    (S : CallFix p m c cc nL s args Ts own) (hM : Met l y ws rm Pc Qc mc ms free) (cw : vx_CSW R s args own index y bytes maxL ret hh ws rm mc ms n) (hp : PreS s H Pc As)
    (hg : g.method = m) (hn : As.length = n) (hsize : g.locals.size = nL) (hstack : g.stack = As.reverse ++ rest) (hW : 2 * g.monitorRoom + (rest.map fun v => v.category).sum ≤ 8) (hdg : decode cc g.pc = .ok (.invokestatic index, 3)) (hf : cells + mc ≤ R.cells ∧ slots + ms ≤ R.slots) :
    va_Run p l e R s m args below meth c H locs cells slots mc ms g rest (Qc As.toArray) (free) := by
  obtain ⟨⟨hrc, hrs, hfr, hlo, hws, hcw⟩, hcode, hini, hy, hlen, hl, hstt⟩ := cw
  have hK : Back l R p e below s args y 3 8 (PreOf R mc ms Pc) (PostOf Qc mc ms free) := va_backW (hh := hh) (bytes := bytes) (maxL := maxL) (ret := ret) hM hp.1 hrc hrs hfr hlo hws hcw (fun a' U hW => word_at hW (Or.inl (by first | rfl | simp [Cond.onTables, Cond.keeps, Cond.steady])) hini)
  obtain ⟨hx, hb, hml, ho, -⟩ := S
  intro T hT X
  obtain ⟨v, vm₁, ⟨U', l2, c2, s2⟩, hW₁, X', ⟨g', mk, t, L, e1, e2, hq, h1, hL, h2, h3⟩, st⟩ := vx_callSW X hx (hh := hh) (bytes := bytes) (maxL := maxL) (ret := ret) ho hl hstt hini hcode hy hK hg (hsize.trans hml.symm) (argsL := As) (rest := rest) (fun sig h => hn.trans (hlen sig h)) hstack hW (by rw [hb]; exact hdg)
    (fun vm₁ hW₁ => ⟨hf.1, hf.2, hp.2 (T.setVm vm₁) hT hW₁⟩)
  dsimp only [Pt.U, Pt.locs, Pt.cells, Pt.slots] at X' e1 e2 h1 h2 h3 st
  subst h1; subst h2; subst h3
  exact ⟨v, (T.setVm vm₁).calling g' mk As.toArray, t, U', L, hT, X', hL, e1, e2, hq, st⟩
theorem vx_lt {D : va_G} {cl : List vw_C} {ws : va_W} {H1 : Heap} (h : va_P D cl ws H1) {k : Nat} {q : Nat × va_E} (hk : ws[k]? = some q) : q.1 < H1.size := (h k q hk).lt
end VXS
/-! ===== END ===== -/
/-! ===== BEGIN methods with a table of their own: called by a name, returning or throwing ===== -/
section VXH
/-! vx_backW, vx_callVX, vx_callSX, vx_callVW, vx_runVW, vx_runVX, vx_runSX, vx_ofWH follow the same proofs as their sisters above (Free/Laws.lean, Shelf42/LK1.lean); vx_outP calls Shelf42/NT130.lean (outThrough). -/
section
variable {l : Launch} {R : Room} {p : Program} {e : Env} {below : List Frame} {s : State} {sargs : Array Value} {y : MethodName} {len W9 : Nat}
theorem vx_backW {ws : List Cond} {rm : Room} {Pc : Array Value → State → Prop} {Qc : Array Value → State → Outcome → State → Prop} {XC : String → State → State → Prop} {mc ms : Nat} {free : Addr → Prop} {bytes : ByteArray} {maxL : Nat} {ret : Option FieldType} {hh : List (Nat × Nat × Nat × Nat)}
    (hM : vx_Met l y ws rm Pc Qc XC mc ms free) (hblind : FrameBlind Pc) (hrc : rm.cells = mc) (hrs : rm.slots = ms)
    (hframes : rm.frames + 1 ≤ R.frames) (hlocals : W9 + (maxL + 11) + rm.locals ≤ R.locals)
    (hws : ∀ w ∈ ws, ∀ a' U, s.WarmedH U.vm → w.before a' U = true) (hcode : Cond.codeWith y bytes maxL ret hh ∈ ws) (hinit : ∀ a' U, s.WarmedH U.vm → (Cond.initialized y.cls).before a' U = true) :
    vx_Back l R p e below s sargs y len W9 (PreOf R mc ms Pc) (PostOf Qc mc ms free) (vx_Post XC mc ms free) := by
  intro m meth c A g ig mk a X hg hsize hdg hW hn hp
  have h1 : (headSpec ws rm).pre.before a A.U = true := atoms_intro fun w hw => hws w hw _ _ X.warmed
  have h2 : (Cond.codeWith y bytes maxL ret hh).before a A.U = true := hws _ hcode _ _ X.warmed
  have h3 : (Cond.initialized y.cls).before a A.U = true := hinit _ _ X.warmed
  have h4 : A.cells + (headSpec ws rm).room.cells ≤ R.cells := by rw [show (headSpec ws rm).room.cells = mc from hrc]; exact hp.1
  have h5 : A.slots + (headSpec ws rm).room.slots ≤ R.slots := by rw [show (headSpec ws rm).room.slots = ms from hrs]; exact hp.2.1
  have hPc : Pc a (A.U.calling g mk a) := hblind _ _ _ _ hp.2.2
  obtain ⟨U, Ls, c0, s0⟩ := A
  dsimp only [Pt.U, Pt.locs, Pt.cells, Pt.slots] at h1 h2 h3 h4 h5 X hn hPc ⊢
  obtain ⟨m9, methY, cY, hn9, hmY, hcY, -, hlY, -⟩ := Cond.codeWith_spec h2
  cases Option.some.inj (hn9.symm.trans hn)
  obtain ⟨kY, hkY, -⟩ := className_of_methodNamed hn
  have hinitY : kY.init = .initialized := Cond.initialized_spec (findClass_of_methodNamed hn) hkY h3
  have h : At U g.method c below := by rw [hg]; exact X.here
  have hlocals9 : W9 + (maxL + 11) + (headSpec ws rm).room.locals ≤ R.locals := hlocals
  have happ : (headSpec ws rm).appliesLoose y e.platform (U.calling g mk a) = true :=
    Spec.appliesLoose_calling (g := g) h hdg hn hkY hinitY
      (X.room_calling (g := g) (R' := (headSpec ws rm).room) hsize hmY hcY hframes (by rw [hlY]; omega) h4 h5) h1
  obtain ⟨mid, hmid⟩ := h.above
  have hfr : (U.setTop g).frames = (.java g :: mid) ++ below := by rw [State.frames_setTop' g h.top, hmid]; rfl
  obtain ⟨o, s₂, hsteps, -, hend, hq⟩ := Steps.callFree hM p X.admits X.cas X.clock (acts := []) hfr happ hPc trivial
  have hq' : vx_Q Qc XC mc ms free a (U.calling g mk a) o s₂ := hq
  rw [State.frames_setTop' g h.top] at hend
  obtain ⟨g₀, hg0⟩ := Option.isSome_iff_exists.mp h.top
  obtain ⟨r, hr⟩ := State.topJava?_eq_some.mp hg0
  have hr' : (({ U with heap := s₂.heap, slotsUsed := s₂.slotsUsed } : State).setVm s₂.vm).frames = .java g₀ :: r := hr
  rcases hq' with ⟨hqc, L, hfe, hL⟩ | ⟨q, rfl, E, ce, L, hx, hce, hcv, hcl, hW₂, hsm, hL⟩
  · obtain ⟨⟨v, rfl⟩, hW₂, e2, q2, q3, q4, q5, q6⟩ := id hfe
    have e3 : s₂ = ({ (U.calling g mk a).setFrames s₂.frames with heap := s₂.heap, slotsUsed := s₂.slotsUsed } : State).setVm s₂.vm := by
      have : s₂ = ({ s₂ with vm := (U.calling g mk a).vm } : State).setVm s₂.vm := rfl
      rw [e2] at this
      exact this
    obtain ⟨c₂, i₂, len₂, hc₂, hd₂, hf₂⟩ := hend
    have hW' : U.WarmedH s₂.vm := hW₂
    have hcc : c₂ = c := by
      have h1 : s₂.code? g.method = U.code? g.method := by
        rw [State.code?_eq, State.code?_eq, hW'.alike.method?]
      exact Option.some.inj (hc₂.symm.trans (h1.trans h.code))
    subst hcc
    have hlen : len₂ = len := by rw [hdg] at hd₂; cases hd₂; rfl
    subst hlen
    have hs₂ : s₂ = (({ U with heap := s₂.heap, slotsUsed := s₂.slotsUsed } : State).setVm s₂.vm).setTop { g with pc := g.pc + len₂, stack := v.toList ++ g.stack } := by
      refine e3.trans ?_
      rw [hf₂, State.calling_eq h.top, State.setFrames_setFrames, State.setTop_of_frames _ hr', hr]
      rfl
    have hsame : U.sameButNew ({ U with heap := s₂.heap, slotsUsed := s₂.slotsUsed } : State) L mc ms := by
      refine ⟨?_, q2, q3, q4, q5, q6⟩
      obtain ⟨t, ht, -⟩ := State.frames_cons hr
      show ({ U with heap := s₂.heap, slotsUsed := s₂.slotsUsed } : State) = { U.setFrames U.frames with heap := s₂.heap, slotsUsed := s₂.slotsUsed }
      rw [State.setFrames_self ht]
    subst hg
    refine Or.inl ⟨v, ⟨(({ U with heap := s₂.heap, slotsUsed := s₂.slotsUsed } : State).setVm s₂.vm), Ls ++ L, c0 + mc, s0 + ms⟩,
      ⟨X.admits, X.cas, X.clock, X.frames, X.room, X.hears, X.method, X.code, (X.here.setHeapUsed s₂.heap s₂.slotsUsed).setVm hW'.alike, X.tail, State.WarmedH.trans X.warmed hW', X.limits, X.bytes, X.same.trans (hsame.setVm s.vm)⟩,
      ⟨g, mk, s₂, L, rfl, rfl, hqc, rfl, hL, rfl, rfl⟩, ?_⟩
    show Steps p.tables e below _ ((({ U with heap := s₂.heap, slotsUsed := s₂.slotsUsed } : State).setVm s₂.vm).setTop { g with pc := g.pc + len₂, stack := v.toList ++ g.stack })
    rw [← hs₂]
    exact hsteps
  · obtain ⟨e2, q2, q3, q4, q5, q6⟩ := id hsm
    have e3 : s₂ = ({ (U.calling g mk a).setFrames s₂.frames with heap := s₂.heap, slotsUsed := s₂.slotsUsed } : State).setVm s₂.vm := by
      have : s₂ = ({ s₂ with vm := (U.calling g mk a).vm } : State).setVm s₂.vm := rfl
      rw [e2] at this
      exact this
    have hf₂ : s₂.frames = .throwing q :: .java g :: U.frames.tail := hend
    have hW' : U.WarmedH s₂.vm := hW₂
    have hs₂ : s₂ = ((({ U with heap := s₂.heap, slotsUsed := s₂.slotsUsed } : State).setVm s₂.vm).setTop g).pushFrame (.throwing q) := by
      refine e3.trans ?_
      rw [hf₂, State.calling_eq h.top, State.setFrames_setFrames, State.pushFrame, State.frames_setTop _ hr', State.setTop_of_frames _ hr', State.setFrames_setFrames, hr]
      rfl
    have hsame : U.sameButNew ({ U with heap := s₂.heap, slotsUsed := s₂.slotsUsed } : State) L mc ms := by
      refine ⟨?_, q2, q3, q4, q5, q6⟩
      obtain ⟨t, ht, -⟩ := State.frames_cons hr
      show ({ U with heap := s₂.heap, slotsUsed := s₂.slotsUsed } : State) = { U.setFrames U.frames with heap := s₂.heap, slotsUsed := s₂.slotsUsed }
      rw [State.setFrames_self ht]
    subst hg
    refine Or.inr ⟨q, ⟨(({ U with heap := s₂.heap, slotsUsed := s₂.slotsUsed } : State).setVm s₂.vm), Ls ++ L, c0 + mc, s0 + ms⟩,
      ⟨X.admits, X.cas, X.clock, X.frames, X.room, X.hears, X.method, X.code, (X.here.setHeapUsed s₂.heap s₂.slotsUsed).setVm hW'.alike, X.tail, State.WarmedH.trans X.warmed hW', X.limits, X.bytes, X.same.trans (hsame.setVm s.vm)⟩,
      ⟨g, mk, s₂, L, E, ce, rfl, rfl, hx, hce, hcv, hcl, rfl, hL, rfl, rfl⟩, ?_⟩
    show Steps p.tables e below _ (((({ U with heap := s₂.heap, slotsUsed := s₂.slotsUsed } : State).setVm s₂.vm).setTop g).pushFrame (.throwing q))
    rw [← hs₂]
    exact hsteps
end
variable {p : Program} {l : Launch} {e : Env} {R : Room} {s : State} {m : MethodId} {args : Array Value} {below : List Frame} {meth : Method} {c : Code} {T : State} {H : Heap} {locs : List Loc} {cells slots : Nat}
theorem vx_callVX (X : Stand p l e R s m args below meth c T locs cells slots) (hexec : p.tables.exec = Jvm.exec) {own C : String} {index : Nat} {y : MethodName} {bytes : ByteArray} {maxL : Nat} {ret : Option FieldType} {hh : List (Nat × Nat × Nat × Nat)}
    (hown : s.vm.findClass own = some m.cls) (hlink : (Cond.methodLink own index y).before args s = true) (hinst : (Cond.instanceMethod y).before args s = true) (hsel : (Cond.selects C y y).before args s = true)
    (hcode : (Cond.codeWith y bytes maxL ret hh).before args s = true) (hy : y.cls ≠ "java/lang/invoke/MethodHandle" ∧ y.cls ≠ "java/lang/invoke/VarHandle")
    {W9 : Nat} {Pre : Pt → Array Value → Prop} {Post : Pt → Array Value → Option Value → Pt → Prop} {PostX : Pt → Array Value → Addr → Pt → Prop} (hK : vx_Back l R p e below s args y 3 W9 Pre Post PostX)
    {b : Addr} {cellB : Cell} (hcell : T.heap[b]? = some cellB) (hobj : cellB.vm.isStatics = false) (hcls : s.vm.findClass C = some cellB.cls)
    {g : JFrame} (hg : g.method = m) (hsize : g.locals.size = c.maxLocals) {argsL rest : List Value} (hlen : ∀ sig, parseMethodDescriptor y.desc = some sig → argsL.length = sig.parameters.length)
    (hstack : g.stack = argsL.reverse ++ .ref b :: rest) (hW : 2 * g.monitorRoom + (rest.map fun v => v.category).sum ≤ W9) (hdg : decode c.code g.pc = .ok (.invokevirtual index, 3))
    (hpre : ∀ vm₁, s.WarmedH vm₁ → Pre ⟨T.setVm vm₁, locs, cells, slots⟩ (Value.ref b :: argsL).toArray) :
    (∃ (v : Option Value) (vm₁ : Vm) (B : Pt), s.WarmedH vm₁ ∧ Stand p l e R s m args below meth c B.U B.locs B.cells B.slots ∧ Post ⟨T.setVm vm₁, locs, cells, slots⟩ (Value.ref b :: argsL).toArray v B ∧
      ∀ target, Steps p.tables e below (B.U.setTop { g with pc := g.pc + 3, stack := v.toList ++ rest }) target → Steps p.tables e below (T.setTop g) target) ∨
    (∃ (q : Addr) (vm₁ : Vm) (B : Pt), s.WarmedH vm₁ ∧ Stand p l e R s m args below meth c B.U B.locs B.cells B.slots ∧ PostX ⟨T.setVm vm₁, locs, cells, slots⟩ (Value.ref b :: argsL).toArray q B ∧
      Steps p.tables e below (T.setTop g) ((B.U.setTop { g with stack := rest }).pushFrame (.throwing q))) := by
  obtain ⟨mk, methM, hnamed, hmethM, hstM, habM⟩ := Cond.instanceMethod_spec hinst
  obtain ⟨m8, methM', cM, hn8, hmethM', -, -, -, -, -, -, hsigM⟩ := Cond.codeWith_spec hcode
  cases Option.some.inj (hn8.symm.trans hnamed)
  cases hmethM.symm.trans hmethM'
  obtain ⟨c2, r2, m2, q1, q2, q3, q4, kP, hkP, hkPi⟩ := Cond.selects_spec hsel
  cases hcls.symm.trans q1
  cases (State.methodFound?_of_named hnamed hy).symm.trans q2
  cases hnamed.symm.trans q3
  have hselP : selectMethod e.platform s.vm cellB.cls mk = .method mk := by rw [Launch.admits_selectMethod X.admits]; exact q4
  obtain ⟨vm₁, X₁, hstep₁⟩ := X.invokevirtual hexec hown hlink hnamed hmethM hstM hkP hkPi hy (a := b) (cell := cellB) hcell
    (fun z h => by rw [h] at hobj; cases hobj) hselP hmethM habM hkP hkPi (g := g) hg (argsL := argsL) (rest := rest) (hlen _ hsigM) hstack hdg
  rcases hK m meth c ⟨T.setVm vm₁, locs, cells, slots⟩ { g with stack := rest } (.invokevirtual index) mk (Value.ref b :: argsL).toArray X₁ hg hsize hdg hW (X₁.named hnamed) (hpre vm₁ X₁.warmed) with ⟨v, B, X', hpost, hsteps⟩ | ⟨q, B, X', hpost, hsteps⟩
  · exact Or.inl ⟨v, vm₁, B, X₁.warmed, X', hpost, fun target h => hstep₁ _ fun acts => by rw [doInvoke_state]; exact hsteps.trans h⟩
  · exact Or.inr ⟨q, vm₁, B, X₁.warmed, X', hpost, hstep₁ _ fun acts => by rw [doInvoke_state]; exact hsteps⟩
theorem vx_callSX (X : Stand p l e R s m args below meth c T locs cells slots) (hexec : p.tables.exec = Jvm.exec) {own : String} {index : Nat} {y : MethodName} {bytes : ByteArray} {maxL : Nat} {ret : Option FieldType} {hh : List (Nat × Nat × Nat × Nat)}
    (hown : s.vm.findClass own = some m.cls) (hlink : (Cond.methodLink own index y).before args s = true) (hstat : (Cond.static y).before args s = true) (hinit : (Cond.initialized y.cls).before args s = true)
    (hcode : (Cond.codeWith y bytes maxL ret hh).before args s = true) (hy : y.cls ≠ "java/lang/invoke/MethodHandle" ∧ y.cls ≠ "java/lang/invoke/VarHandle")
    {W9 : Nat} {Pre : Pt → Array Value → Prop} {Post : Pt → Array Value → Option Value → Pt → Prop} {PostX : Pt → Array Value → Addr → Pt → Prop} (hK : vx_Back l R p e below s args y 3 W9 Pre Post PostX)
    {g : JFrame} (hg : g.method = m) (hsize : g.locals.size = c.maxLocals) {argsL rest : List Value} (hlen : ∀ sig, parseMethodDescriptor y.desc = some sig → argsL.length = sig.parameters.length)
    (hstack : g.stack = argsL.reverse ++ rest) (hW : 2 * g.monitorRoom + (rest.map fun v => v.category).sum ≤ W9) (hdg : decode c.code g.pc = .ok (.invokestatic index, 3))
    (hpre : ∀ vm₁, s.WarmedH vm₁ → Pre ⟨T.setVm vm₁, locs, cells, slots⟩ argsL.toArray) :
    (∃ (v : Option Value) (vm₁ : Vm) (B : Pt), s.WarmedH vm₁ ∧ Stand p l e R s m args below meth c B.U B.locs B.cells B.slots ∧ Post ⟨T.setVm vm₁, locs, cells, slots⟩ argsL.toArray v B ∧
      ∀ target, Steps p.tables e below (B.U.setTop { g with pc := g.pc + 3, stack := v.toList ++ rest }) target → Steps p.tables e below (T.setTop g) target) ∨
    (∃ (q : Addr) (vm₁ : Vm) (B : Pt), s.WarmedH vm₁ ∧ Stand p l e R s m args below meth c B.U B.locs B.cells B.slots ∧ PostX ⟨T.setVm vm₁, locs, cells, slots⟩ argsL.toArray q B ∧
      Steps p.tables e below (T.setTop g) ((B.U.setTop { g with stack := rest }).pushFrame (.throwing q))) := by
  obtain ⟨mk, methM, cM, hnamed, hmethM, -, -, -, -, -, -, hsigM⟩ := Cond.codeWith_spec hcode
  have hstatic : methM.isStatic = true := Cond.static_spec hnamed hmethM hstat
  obtain ⟨kP, hkP, -⟩ := className_of_methodNamed hnamed
  have hinitP : kP.init = .initialized := Cond.initialized_spec (findClass_of_methodNamed hnamed) hkP hinit
  obtain ⟨vm₁, X₁, hstep₁⟩ := X.invokestatic hexec hown hlink hnamed hmethM hstatic hkP hinitP hy (g := g) hg (argsL := argsL) (rest := rest) (hlen _ hsigM) hstack hdg
  rcases hK m meth c ⟨T.setVm vm₁, locs, cells, slots⟩ { g with stack := rest } (.invokestatic index) mk argsL.toArray X₁ hg hsize hdg hW (X₁.named hnamed) (hpre vm₁ X₁.warmed) with ⟨v, B, X', hpost, hsteps⟩ | ⟨q, B, X', hpost, hsteps⟩
  · exact Or.inl ⟨v, vm₁, B, X₁.warmed, X', hpost, fun target h => hstep₁ _ fun acts => by rw [doInvoke_state]; exact hsteps.trans h⟩
  · exact Or.inr ⟨q, vm₁, B, X₁.warmed, X', hpost, hstep₁ _ fun acts => by rw [doInvoke_state]; exact hsteps⟩
theorem vx_callVW (X : Stand p l e R s m args below meth c T locs cells slots) (hexec : p.tables.exec = Jvm.exec) {own C : String} {index : Nat} {y : MethodName} {bytes : ByteArray} {maxL : Nat} {ret : Option FieldType} {hh : List (Nat × Nat × Nat × Nat)}
    (hown : s.vm.findClass own = some m.cls) (hlink : (Cond.methodLink own index y).before args s = true) (hinst : (Cond.instanceMethod y).before args s = true) (hsel : (Cond.selects C y y).before args s = true)
    (hcode : (Cond.codeWith y bytes maxL ret hh).before args s = true) (hy : y.cls ≠ "java/lang/invoke/MethodHandle" ∧ y.cls ≠ "java/lang/invoke/VarHandle")
    {W9 : Nat} {Pre : Pt → Array Value → Prop} {Post : Pt → Array Value → Option Value → Pt → Prop} (hK : Back l R p e below s args y 3 W9 Pre Post)
    {b : Addr} {cellB : Cell} (hcell : T.heap[b]? = some cellB) (hobj : cellB.vm.isStatics = false) (hcls : s.vm.findClass C = some cellB.cls)
    {g : JFrame} (hg : g.method = m) (hsize : g.locals.size = c.maxLocals) {argsL rest : List Value} (hlen : ∀ sig, parseMethodDescriptor y.desc = some sig → argsL.length = sig.parameters.length)
    (hstack : g.stack = argsL.reverse ++ .ref b :: rest) (hW : 2 * g.monitorRoom + (rest.map fun v => v.category).sum ≤ W9) (hdg : decode c.code g.pc = .ok (.invokevirtual index, 3))
    (hpre : ∀ vm₁, s.WarmedH vm₁ → Pre ⟨T.setVm vm₁, locs, cells, slots⟩ (Value.ref b :: argsL).toArray) :
    ∃ (v : Option Value) (vm₁ : Vm) (B : Pt), s.WarmedH vm₁ ∧ Stand p l e R s m args below meth c B.U B.locs B.cells B.slots ∧ Post ⟨T.setVm vm₁, locs, cells, slots⟩ (Value.ref b :: argsL).toArray v B ∧
      ∀ target, Steps p.tables e below (B.U.setTop { g with pc := g.pc + 3, stack := v.toList ++ rest }) target → Steps p.tables e below (T.setTop g) target := by
  obtain ⟨mk, methM, hnamed, hmethM, hstM, habM⟩ := Cond.instanceMethod_spec hinst
  obtain ⟨m8, methM', cM, hn8, hmethM', -, -, -, -, -, -, hsigM⟩ := Cond.codeWith_spec hcode
  cases Option.some.inj (hn8.symm.trans hnamed)
  cases hmethM.symm.trans hmethM'
  obtain ⟨c2, r2, m2, q1, q2, q3, q4, kP, hkP, hkPi⟩ := Cond.selects_spec hsel
  cases hcls.symm.trans q1
  cases (State.methodFound?_of_named hnamed hy).symm.trans q2
  cases hnamed.symm.trans q3
  have hselP : selectMethod e.platform s.vm cellB.cls mk = .method mk := by rw [Launch.admits_selectMethod X.admits]; exact q4
  obtain ⟨vm₁, X₁, hstep₁⟩ := X.invokevirtual hexec hown hlink hnamed hmethM hstM hkP hkPi hy (a := b) (cell := cellB) hcell
    (fun z h => by rw [h] at hobj; cases hobj) hselP hmethM habM hkP hkPi (g := g) hg (argsL := argsL) (rest := rest) (hlen _ hsigM) hstack hdg
  obtain ⟨v, B, X', hpost, hsteps⟩ := hK m meth c ⟨T.setVm vm₁, locs, cells, slots⟩ { g with stack := rest } (.invokevirtual index) mk (Value.ref b :: argsL).toArray X₁ hg hsize hdg hW (X₁.named hnamed) (hpre vm₁ X₁.warmed)
  exact ⟨v, vm₁, B, X₁.warmed, X', hpost, fun target h => hstep₁ _ fun acts => by rw [doInvoke_state]; exact hsteps.trans h⟩
abbrev vx_CVW (R : Room) (s : State) (args : Array Value) (own C : String) (index : Nat) (y : MethodName) (bytes : ByteArray) (maxL : Nat) (ret : Option FieldType) (hh : List (Nat × Nat × Nat × Nat)) (ws : List Cond) (rm : Room) (mc ms n : Nat) : Prop :=
  (rm.cells = mc ∧ rm.slots = ms ∧ rm.frames + 1 ≤ R.frames ∧ 8 + (maxL + 11) + rm.locals ≤ R.locals ∧ (∀ w ∈ ws, ∀ (a' : Array Value) (U : State), s.WarmedH U.vm → w.before a' U = true) ∧ Cond.codeWith y bytes maxL ret hh ∈ ws) ∧
  (Cond.codeWith y bytes maxL ret hh).before args s = true ∧ (Cond.initialized y.cls).before args s = true ∧ (y.cls ≠ "java/lang/invoke/MethodHandle" ∧ y.cls ≠ "java/lang/invoke/VarHandle") ∧
  (∀ sig, parseMethodDescriptor y.desc = some sig → n = sig.parameters.length) ∧ (Cond.methodLink own index y).before args s = true ∧ (Cond.instanceMethod y).before args s = true ∧ (Cond.selects C y y).before args s = true
theorem vx_cwVW {own C : String} {index maxL mc ms : Nat} {y : MethodName} {bytes : ByteArray} {ret : Option FieldType} {hh : List (Nat × Nat × Nat × Nat)} {Ts ws ws' : List Cond} {rm : Room} (n : Nat) (ht : ∀ w ∈ Ts, w.before args s = true) (hT : GoodIn Ts (wsV own index C y ws)) (hw : ws = Cond.codeWith y bytes maxL ret hh :: ws') (hrc : rm.cells = mc) (hrs : rm.slots = ms)
    (hd : y.cls = C ∧ y.cls ≠ "java/lang/invoke/MethodHandle" ∧ y.cls ≠ "java/lang/invoke/VarHandle" ∧ (parseMethodDescriptor y.desc).map (fun d => d.parameters.length) = some n) (hR : rm.frames + 1 ≤ R.frames ∧ 8 + (maxL + 11) + rm.locals ≤ R.locals) :
    vx_CVW R s args own C index y bytes maxL ret hh ws rm mc ms n := by
  obtain ⟨hC, hd⟩ := hd
  subst hC
  have ok : ∀ w ∈ wsV own index y.cls y ws, w.before args s = true := fun w h => ht w (hT w h).1
  have hG : GoodIn Ts ws := fun w h => hT w (by unfold wsV; exact List.mem_append_right _ h)
  have hc : Cond.codeWith y bytes maxL ret hh ∈ ws := by rw [hw]; exact List.mem_cons_self
  refine ⟨⟨hrc, hrs, hR.1, hR.2, pay_in ht hG, hc⟩, ht _ (hG _ hc).1, ok _ (by simp [wsV]), ⟨hd.1, hd.2.1⟩, fun sig h => ?_, ok _ (by simp [wsV]), ok _ (by simp [wsV]), ok _ (by simp [wsV])⟩
  have h2 := hd.2.2
  rw [h] at h2
  exact (Option.some.inj h2).symm
theorem vx_runVW {y : MethodName} {bytes cc : ByteArray} {maxL nL mc ms n index : Nat} {ret : Option FieldType} {hh : List (Nat × Nat × Nat × Nat)} {ws : List Cond} {rm : Room} {Pc : Array Value → State → Prop} {Qc : Array Value → State → Outcome → State → Prop} {free : Addr → Prop} {Ts : List Cond} {own C : String} {b : Addr} {As rest : List Value} {g : JFrame}
    (S : CallFix p m c cc nL s args Ts own) (hM : Met l y ws rm Pc Qc mc ms free) (cw : vx_CVW R s args own C index y bytes maxL ret hh ws rm mc ms n) (hp : PreV s H C b Pc As)
    (hg : g.method = m) (hn : As.length = n) (hsize : g.locals.size = nL) (hstack : g.stack = As.reverse ++ .ref b :: rest) (hW : 2 * g.monitorRoom + (rest.map fun v => v.category).sum ≤ 8) (hdg : decode cc g.pc = .ok (.invokevirtual index, 3)) (hf : cells + mc ≤ R.cells ∧ slots + ms ≤ R.slots) :
    va_Run p l e R s m args below meth c H locs cells slots mc ms g rest (Qc (Value.ref b :: As).toArray) free := by
  obtain ⟨⟨hrc, hrs, hfr, hlo, hws, hcw⟩, hcode, hini, hy, hlen, hl, hin, hse⟩ := cw
  have hK : Back l R p e below s args y 3 8 (PreOf R mc ms Pc) (PostOf Qc mc ms free) := va_backW (hh := hh) (bytes := bytes) (maxL := maxL) (ret := ret) hM hp.1 hrc hrs hfr hlo hws hcw (fun a' U hW => word_at hW (Or.inl (by first | rfl | simp [Cond.onTables, Cond.keeps, Cond.steady])) hini)
  obtain ⟨hx, hb, hml, ho, -⟩ := S
  obtain ⟨-, ⟨cellB, hcB, hoB, hclB⟩, hPc⟩ := hp
  intro T hT X
  obtain ⟨v, vm₁, ⟨U', l2, c2, s2⟩, hW₁, X', ⟨g', mk, t, L, e1, e2, hq, h1, hL, h2, h3⟩, st⟩ := vx_callVW X hx (C := C) (hh := hh) (bytes := bytes) (maxL := maxL) (ret := ret) ho hl hin hse hcode hy hK (by rw [hT]; exact hcB) hoB hclB hg (hsize.trans hml.symm) (argsL := As) (rest := rest) (fun sig h => hn.trans (hlen sig h)) hstack hW (by rw [hb]; exact hdg)
    (fun vm₁ hW₁ => ⟨hf.1, hf.2, hPc (T.setVm vm₁) hT hW₁⟩)
  dsimp only [Pt.U, Pt.locs, Pt.cells, Pt.slots] at X' e1 e2 h1 h2 h3 st
  subst h1; subst h2; subst h3
  exact ⟨v, (T.setVm vm₁).calling g' mk (Value.ref b :: As).toArray, t, U', L, hT, X', hL, e1, e2, hq, st⟩
section
variable {y : MethodName} {bytes cc : ByteArray} {maxL nL mc ms n index : Nat} {ret : Option FieldType} {ws : List Cond} {rm : Room} {Pc : Array Value → State → Prop} {Qc : Array Value → State → Outcome → State → Prop} {XC : String → State → State → Prop} {free : Addr → Prop} {Ts : List Cond} {own C : String} {b : Addr} {As rest : List Value} {g : JFrame}
theorem vx_runVX {hh : List (Nat × Nat × Nat × Nat)} (S : CallFix p m c cc nL s args Ts own) (hM : vx_Met l y ws rm Pc Qc XC mc ms free) (cw : vx_CVW R s args own C index y bytes maxL ret hh ws rm mc ms n) (hp : PreV s H C b Pc As)
    (hg : g.method = m) (hn : As.length = n) (hsize : g.locals.size = nL) (hstack : g.stack = As.reverse ++ .ref b :: rest) (hW : 2 * g.monitorRoom + (rest.map fun v => v.category).sum ≤ 8) (hdg : decode cc g.pc = .ok (.invokevirtual index, 3)) (hf : cells + mc ≤ R.cells ∧ slots + ms ≤ R.slots) :
    vx_Run p l e R s m args below meth c H locs cells slots mc ms g rest (Qc (Value.ref b :: As).toArray) XC free := by
  obtain ⟨⟨hrc, hrs, hfr, hlo, hws, hcw⟩, hcode, hini, hy, hlen, hl, hin, hse⟩ := cw
  have hK : vx_Back l R p e below s args y 3 8 (PreOf R mc ms Pc) (PostOf Qc mc ms free) (vx_Post XC mc ms free) := vx_backW (hh := hh) (bytes := bytes) (maxL := maxL) (ret := ret) hM hp.1 hrc hrs hfr hlo hws hcw (fun a' U hW => word_at hW (Or.inl (by first | rfl | simp [Cond.onTables, Cond.keeps, Cond.steady])) hini)
  obtain ⟨hx, hb, hml, ho, -⟩ := S
  obtain ⟨-, ⟨cellB, hcB, hoB, hclB⟩, hPc⟩ := hp
  intro T hT X
  rcases vx_callVX X hx (C := C) (hh := hh) (bytes := bytes) (maxL := maxL) (ret := ret) ho hl hin hse hcode hy hK (by rw [hT]; exact hcB) hoB hclB hg (hsize.trans hml.symm) (argsL := As) (rest := rest) (fun sig h => hn.trans (hlen sig h)) hstack hW (by rw [hb]; exact hdg)
    (fun vm₁ hW₁ => ⟨hf.1, hf.2, hPc (T.setVm vm₁) hT hW₁⟩) with ⟨v, vm₁, ⟨U', l2, c2, s2⟩, hW₁, X', ⟨g', mk, t, L, e1, e2, hq, h1, hL, h2, h3⟩, st⟩ | ⟨q, vm₁, ⟨U', l2, c2, s2⟩, hW₁, X', ⟨g', mk, t, L, E, ce, e1, e2, hq, hce, hcv, hcl, h1, hL, h2, h3⟩, st⟩
  · dsimp only [Pt.U, Pt.locs, Pt.cells, Pt.slots] at X' e1 e2 h1 h2 h3 st
    subst h1; subst h2; subst h3
    exact Or.inl ⟨v, (T.setVm vm₁).calling g' mk (Value.ref b :: As).toArray, t, U', L, hT, X', hL, e1, e2, hq, st⟩
  · dsimp only [Pt.U, Pt.locs, Pt.cells, Pt.slots] at X' e1 e2 h1 h2 h3 st hcl
    subst h1; subst h2; subst h3
    exact Or.inr ⟨q, (T.setVm vm₁).calling g' mk (Value.ref b :: As).toArray, t, U', L, E, ce, hT, X', hL, e1, e2, hq, hce, hcv, vx_cls hW₁ hcl, st⟩
theorem vx_runSX {hh : List (Nat × Nat × Nat × Nat)} (S : CallFix p m c cc nL s args Ts own) (hM : vx_Met l y ws rm Pc Qc XC mc ms free) (cw : vx_CSW R s args own index y bytes maxL ret hh ws rm mc ms n) (hp : PreS s H Pc As)
    (hg : g.method = m) (hn : As.length = n) (hsize : g.locals.size = nL) (hstack : g.stack = As.reverse ++ rest) (hW : 2 * g.monitorRoom + (rest.map fun v => v.category).sum ≤ 8) (hdg : decode cc g.pc = .ok (.invokestatic index, 3)) (hf : cells + mc ≤ R.cells ∧ slots + ms ≤ R.slots) :
    vx_Run p l e R s m args below meth c H locs cells slots mc ms g rest (Qc As.toArray) XC free := by
  obtain ⟨⟨hrc, hrs, hfr, hlo, hws, hcw⟩, hcode, hini, hy, hlen, hl, hstt⟩ := cw
  have hK : vx_Back l R p e below s args y 3 8 (PreOf R mc ms Pc) (PostOf Qc mc ms free) (vx_Post XC mc ms free) := vx_backW (hh := hh) (bytes := bytes) (maxL := maxL) (ret := ret) hM hp.1 hrc hrs hfr hlo hws hcw (fun a' U hW => word_at hW (Or.inl (by first | rfl | simp [Cond.onTables, Cond.keeps, Cond.steady])) hini)
  obtain ⟨hx, hb, hml, ho, -⟩ := S
  intro T hT X
  rcases vx_callSX X hx (hh := hh) (bytes := bytes) (maxL := maxL) (ret := ret) ho hl hstt hini hcode hy hK hg (hsize.trans hml.symm) (argsL := As) (rest := rest) (fun sig h => hn.trans (hlen sig h)) hstack hW (by rw [hb]; exact hdg)
    (fun vm₁ hW₁ => ⟨hf.1, hf.2, hp.2 (T.setVm vm₁) hT hW₁⟩) with ⟨v, vm₁, ⟨U', l2, c2, s2⟩, hW₁, X', ⟨g', mk, t, L, e1, e2, hq, h1, hL, h2, h3⟩, st⟩ | ⟨q, vm₁, ⟨U', l2, c2, s2⟩, hW₁, X', ⟨g', mk, t, L, E, ce, e1, e2, hq, hce, hcv, hcl, h1, hL, h2, h3⟩, st⟩
  · dsimp only [Pt.U, Pt.locs, Pt.cells, Pt.slots] at X' e1 e2 h1 h2 h3 st
    subst h1; subst h2; subst h3
    exact Or.inl ⟨v, (T.setVm vm₁).calling g' mk As.toArray, t, U', L, hT, X', hL, e1, e2, hq, st⟩
  · dsimp only [Pt.U, Pt.locs, Pt.cells, Pt.slots] at X' e1 e2 h1 h2 h3 st hcl
    subst h1; subst h2; subst h3
    exact Or.inr ⟨q, (T.setVm vm₁).calling g' mk As.toArray, t, U', L, E, ce, hT, X', hL, e1, e2, hq, hce, hcv, vx_cls hW₁ hcl, st⟩
end
end VXH
theorem vx_ofWH {l : Launch} {y : MethodName} {ws ws' : List Cond} {rm : Room} {Pc : Array Value → State → Prop} {Qc : Array Value → State → Outcome → State → Prop} {XC : String → State → State → Prop} {mc ms : Nat} {free : Addr → Prop} {cc : ByteArray} {maxL : Nat} {ret : Option FieldType} {hh : List (Nat × Nat × Nat × Nat)}
    (hy : plainName y.cls = true) (hw : ws = Cond.codeWith y cc maxL ret hh :: ws')
    (body : ∀ p e s m args below meth c s₁, BodyLoose p l y (headSpec ws rm) cc maxL ret e s m args below meth c s₁ → c.maxLocals = maxL → Pc args s →
      W p l e (headSpec ws rm).room s m args below meth c s.heap [] 0 0 (vx_MQ below Qc XC args s mc ms free) (entryFrame m args maxL)) : vx_Met l y ws rm Pc Qc XC mc ms free := by
  refine MetFree.of_bodyS (code := cc) (maxLocals := maxL) (ret := ret) hy ?_ ?_
  · intro args s m h hn
    obtain ⟨m9, meth, c, hn9, h1, h2, h3, h4, -, h5, h6, -⟩ := Cond.codeWith_spec (atoms_spec (ws := ws) h _ (by rw [hw]; exact List.mem_cons_self))
    cases hn.symm.trans hn9
    exact ⟨meth, c, h1, h2, h3, h4, h5, h6⟩
  · intro p e s m args below meth c s₁ B hml hP _
    have hh0 : s₁.heap = s.heap := by rw [B.state]; rfl
    obtain ⟨t, a1, o, b1, b2, b3⟩ := body p e s m args below meth c s₁ B hml hP s₁ hh0 (Stand.of_body B)
    exact ⟨t, o, a1, b1, b2, b3⟩
/-! ===== END ===== -/
end
section
/-! ===== BEGIN printed: names, fields, word lists, decode rows ===== -/
def RX0 : String := "SkiShots$Entry"
def TX0 : u_T := fun k => match k with
  | 0 => ("SkiShots$Entry", "racer", "I", true)
  | 1 => ("SkiShots$Entry", "latest", "LSkiShots$Event;", false)
  | 2 => ("SkiShots$Entry", "start", "I", false)
  | 3 => ("SkiShots$Entry", "low", "I", false)
  | 4 => ("SkiShots$Entry", "high", "I", false)
  | 5 => ("SkiShots$Entry", "struck", "Z", false)
  | 6 => ("SkiShots$Entry", "fewestMisses", "I", false)
  | 7 => ("SkiShots$Entry", "mostMisses", "I", false)
  | 8 => ("SkiShots$Entry", "leastPenalty", "I", false)
  | _ => ("SkiShots$Entry", "greatestPenalty", "I", false)
def tyX0 : Nat → FieldType := fun k => match k with
  | 0 => .int
  | 1 => .object "SkiShots$Event"
  | 2 => .int
  | 3 => .int
  | 4 => .int
  | 5 => .boolean
  | 6 => .int
  | 7 => .int
  | 8 => .int
  | _ => .int
abbrev wsX00 : List Cond := u_ws RX0 TX0 10
theorem nmX0 : ∀ a, a < 10 → ∀ b, b < 10 → a ≠ b → (TX0 a).2.1 ≠ (TX0 b).2.1 := by decide +kernel
theorem tyX0_ok : ∀ k, k < 10 → parseFieldDescriptor (TX0 k).2.2.1 = some (tyX0 k) := by decide +kernel
abbrev cX0_init : ByteArray := prog_2_method_1_code
def yX0_init : MethodName := ⟨RX0, "<init>", "(I)V"⟩
abbrev cX0_known : ByteArray := prog_2_method_2_code
def yX0_known : MethodName := ⟨RX0, "known", "(III)I"⟩
abbrev cX0_sinceStart : ByteArray := prog_2_method_3_code
def yX0_sinceStart : MethodName := ⟨RX0, "sinceStart", "(I)I"⟩
abbrev cX0_hasTime : ByteArray := prog_2_method_4_code
def yX0_hasTime : MethodName := ⟨RX0, "hasTime", "()Z"⟩
abbrev cX0_workOut : ByteArray := prog_2_method_5_code
def yX0_workOut : MethodName := ⟨RX0, "workOut", "(LSkiShots$Format;II)V"⟩
abbrev cX0_addShooting : ByteArray := prog_2_method_6_code
def yX0_addShooting : MethodName := ⟨RX0, "addShooting", "(LSkiShots$Format;II)V"⟩
def RX1 : String := "SkiShots$Event"
def TX1 : u_T := fun k => match k with
  | 0 => ("SkiShots$Event", "day", "I", true)
  | 1 => ("SkiShots$Event", "sort", "I", true)
  | 2 => ("SkiShots$Event", "k", "I", true)
  | 3 => ("SkiShots$Event", "v", "I", true)
  | _ => ("SkiShots$Event", "before", "LSkiShots$Event;", true)
def tyX1 : Nat → FieldType := fun k => match k with
  | 0 => .int
  | 1 => .int
  | 2 => .int
  | 3 => .int
  | _ => .object "SkiShots$Event"
abbrev wsX10 : List Cond := u_ws RX1 TX1 5
theorem nmX1 : ∀ a, a < 5 → ∀ b, b < 5 → a ≠ b → (TX1 a).2.1 ≠ (TX1 b).2.1 := by decide +kernel
theorem tyX1_ok : ∀ k, k < 5 → parseFieldDescriptor (TX1 k).2.2.1 = some (tyX1 k) := by decide +kernel
abbrev cX1_init : ByteArray := prog_3_method_1_code
def yX1_init : MethodName := ⟨RX1, "<init>", "(IIIILSkiShots$Event;)V"⟩
def RX2 : String := "SkiShots$Format"
def TX2 : u_T := fun k => match k with
  | 0 => ("SkiShots$Format", "name", "I", true)
  | 1 => ("SkiShots$Format", "laps", "I", false)
  | 2 => ("SkiShots$Format", "shootings", "I", false)
  | 3 => ("SkiShots$Format", "spares", "I", false)
  | 4 => ("SkiShots$Format", "loops", "Z", false)
  | 5 => ("SkiShots$Format", "missSeconds", "I", false)
  | 6 => ("SkiShots$Format", "startSort", "I", false)
  | _ => ("SkiShots$Format", "startSeconds", "I", false)
def tyX2 : Nat → FieldType := fun k => match k with
  | 0 => .int
  | 1 => .int
  | 2 => .int
  | 3 => .int
  | 4 => .boolean
  | 5 => .int
  | 6 => .int
  | _ => .int
abbrev wsX20 : List Cond := u_ws RX2 TX2 8
theorem nmX2 : ∀ a, a < 8 → ∀ b, b < 8 → a ≠ b → (TX2 a).2.1 ≠ (TX2 b).2.1 := by decide +kernel
theorem tyX2_ok : ∀ k, k < 8 → parseFieldDescriptor (TX2 k).2.2.1 = some (tyX2 k) := by decide +kernel
abbrev cX2_init : ByteArray := prog_4_method_1_code
def yX2_init : MethodName := ⟨RX2, "<init>", "(I)V"⟩
abbrev cX2_hasEvent : ByteArray := prog_4_method_2_code
def yX2_hasEvent : MethodName := ⟨RX2, "hasEvent", "(II)Z"⟩
def RX3 : String := "SkiShots$Race"
def TX3 : u_T := fun k => match k with
  | 0 => ("SkiShots$Race", "format", "LSkiShots$Format;", true)
  | 1 => ("SkiShots$Race", "by", "LSkiShots$Race;", true)
  | 2 => ("SkiShots$Race", "byNumber", "I", true)
  | 3 => ("SkiShots$Race", "entries", "[LSkiShots$Entry;", true)
  | 4 => ("SkiShots$Race", "entryCount", "I", false)
  | 5 => ("SkiShots$Race", "told", "I", false)
  | _ => ("SkiShots$Race", "leastLow", "I", false)
def tyX3 : Nat → FieldType := fun k => match k with
  | 0 => .object "SkiShots$Format"
  | 1 => .object "SkiShots$Race"
  | 2 => .int
  | 3 => .array (.object "SkiShots$Entry")
  | 4 => .int
  | 5 => .int
  | _ => .int
abbrev wsX30 : List Cond := u_ws RX3 TX3 7
theorem nmX3 : ∀ a, a < 7 → ∀ b, b < 7 → a ≠ b → (TX3 a).2.1 ≠ (TX3 b).2.1 := by decide +kernel
theorem tyX3_ok : ∀ k, k < 7 → parseFieldDescriptor (TX3 k).2.2.1 = some (tyX3 k) := by decide +kernel
abbrev cX3_init : ByteArray := prog_5_method_1_code
def yX3_init : MethodName := ⟨RX3, "<init>", "(LSkiShots$Format;LSkiShots$Race;I)V"⟩
abbrev cX3_add : ByteArray := prog_5_method_2_code
def yX3_add : MethodName := ⟨RX3, "add", "(I)V"⟩
abbrev cX3_entryOf : ByteArray := prog_5_method_3_code
def yX3_entryOf : MethodName := ⟨RX3, "entryOf", "(I)LSkiShots$Entry;"⟩
abbrev cX3_workOut : ByteArray := prog_5_method_4_code
def yX3_workOut : MethodName := ⟨RX3, "workOut", "(I)V"⟩
abbrev cX3_startOf : ByteArray := prog_5_method_5_code
def yX3_startOf : MethodName := ⟨RX3, "startOf", "(I)I"⟩
abbrev cX3_chaseStart : ByteArray := prog_5_method_6_code
def yX3_chaseStart : MethodName := ⟨RX3, "chaseStart", "(I)I"⟩
abbrev cX3_firstPlace : ByteArray := prog_5_method_7_code
def yX3_firstPlace : MethodName := ⟨RX3, "firstPlace", "(LSkiShots$Entry;)I"⟩
abbrev cX3_lastPlace : ByteArray := prog_5_method_8_code
def yX3_lastPlace : MethodName := ⟨RX3, "lastPlace", "(LSkiShots$Entry;)I"⟩
abbrev cX3_aheadInOrder : ByteArray := prog_5_method_9_code
def yX3_aheadInOrder : MethodName := ⟨RX3, "aheadInOrder", "(I)I"⟩
def RX4 : String := "SkiShots$Reader"
def TX4 : u_T := fun k => match k with
  | 0 => ("SkiShots$Reader", "text", "[B", true)
  | 1 => ("SkiShots$Reader", "length", "I", true)
  | 2 => ("SkiShots$Reader", "found", "[LSkiShots$Format;", true)
  | 3 => ("SkiShots$Reader", "foundCount", "I", false)
  | 4 => ("SkiShots$Reader", "fault", "I", false)
  | 5 => ("SkiShots$Reader", "faultPlace", "I", false)
  | 6 => ("SkiShots$Reader", "sort", "I", false)
  | 7 => ("SkiShots$Reader", "place", "I", false)
  | 8 => ("SkiShots$Reader", "behind", "I", false)
  | _ => ("SkiShots$Reader", "number", "I", false)
def tyX4 : Nat → FieldType := fun k => match k with
  | 0 => .array .byte
  | 1 => .int
  | 2 => .array (.object "SkiShots$Format")
  | 3 => .int
  | 4 => .int
  | 5 => .int
  | 6 => .int
  | 7 => .int
  | 8 => .int
  | _ => .int
abbrev wsX40 : List Cond := u_ws RX4 TX4 10
theorem nmX4 : ∀ a, a < 10 → ∀ b, b < 10 → a ≠ b → (TX4 a).2.1 ≠ (TX4 b).2.1 := by decide +kernel
theorem tyX4_ok : ∀ k, k < 10 → parseFieldDescriptor (TX4 k).2.2.1 = some (tyX4 k) := by decide +kernel
abbrev cX4_init : ByteArray := prog_6_method_1_code
def yX4_init : MethodName := ⟨RX4, "<init>", "([BI)V"⟩
abbrev cX4_readFormats : ByteArray := prog_6_method_2_code
def yX4_readFormats : MethodName := ⟨RX4, "readFormats", "()Z"⟩
abbrev cX4_readFormat : ByteArray := prog_6_method_3_code
def yX4_readFormat : MethodName := ⟨RX4, "readFormat", "()Z"⟩
abbrev cX4_readLaps : ByteArray := prog_6_method_4_code
def yX4_readLaps : MethodName := ⟨RX4, "readLaps", "(LSkiShots$Format;)Z"⟩
abbrev cX4_readShootings : ByteArray := prog_6_method_5_code
def yX4_readShootings : MethodName := ⟨RX4, "readShootings", "(LSkiShots$Format;)Z"⟩
abbrev cX4_readSpares : ByteArray := prog_6_method_6_code
def yX4_readSpares : MethodName := ⟨RX4, "readSpares", "(LSkiShots$Format;)Z"⟩
abbrev cX4_readMiss : ByteArray := prog_6_method_7_code
def yX4_readMiss : MethodName := ⟨RX4, "readMiss", "(LSkiShots$Format;)Z"⟩
abbrev cX4_readStart : ByteArray := prog_6_method_8_code
def yX4_readStart : MethodName := ⟨RX4, "readStart", "(LSkiShots$Format;)Z"⟩
abbrev cX4_readWord : ByteArray := prog_6_method_9_code
def yX4_readWord : MethodName := ⟨RX4, "readWord", "(Ljava/lang/String;)Z"⟩
abbrev cX4_readSign : ByteArray := prog_6_method_10_code
def yX4_readSign : MethodName := ⟨RX4, "readSign", "(C)Z"⟩
abbrev cX4_readNumber : ByteArray := prog_6_method_11_code
def yX4_readNumber : MethodName := ⟨RX4, "readNumber", "(II)Z"⟩
abbrev cX4_fail : ByteArray := prog_6_method_12_code
def yX4_fail : MethodName := ⟨RX4, "fail", "(I)Z"⟩
abbrev cX4_isWord : ByteArray := prog_6_method_13_code
def yX4_isWord : MethodName := ⟨RX4, "isWord", "(Ljava/lang/String;)Z"⟩
abbrev cX4_step : ByteArray := prog_6_method_14_code
def yX4_step : MethodName := ⟨RX4, "step", "()V"⟩
abbrev cX4_sortAt : ByteArray := prog_6_method_15_code
def yX4_sortAt : MethodName := ⟨RX4, "sortAt", "(I)I"⟩
def RX5 : String := "SkiShots"
def TX5 : u_T := fun k => match k with
  | 0 => ("SkiShots", "tape", "[B", true)
  | 1 => ("SkiShots", "tapeLength", "I", false)
  | 2 => ("SkiShots", "formatsByName", "[LSkiShots$Format;", false)
  | 3 => ("SkiShots", "formatCount", "I", false)
  | 4 => ("SkiShots", "latestFault", "I", false)
  | 5 => ("SkiShots", "latestFaultPlace", "I", false)
  | 6 => ("SkiShots", "today", "I", false)
  | 7 => ("SkiShots", "nations", "[I", true)
  | 8 => ("SkiShots", "racerCount", "I", false)
  | 9 => ("SkiShots", "races", "[LSkiShots$Race;", true)
  | 10 => ("SkiShots", "raceCount", "I", false)
  | 11 => ("SkiShots", "eventCount", "I", false)
  | _ => ("SkiShots", "cup", "[I", true)
def tyX5 : Nat → FieldType := fun k => match k with
  | 0 => .array .byte
  | 1 => .int
  | 2 => .array (.object "SkiShots$Format")
  | 3 => .int
  | 4 => .int
  | 5 => .int
  | 6 => .int
  | 7 => .array .int
  | 8 => .int
  | 9 => .array (.object "SkiShots$Race")
  | 10 => .int
  | 11 => .int
  | _ => .array .int
abbrev wsX50 : List Cond := u_ws RX5 TX5 13
theorem nmX5 : ∀ a, a < 13 → ∀ b, b < 13 → a ≠ b → (TX5 a).2.1 ≠ (TX5 b).2.1 := by decide +kernel
theorem tyX5_ok : ∀ k, k < 13 → parseFieldDescriptor (TX5 k).2.2.1 = some (tyX5 k) := by decide +kernel
abbrev cX5_init : ByteArray := prog_1_method_1_code
def yX5_init : MethodName := ⟨RX5, "<init>", "()V"⟩
abbrev cX5_feed : ByteArray := prog_1_method_2_code
def yX5_feed : MethodName := ⟨RX5, "feed", "(IIIII)I"⟩
abbrev cX5_putOnTape : ByteArray := prog_1_method_3_code
def yX5_putOnTape : MethodName := ⟨RX5, "putOnTape", "(I)V"⟩
abbrev cX5_formats : ByteArray := prog_1_method_4_code
def yX5_formats : MethodName := ⟨RX5, "formats", "(I)I"⟩
abbrev cX5_fault : ByteArray := prog_1_method_5_code
def yX5_fault : MethodName := ⟨RX5, "fault", "(I)I"⟩
abbrev cX5_pass : ByteArray := prog_1_method_6_code
def yX5_pass : MethodName := ⟨RX5, "pass", "(I)I"⟩
abbrev cX5_racer : ByteArray := prog_1_method_7_code
def yX5_racer : MethodName := ⟨RX5, "racer", "(I)I"⟩
abbrev cX5_race : ByteArray := prog_1_method_8_code
def yX5_race : MethodName := ⟨RX5, "race", "(II)I"⟩
abbrev cX5_enter : ByteArray := prog_1_method_9_code
def yX5_enter : MethodName := ⟨RX5, "enter", "(II)I"⟩
abbrev cX5_tell : ByteArray := prog_1_method_10_code
def yX5_tell : MethodName := ⟨RX5, "tell", "(IIIII)I"⟩
abbrev cX5_look : ByteArray := prog_1_method_11_code
def yX5_look : MethodName := ⟨RX5, "look", "(II)I"⟩
abbrev cX5_entry : ByteArray := prog_1_method_12_code
def yX5_entry : MethodName := ⟨RX5, "entry", "(II)I"⟩
abbrev cX5_time : ByteArray := prog_1_method_13_code
def yX5_time : MethodName := ⟨RX5, "time", "(IIII)I"⟩
abbrev cX5_split : ByteArray := prog_1_method_14_code
def yX5_split : MethodName := ⟨RX5, "split", "(IIII)I"⟩
abbrev cX5_order : ByteArray := prog_1_method_15_code
def yX5_order : MethodName := ⟨RX5, "order", "(III)I"⟩
abbrev cX5_points : ByteArray := prog_1_method_16_code
def yX5_points : MethodName := ⟨RX5, "points", "(II)I"⟩
abbrev cX5_standing : ByteArray := prog_1_method_17_code
def yX5_standing : MethodName := ⟨RX5, "standing", "(II)I"⟩
abbrev cX5_starters : ByteArray := prog_1_method_18_code
def yX5_starters : MethodName := ⟨RX5, "starters", "(II)I"⟩
abbrev cX5_count : ByteArray := prog_1_method_19_code
def yX5_count : MethodName := ⟨RX5, "count", "(I)I"⟩
abbrev cX5_raceAt : ByteArray := prog_1_method_20_code
def yX5_raceAt : MethodName := ⟨RX5, "raceAt", "(I)LSkiShots$Race;"⟩
abbrev cX5_isRacer : ByteArray := prog_1_method_21_code
def yX5_isRacer : MethodName := ⟨RX5, "isRacer", "(I)Z"⟩
abbrev cX5_isDay : ByteArray := prog_1_method_22_code
def yX5_isDay : MethodName := ⟨RX5, "isDay", "(I)Z"⟩
abbrev cX5_isNation : ByteArray := prog_1_method_23_code
def yX5_isNation : MethodName := ⟨RX5, "isNation", "(I)Z"⟩
abbrev cX5_isValue : ByteArray := prog_1_method_24_code
def yX5_isValue : MethodName := ⟨RX5, "isValue", "(II)Z"⟩
abbrev cX5_workOut : ByteArray := prog_1_method_25_code
def yX5_workOut : MethodName := ⟨RX5, "workOut", "(II)V"⟩
abbrev cX5_addUpCup : ByteArray := prog_1_method_26_code
def yX5_addUpCup : MethodName := ⟨RX5, "addUpCup", "(I)V"⟩
abbrev cX5_addToCup : ByteArray := prog_1_method_27_code
def yX5_addToCup : MethodName := ⟨RX5, "addToCup", "(LSkiShots$Race;)V"⟩
abbrev cX5_standingInCup : ByteArray := prog_1_method_28_code
def yX5_standingInCup : MethodName := ⟨RX5, "standingInCup", "(I)I"⟩
def RX6 : String := "SkiShotsModel"
def TX6 : u_T := fun k => match k with
  | 0 => ("SkiShotsModel", "tape", "[I", true)
  | 1 => ("SkiShotsModel", "tapeSize", "I", false)
  | 2 => ("SkiShotsModel", "thrown", "I", false)
  | 3 => ("SkiShotsModel", "today", "I", false)
  | 4 => ("SkiShotsModel", "formatMany", "I", false)
  | 5 => ("SkiShotsModel", "laps", "[I", true)
  | 6 => ("SkiShotsModel", "shootMany", "[I", true)
  | 7 => ("SkiShotsModel", "shoot", "[I", true)
  | 8 => ("SkiShotsModel", "spares", "[I", true)
  | 9 => ("SkiShotsModel", "isLoop", "[Z", true)
  | 10 => ("SkiShotsModel", "cost", "[I", true)
  | 11 => ("SkiShotsModel", "startHow", "[I", true)
  | 12 => ("SkiShotsModel", "startNumber", "[I", true)
  | 13 => ("SkiShotsModel", "fault", "I", false)
  | 14 => ("SkiShotsModel", "faultPlace", "I", false)
  | 15 => ("SkiShotsModel", "racers", "I", false)
  | 16 => ("SkiShotsModel", "nation", "[I", true)
  | 17 => ("SkiShotsModel", "races", "I", false)
  | 18 => ("SkiShotsModel", "rName", "[I", true)
  | 19 => ("SkiShotsModel", "rLaps", "[I", true)
  | 20 => ("SkiShotsModel", "rShoots", "[I", true)
  | 21 => ("SkiShotsModel", "rSpares", "[I", true)
  | 22 => ("SkiShotsModel", "rLoop", "[Z", true)
  | 23 => ("SkiShotsModel", "rCost", "[I", true)
  | 24 => ("SkiShotsModel", "rHow", "[I", true)
  | 25 => ("SkiShotsModel", "rNumber", "[I", true)
  | 26 => ("SkiShotsModel", "rBy", "[I", true)
  | 27 => ("SkiShotsModel", "rEntries", "[I", true)
  | 28 => ("SkiShotsModel", "rEvents", "[I", true)
  | 29 => ("SkiShotsModel", "entries", "[I", true)
  | 30 => ("SkiShotsModel", "entryOf", "[I", true)
  | 31 => ("SkiShotsModel", "told", "I", false)
  | 32 => ("SkiShotsModel", "tRace", "[I", true)
  | 33 => ("SkiShotsModel", "tRacer", "[I", true)
  | 34 => ("SkiShotsModel", "tSort", "[I", true)
  | 35 => ("SkiShotsModel", "tK", "[I", true)
  | 36 => ("SkiShotsModel", "tV", "[I", true)
  | 37 => ("SkiShotsModel", "tDay", "[I", true)
  | 38 => ("SkiShotsModel", "words", "[I", true)
  | 39 => ("SkiShotsModel", "size", "I", false)
  | 40 => ("SkiShotsModel", "next", "I", false)
  | 41 => ("SkiShotsModel", "kind", "I", false)
  | 42 => ("SkiShotsModel", "which", "I", false)
  | 43 => ("SkiShotsModel", "place", "I", false)
  | 44 => ("SkiShotsModel", "read", "I", false)
  | 45 => ("SkiShotsModel", "start", "[I", true)
  | 46 => ("SkiShotsModel", "low", "[I", true)
  | 47 => ("SkiShotsModel", "high", "[I", true)
  | 48 => ("SkiShotsModel", "missLow", "[I", true)
  | 49 => ("SkiShotsModel", "missHigh", "[I", true)
  | 50 => ("SkiShotsModel", "line", "[I", true)
  | _ => ("SkiShotsModel", "sums", "[I", true)
def tyX6 : Nat → FieldType := fun k => match k with
  | 0 => .array .int
  | 1 => .int
  | 2 => .int
  | 3 => .int
  | 4 => .int
  | 5 => .array .int
  | 6 => .array .int
  | 7 => .array .int
  | 8 => .array .int
  | 9 => .array .boolean
  | 10 => .array .int
  | 11 => .array .int
  | 12 => .array .int
  | 13 => .int
  | 14 => .int
  | 15 => .int
  | 16 => .array .int
  | 17 => .int
  | 18 => .array .int
  | 19 => .array .int
  | 20 => .array .int
  | 21 => .array .int
  | 22 => .array .boolean
  | 23 => .array .int
  | 24 => .array .int
  | 25 => .array .int
  | 26 => .array .int
  | 27 => .array .int
  | 28 => .array .int
  | 29 => .array .int
  | 30 => .array .int
  | 31 => .int
  | 32 => .array .int
  | 33 => .array .int
  | 34 => .array .int
  | 35 => .array .int
  | 36 => .array .int
  | 37 => .array .int
  | 38 => .array .int
  | 39 => .int
  | 40 => .int
  | 41 => .int
  | 42 => .int
  | 43 => .int
  | 44 => .int
  | 45 => .array .int
  | 46 => .array .int
  | 47 => .array .int
  | 48 => .array .int
  | 49 => .array .int
  | 50 => .array .int
  | _ => .array .int
abbrev wsX60 : List Cond := u_ws RX6 TX6 52
theorem nmX6 : ∀ a, a < 52 → ∀ b, b < 52 → a ≠ b → (TX6 a).2.1 ≠ (TX6 b).2.1 := by decide +kernel
theorem tyX6_ok : ∀ k, k < 52 → parseFieldDescriptor (TX6 k).2.2.1 = some (tyX6 k) := by decide +kernel
abbrev cX6_init : ByteArray := prog_8_method_1_code
def yX6_init : MethodName := ⟨RX6, "<init>", "()V"⟩
abbrev cX6_feed : ByteArray := prog_8_method_3_code
def yX6_feed : MethodName := ⟨RX6, "feed", "(IIIII)I"⟩
abbrev cX6_wrong : ByteArray := prog_8_method_4_code
def yX6_wrong : MethodName := ⟨RX6, "wrong", "(II)Z"⟩
abbrev cX6_wordAt : ByteArray := prog_8_method_5_code
def yX6_wordAt : MethodName := ⟨RX6, "wordAt", "(II)I"⟩
abbrev cX6_isSmall : ByteArray := prog_8_method_6_code
def yX6_isSmall : MethodName := ⟨RX6, "isSmall", "(I)Z"⟩
abbrev cX6_isDigit : ByteArray := prog_8_method_7_code
def yX6_isDigit : MethodName := ⟨RX6, "isDigit", "(I)Z"⟩
abbrev cX6_take : ByteArray := prog_8_method_8_code
def yX6_take : MethodName := ⟨RX6, "take", "()V"⟩
abbrev cX6_word : ByteArray := prog_8_method_9_code
def yX6_word : MethodName := ⟨RX6, "word", "(I)Z"⟩
abbrev cX6_sign : ByteArray := prog_8_method_10_code
def yX6_sign : MethodName := ⟨RX6, "sign", "(I)Z"⟩
abbrev cX6_number : ByteArray := prog_8_method_11_code
def yX6_number : MethodName := ⟨RX6, "number", "(II)Z"⟩
abbrev cX6_shots : ByteArray := prog_8_method_12_code
def yX6_shots : MethodName := ⟨RX6, "shots", "(I)Z"⟩
abbrev cX6_starts : ByteArray := prog_8_method_13_code
def yX6_starts : MethodName := ⟨RX6, "starts", "(I)Z"⟩
abbrev cX6_format : ByteArray := prog_8_method_14_code
def yX6_format : MethodName := ⟨RX6, "format", "()Z"⟩
abbrev cX6_formats : ByteArray := prog_8_method_15_code
def yX6_formats : MethodName := ⟨RX6, "formats", "(I)I"⟩
abbrev cX6_fault : ByteArray := prog_8_method_16_code
def yX6_fault : MethodName := ⟨RX6, "fault", "(I)I"⟩
abbrev cX6_pass : ByteArray := prog_8_method_17_code
def yX6_pass : MethodName := ⟨RX6, "pass", "(I)I"⟩
abbrev cX6_racer : ByteArray := prog_8_method_18_code
def yX6_racer : MethodName := ⟨RX6, "racer", "(I)I"⟩
abbrev cX6_isRace : ByteArray := prog_8_method_19_code
def yX6_isRace : MethodName := ⟨RX6, "isRace", "(I)Z"⟩
abbrev cX6_isRacer : ByteArray := prog_8_method_20_code
def yX6_isRacer : MethodName := ⟨RX6, "isRacer", "(I)Z"⟩
abbrev cX6_race : ByteArray := prog_8_method_21_code
def yX6_race : MethodName := ⟨RX6, "race", "(II)I"⟩
abbrev cX6_enter : ByteArray := prog_8_method_22_code
def yX6_enter : MethodName := ⟨RX6, "enter", "(II)I"⟩
abbrev cX6_isIn : ByteArray := prog_8_method_23_code
def yX6_isIn : MethodName := ⟨RX6, "isIn", "(II)Z"⟩
abbrev cX6_can : ByteArray := prog_8_method_24_code
def yX6_can : MethodName := ⟨RX6, "can", "(IIII)Z"⟩
abbrev cX6_tell : ByteArray := prog_8_method_25_code
def yX6_tell : MethodName := ⟨RX6, "tell", "(IIIII)I"⟩
abbrev cX6_fails : ByteArray := prog_8_method_26_code
def yX6_fails : MethodName := ⟨RX6, "fails", "(I)I"⟩
abbrev cX6_look : ByteArray := prog_8_method_27_code
def yX6_look : MethodName := ⟨RX6, "look", "(II)I"⟩
abbrev cX6_entry : ByteArray := prog_8_method_28_code
def yX6_entry : MethodName := ⟨RX6, "entry", "(II)I"⟩
abbrev cX6_known : ByteArray := prog_8_method_29_code
def yX6_known : MethodName := ⟨RX6, "known", "(IIIII)I"⟩
abbrev cX6_hits : ByteArray := prog_8_method_30_code
def yX6_hits : MethodName := ⟨RX6, "hits", "(I)I"⟩
abbrev cX6_least : ByteArray := prog_8_method_31_code
def yX6_least : MethodName := ⟨RX6, "least", "(I)I"⟩
abbrev cX6_startOf : ByteArray := prog_8_method_32_code
def yX6_startOf : MethodName := ⟨RX6, "startOf", "(II)I"⟩
abbrev cX6_work : ByteArray := prog_8_method_33_code
def yX6_work : MethodName := ⟨RX6, "work", "(III)V"⟩
abbrev cX6_workAll : ByteArray := prog_8_method_34_code
def yX6_workAll : MethodName := ⟨RX6, "workAll", "(II)V"⟩
abbrev cX6_placed : ByteArray := prog_8_method_35_code
def yX6_placed : MethodName := ⟨RX6, "placed", "(IIZ)I"⟩
abbrev cX6_isDay : ByteArray := prog_8_method_36_code
def yX6_isDay : MethodName := ⟨RX6, "isDay", "(I)Z"⟩
abbrev cX6_time : ByteArray := prog_8_method_37_code
def yX6_time : MethodName := ⟨RX6, "time", "(IIII)I"⟩
abbrev cX6_split : ByteArray := prog_8_method_38_code
def yX6_split : MethodName := ⟨RX6, "split", "(IIII)I"⟩
abbrev cX6_order : ByteArray := prog_8_method_39_code
def yX6_order : MethodName := ⟨RX6, "order", "(III)I"⟩
abbrev cX6_cup : ByteArray := prog_8_method_40_code
def yX6_cup : MethodName := ⟨RX6, "cup", "(I)V"⟩
abbrev cX6_stands : ByteArray := prog_8_method_41_code
def yX6_stands : MethodName := ⟨RX6, "stands", "(I)I"⟩
abbrev cX6_points : ByteArray := prog_8_method_42_code
def yX6_points : MethodName := ⟨RX6, "points", "(II)I"⟩
abbrev cX6_standing : ByteArray := prog_8_method_43_code
def yX6_standing : MethodName := ⟨RX6, "standing", "(II)I"⟩
abbrev cX6_starters : ByteArray := prog_8_method_44_code
def yX6_starters : MethodName := ⟨RX6, "starters", "(II)I"⟩
abbrev cX6_count : ByteArray := prog_8_method_45_code
def yX6_count : MethodName := ⟨RX6, "count", "(I)I"⟩
def RJ6 : String := "java/lang/Integer"
def TJ6 : u_T := fun k => match k with
  | _ => ("", "", "", false)
def tyJ6 : Nat → FieldType := fun k => match k with
  | _ => .int
abbrev wsJ60 : List Cond := u_ws RJ6 TJ6 0
theorem nmJ6 : ∀ a, a < 0 → ∀ b, b < 0 → a ≠ b → (TJ6 a).2.1 ≠ (TJ6 b).2.1 := by decide +kernel
theorem tyJ6_ok : ∀ k, k < 0 → parseFieldDescriptor (TJ6 k).2.2.1 = some (tyJ6 k) := by decide +kernel
abbrev cJ6_bitCount_0f7a4 : ByteArray := prog_11_method_49_code
def yJ6_bitCount_0f7a4 : MethodName := ⟨RJ6, "bitCount", "(I)I"⟩
def RJ9 : String := "java/lang/Math"
def TJ9 : u_T := fun k => match k with
  | _ => ("", "", "", false)
def tyJ9 : Nat → FieldType := fun k => match k with
  | _ => .int
abbrev wsJ90 : List Cond := u_ws RJ9 TJ9 0
theorem nmJ9 : ∀ a, a < 0 → ∀ b, b < 0 → a ≠ b → (TJ9 a).2.1 ≠ (TJ9 b).2.1 := by decide +kernel
theorem tyJ9_ok : ∀ k, k < 0 → parseFieldDescriptor (TJ9 k).2.2.1 = some (tyJ9 k) := by decide +kernel
abbrev cJ9_max_7cf53 : ByteArray := prog_12_method_65_code
def yJ9_max_7cf53 : MethodName := ⟨RJ9, "max", "(II)I"⟩
abbrev cJ9_min_7cf53 : ByteArray := prog_12_method_69_code
def yJ9_min_7cf53 : MethodName := ⟨RJ9, "min", "(II)I"⟩
def RJ0 : String := "java/lang/String"
def TJ0 : u_T := fun k => match k with
  | _ => ("", "", "", false)
def tyJ0 : Nat → FieldType := fun k => match k with
  | _ => .int
abbrev wsJ00 : List Cond := u_ws RJ0 TJ0 0
theorem nmJ0 : ∀ a, a < 0 → ∀ b, b < 0 → a ≠ b → (TJ0 a).2.1 ≠ (TJ0 b).2.1 := by decide +kernel
theorem tyJ0_ok : ∀ k, k < 0 → parseFieldDescriptor (TJ0 k).2.2.1 = some (tyJ0 k) := by decide +kernel
abbrev cJ0_length_8abf5 : ByteArray := prog_14_method_54_code
def yJ0_length_8abf5 : MethodName := ⟨RJ0, "length", "()I"⟩
abbrev cJ0_charAt_5068e : ByteArray := prog_14_method_56_code
def yJ0_charAt_5068e : MethodName := ⟨RJ0, "charAt", "(I)C"⟩
abbrev cJ0_coder_7d493 : ByteArray := prog_14_method_152_code
def yJ0_coder_7d493 : MethodName := ⟨RJ0, "coder", "()B"⟩
abbrev cJ0_isLatin1_aae02 : ByteArray := prog_14_method_154_code
def yJ0_isLatin1_aae02 : MethodName := ⟨RJ0, "isLatin1", "()Z"⟩
abbrev cJ0_checkIndex_df160 : ByteArray := prog_14_method_155_code
def yJ0_checkIndex_df160 : MethodName := ⟨RJ0, "checkIndex", "(II)V"⟩
def RJ1 : String := "java/lang/StringLatin1"
def TJ1 : u_T := fun k => match k with
  | _ => ("", "", "", false)
def tyJ1 : Nat → FieldType := fun k => match k with
  | _ => .int
abbrev wsJ10 : List Cond := u_ws RJ1 TJ1 0
theorem nmJ1 : ∀ a, a < 0 → ∀ b, b < 0 → a ≠ b → (TJ1 a).2.1 ≠ (TJ1 b).2.1 := by decide +kernel
theorem tyJ1_ok : ∀ k, k < 0 → parseFieldDescriptor (TJ1 k).2.2.1 = some (tyJ1 k) := by decide +kernel
abbrev cJ1_charAt_3b067 : ByteArray := prog_15_method_2_code
def yJ1_charAt_3b067 : MethodName := ⟨RJ1, "charAt", "([BI)C"⟩
def RJ2 : String := "java/lang/StringUTF16"
def TJ2 : u_T := fun k => match k with
  | _ => ("", "", "", false)
def tyJ2 : Nat → FieldType := fun k => match k with
  | _ => .int
abbrev wsJ20 : List Cond := u_ws RJ2 TJ2 0
theorem nmJ2 : ∀ a, a < 0 → ∀ b, b < 0 → a ≠ b → (TJ2 a).2.1 ≠ (TJ2 b).2.1 := by decide +kernel
theorem tyJ2_ok : ∀ k, k < 0 → parseFieldDescriptor (TJ2 k).2.2.1 = some (tyJ2 k) := by decide +kernel
abbrev cJ2_getChar_3b067 : ByteArray := prog_16_method_5_code
def yJ2_getChar_3b067 : MethodName := ⟨RJ2, "getChar", "([BI)C"⟩
abbrev cJ2_length_9d52b : ByteArray := prog_16_method_6_code
def yJ2_length_9d52b : MethodName := ⟨RJ2, "length", "([B)I"⟩
abbrev cJ2_charAt_3b067 : ByteArray := prog_16_method_83_code
def yJ2_charAt_3b067 : MethodName := ⟨RJ2, "charAt", "([BI)C"⟩
abbrev cJ2_checkIndex_2214a : ByteArray := prog_16_method_91_code
def yJ2_checkIndex_2214a : MethodName := ⟨RJ2, "checkIndex", "(I[B)V"⟩
def RJ3 : String := "jdk/internal/util/Preconditions"
def TJ3 : u_T := fun k => match k with
  | _ => ("", "", "", false)
def tyJ3 : Nat → FieldType := fun k => match k with
  | _ => .int
abbrev wsJ30 : List Cond := u_ws RJ3 TJ3 0
theorem nmJ3 : ∀ a, a < 0 → ∀ b, b < 0 → a ≠ b → (TJ3 a).2.1 ≠ (TJ3 b).2.1 := by decide +kernel
theorem tyJ3_ok : ∀ k, k < 0 → parseFieldDescriptor (TJ3 k).2.2.1 = some (tyJ3 k) := by decide +kernel
abbrev cJ3_checkIndex_8e157 : ByteArray := prog_19_method_11_code
def yJ3_checkIndex_8e157 : MethodName := ⟨RJ3, "checkIndex", "(IILjava/util/function/BiFunction;)I"⟩
def RL : String := "SkiShotsLaw"
abbrev cL_look : ByteArray := method_3_code
def yL_look : MethodName := ⟨RL, "look", "(LSkiShots;II[J)I"⟩
abbrev cL_law : ByteArray := code
def yL_law : MethodName := ⟨RL, "law", "([I)Z"⟩
def wsX0_init : List Cond := .code yX0_init cX0_init 2 none :: ([.methodLink RX0 3 objectInit, .instanceMethod objectInit, .code objectInit ⟨#[0xb1]⟩ 1 none, .fieldLink RX0 9 "SkiShots$Entry" "racer" "I"] ++ wsX00)
def wsX0_known : List Cond := .code yX0_known cX0_known 5 (some .int) :: ([.fieldLink RX0 15 "SkiShots$Entry" "latest" "LSkiShots$Event;", .fieldLink RX0 19 "SkiShots$Event" "day" "I", .fieldLink RX0 24 "SkiShots$Event" "sort" "I", .fieldLink RX0 27 "SkiShots$Event" "k" "I", .fieldLink RX0 30 "SkiShots$Event" "v" "I", .fieldLink RX0 33 "SkiShots$Event" "before" "LSkiShots$Event;"] ++ wsX00 ++ wsX10)
def wsX0_sinceStart : List Cond := .code yX0_sinceStart cX0_sinceStart 2 (some .int) :: ([.fieldLink RX0 36 "SkiShots$Entry" "start" "I"] ++ wsX00)
def wsX0_hasTime : List Cond := .code yX0_hasTime cX0_hasTime 1 (some .boolean) :: ([.fieldLink RX0 39 "SkiShots$Entry" "low" "I"] ++ wsX00)
def wsJ6_bitCount_0f7a4 : List Cond := .code yJ6_bitCount_0f7a4 cJ6_bitCount_0f7a4 1 (some .int) :: ([.constant RJ6 265 (1431655765), .constant RJ6 266 (858993459), .constant RJ6 267 (252645135)])
def wsX0_addShooting_r1 : List Cond := [Cond.fieldLink RX0 86 "SkiShots$Format" "loops" "Z", Cond.fieldLink RX0 89 "SkiShots$Format" "missSeconds" "I", Cond.fieldLink RX0 50 "SkiShots$Entry" "fewestMisses" "I", Cond.fieldLink RX0 53 "SkiShots$Entry" "mostMisses" "I", Cond.fieldLink RX0 56 "SkiShots$Entry" "leastPenalty" "I", Cond.methodLink RX0 92 Lib.Math.max.name, Cond.static Lib.Math.max.name, Cond.initialized "java/lang/Math", Cond.code Lib.Math.max.name Lib.Math.max.code 2 (some .int), Cond.fieldLink RX0 59 "SkiShots$Entry" "greatestPenalty" "I", Cond.methodLink RX0 42 yX0_known, Cond.instanceMethod yX0_known, Cond.selects RX0 yX0_known yX0_known, Cond.initialized RX0, Cond.code yX0_known cX0_known 5 (some .int), Cond.fieldLink RX0 15 "SkiShots$Entry" "latest" "LSkiShots$Event;", Cond.fieldLink RX0 19 "SkiShots$Event" "day" "I", Cond.fieldLink RX0 24 "SkiShots$Event" "sort" "I", Cond.fieldLink RX0 27 "SkiShots$Event" "k" "I", Cond.fieldLink RX0 30 "SkiShots$Event" "v" "I", Cond.fieldLink RX0 33 "SkiShots$Event" "before" "LSkiShots$Event;", Cond.methodLink RX0 81 yJ6_bitCount_0f7a4, Cond.static yJ6_bitCount_0f7a4, Cond.initialized RJ6]
def wsX0_addShooting_r2 : List Cond := [Cond.code yJ6_bitCount_0f7a4 cJ6_bitCount_0f7a4 1 (some .int), Cond.constant RJ6 265 (1431655765), Cond.constant RJ6 266 (858993459), Cond.constant RJ6 267 (252645135)]
def wsX0_addShooting : List Cond := .code yX0_addShooting cX0_addShooting 11 none :: ((wsX0_addShooting_r1 ++ wsX0_addShooting_r2) ++ wsX20 ++ wsX00 ++ wsX10)
def wsX0_workOut_r1 : List Cond := [Cond.fieldLink RX0 36 "SkiShots$Entry" "start" "I", Cond.fieldLink RX0 46 "SkiShots$Entry" "struck" "Z", Cond.fieldLink RX0 50 "SkiShots$Entry" "fewestMisses" "I", Cond.fieldLink RX0 53 "SkiShots$Entry" "mostMisses" "I", Cond.fieldLink RX0 56 "SkiShots$Entry" "leastPenalty" "I", Cond.fieldLink RX0 59 "SkiShots$Entry" "greatestPenalty" "I", Cond.fieldLink RX0 62 "SkiShots$Format" "shootings" "I", Cond.fieldLink RX0 71 "SkiShots$Format" "laps" "I", Cond.fieldLink RX0 39 "SkiShots$Entry" "low" "I", Cond.fieldLink RX0 78 "SkiShots$Entry" "high" "I", Cond.methodLink RX0 42 yX0_known, Cond.instanceMethod yX0_known, Cond.selects RX0 yX0_known yX0_known, Cond.initialized RX0, Cond.code yX0_known cX0_known 5 (some .int), Cond.fieldLink RX0 15 "SkiShots$Entry" "latest" "LSkiShots$Event;", Cond.fieldLink RX0 19 "SkiShots$Event" "day" "I", Cond.fieldLink RX0 24 "SkiShots$Event" "sort" "I", Cond.fieldLink RX0 27 "SkiShots$Event" "k" "I", Cond.fieldLink RX0 30 "SkiShots$Event" "v" "I", Cond.fieldLink RX0 33 "SkiShots$Event" "before" "LSkiShots$Event;", Cond.methodLink RX0 67 yX0_addShooting, Cond.instanceMethod yX0_addShooting, Cond.selects RX0 yX0_addShooting yX0_addShooting]
def wsX0_workOut_r2 : List Cond := [Cond.code yX0_addShooting cX0_addShooting 11 none, Cond.fieldLink RX0 86 "SkiShots$Format" "loops" "Z", Cond.fieldLink RX0 89 "SkiShots$Format" "missSeconds" "I", Cond.methodLink RX0 92 Lib.Math.max.name, Cond.static Lib.Math.max.name, Cond.initialized "java/lang/Math", Cond.code Lib.Math.max.name Lib.Math.max.code 2 (some .int), Cond.methodLink RX0 81 yJ6_bitCount_0f7a4, Cond.static yJ6_bitCount_0f7a4, Cond.initialized RJ6, Cond.code yJ6_bitCount_0f7a4 cJ6_bitCount_0f7a4 1 (some .int), Cond.constant RJ6 265 (1431655765), Cond.constant RJ6 266 (858993459), Cond.constant RJ6 267 (252645135), Cond.methodLink RX0 74 yX0_sinceStart, Cond.instanceMethod yX0_sinceStart, Cond.selects RX0 yX0_sinceStart yX0_sinceStart, Cond.code yX0_sinceStart cX0_sinceStart 2 (some .int)]
def wsX0_workOut : List Cond := .code yX0_workOut cX0_workOut 5 none :: ((wsX0_workOut_r1 ++ wsX0_workOut_r2) ++ wsX00 ++ wsX20 ++ wsX10)
def wsX1_init : List Cond := .code yX1_init cX1_init 6 none :: ([.methodLink RX1 1 objectInit, .instanceMethod objectInit, .code objectInit ⟨#[0xb1]⟩ 1 none, .fieldLink RX1 7 "SkiShots$Event" "day" "I", .fieldLink RX1 13 "SkiShots$Event" "sort" "I", .fieldLink RX1 16 "SkiShots$Event" "k" "I", .fieldLink RX1 19 "SkiShots$Event" "v" "I", .fieldLink RX1 22 "SkiShots$Event" "before" "LSkiShots$Event;"] ++ wsX10)
def wsX2_init : List Cond := .code yX2_init cX2_init 2 none :: ([.methodLink RX2 3 objectInit, .instanceMethod objectInit, .code objectInit ⟨#[0xb1]⟩ 1 none, .fieldLink RX2 9 "SkiShots$Format" "name" "I"] ++ wsX20)
def wsX2_hasEvent : List Cond := .code yX2_hasEvent cX2_hasEvent 3 (some .boolean) :: ([.fieldLink RX2 15 "SkiShots$Format" "laps" "I", .fieldLink RX2 18 "SkiShots$Format" "shootings" "I"] ++ wsX20)
def wsX3_init : List Cond := .code yX3_init cX3_init 4 none :: ([.methodLink RX3 3 objectInit, .instanceMethod objectInit, .code objectInit ⟨#[0xb1]⟩ 1 none, .fieldLink RX3 9 "SkiShots$Race" "format" "LSkiShots$Format;", .fieldLink RX3 15 "SkiShots$Race" "by" "LSkiShots$Race;", .fieldLink RX3 19 "SkiShots$Race" "byNumber" "I", .classLink RX3 23 RX0, .fieldLink RX3 25 "SkiShots$Race" "entries" "[LSkiShots$Entry;"] ++ wsX30)
def wsX3_add : List Cond := .code yX3_add cX3_add 2 none :: ([.fieldLink RX3 29 "SkiShots$Race" "entryCount" "I", .fieldLink RX3 25 "SkiShots$Race" "entries" "[LSkiShots$Entry;", .classLink RX3 23 RX0, .instantiable RX0 10, .initialized RX0, .methodLink RX3 32 yX0_init, .instanceMethod yX0_init, .code yX0_init cX0_init 2 none, .methodLink RX0 3 objectInit, .instanceMethod objectInit, .code objectInit ⟨#[0xb1]⟩ 1 none, .fieldLink RX0 9 "SkiShots$Entry" "racer" "I"] ++ wsX30 ++ wsX00)
def wsX3_entryOf : List Cond := .code yX3_entryOf cX3_entryOf 3 (some (.object "SkiShots$Entry")) :: ([.fieldLink RX3 29 "SkiShots$Race" "entryCount" "I", .fieldLink RX3 25 "SkiShots$Race" "entries" "[LSkiShots$Entry;", .fieldLink RX3 35 "SkiShots$Entry" "racer" "I"] ++ wsX30 ++ wsX00)
def wsX3_chaseStart : List Cond := .code yX3_chaseStart cX3_chaseStart 4 (some .int) :: ([.fieldLink RX3 15 "SkiShots$Race" "by" "LSkiShots$Race;", .fieldLink RX3 53 "SkiShots$Entry" "low" "I", .fieldLink RX3 38 "SkiShots$Race" "leastLow" "I", .fieldLink RX3 9 "SkiShots$Race" "format" "LSkiShots$Format;", .fieldLink RX3 61 "SkiShots$Format" "startSeconds" "I", .methodLink RX3 71 Lib.Math.min.name, .static Lib.Math.min.name, .initialized "java/lang/Math", .code Lib.Math.min.name Lib.Math.min.code 2 (some .int), .methodLink RX3 67 yX3_entryOf, .instanceMethod yX3_entryOf, .selects RX3 yX3_entryOf yX3_entryOf, .initialized RX3, .code yX3_entryOf cX3_entryOf 3 (some (.object "SkiShots$Entry")), .fieldLink RX3 29 "SkiShots$Race" "entryCount" "I", .fieldLink RX3 25 "SkiShots$Race" "entries" "[LSkiShots$Entry;", .fieldLink RX3 35 "SkiShots$Entry" "racer" "I", .methodLink RX3 49 yX0_hasTime, .instanceMethod yX0_hasTime, .selects RX0 yX0_hasTime yX0_hasTime, .initialized RX0, .code yX0_hasTime cX0_hasTime 1 (some .boolean), .fieldLink RX0 39 "SkiShots$Entry" "low" "I"] ++ wsX30 ++ wsX00 ++ wsX20)
def wsX3_startOf_r1 : List Cond := [Cond.fieldLink RX3 9 "SkiShots$Race" "format" "LSkiShots$Format;", Cond.fieldLink RX3 56 "SkiShots$Format" "startSort" "I", Cond.fieldLink RX3 61 "SkiShots$Format" "startSeconds" "I", Cond.fieldLink RX3 25 "SkiShots$Race" "entries" "[LSkiShots$Entry;", Cond.fieldLink RX3 35 "SkiShots$Entry" "racer" "I", Cond.methodLink RX3 64 yX3_chaseStart, Cond.instanceMethod yX3_chaseStart, Cond.selects RX3 yX3_chaseStart yX3_chaseStart, Cond.initialized RX3, Cond.code yX3_chaseStart cX3_chaseStart 4 (some .int), Cond.fieldLink RX3 15 "SkiShots$Race" "by" "LSkiShots$Race;", Cond.fieldLink RX3 53 "SkiShots$Entry" "low" "I", Cond.fieldLink RX3 38 "SkiShots$Race" "leastLow" "I", Cond.methodLink RX3 71 Lib.Math.min.name, Cond.static Lib.Math.min.name, Cond.initialized "java/lang/Math", Cond.code Lib.Math.min.name Lib.Math.min.code 2 (some .int), Cond.methodLink RX3 67 yX3_entryOf, Cond.instanceMethod yX3_entryOf, Cond.selects RX3 yX3_entryOf yX3_entryOf, Cond.code yX3_entryOf cX3_entryOf 3 (some (.object "SkiShots$Entry")), Cond.fieldLink RX3 29 "SkiShots$Race" "entryCount" "I", Cond.methodLink RX3 49 yX0_hasTime, Cond.instanceMethod yX0_hasTime]
def wsX3_startOf_r2 : List Cond := [Cond.selects RX0 yX0_hasTime yX0_hasTime, Cond.initialized RX0, Cond.code yX0_hasTime cX0_hasTime 1 (some .boolean), Cond.fieldLink RX0 39 "SkiShots$Entry" "low" "I"]
def wsX3_startOf : List Cond := .code yX3_startOf cX3_startOf 2 (some .int) :: ((wsX3_startOf_r1 ++ wsX3_startOf_r2) ++ wsX30 ++ wsX20 ++ wsX00)
def wsX3_workOut_r1 : List Cond := [Cond.fieldLink RX3 38 "SkiShots$Race" "leastLow" "I", Cond.fieldLink RX3 29 "SkiShots$Race" "entryCount" "I", Cond.fieldLink RX3 25 "SkiShots$Race" "entries" "[LSkiShots$Entry;", Cond.fieldLink RX3 9 "SkiShots$Race" "format" "LSkiShots$Format;", Cond.fieldLink RX3 53 "SkiShots$Entry" "low" "I", Cond.methodLink RX3 41 yX3_startOf, Cond.instanceMethod yX3_startOf, Cond.selects RX3 yX3_startOf yX3_startOf, Cond.initialized RX3, Cond.code yX3_startOf cX3_startOf 2 (some .int), Cond.fieldLink RX3 56 "SkiShots$Format" "startSort" "I", Cond.fieldLink RX3 61 "SkiShots$Format" "startSeconds" "I", Cond.fieldLink RX3 35 "SkiShots$Entry" "racer" "I", Cond.methodLink RX3 64 yX3_chaseStart, Cond.instanceMethod yX3_chaseStart, Cond.selects RX3 yX3_chaseStart yX3_chaseStart, Cond.code yX3_chaseStart cX3_chaseStart 4 (some .int), Cond.fieldLink RX3 15 "SkiShots$Race" "by" "LSkiShots$Race;", Cond.methodLink RX3 71 Lib.Math.min.name, Cond.static Lib.Math.min.name, Cond.initialized "java/lang/Math", Cond.code Lib.Math.min.name Lib.Math.min.code 2 (some .int), Cond.methodLink RX3 67 yX3_entryOf, Cond.instanceMethod yX3_entryOf]
def wsX3_workOut_r2 : List Cond := [Cond.selects RX3 yX3_entryOf yX3_entryOf, Cond.code yX3_entryOf cX3_entryOf 3 (some (.object "SkiShots$Entry")), Cond.methodLink RX3 49 yX0_hasTime, Cond.instanceMethod yX0_hasTime, Cond.selects RX0 yX0_hasTime yX0_hasTime, Cond.initialized RX0, Cond.code yX0_hasTime cX0_hasTime 1 (some .boolean), Cond.fieldLink RX0 39 "SkiShots$Entry" "low" "I", Cond.methodLink RX3 45 yX0_workOut, Cond.instanceMethod yX0_workOut, Cond.selects RX0 yX0_workOut yX0_workOut, Cond.code yX0_workOut cX0_workOut 5 none, Cond.fieldLink RX0 36 "SkiShots$Entry" "start" "I", Cond.fieldLink RX0 46 "SkiShots$Entry" "struck" "Z", Cond.fieldLink RX0 50 "SkiShots$Entry" "fewestMisses" "I", Cond.fieldLink RX0 53 "SkiShots$Entry" "mostMisses" "I", Cond.fieldLink RX0 56 "SkiShots$Entry" "leastPenalty" "I", Cond.fieldLink RX0 59 "SkiShots$Entry" "greatestPenalty" "I", Cond.fieldLink RX0 62 "SkiShots$Format" "shootings" "I", Cond.fieldLink RX0 71 "SkiShots$Format" "laps" "I", Cond.fieldLink RX0 78 "SkiShots$Entry" "high" "I", Cond.methodLink RX0 42 yX0_known, Cond.instanceMethod yX0_known, Cond.selects RX0 yX0_known yX0_known]
def wsX3_workOut_r3 : List Cond := [Cond.code yX0_known cX0_known 5 (some .int), Cond.fieldLink RX0 15 "SkiShots$Entry" "latest" "LSkiShots$Event;", Cond.fieldLink RX0 19 "SkiShots$Event" "day" "I", Cond.fieldLink RX0 24 "SkiShots$Event" "sort" "I", Cond.fieldLink RX0 27 "SkiShots$Event" "k" "I", Cond.fieldLink RX0 30 "SkiShots$Event" "v" "I", Cond.fieldLink RX0 33 "SkiShots$Event" "before" "LSkiShots$Event;", Cond.methodLink RX0 67 yX0_addShooting, Cond.instanceMethod yX0_addShooting, Cond.selects RX0 yX0_addShooting yX0_addShooting, Cond.code yX0_addShooting cX0_addShooting 11 none, Cond.fieldLink RX0 86 "SkiShots$Format" "loops" "Z", Cond.fieldLink RX0 89 "SkiShots$Format" "missSeconds" "I", Cond.methodLink RX0 92 Lib.Math.max.name, Cond.static Lib.Math.max.name, Cond.code Lib.Math.max.name Lib.Math.max.code 2 (some .int), Cond.methodLink RX0 81 yJ6_bitCount_0f7a4, Cond.static yJ6_bitCount_0f7a4, Cond.initialized RJ6, Cond.code yJ6_bitCount_0f7a4 cJ6_bitCount_0f7a4 1 (some .int), Cond.constant RJ6 265 (1431655765), Cond.constant RJ6 266 (858993459), Cond.constant RJ6 267 (252645135), Cond.methodLink RX0 74 yX0_sinceStart]
def wsX3_workOut_r4 : List Cond := [Cond.instanceMethod yX0_sinceStart, Cond.selects RX0 yX0_sinceStart yX0_sinceStart, Cond.code yX0_sinceStart cX0_sinceStart 2 (some .int)]
def wsX3_workOut : List Cond := .code yX3_workOut cX3_workOut 4 none :: ((wsX3_workOut_r1 ++ (wsX3_workOut_r2 ++ (wsX3_workOut_r3 ++ wsX3_workOut_r4))) ++ wsX30 ++ wsX00 ++ wsX20 ++ wsX10)
def wsX3_firstPlace : List Cond := .code yX3_firstPlace cX3_firstPlace 5 (some .int) :: ([.fieldLink RX3 29 "SkiShots$Race" "entryCount" "I", .fieldLink RX3 25 "SkiShots$Race" "entries" "[LSkiShots$Entry;", .fieldLink RX3 77 "SkiShots$Entry" "high" "I", .fieldLink RX3 53 "SkiShots$Entry" "low" "I", .methodLink RX3 49 yX0_hasTime, .instanceMethod yX0_hasTime, .selects RX0 yX0_hasTime yX0_hasTime, .initialized RX0, .code yX0_hasTime cX0_hasTime 1 (some .boolean), .fieldLink RX0 39 "SkiShots$Entry" "low" "I"] ++ wsX30 ++ wsX00)
def wsX3_lastPlace : List Cond := .code yX3_lastPlace cX3_lastPlace 5 (some .int) :: ([.fieldLink RX3 29 "SkiShots$Race" "entryCount" "I", .fieldLink RX3 25 "SkiShots$Race" "entries" "[LSkiShots$Entry;", .fieldLink RX3 53 "SkiShots$Entry" "low" "I", .fieldLink RX3 77 "SkiShots$Entry" "high" "I", .methodLink RX3 49 yX0_hasTime, .instanceMethod yX0_hasTime, .selects RX0 yX0_hasTime yX0_hasTime, .initialized RX0, .code yX0_hasTime cX0_hasTime 1 (some .boolean), .fieldLink RX0 39 "SkiShots$Entry" "low" "I"] ++ wsX30 ++ wsX00)
def wsX3_aheadInOrder : List Cond := .code yX3_aheadInOrder cX3_aheadInOrder 5 (some .int) :: ([.fieldLink RX3 29 "SkiShots$Race" "entryCount" "I", .fieldLink RX3 25 "SkiShots$Race" "entries" "[LSkiShots$Entry;", .fieldLink RX3 53 "SkiShots$Entry" "low" "I"] ++ wsX30 ++ wsX00)
def wsX4_init : List Cond := .code yX4_init cX4_init 3 none :: ([.methodLink RX4 3 objectInit, .instanceMethod objectInit, .code objectInit ⟨#[0xb1]⟩ 1 none, .fieldLink RX4 9 "SkiShots$Reader" "text" "[B", .methodLink RX4 15 Lib.Math.min.name, .static Lib.Math.min.name, .initialized "java/lang/Math", .code Lib.Math.min.name Lib.Math.min.code 2 (some .int), .fieldLink RX4 21 "SkiShots$Reader" "length" "I", .classLink RX4 25 RX2, .fieldLink RX4 27 "SkiShots$Reader" "found" "[LSkiShots$Format;", .fieldLink RX4 31 "SkiShots$Reader" "faultPlace" "I"] ++ wsX40)
def wsX4_sortAt : List Cond := .code yX4_sortAt cX4_sortAt 3 (some .int) :: ([.fieldLink RX4 21 "SkiShots$Reader" "length" "I", .fieldLink RX4 9 "SkiShots$Reader" "text" "[B"] ++ wsX40)
def wsX4_step : List Cond := .code yX4_step cX4_step 1 none :: ([.fieldLink RX4 133 "SkiShots$Reader" "behind" "I", .fieldLink RX4 54 "SkiShots$Reader" "place" "I", .fieldLink RX4 21 "SkiShots$Reader" "length" "I", .fieldLink RX4 37 "SkiShots$Reader" "sort" "I", .methodLink RX4 15 Lib.Math.min.name, .static Lib.Math.min.name, .initialized "java/lang/Math", .code Lib.Math.min.name Lib.Math.min.code 2 (some .int), .methodLink RX4 149 yX4_sortAt, .instanceMethod yX4_sortAt, .selects RX4 yX4_sortAt yX4_sortAt, .initialized RX4, .code yX4_sortAt cX4_sortAt 3 (some .int), .fieldLink RX4 9 "SkiShots$Reader" "text" "[B"] ++ wsX40)
def wsJ0_coder_7d493 : List Cond := .code yJ0_coder_7d493 cJ0_coder_7d493 1 (some .byte) :: ([.fieldLink RJ0 38 "java/lang/String" "COMPACT_STRINGS" "Z", .fieldLink RJ0 15 "java/lang/String" "coder" "B"])
def wsJ0_length_8abf5 : List Cond := .code yJ0_length_8abf5 cJ0_length_8abf5 1 (some .int) :: ([.fieldLink RJ0 9 "java/lang/String" "value" "[B", .methodLink RJ0 335 yJ0_coder_7d493, .instanceMethod yJ0_coder_7d493, .selects RJ0 yJ0_coder_7d493 yJ0_coder_7d493, .initialized RJ0, .code yJ0_coder_7d493 cJ0_coder_7d493 1 (some .byte), .fieldLink RJ0 38 "java/lang/String" "COMPACT_STRINGS" "Z", .fieldLink RJ0 15 "java/lang/String" "coder" "B"])
def wsJ0_isLatin1_aae02 : List Cond := .code yJ0_isLatin1_aae02 cJ0_isLatin1_aae02 1 (some .boolean) :: ([.fieldLink RJ0 38 "java/lang/String" "COMPACT_STRINGS" "Z", .fieldLink RJ0 15 "java/lang/String" "coder" "B"])
def wsJ3_checkIndex_8e157 : List Cond := .code yJ3_checkIndex_8e157 cJ3_checkIndex_8e157 3 (some .int) :: ([])
def wsJ0_checkIndex_df160 : List Cond := .code yJ0_checkIndex_df160 cJ0_checkIndex_df160 2 none :: ([.fieldLink RJ0 1053 "jdk/internal/util/Preconditions" "SIOOBE_FORMATTER" "Ljava/util/function/BiFunction;", .methodLink RJ0 1059 yJ3_checkIndex_8e157, .static yJ3_checkIndex_8e157, .initialized RJ3, .code yJ3_checkIndex_8e157 cJ3_checkIndex_8e157 3 (some .int)])
def wsJ1_charAt_3b067 : List Cond := .code yJ1_charAt_3b067 cJ1_charAt_3b067 2 (some .char) :: ([.methodLink RJ1 9 yJ0_checkIndex_df160, .static yJ0_checkIndex_df160, .initialized RJ0, .code yJ0_checkIndex_df160 cJ0_checkIndex_df160 2 none, .fieldLink RJ0 1053 "jdk/internal/util/Preconditions" "SIOOBE_FORMATTER" "Ljava/util/function/BiFunction;", .methodLink RJ0 1059 yJ3_checkIndex_8e157, .static yJ3_checkIndex_8e157, .initialized RJ3, .code yJ3_checkIndex_8e157 cJ3_checkIndex_8e157 3 (some .int)])
def wsJ2_length_9d52b : List Cond := .code yJ2_length_9d52b cJ2_length_9d52b 1 (some .int) :: ([])
def wsJ2_checkIndex_2214a : List Cond := .code yJ2_checkIndex_2214a cJ2_checkIndex_2214a 2 none :: ([.methodLink RJ2 48 yJ2_length_9d52b, .static yJ2_length_9d52b, .initialized RJ2, .code yJ2_length_9d52b cJ2_length_9d52b 1 (some .int), .methodLink RJ2 414 yJ0_checkIndex_df160, .static yJ0_checkIndex_df160, .initialized RJ0, .code yJ0_checkIndex_df160 cJ0_checkIndex_df160 2 none, .fieldLink RJ0 1053 "jdk/internal/util/Preconditions" "SIOOBE_FORMATTER" "Ljava/util/function/BiFunction;", .methodLink RJ0 1059 yJ3_checkIndex_8e157, .static yJ3_checkIndex_8e157, .initialized RJ3, .code yJ3_checkIndex_8e157 cJ3_checkIndex_8e157 3 (some .int)])
def wsJ2_getChar_3b067 : List Cond := .code yJ2_getChar_3b067 cJ2_getChar_3b067 2 (some .char) :: ([.fieldLink RJ2 44 "java/lang/StringUTF16" "$assertionsDisabled" "Z", .fieldLink RJ2 59 "java/lang/StringUTF16" "HI_BYTE_SHIFT" "I", .fieldLink RJ2 63 "java/lang/StringUTF16" "LO_BYTE_SHIFT" "I", .methodLink RJ2 48 yJ2_length_9d52b, .static yJ2_length_9d52b, .initialized RJ2, .code yJ2_length_9d52b cJ2_length_9d52b 1 (some .int)])
def wsJ2_charAt_3b067 : List Cond := .code yJ2_charAt_3b067 cJ2_charAt_3b067 2 (some .char) :: ([.methodLink RJ2 67 yJ2_checkIndex_2214a, .static yJ2_checkIndex_2214a, .initialized RJ2, .code yJ2_checkIndex_2214a cJ2_checkIndex_2214a 2 none, .methodLink RJ2 48 yJ2_length_9d52b, .static yJ2_length_9d52b, .code yJ2_length_9d52b cJ2_length_9d52b 1 (some .int), .methodLink RJ2 414 yJ0_checkIndex_df160, .static yJ0_checkIndex_df160, .initialized RJ0, .code yJ0_checkIndex_df160 cJ0_checkIndex_df160 2 none, .fieldLink RJ0 1053 "jdk/internal/util/Preconditions" "SIOOBE_FORMATTER" "Ljava/util/function/BiFunction;", .methodLink RJ0 1059 yJ3_checkIndex_8e157, .static yJ3_checkIndex_8e157, .initialized RJ3, .code yJ3_checkIndex_8e157 cJ3_checkIndex_8e157 3 (some .int), .methodLink RJ2 71 yJ2_getChar_3b067, .static yJ2_getChar_3b067, .code yJ2_getChar_3b067 cJ2_getChar_3b067 2 (some .char), .fieldLink RJ2 44 "java/lang/StringUTF16" "$assertionsDisabled" "Z", .fieldLink RJ2 59 "java/lang/StringUTF16" "HI_BYTE_SHIFT" "I", .fieldLink RJ2 63 "java/lang/StringUTF16" "LO_BYTE_SHIFT" "I"])
def wsJ0_charAt_5068e_r1 : List Cond := [Cond.fieldLink RJ0 9 "java/lang/String" "value" "[B", Cond.methodLink RJ0 492 yJ0_isLatin1_aae02, Cond.instanceMethod yJ0_isLatin1_aae02, Cond.selects RJ0 yJ0_isLatin1_aae02 yJ0_isLatin1_aae02, Cond.initialized RJ0, Cond.code yJ0_isLatin1_aae02 cJ0_isLatin1_aae02 1 (some .boolean), Cond.fieldLink RJ0 38 "java/lang/String" "COMPACT_STRINGS" "Z", Cond.fieldLink RJ0 15 "java/lang/String" "coder" "B", Cond.methodLink RJ0 495 yJ1_charAt_3b067, Cond.static yJ1_charAt_3b067, Cond.initialized RJ1, Cond.code yJ1_charAt_3b067 cJ1_charAt_3b067 2 (some .char), Cond.methodLink RJ1 9 yJ0_checkIndex_df160, Cond.static yJ0_checkIndex_df160, Cond.code yJ0_checkIndex_df160 cJ0_checkIndex_df160 2 none, Cond.fieldLink RJ0 1053 "jdk/internal/util/Preconditions" "SIOOBE_FORMATTER" "Ljava/util/function/BiFunction;", Cond.methodLink RJ0 1059 yJ3_checkIndex_8e157, Cond.static yJ3_checkIndex_8e157, Cond.initialized RJ3, Cond.code yJ3_checkIndex_8e157 cJ3_checkIndex_8e157 3 (some .int), Cond.methodLink RJ0 498 yJ2_charAt_3b067, Cond.static yJ2_charAt_3b067, Cond.initialized RJ2, Cond.code yJ2_charAt_3b067 cJ2_charAt_3b067 2 (some .char)]
def wsJ0_charAt_5068e_r2 : List Cond := [Cond.methodLink RJ2 67 yJ2_checkIndex_2214a, Cond.static yJ2_checkIndex_2214a, Cond.code yJ2_checkIndex_2214a cJ2_checkIndex_2214a 2 none, Cond.methodLink RJ2 48 yJ2_length_9d52b, Cond.static yJ2_length_9d52b, Cond.code yJ2_length_9d52b cJ2_length_9d52b 1 (some .int), Cond.methodLink RJ2 414 yJ0_checkIndex_df160, Cond.methodLink RJ2 71 yJ2_getChar_3b067, Cond.static yJ2_getChar_3b067, Cond.code yJ2_getChar_3b067 cJ2_getChar_3b067 2 (some .char), Cond.fieldLink RJ2 44 "java/lang/StringUTF16" "$assertionsDisabled" "Z", Cond.fieldLink RJ2 59 "java/lang/StringUTF16" "HI_BYTE_SHIFT" "I", Cond.fieldLink RJ2 63 "java/lang/StringUTF16" "LO_BYTE_SHIFT" "I"]
def wsJ0_charAt_5068e : List Cond := .code yJ0_charAt_5068e cJ0_charAt_5068e 2 (some .char) :: ((wsJ0_charAt_5068e_r1 ++ wsJ0_charAt_5068e_r2))
def wsX4_isWord_r1 : List Cond := [Cond.fieldLink RX4 37 "SkiShots$Reader" "sort" "I", Cond.fieldLink RX4 133 "SkiShots$Reader" "behind" "I", Cond.fieldLink RX4 54 "SkiShots$Reader" "place" "I", Cond.fieldLink RX4 9 "SkiShots$Reader" "text" "[B", Cond.methodLink RX4 140 yJ0_length_8abf5, Cond.instanceMethod yJ0_length_8abf5, Cond.selects RJ0 yJ0_length_8abf5 yJ0_length_8abf5, Cond.initialized RJ0, Cond.code yJ0_length_8abf5 cJ0_length_8abf5 1 (some .int), Cond.fieldLink RJ0 9 "java/lang/String" "value" "[B", Cond.methodLink RJ0 335 yJ0_coder_7d493, Cond.instanceMethod yJ0_coder_7d493, Cond.selects RJ0 yJ0_coder_7d493 yJ0_coder_7d493, Cond.code yJ0_coder_7d493 cJ0_coder_7d493 1 (some .byte), Cond.fieldLink RJ0 38 "java/lang/String" "COMPACT_STRINGS" "Z", Cond.fieldLink RJ0 15 "java/lang/String" "coder" "B", Cond.methodLink RX4 145 yJ0_charAt_5068e, Cond.instanceMethod yJ0_charAt_5068e, Cond.selects RJ0 yJ0_charAt_5068e yJ0_charAt_5068e, Cond.code yJ0_charAt_5068e cJ0_charAt_5068e 2 (some .char), Cond.methodLink RJ0 492 yJ0_isLatin1_aae02, Cond.instanceMethod yJ0_isLatin1_aae02, Cond.selects RJ0 yJ0_isLatin1_aae02 yJ0_isLatin1_aae02, Cond.code yJ0_isLatin1_aae02 cJ0_isLatin1_aae02 1 (some .boolean)]
def wsX4_isWord_r2 : List Cond := [Cond.methodLink RJ0 495 yJ1_charAt_3b067, Cond.static yJ1_charAt_3b067, Cond.initialized RJ1, Cond.code yJ1_charAt_3b067 cJ1_charAt_3b067 2 (some .char), Cond.methodLink RJ1 9 yJ0_checkIndex_df160, Cond.static yJ0_checkIndex_df160, Cond.code yJ0_checkIndex_df160 cJ0_checkIndex_df160 2 none, Cond.fieldLink RJ0 1053 "jdk/internal/util/Preconditions" "SIOOBE_FORMATTER" "Ljava/util/function/BiFunction;", Cond.methodLink RJ0 1059 yJ3_checkIndex_8e157, Cond.static yJ3_checkIndex_8e157, Cond.initialized RJ3, Cond.code yJ3_checkIndex_8e157 cJ3_checkIndex_8e157 3 (some .int), Cond.methodLink RJ0 498 yJ2_charAt_3b067, Cond.static yJ2_charAt_3b067, Cond.initialized RJ2, Cond.code yJ2_charAt_3b067 cJ2_charAt_3b067 2 (some .char), Cond.methodLink RJ2 67 yJ2_checkIndex_2214a, Cond.static yJ2_checkIndex_2214a, Cond.code yJ2_checkIndex_2214a cJ2_checkIndex_2214a 2 none, Cond.methodLink RJ2 48 yJ2_length_9d52b, Cond.static yJ2_length_9d52b, Cond.code yJ2_length_9d52b cJ2_length_9d52b 1 (some .int), Cond.methodLink RJ2 414 yJ0_checkIndex_df160, Cond.methodLink RJ2 71 yJ2_getChar_3b067]
def wsX4_isWord_r3 : List Cond := [Cond.static yJ2_getChar_3b067, Cond.code yJ2_getChar_3b067 cJ2_getChar_3b067 2 (some .char), Cond.fieldLink RJ2 44 "java/lang/StringUTF16" "$assertionsDisabled" "Z", Cond.fieldLink RJ2 59 "java/lang/StringUTF16" "HI_BYTE_SHIFT" "I", Cond.fieldLink RJ2 63 "java/lang/StringUTF16" "LO_BYTE_SHIFT" "I"]
def wsX4_isWord : List Cond := .code yX4_isWord cX4_isWord 3 (some .boolean) :: ((wsX4_isWord_r1 ++ (wsX4_isWord_r2 ++ wsX4_isWord_r3)) ++ wsX40)
def wsX4_fail : List Cond := .code yX4_fail cX4_fail 2 (some .boolean) :: ([.fieldLink RX4 137 "SkiShots$Reader" "fault" "I", .fieldLink RX4 54 "SkiShots$Reader" "place" "I", .fieldLink RX4 31 "SkiShots$Reader" "faultPlace" "I"] ++ wsX40)
def wsX4_readWord_r1 : List Cond := [Cond.methodLink RX4 107 yX4_isWord, Cond.instanceMethod yX4_isWord, Cond.selects RX4 yX4_isWord yX4_isWord, Cond.initialized RX4, Cond.code yX4_isWord cX4_isWord 3 (some .boolean), Cond.fieldLink RX4 37 "SkiShots$Reader" "sort" "I", Cond.fieldLink RX4 133 "SkiShots$Reader" "behind" "I", Cond.fieldLink RX4 54 "SkiShots$Reader" "place" "I", Cond.fieldLink RX4 9 "SkiShots$Reader" "text" "[B", Cond.methodLink RX4 140 yJ0_length_8abf5, Cond.instanceMethod yJ0_length_8abf5, Cond.selects RJ0 yJ0_length_8abf5 yJ0_length_8abf5, Cond.initialized RJ0, Cond.code yJ0_length_8abf5 cJ0_length_8abf5 1 (some .int), Cond.fieldLink RJ0 9 "java/lang/String" "value" "[B", Cond.methodLink RJ0 335 yJ0_coder_7d493, Cond.instanceMethod yJ0_coder_7d493, Cond.selects RJ0 yJ0_coder_7d493 yJ0_coder_7d493, Cond.code yJ0_coder_7d493 cJ0_coder_7d493 1 (some .byte), Cond.fieldLink RJ0 38 "java/lang/String" "COMPACT_STRINGS" "Z", Cond.fieldLink RJ0 15 "java/lang/String" "coder" "B", Cond.methodLink RX4 145 yJ0_charAt_5068e, Cond.instanceMethod yJ0_charAt_5068e, Cond.selects RJ0 yJ0_charAt_5068e yJ0_charAt_5068e]
def wsX4_readWord_r2 : List Cond := [Cond.code yJ0_charAt_5068e cJ0_charAt_5068e 2 (some .char), Cond.methodLink RJ0 492 yJ0_isLatin1_aae02, Cond.instanceMethod yJ0_isLatin1_aae02, Cond.selects RJ0 yJ0_isLatin1_aae02 yJ0_isLatin1_aae02, Cond.code yJ0_isLatin1_aae02 cJ0_isLatin1_aae02 1 (some .boolean), Cond.methodLink RJ0 495 yJ1_charAt_3b067, Cond.static yJ1_charAt_3b067, Cond.initialized RJ1, Cond.code yJ1_charAt_3b067 cJ1_charAt_3b067 2 (some .char), Cond.methodLink RJ1 9 yJ0_checkIndex_df160, Cond.static yJ0_checkIndex_df160, Cond.code yJ0_checkIndex_df160 cJ0_checkIndex_df160 2 none, Cond.fieldLink RJ0 1053 "jdk/internal/util/Preconditions" "SIOOBE_FORMATTER" "Ljava/util/function/BiFunction;", Cond.methodLink RJ0 1059 yJ3_checkIndex_8e157, Cond.static yJ3_checkIndex_8e157, Cond.initialized RJ3, Cond.code yJ3_checkIndex_8e157 cJ3_checkIndex_8e157 3 (some .int), Cond.methodLink RJ0 498 yJ2_charAt_3b067, Cond.static yJ2_charAt_3b067, Cond.initialized RJ2, Cond.code yJ2_charAt_3b067 cJ2_charAt_3b067 2 (some .char), Cond.methodLink RJ2 67 yJ2_checkIndex_2214a, Cond.static yJ2_checkIndex_2214a, Cond.code yJ2_checkIndex_2214a cJ2_checkIndex_2214a 2 none]
def wsX4_readWord_r3 : List Cond := [Cond.methodLink RJ2 48 yJ2_length_9d52b, Cond.static yJ2_length_9d52b, Cond.code yJ2_length_9d52b cJ2_length_9d52b 1 (some .int), Cond.methodLink RJ2 414 yJ0_checkIndex_df160, Cond.methodLink RJ2 71 yJ2_getChar_3b067, Cond.static yJ2_getChar_3b067, Cond.code yJ2_getChar_3b067 cJ2_getChar_3b067 2 (some .char), Cond.fieldLink RJ2 44 "java/lang/StringUTF16" "$assertionsDisabled" "Z", Cond.fieldLink RJ2 59 "java/lang/StringUTF16" "HI_BYTE_SHIFT" "I", Cond.fieldLink RJ2 63 "java/lang/StringUTF16" "LO_BYTE_SHIFT" "I", Cond.methodLink RX4 44 yX4_fail, Cond.instanceMethod yX4_fail, Cond.selects RX4 yX4_fail yX4_fail, Cond.code yX4_fail cX4_fail 2 (some .boolean), Cond.fieldLink RX4 137 "SkiShots$Reader" "fault" "I", Cond.fieldLink RX4 31 "SkiShots$Reader" "faultPlace" "I", Cond.methodLink RX4 34 yX4_step, Cond.instanceMethod yX4_step, Cond.selects RX4 yX4_step yX4_step, Cond.code yX4_step cX4_step 1 none, Cond.fieldLink RX4 21 "SkiShots$Reader" "length" "I", Cond.methodLink RX4 15 Lib.Math.min.name, Cond.static Lib.Math.min.name, Cond.initialized "java/lang/Math"]
def wsX4_readWord_r4 : List Cond := [Cond.code Lib.Math.min.name Lib.Math.min.code 2 (some .int), Cond.methodLink RX4 149 yX4_sortAt, Cond.instanceMethod yX4_sortAt, Cond.selects RX4 yX4_sortAt yX4_sortAt, Cond.code yX4_sortAt cX4_sortAt 3 (some .int)]
def wsX4_readWord : List Cond := .code yX4_readWord cX4_readWord 2 (some .boolean) :: ((wsX4_readWord_r1 ++ (wsX4_readWord_r2 ++ (wsX4_readWord_r3 ++ wsX4_readWord_r4))) ++ wsX40)
def wsX4_readSign : List Cond := .code yX4_readSign cX4_readSign 2 (some .boolean) :: ([.fieldLink RX4 37 "SkiShots$Reader" "sort" "I", .fieldLink RX4 9 "SkiShots$Reader" "text" "[B", .fieldLink RX4 54 "SkiShots$Reader" "place" "I", .methodLink RX4 44 yX4_fail, .instanceMethod yX4_fail, .selects RX4 yX4_fail yX4_fail, .initialized RX4, .code yX4_fail cX4_fail 2 (some .boolean), .fieldLink RX4 137 "SkiShots$Reader" "fault" "I", .fieldLink RX4 31 "SkiShots$Reader" "faultPlace" "I", .methodLink RX4 34 yX4_step, .instanceMethod yX4_step, .selects RX4 yX4_step yX4_step, .code yX4_step cX4_step 1 none, .fieldLink RX4 133 "SkiShots$Reader" "behind" "I", .fieldLink RX4 21 "SkiShots$Reader" "length" "I", .methodLink RX4 15 Lib.Math.min.name, .static Lib.Math.min.name, .initialized "java/lang/Math", .code Lib.Math.min.name Lib.Math.min.code 2 (some .int), .methodLink RX4 149 yX4_sortAt, .instanceMethod yX4_sortAt, .selects RX4 yX4_sortAt yX4_sortAt, .code yX4_sortAt cX4_sortAt 3 (some .int)] ++ wsX40)
def wsX4_readNumber_r1 : List Cond := [Cond.fieldLink RX4 37 "SkiShots$Reader" "sort" "I", Cond.fieldLink RX4 89 "SkiShots$Reader" "number" "I", Cond.fieldLink RX4 54 "SkiShots$Reader" "place" "I", Cond.fieldLink RX4 133 "SkiShots$Reader" "behind" "I", Cond.fieldLink RX4 9 "SkiShots$Reader" "text" "[B", Cond.constant RX4 136 (100000), Cond.methodLink RX4 15 Lib.Math.min.name, Cond.static Lib.Math.min.name, Cond.initialized "java/lang/Math", Cond.code Lib.Math.min.name Lib.Math.min.code 2 (some .int), Cond.methodLink RX4 44 yX4_fail, Cond.instanceMethod yX4_fail, Cond.selects RX4 yX4_fail yX4_fail, Cond.initialized RX4, Cond.code yX4_fail cX4_fail 2 (some .boolean), Cond.fieldLink RX4 137 "SkiShots$Reader" "fault" "I", Cond.fieldLink RX4 31 "SkiShots$Reader" "faultPlace" "I", Cond.methodLink RX4 34 yX4_step, Cond.instanceMethod yX4_step, Cond.selects RX4 yX4_step yX4_step, Cond.code yX4_step cX4_step 1 none, Cond.fieldLink RX4 21 "SkiShots$Reader" "length" "I", Cond.methodLink RX4 149 yX4_sortAt, Cond.instanceMethod yX4_sortAt]
def wsX4_readNumber_r2 : List Cond := [Cond.selects RX4 yX4_sortAt yX4_sortAt, Cond.code yX4_sortAt cX4_sortAt 3 (some .int)]
def wsX4_readNumber : List Cond := .code yX4_readNumber cX4_readNumber 4 (some .boolean) :: ((wsX4_readNumber_r1 ++ wsX4_readNumber_r2) ++ wsX40)
def wsX4_readLaps_r1 : List Cond := [Cond.fieldLink RX4 89 "SkiShots$Reader" "number" "I", Cond.fieldLink RX4 92 "SkiShots$Format" "laps" "I", Cond.methodLink RX4 50 yX4_readWord, Cond.instanceMethod yX4_readWord, Cond.selects RX4 yX4_readWord yX4_readWord, Cond.initialized RX4, Cond.code yX4_readWord cX4_readWord 2 (some .boolean), Cond.methodLink RX4 107 yX4_isWord, Cond.instanceMethod yX4_isWord, Cond.selects RX4 yX4_isWord yX4_isWord, Cond.code yX4_isWord cX4_isWord 3 (some .boolean), Cond.fieldLink RX4 37 "SkiShots$Reader" "sort" "I", Cond.fieldLink RX4 133 "SkiShots$Reader" "behind" "I", Cond.fieldLink RX4 54 "SkiShots$Reader" "place" "I", Cond.fieldLink RX4 9 "SkiShots$Reader" "text" "[B", Cond.methodLink RX4 140 yJ0_length_8abf5, Cond.instanceMethod yJ0_length_8abf5, Cond.selects RJ0 yJ0_length_8abf5 yJ0_length_8abf5, Cond.initialized RJ0, Cond.code yJ0_length_8abf5 cJ0_length_8abf5 1 (some .int), Cond.fieldLink RJ0 9 "java/lang/String" "value" "[B", Cond.methodLink RJ0 335 yJ0_coder_7d493, Cond.instanceMethod yJ0_coder_7d493, Cond.selects RJ0 yJ0_coder_7d493 yJ0_coder_7d493]
def wsX4_readLaps_r2 : List Cond := [Cond.code yJ0_coder_7d493 cJ0_coder_7d493 1 (some .byte), Cond.fieldLink RJ0 38 "java/lang/String" "COMPACT_STRINGS" "Z", Cond.fieldLink RJ0 15 "java/lang/String" "coder" "B", Cond.methodLink RX4 145 yJ0_charAt_5068e, Cond.instanceMethod yJ0_charAt_5068e, Cond.selects RJ0 yJ0_charAt_5068e yJ0_charAt_5068e, Cond.code yJ0_charAt_5068e cJ0_charAt_5068e 2 (some .char), Cond.methodLink RJ0 492 yJ0_isLatin1_aae02, Cond.instanceMethod yJ0_isLatin1_aae02, Cond.selects RJ0 yJ0_isLatin1_aae02 yJ0_isLatin1_aae02, Cond.code yJ0_isLatin1_aae02 cJ0_isLatin1_aae02 1 (some .boolean), Cond.methodLink RJ0 495 yJ1_charAt_3b067, Cond.static yJ1_charAt_3b067, Cond.initialized RJ1, Cond.code yJ1_charAt_3b067 cJ1_charAt_3b067 2 (some .char), Cond.methodLink RJ1 9 yJ0_checkIndex_df160, Cond.static yJ0_checkIndex_df160, Cond.code yJ0_checkIndex_df160 cJ0_checkIndex_df160 2 none, Cond.fieldLink RJ0 1053 "jdk/internal/util/Preconditions" "SIOOBE_FORMATTER" "Ljava/util/function/BiFunction;", Cond.methodLink RJ0 1059 yJ3_checkIndex_8e157, Cond.static yJ3_checkIndex_8e157, Cond.initialized RJ3, Cond.code yJ3_checkIndex_8e157 cJ3_checkIndex_8e157 3 (some .int), Cond.methodLink RJ0 498 yJ2_charAt_3b067]
def wsX4_readLaps_r3 : List Cond := [Cond.static yJ2_charAt_3b067, Cond.initialized RJ2, Cond.code yJ2_charAt_3b067 cJ2_charAt_3b067 2 (some .char), Cond.methodLink RJ2 67 yJ2_checkIndex_2214a, Cond.static yJ2_checkIndex_2214a, Cond.code yJ2_checkIndex_2214a cJ2_checkIndex_2214a 2 none, Cond.methodLink RJ2 48 yJ2_length_9d52b, Cond.static yJ2_length_9d52b, Cond.code yJ2_length_9d52b cJ2_length_9d52b 1 (some .int), Cond.methodLink RJ2 414 yJ0_checkIndex_df160, Cond.methodLink RJ2 71 yJ2_getChar_3b067, Cond.static yJ2_getChar_3b067, Cond.code yJ2_getChar_3b067 cJ2_getChar_3b067 2 (some .char), Cond.fieldLink RJ2 44 "java/lang/StringUTF16" "$assertionsDisabled" "Z", Cond.fieldLink RJ2 59 "java/lang/StringUTF16" "HI_BYTE_SHIFT" "I", Cond.fieldLink RJ2 63 "java/lang/StringUTF16" "LO_BYTE_SHIFT" "I", Cond.methodLink RX4 44 yX4_fail, Cond.instanceMethod yX4_fail, Cond.selects RX4 yX4_fail yX4_fail, Cond.code yX4_fail cX4_fail 2 (some .boolean), Cond.fieldLink RX4 137 "SkiShots$Reader" "fault" "I", Cond.fieldLink RX4 31 "SkiShots$Reader" "faultPlace" "I", Cond.methodLink RX4 34 yX4_step, Cond.instanceMethod yX4_step]
def wsX4_readLaps_r4 : List Cond := [Cond.selects RX4 yX4_step yX4_step, Cond.code yX4_step cX4_step 1 none, Cond.fieldLink RX4 21 "SkiShots$Reader" "length" "I", Cond.methodLink RX4 15 Lib.Math.min.name, Cond.static Lib.Math.min.name, Cond.initialized "java/lang/Math", Cond.code Lib.Math.min.name Lib.Math.min.code 2 (some .int), Cond.methodLink RX4 149 yX4_sortAt, Cond.instanceMethod yX4_sortAt, Cond.selects RX4 yX4_sortAt yX4_sortAt, Cond.code yX4_sortAt cX4_sortAt 3 (some .int), Cond.methodLink RX4 85 yX4_readNumber, Cond.instanceMethod yX4_readNumber, Cond.selects RX4 yX4_readNumber yX4_readNumber, Cond.code yX4_readNumber cX4_readNumber 4 (some .boolean), Cond.constant RX4 136 (100000)]
def wsX4_readLaps : List Cond := .code yX4_readLaps cX4_readLaps 2 (some .boolean) :: ((wsX4_readLaps_r1 ++ (wsX4_readLaps_r2 ++ (wsX4_readLaps_r3 ++ wsX4_readLaps_r4))) ++ wsX40 ++ wsX20)
def wsX4_readShootings_r1 : List Cond := [Cond.fieldLink RX4 37 "SkiShots$Reader" "sort" "I", Cond.fieldLink RX4 92 "SkiShots$Format" "laps" "I", Cond.fieldLink RX4 89 "SkiShots$Reader" "number" "I", Cond.fieldLink RX4 96 "SkiShots$Format" "shootings" "I", Cond.methodLink RX4 50 yX4_readWord, Cond.instanceMethod yX4_readWord, Cond.selects RX4 yX4_readWord yX4_readWord, Cond.initialized RX4, Cond.code yX4_readWord cX4_readWord 2 (some .boolean), Cond.methodLink RX4 107 yX4_isWord, Cond.instanceMethod yX4_isWord, Cond.selects RX4 yX4_isWord yX4_isWord, Cond.code yX4_isWord cX4_isWord 3 (some .boolean), Cond.fieldLink RX4 133 "SkiShots$Reader" "behind" "I", Cond.fieldLink RX4 54 "SkiShots$Reader" "place" "I", Cond.fieldLink RX4 9 "SkiShots$Reader" "text" "[B", Cond.methodLink RX4 140 yJ0_length_8abf5, Cond.instanceMethod yJ0_length_8abf5, Cond.selects RJ0 yJ0_length_8abf5 yJ0_length_8abf5, Cond.initialized RJ0, Cond.code yJ0_length_8abf5 cJ0_length_8abf5 1 (some .int), Cond.fieldLink RJ0 9 "java/lang/String" "value" "[B", Cond.methodLink RJ0 335 yJ0_coder_7d493, Cond.instanceMethod yJ0_coder_7d493]
def wsX4_readShootings_r2 : List Cond := [Cond.selects RJ0 yJ0_coder_7d493 yJ0_coder_7d493, Cond.code yJ0_coder_7d493 cJ0_coder_7d493 1 (some .byte), Cond.fieldLink RJ0 38 "java/lang/String" "COMPACT_STRINGS" "Z", Cond.fieldLink RJ0 15 "java/lang/String" "coder" "B", Cond.methodLink RX4 145 yJ0_charAt_5068e, Cond.instanceMethod yJ0_charAt_5068e, Cond.selects RJ0 yJ0_charAt_5068e yJ0_charAt_5068e, Cond.code yJ0_charAt_5068e cJ0_charAt_5068e 2 (some .char), Cond.methodLink RJ0 492 yJ0_isLatin1_aae02, Cond.instanceMethod yJ0_isLatin1_aae02, Cond.selects RJ0 yJ0_isLatin1_aae02 yJ0_isLatin1_aae02, Cond.code yJ0_isLatin1_aae02 cJ0_isLatin1_aae02 1 (some .boolean), Cond.methodLink RJ0 495 yJ1_charAt_3b067, Cond.static yJ1_charAt_3b067, Cond.initialized RJ1, Cond.code yJ1_charAt_3b067 cJ1_charAt_3b067 2 (some .char), Cond.methodLink RJ1 9 yJ0_checkIndex_df160, Cond.static yJ0_checkIndex_df160, Cond.code yJ0_checkIndex_df160 cJ0_checkIndex_df160 2 none, Cond.fieldLink RJ0 1053 "jdk/internal/util/Preconditions" "SIOOBE_FORMATTER" "Ljava/util/function/BiFunction;", Cond.methodLink RJ0 1059 yJ3_checkIndex_8e157, Cond.static yJ3_checkIndex_8e157, Cond.initialized RJ3, Cond.code yJ3_checkIndex_8e157 cJ3_checkIndex_8e157 3 (some .int)]
def wsX4_readShootings_r3 : List Cond := [Cond.methodLink RJ0 498 yJ2_charAt_3b067, Cond.static yJ2_charAt_3b067, Cond.initialized RJ2, Cond.code yJ2_charAt_3b067 cJ2_charAt_3b067 2 (some .char), Cond.methodLink RJ2 67 yJ2_checkIndex_2214a, Cond.static yJ2_checkIndex_2214a, Cond.code yJ2_checkIndex_2214a cJ2_checkIndex_2214a 2 none, Cond.methodLink RJ2 48 yJ2_length_9d52b, Cond.static yJ2_length_9d52b, Cond.code yJ2_length_9d52b cJ2_length_9d52b 1 (some .int), Cond.methodLink RJ2 414 yJ0_checkIndex_df160, Cond.methodLink RJ2 71 yJ2_getChar_3b067, Cond.static yJ2_getChar_3b067, Cond.code yJ2_getChar_3b067 cJ2_getChar_3b067 2 (some .char), Cond.fieldLink RJ2 44 "java/lang/StringUTF16" "$assertionsDisabled" "Z", Cond.fieldLink RJ2 59 "java/lang/StringUTF16" "HI_BYTE_SHIFT" "I", Cond.fieldLink RJ2 63 "java/lang/StringUTF16" "LO_BYTE_SHIFT" "I", Cond.methodLink RX4 44 yX4_fail, Cond.instanceMethod yX4_fail, Cond.selects RX4 yX4_fail yX4_fail, Cond.code yX4_fail cX4_fail 2 (some .boolean), Cond.fieldLink RX4 137 "SkiShots$Reader" "fault" "I", Cond.fieldLink RX4 31 "SkiShots$Reader" "faultPlace" "I", Cond.methodLink RX4 34 yX4_step]
def wsX4_readShootings_r4 : List Cond := [Cond.instanceMethod yX4_step, Cond.selects RX4 yX4_step yX4_step, Cond.code yX4_step cX4_step 1 none, Cond.fieldLink RX4 21 "SkiShots$Reader" "length" "I", Cond.methodLink RX4 15 Lib.Math.min.name, Cond.static Lib.Math.min.name, Cond.initialized "java/lang/Math", Cond.code Lib.Math.min.name Lib.Math.min.code 2 (some .int), Cond.methodLink RX4 149 yX4_sortAt, Cond.instanceMethod yX4_sortAt, Cond.selects RX4 yX4_sortAt yX4_sortAt, Cond.code yX4_sortAt cX4_sortAt 3 (some .int), Cond.methodLink RX4 85 yX4_readNumber, Cond.instanceMethod yX4_readNumber, Cond.selects RX4 yX4_readNumber yX4_readNumber, Cond.code yX4_readNumber cX4_readNumber 4 (some .boolean), Cond.constant RX4 136 (100000)]
def wsX4_readShootings : List Cond := .code yX4_readShootings cX4_readShootings 4 (some .boolean) :: ((wsX4_readShootings_r1 ++ (wsX4_readShootings_r2 ++ (wsX4_readShootings_r3 ++ wsX4_readShootings_r4))) ++ wsX40 ++ wsX20)
def wsX4_readSpares_r1 : List Cond := [Cond.fieldLink RX4 89 "SkiShots$Reader" "number" "I", Cond.fieldLink RX4 101 "SkiShots$Format" "spares" "I", Cond.methodLink RX4 50 yX4_readWord, Cond.instanceMethod yX4_readWord, Cond.selects RX4 yX4_readWord yX4_readWord, Cond.initialized RX4, Cond.code yX4_readWord cX4_readWord 2 (some .boolean), Cond.methodLink RX4 107 yX4_isWord, Cond.instanceMethod yX4_isWord, Cond.selects RX4 yX4_isWord yX4_isWord, Cond.code yX4_isWord cX4_isWord 3 (some .boolean), Cond.fieldLink RX4 37 "SkiShots$Reader" "sort" "I", Cond.fieldLink RX4 133 "SkiShots$Reader" "behind" "I", Cond.fieldLink RX4 54 "SkiShots$Reader" "place" "I", Cond.fieldLink RX4 9 "SkiShots$Reader" "text" "[B", Cond.methodLink RX4 140 yJ0_length_8abf5, Cond.instanceMethod yJ0_length_8abf5, Cond.selects RJ0 yJ0_length_8abf5 yJ0_length_8abf5, Cond.initialized RJ0, Cond.code yJ0_length_8abf5 cJ0_length_8abf5 1 (some .int), Cond.fieldLink RJ0 9 "java/lang/String" "value" "[B", Cond.methodLink RJ0 335 yJ0_coder_7d493, Cond.instanceMethod yJ0_coder_7d493, Cond.selects RJ0 yJ0_coder_7d493 yJ0_coder_7d493]
def wsX4_readSpares_r2 : List Cond := [Cond.code yJ0_coder_7d493 cJ0_coder_7d493 1 (some .byte), Cond.fieldLink RJ0 38 "java/lang/String" "COMPACT_STRINGS" "Z", Cond.fieldLink RJ0 15 "java/lang/String" "coder" "B", Cond.methodLink RX4 145 yJ0_charAt_5068e, Cond.instanceMethod yJ0_charAt_5068e, Cond.selects RJ0 yJ0_charAt_5068e yJ0_charAt_5068e, Cond.code yJ0_charAt_5068e cJ0_charAt_5068e 2 (some .char), Cond.methodLink RJ0 492 yJ0_isLatin1_aae02, Cond.instanceMethod yJ0_isLatin1_aae02, Cond.selects RJ0 yJ0_isLatin1_aae02 yJ0_isLatin1_aae02, Cond.code yJ0_isLatin1_aae02 cJ0_isLatin1_aae02 1 (some .boolean), Cond.methodLink RJ0 495 yJ1_charAt_3b067, Cond.static yJ1_charAt_3b067, Cond.initialized RJ1, Cond.code yJ1_charAt_3b067 cJ1_charAt_3b067 2 (some .char), Cond.methodLink RJ1 9 yJ0_checkIndex_df160, Cond.static yJ0_checkIndex_df160, Cond.code yJ0_checkIndex_df160 cJ0_checkIndex_df160 2 none, Cond.fieldLink RJ0 1053 "jdk/internal/util/Preconditions" "SIOOBE_FORMATTER" "Ljava/util/function/BiFunction;", Cond.methodLink RJ0 1059 yJ3_checkIndex_8e157, Cond.static yJ3_checkIndex_8e157, Cond.initialized RJ3, Cond.code yJ3_checkIndex_8e157 cJ3_checkIndex_8e157 3 (some .int), Cond.methodLink RJ0 498 yJ2_charAt_3b067]
def wsX4_readSpares_r3 : List Cond := [Cond.static yJ2_charAt_3b067, Cond.initialized RJ2, Cond.code yJ2_charAt_3b067 cJ2_charAt_3b067 2 (some .char), Cond.methodLink RJ2 67 yJ2_checkIndex_2214a, Cond.static yJ2_checkIndex_2214a, Cond.code yJ2_checkIndex_2214a cJ2_checkIndex_2214a 2 none, Cond.methodLink RJ2 48 yJ2_length_9d52b, Cond.static yJ2_length_9d52b, Cond.code yJ2_length_9d52b cJ2_length_9d52b 1 (some .int), Cond.methodLink RJ2 414 yJ0_checkIndex_df160, Cond.methodLink RJ2 71 yJ2_getChar_3b067, Cond.static yJ2_getChar_3b067, Cond.code yJ2_getChar_3b067 cJ2_getChar_3b067 2 (some .char), Cond.fieldLink RJ2 44 "java/lang/StringUTF16" "$assertionsDisabled" "Z", Cond.fieldLink RJ2 59 "java/lang/StringUTF16" "HI_BYTE_SHIFT" "I", Cond.fieldLink RJ2 63 "java/lang/StringUTF16" "LO_BYTE_SHIFT" "I", Cond.methodLink RX4 44 yX4_fail, Cond.instanceMethod yX4_fail, Cond.selects RX4 yX4_fail yX4_fail, Cond.code yX4_fail cX4_fail 2 (some .boolean), Cond.fieldLink RX4 137 "SkiShots$Reader" "fault" "I", Cond.fieldLink RX4 31 "SkiShots$Reader" "faultPlace" "I", Cond.methodLink RX4 34 yX4_step, Cond.instanceMethod yX4_step]
def wsX4_readSpares_r4 : List Cond := [Cond.selects RX4 yX4_step yX4_step, Cond.code yX4_step cX4_step 1 none, Cond.fieldLink RX4 21 "SkiShots$Reader" "length" "I", Cond.methodLink RX4 15 Lib.Math.min.name, Cond.static Lib.Math.min.name, Cond.initialized "java/lang/Math", Cond.code Lib.Math.min.name Lib.Math.min.code 2 (some .int), Cond.methodLink RX4 149 yX4_sortAt, Cond.instanceMethod yX4_sortAt, Cond.selects RX4 yX4_sortAt yX4_sortAt, Cond.code yX4_sortAt cX4_sortAt 3 (some .int), Cond.methodLink RX4 85 yX4_readNumber, Cond.instanceMethod yX4_readNumber, Cond.selects RX4 yX4_readNumber yX4_readNumber, Cond.code yX4_readNumber cX4_readNumber 4 (some .boolean), Cond.constant RX4 136 (100000)]
def wsX4_readSpares : List Cond := .code yX4_readSpares cX4_readSpares 2 (some .boolean) :: ((wsX4_readSpares_r1 ++ (wsX4_readSpares_r2 ++ (wsX4_readSpares_r3 ++ wsX4_readSpares_r4))) ++ wsX40 ++ wsX20)
def wsX4_readMiss_r1 : List Cond := [Cond.fieldLink RX4 110 "SkiShots$Format" "loops" "Z", Cond.fieldLink RX4 89 "SkiShots$Reader" "number" "I", Cond.fieldLink RX4 116 "SkiShots$Format" "missSeconds" "I", Cond.methodLink RX4 50 yX4_readWord, Cond.instanceMethod yX4_readWord, Cond.selects RX4 yX4_readWord yX4_readWord, Cond.initialized RX4, Cond.code yX4_readWord cX4_readWord 2 (some .boolean), Cond.methodLink RX4 107 yX4_isWord, Cond.instanceMethod yX4_isWord, Cond.selects RX4 yX4_isWord yX4_isWord, Cond.code yX4_isWord cX4_isWord 3 (some .boolean), Cond.fieldLink RX4 37 "SkiShots$Reader" "sort" "I", Cond.fieldLink RX4 133 "SkiShots$Reader" "behind" "I", Cond.fieldLink RX4 54 "SkiShots$Reader" "place" "I", Cond.fieldLink RX4 9 "SkiShots$Reader" "text" "[B", Cond.methodLink RX4 140 yJ0_length_8abf5, Cond.instanceMethod yJ0_length_8abf5, Cond.selects RJ0 yJ0_length_8abf5 yJ0_length_8abf5, Cond.initialized RJ0, Cond.code yJ0_length_8abf5 cJ0_length_8abf5 1 (some .int), Cond.fieldLink RJ0 9 "java/lang/String" "value" "[B", Cond.methodLink RJ0 335 yJ0_coder_7d493, Cond.instanceMethod yJ0_coder_7d493]
def wsX4_readMiss_r2 : List Cond := [Cond.selects RJ0 yJ0_coder_7d493 yJ0_coder_7d493, Cond.code yJ0_coder_7d493 cJ0_coder_7d493 1 (some .byte), Cond.fieldLink RJ0 38 "java/lang/String" "COMPACT_STRINGS" "Z", Cond.fieldLink RJ0 15 "java/lang/String" "coder" "B", Cond.methodLink RX4 145 yJ0_charAt_5068e, Cond.instanceMethod yJ0_charAt_5068e, Cond.selects RJ0 yJ0_charAt_5068e yJ0_charAt_5068e, Cond.code yJ0_charAt_5068e cJ0_charAt_5068e 2 (some .char), Cond.methodLink RJ0 492 yJ0_isLatin1_aae02, Cond.instanceMethod yJ0_isLatin1_aae02, Cond.selects RJ0 yJ0_isLatin1_aae02 yJ0_isLatin1_aae02, Cond.code yJ0_isLatin1_aae02 cJ0_isLatin1_aae02 1 (some .boolean), Cond.methodLink RJ0 495 yJ1_charAt_3b067, Cond.static yJ1_charAt_3b067, Cond.initialized RJ1, Cond.code yJ1_charAt_3b067 cJ1_charAt_3b067 2 (some .char), Cond.methodLink RJ1 9 yJ0_checkIndex_df160, Cond.static yJ0_checkIndex_df160, Cond.code yJ0_checkIndex_df160 cJ0_checkIndex_df160 2 none, Cond.fieldLink RJ0 1053 "jdk/internal/util/Preconditions" "SIOOBE_FORMATTER" "Ljava/util/function/BiFunction;", Cond.methodLink RJ0 1059 yJ3_checkIndex_8e157, Cond.static yJ3_checkIndex_8e157, Cond.initialized RJ3, Cond.code yJ3_checkIndex_8e157 cJ3_checkIndex_8e157 3 (some .int)]
def wsX4_readMiss_r3 : List Cond := [Cond.methodLink RJ0 498 yJ2_charAt_3b067, Cond.static yJ2_charAt_3b067, Cond.initialized RJ2, Cond.code yJ2_charAt_3b067 cJ2_charAt_3b067 2 (some .char), Cond.methodLink RJ2 67 yJ2_checkIndex_2214a, Cond.static yJ2_checkIndex_2214a, Cond.code yJ2_checkIndex_2214a cJ2_checkIndex_2214a 2 none, Cond.methodLink RJ2 48 yJ2_length_9d52b, Cond.static yJ2_length_9d52b, Cond.code yJ2_length_9d52b cJ2_length_9d52b 1 (some .int), Cond.methodLink RJ2 414 yJ0_checkIndex_df160, Cond.methodLink RJ2 71 yJ2_getChar_3b067, Cond.static yJ2_getChar_3b067, Cond.code yJ2_getChar_3b067 cJ2_getChar_3b067 2 (some .char), Cond.fieldLink RJ2 44 "java/lang/StringUTF16" "$assertionsDisabled" "Z", Cond.fieldLink RJ2 59 "java/lang/StringUTF16" "HI_BYTE_SHIFT" "I", Cond.fieldLink RJ2 63 "java/lang/StringUTF16" "LO_BYTE_SHIFT" "I", Cond.methodLink RX4 44 yX4_fail, Cond.instanceMethod yX4_fail, Cond.selects RX4 yX4_fail yX4_fail, Cond.code yX4_fail cX4_fail 2 (some .boolean), Cond.fieldLink RX4 137 "SkiShots$Reader" "fault" "I", Cond.fieldLink RX4 31 "SkiShots$Reader" "faultPlace" "I", Cond.methodLink RX4 34 yX4_step]
def wsX4_readMiss_r4 : List Cond := [Cond.instanceMethod yX4_step, Cond.selects RX4 yX4_step yX4_step, Cond.code yX4_step cX4_step 1 none, Cond.fieldLink RX4 21 "SkiShots$Reader" "length" "I", Cond.methodLink RX4 15 Lib.Math.min.name, Cond.static Lib.Math.min.name, Cond.initialized "java/lang/Math", Cond.code Lib.Math.min.name Lib.Math.min.code 2 (some .int), Cond.methodLink RX4 149 yX4_sortAt, Cond.instanceMethod yX4_sortAt, Cond.selects RX4 yX4_sortAt yX4_sortAt, Cond.code yX4_sortAt cX4_sortAt 3 (some .int), Cond.methodLink RX4 85 yX4_readNumber, Cond.instanceMethod yX4_readNumber, Cond.selects RX4 yX4_readNumber yX4_readNumber, Cond.code yX4_readNumber cX4_readNumber 4 (some .boolean), Cond.constant RX4 136 (100000)]
def wsX4_readMiss : List Cond := .code yX4_readMiss cX4_readMiss 2 (some .boolean) :: ((wsX4_readMiss_r1 ++ (wsX4_readMiss_r2 ++ (wsX4_readMiss_r3 ++ wsX4_readMiss_r4))) ++ wsX20 ++ wsX40)
def wsX4_readStart_r1 : List Cond := [Cond.fieldLink RX4 123 "SkiShots$Format" "startSort" "I", Cond.fieldLink RX4 89 "SkiShots$Reader" "number" "I", Cond.fieldLink RX4 130 "SkiShots$Format" "startSeconds" "I", Cond.methodLink RX4 50 yX4_readWord, Cond.instanceMethod yX4_readWord, Cond.selects RX4 yX4_readWord yX4_readWord, Cond.initialized RX4, Cond.code yX4_readWord cX4_readWord 2 (some .boolean), Cond.methodLink RX4 107 yX4_isWord, Cond.instanceMethod yX4_isWord, Cond.selects RX4 yX4_isWord yX4_isWord, Cond.code yX4_isWord cX4_isWord 3 (some .boolean), Cond.fieldLink RX4 37 "SkiShots$Reader" "sort" "I", Cond.fieldLink RX4 133 "SkiShots$Reader" "behind" "I", Cond.fieldLink RX4 54 "SkiShots$Reader" "place" "I", Cond.fieldLink RX4 9 "SkiShots$Reader" "text" "[B", Cond.methodLink RX4 140 yJ0_length_8abf5, Cond.instanceMethod yJ0_length_8abf5, Cond.selects RJ0 yJ0_length_8abf5 yJ0_length_8abf5, Cond.initialized RJ0, Cond.code yJ0_length_8abf5 cJ0_length_8abf5 1 (some .int), Cond.fieldLink RJ0 9 "java/lang/String" "value" "[B", Cond.methodLink RJ0 335 yJ0_coder_7d493, Cond.instanceMethod yJ0_coder_7d493]
def wsX4_readStart_r2 : List Cond := [Cond.selects RJ0 yJ0_coder_7d493 yJ0_coder_7d493, Cond.code yJ0_coder_7d493 cJ0_coder_7d493 1 (some .byte), Cond.fieldLink RJ0 38 "java/lang/String" "COMPACT_STRINGS" "Z", Cond.fieldLink RJ0 15 "java/lang/String" "coder" "B", Cond.methodLink RX4 145 yJ0_charAt_5068e, Cond.instanceMethod yJ0_charAt_5068e, Cond.selects RJ0 yJ0_charAt_5068e yJ0_charAt_5068e, Cond.code yJ0_charAt_5068e cJ0_charAt_5068e 2 (some .char), Cond.methodLink RJ0 492 yJ0_isLatin1_aae02, Cond.instanceMethod yJ0_isLatin1_aae02, Cond.selects RJ0 yJ0_isLatin1_aae02 yJ0_isLatin1_aae02, Cond.code yJ0_isLatin1_aae02 cJ0_isLatin1_aae02 1 (some .boolean), Cond.methodLink RJ0 495 yJ1_charAt_3b067, Cond.static yJ1_charAt_3b067, Cond.initialized RJ1, Cond.code yJ1_charAt_3b067 cJ1_charAt_3b067 2 (some .char), Cond.methodLink RJ1 9 yJ0_checkIndex_df160, Cond.static yJ0_checkIndex_df160, Cond.code yJ0_checkIndex_df160 cJ0_checkIndex_df160 2 none, Cond.fieldLink RJ0 1053 "jdk/internal/util/Preconditions" "SIOOBE_FORMATTER" "Ljava/util/function/BiFunction;", Cond.methodLink RJ0 1059 yJ3_checkIndex_8e157, Cond.static yJ3_checkIndex_8e157, Cond.initialized RJ3, Cond.code yJ3_checkIndex_8e157 cJ3_checkIndex_8e157 3 (some .int)]
def wsX4_readStart_r3 : List Cond := [Cond.methodLink RJ0 498 yJ2_charAt_3b067, Cond.static yJ2_charAt_3b067, Cond.initialized RJ2, Cond.code yJ2_charAt_3b067 cJ2_charAt_3b067 2 (some .char), Cond.methodLink RJ2 67 yJ2_checkIndex_2214a, Cond.static yJ2_checkIndex_2214a, Cond.code yJ2_checkIndex_2214a cJ2_checkIndex_2214a 2 none, Cond.methodLink RJ2 48 yJ2_length_9d52b, Cond.static yJ2_length_9d52b, Cond.code yJ2_length_9d52b cJ2_length_9d52b 1 (some .int), Cond.methodLink RJ2 414 yJ0_checkIndex_df160, Cond.methodLink RJ2 71 yJ2_getChar_3b067, Cond.static yJ2_getChar_3b067, Cond.code yJ2_getChar_3b067 cJ2_getChar_3b067 2 (some .char), Cond.fieldLink RJ2 44 "java/lang/StringUTF16" "$assertionsDisabled" "Z", Cond.fieldLink RJ2 59 "java/lang/StringUTF16" "HI_BYTE_SHIFT" "I", Cond.fieldLink RJ2 63 "java/lang/StringUTF16" "LO_BYTE_SHIFT" "I", Cond.methodLink RX4 44 yX4_fail, Cond.instanceMethod yX4_fail, Cond.selects RX4 yX4_fail yX4_fail, Cond.code yX4_fail cX4_fail 2 (some .boolean), Cond.fieldLink RX4 137 "SkiShots$Reader" "fault" "I", Cond.fieldLink RX4 31 "SkiShots$Reader" "faultPlace" "I", Cond.methodLink RX4 34 yX4_step]
def wsX4_readStart_r4 : List Cond := [Cond.instanceMethod yX4_step, Cond.selects RX4 yX4_step yX4_step, Cond.code yX4_step cX4_step 1 none, Cond.fieldLink RX4 21 "SkiShots$Reader" "length" "I", Cond.methodLink RX4 15 Lib.Math.min.name, Cond.static Lib.Math.min.name, Cond.initialized "java/lang/Math", Cond.code Lib.Math.min.name Lib.Math.min.code 2 (some .int), Cond.methodLink RX4 149 yX4_sortAt, Cond.instanceMethod yX4_sortAt, Cond.selects RX4 yX4_sortAt yX4_sortAt, Cond.code yX4_sortAt cX4_sortAt 3 (some .int), Cond.methodLink RX4 85 yX4_readNumber, Cond.instanceMethod yX4_readNumber, Cond.selects RX4 yX4_readNumber yX4_readNumber, Cond.code yX4_readNumber cX4_readNumber 4 (some .boolean), Cond.constant RX4 136 (100000)]
def wsX4_readStart : List Cond := .code yX4_readStart cX4_readStart 3 (some .boolean) :: ((wsX4_readStart_r1 ++ (wsX4_readStart_r2 ++ (wsX4_readStart_r3 ++ wsX4_readStart_r4))) ++ wsX20 ++ wsX40)
def wsX4_readFormat_r1 : List Cond := [Cond.fieldLink RX4 37 "SkiShots$Reader" "sort" "I", Cond.fieldLink RX4 9 "SkiShots$Reader" "text" "[B", Cond.fieldLink RX4 54 "SkiShots$Reader" "place" "I", Cond.fieldLink RX4 27 "SkiShots$Reader" "found" "[LSkiShots$Format;", Cond.classLink RX4 25 RX2, Cond.instantiable RX2 8, Cond.initialized RX2, Cond.fieldLink RX4 60 "SkiShots$Reader" "foundCount" "I", Cond.methodLink RX4 50 yX4_readWord, Cond.instanceMethod yX4_readWord, Cond.selects RX4 yX4_readWord yX4_readWord, Cond.initialized RX4, Cond.code yX4_readWord cX4_readWord 2 (some .boolean), Cond.methodLink RX4 107 yX4_isWord, Cond.instanceMethod yX4_isWord, Cond.selects RX4 yX4_isWord yX4_isWord, Cond.code yX4_isWord cX4_isWord 3 (some .boolean), Cond.fieldLink RX4 133 "SkiShots$Reader" "behind" "I", Cond.methodLink RX4 140 yJ0_length_8abf5, Cond.instanceMethod yJ0_length_8abf5, Cond.selects RJ0 yJ0_length_8abf5 yJ0_length_8abf5, Cond.initialized RJ0, Cond.code yJ0_length_8abf5 cJ0_length_8abf5 1 (some .int), Cond.fieldLink RJ0 9 "java/lang/String" "value" "[B"]
def wsX4_readFormat_r2 : List Cond := [Cond.methodLink RJ0 335 yJ0_coder_7d493, Cond.instanceMethod yJ0_coder_7d493, Cond.selects RJ0 yJ0_coder_7d493 yJ0_coder_7d493, Cond.code yJ0_coder_7d493 cJ0_coder_7d493 1 (some .byte), Cond.fieldLink RJ0 38 "java/lang/String" "COMPACT_STRINGS" "Z", Cond.fieldLink RJ0 15 "java/lang/String" "coder" "B", Cond.methodLink RX4 145 yJ0_charAt_5068e, Cond.instanceMethod yJ0_charAt_5068e, Cond.selects RJ0 yJ0_charAt_5068e yJ0_charAt_5068e, Cond.code yJ0_charAt_5068e cJ0_charAt_5068e 2 (some .char), Cond.methodLink RJ0 492 yJ0_isLatin1_aae02, Cond.instanceMethod yJ0_isLatin1_aae02, Cond.selects RJ0 yJ0_isLatin1_aae02 yJ0_isLatin1_aae02, Cond.code yJ0_isLatin1_aae02 cJ0_isLatin1_aae02 1 (some .boolean), Cond.methodLink RJ0 495 yJ1_charAt_3b067, Cond.static yJ1_charAt_3b067, Cond.initialized RJ1, Cond.code yJ1_charAt_3b067 cJ1_charAt_3b067 2 (some .char), Cond.methodLink RJ1 9 yJ0_checkIndex_df160, Cond.static yJ0_checkIndex_df160, Cond.code yJ0_checkIndex_df160 cJ0_checkIndex_df160 2 none, Cond.fieldLink RJ0 1053 "jdk/internal/util/Preconditions" "SIOOBE_FORMATTER" "Ljava/util/function/BiFunction;", Cond.methodLink RJ0 1059 yJ3_checkIndex_8e157, Cond.static yJ3_checkIndex_8e157]
def wsX4_readFormat_r3 : List Cond := [Cond.initialized RJ3, Cond.code yJ3_checkIndex_8e157 cJ3_checkIndex_8e157 3 (some .int), Cond.methodLink RJ0 498 yJ2_charAt_3b067, Cond.static yJ2_charAt_3b067, Cond.initialized RJ2, Cond.code yJ2_charAt_3b067 cJ2_charAt_3b067 2 (some .char), Cond.methodLink RJ2 67 yJ2_checkIndex_2214a, Cond.static yJ2_checkIndex_2214a, Cond.code yJ2_checkIndex_2214a cJ2_checkIndex_2214a 2 none, Cond.methodLink RJ2 48 yJ2_length_9d52b, Cond.static yJ2_length_9d52b, Cond.code yJ2_length_9d52b cJ2_length_9d52b 1 (some .int), Cond.methodLink RJ2 414 yJ0_checkIndex_df160, Cond.methodLink RJ2 71 yJ2_getChar_3b067, Cond.static yJ2_getChar_3b067, Cond.code yJ2_getChar_3b067 cJ2_getChar_3b067 2 (some .char), Cond.fieldLink RJ2 44 "java/lang/StringUTF16" "$assertionsDisabled" "Z", Cond.fieldLink RJ2 59 "java/lang/StringUTF16" "HI_BYTE_SHIFT" "I", Cond.fieldLink RJ2 63 "java/lang/StringUTF16" "LO_BYTE_SHIFT" "I", Cond.methodLink RX4 44 yX4_fail, Cond.instanceMethod yX4_fail, Cond.selects RX4 yX4_fail yX4_fail, Cond.code yX4_fail cX4_fail 2 (some .boolean), Cond.fieldLink RX4 137 "SkiShots$Reader" "fault" "I"]
def wsX4_readFormat_r4 : List Cond := [Cond.fieldLink RX4 31 "SkiShots$Reader" "faultPlace" "I", Cond.methodLink RX4 34 yX4_step, Cond.instanceMethod yX4_step, Cond.selects RX4 yX4_step yX4_step, Cond.code yX4_step cX4_step 1 none, Cond.fieldLink RX4 21 "SkiShots$Reader" "length" "I", Cond.methodLink RX4 15 Lib.Math.min.name, Cond.static Lib.Math.min.name, Cond.initialized "java/lang/Math", Cond.code Lib.Math.min.name Lib.Math.min.code 2 (some .int), Cond.methodLink RX4 149 yX4_sortAt, Cond.instanceMethod yX4_sortAt, Cond.selects RX4 yX4_sortAt yX4_sortAt, Cond.code yX4_sortAt cX4_sortAt 3 (some .int), Cond.methodLink RX4 57 yX2_init, Cond.instanceMethod yX2_init, Cond.code yX2_init cX2_init 2 none, Cond.methodLink RX2 3 objectInit, Cond.instanceMethod objectInit, Cond.code objectInit ⟨#[0xb1]⟩ 1 none, Cond.fieldLink RX2 9 "SkiShots$Format" "name" "I", Cond.methodLink RX4 63 yX4_readSign, Cond.instanceMethod yX4_readSign, Cond.selects RX4 yX4_readSign yX4_readSign]
def wsX4_readFormat_r5 : List Cond := [Cond.code yX4_readSign cX4_readSign 2 (some .boolean), Cond.methodLink RX4 67 yX4_readLaps, Cond.instanceMethod yX4_readLaps, Cond.selects RX4 yX4_readLaps yX4_readLaps, Cond.code yX4_readLaps cX4_readLaps 2 (some .boolean), Cond.fieldLink RX4 89 "SkiShots$Reader" "number" "I", Cond.fieldLink RX4 92 "SkiShots$Format" "laps" "I", Cond.methodLink RX4 85 yX4_readNumber, Cond.instanceMethod yX4_readNumber, Cond.selects RX4 yX4_readNumber yX4_readNumber, Cond.code yX4_readNumber cX4_readNumber 4 (some .boolean), Cond.constant RX4 136 (100000), Cond.methodLink RX4 71 yX4_readShootings, Cond.instanceMethod yX4_readShootings, Cond.selects RX4 yX4_readShootings yX4_readShootings, Cond.code yX4_readShootings cX4_readShootings 4 (some .boolean), Cond.fieldLink RX4 96 "SkiShots$Format" "shootings" "I", Cond.methodLink RX4 74 yX4_readSpares, Cond.instanceMethod yX4_readSpares, Cond.selects RX4 yX4_readSpares yX4_readSpares, Cond.code yX4_readSpares cX4_readSpares 2 (some .boolean), Cond.fieldLink RX4 101 "SkiShots$Format" "spares" "I", Cond.methodLink RX4 77 yX4_readMiss, Cond.instanceMethod yX4_readMiss]
def wsX4_readFormat_r6 : List Cond := [Cond.selects RX4 yX4_readMiss yX4_readMiss, Cond.code yX4_readMiss cX4_readMiss 2 (some .boolean), Cond.fieldLink RX4 110 "SkiShots$Format" "loops" "Z", Cond.fieldLink RX4 116 "SkiShots$Format" "missSeconds" "I", Cond.methodLink RX4 80 yX4_readStart, Cond.instanceMethod yX4_readStart, Cond.selects RX4 yX4_readStart yX4_readStart, Cond.code yX4_readStart cX4_readStart 3 (some .boolean), Cond.fieldLink RX4 123 "SkiShots$Format" "startSort" "I", Cond.fieldLink RX4 130 "SkiShots$Format" "startSeconds" "I"]
def wsX4_readFormat : List Cond := .code yX4_readFormat cX4_readFormat 3 (some .boolean) :: ((wsX4_readFormat_r1 ++ (wsX4_readFormat_r2 ++ (wsX4_readFormat_r3 ++ (wsX4_readFormat_r4 ++ (wsX4_readFormat_r5 ++ wsX4_readFormat_r6))))) ++ wsX40 ++ wsX20)
def wsX4_readFormats_r1 : List Cond := [Cond.fieldLink RX4 37 "SkiShots$Reader" "sort" "I", Cond.methodLink RX4 34 yX4_step, Cond.instanceMethod yX4_step, Cond.selects RX4 yX4_step yX4_step, Cond.initialized RX4, Cond.code yX4_step cX4_step 1 none, Cond.fieldLink RX4 133 "SkiShots$Reader" "behind" "I", Cond.fieldLink RX4 54 "SkiShots$Reader" "place" "I", Cond.fieldLink RX4 21 "SkiShots$Reader" "length" "I", Cond.methodLink RX4 15 Lib.Math.min.name, Cond.static Lib.Math.min.name, Cond.initialized "java/lang/Math", Cond.code Lib.Math.min.name Lib.Math.min.code 2 (some .int), Cond.methodLink RX4 149 yX4_sortAt, Cond.instanceMethod yX4_sortAt, Cond.selects RX4 yX4_sortAt yX4_sortAt, Cond.code yX4_sortAt cX4_sortAt 3 (some .int), Cond.fieldLink RX4 9 "SkiShots$Reader" "text" "[B", Cond.methodLink RX4 40 yX4_readFormat, Cond.instanceMethod yX4_readFormat, Cond.selects RX4 yX4_readFormat yX4_readFormat, Cond.code yX4_readFormat cX4_readFormat 3 (some .boolean), Cond.fieldLink RX4 27 "SkiShots$Reader" "found" "[LSkiShots$Format;", Cond.classLink RX4 25 RX2]
def wsX4_readFormats_r2 : List Cond := [Cond.instantiable RX2 8, Cond.initialized RX2, Cond.fieldLink RX4 60 "SkiShots$Reader" "foundCount" "I", Cond.methodLink RX4 50 yX4_readWord, Cond.instanceMethod yX4_readWord, Cond.selects RX4 yX4_readWord yX4_readWord, Cond.code yX4_readWord cX4_readWord 2 (some .boolean), Cond.methodLink RX4 107 yX4_isWord, Cond.instanceMethod yX4_isWord, Cond.selects RX4 yX4_isWord yX4_isWord, Cond.code yX4_isWord cX4_isWord 3 (some .boolean), Cond.methodLink RX4 140 yJ0_length_8abf5, Cond.instanceMethod yJ0_length_8abf5, Cond.selects RJ0 yJ0_length_8abf5 yJ0_length_8abf5, Cond.initialized RJ0, Cond.code yJ0_length_8abf5 cJ0_length_8abf5 1 (some .int), Cond.fieldLink RJ0 9 "java/lang/String" "value" "[B", Cond.methodLink RJ0 335 yJ0_coder_7d493, Cond.instanceMethod yJ0_coder_7d493, Cond.selects RJ0 yJ0_coder_7d493 yJ0_coder_7d493, Cond.code yJ0_coder_7d493 cJ0_coder_7d493 1 (some .byte), Cond.fieldLink RJ0 38 "java/lang/String" "COMPACT_STRINGS" "Z", Cond.fieldLink RJ0 15 "java/lang/String" "coder" "B", Cond.methodLink RX4 145 yJ0_charAt_5068e]
def wsX4_readFormats_r3 : List Cond := [Cond.instanceMethod yJ0_charAt_5068e, Cond.selects RJ0 yJ0_charAt_5068e yJ0_charAt_5068e, Cond.code yJ0_charAt_5068e cJ0_charAt_5068e 2 (some .char), Cond.methodLink RJ0 492 yJ0_isLatin1_aae02, Cond.instanceMethod yJ0_isLatin1_aae02, Cond.selects RJ0 yJ0_isLatin1_aae02 yJ0_isLatin1_aae02, Cond.code yJ0_isLatin1_aae02 cJ0_isLatin1_aae02 1 (some .boolean), Cond.methodLink RJ0 495 yJ1_charAt_3b067, Cond.static yJ1_charAt_3b067, Cond.initialized RJ1, Cond.code yJ1_charAt_3b067 cJ1_charAt_3b067 2 (some .char), Cond.methodLink RJ1 9 yJ0_checkIndex_df160, Cond.static yJ0_checkIndex_df160, Cond.code yJ0_checkIndex_df160 cJ0_checkIndex_df160 2 none, Cond.fieldLink RJ0 1053 "jdk/internal/util/Preconditions" "SIOOBE_FORMATTER" "Ljava/util/function/BiFunction;", Cond.methodLink RJ0 1059 yJ3_checkIndex_8e157, Cond.static yJ3_checkIndex_8e157, Cond.initialized RJ3, Cond.code yJ3_checkIndex_8e157 cJ3_checkIndex_8e157 3 (some .int), Cond.methodLink RJ0 498 yJ2_charAt_3b067, Cond.static yJ2_charAt_3b067, Cond.initialized RJ2, Cond.code yJ2_charAt_3b067 cJ2_charAt_3b067 2 (some .char), Cond.methodLink RJ2 67 yJ2_checkIndex_2214a]
def wsX4_readFormats_r4 : List Cond := [Cond.static yJ2_checkIndex_2214a, Cond.code yJ2_checkIndex_2214a cJ2_checkIndex_2214a 2 none, Cond.methodLink RJ2 48 yJ2_length_9d52b, Cond.static yJ2_length_9d52b, Cond.code yJ2_length_9d52b cJ2_length_9d52b 1 (some .int), Cond.methodLink RJ2 414 yJ0_checkIndex_df160, Cond.methodLink RJ2 71 yJ2_getChar_3b067, Cond.static yJ2_getChar_3b067, Cond.code yJ2_getChar_3b067 cJ2_getChar_3b067 2 (some .char), Cond.fieldLink RJ2 44 "java/lang/StringUTF16" "$assertionsDisabled" "Z", Cond.fieldLink RJ2 59 "java/lang/StringUTF16" "HI_BYTE_SHIFT" "I", Cond.fieldLink RJ2 63 "java/lang/StringUTF16" "LO_BYTE_SHIFT" "I", Cond.methodLink RX4 44 yX4_fail, Cond.instanceMethod yX4_fail, Cond.selects RX4 yX4_fail yX4_fail, Cond.code yX4_fail cX4_fail 2 (some .boolean), Cond.fieldLink RX4 137 "SkiShots$Reader" "fault" "I", Cond.fieldLink RX4 31 "SkiShots$Reader" "faultPlace" "I", Cond.methodLink RX4 57 yX2_init, Cond.instanceMethod yX2_init, Cond.code yX2_init cX2_init 2 none, Cond.methodLink RX2 3 objectInit, Cond.instanceMethod objectInit, Cond.code objectInit ⟨#[0xb1]⟩ 1 none]
def wsX4_readFormats_r5 : List Cond := [Cond.fieldLink RX2 9 "SkiShots$Format" "name" "I", Cond.methodLink RX4 63 yX4_readSign, Cond.instanceMethod yX4_readSign, Cond.selects RX4 yX4_readSign yX4_readSign, Cond.code yX4_readSign cX4_readSign 2 (some .boolean), Cond.methodLink RX4 67 yX4_readLaps, Cond.instanceMethod yX4_readLaps, Cond.selects RX4 yX4_readLaps yX4_readLaps, Cond.code yX4_readLaps cX4_readLaps 2 (some .boolean), Cond.fieldLink RX4 89 "SkiShots$Reader" "number" "I", Cond.fieldLink RX4 92 "SkiShots$Format" "laps" "I", Cond.methodLink RX4 85 yX4_readNumber, Cond.instanceMethod yX4_readNumber, Cond.selects RX4 yX4_readNumber yX4_readNumber, Cond.code yX4_readNumber cX4_readNumber 4 (some .boolean), Cond.constant RX4 136 (100000), Cond.methodLink RX4 71 yX4_readShootings, Cond.instanceMethod yX4_readShootings, Cond.selects RX4 yX4_readShootings yX4_readShootings, Cond.code yX4_readShootings cX4_readShootings 4 (some .boolean), Cond.fieldLink RX4 96 "SkiShots$Format" "shootings" "I", Cond.methodLink RX4 74 yX4_readSpares, Cond.instanceMethod yX4_readSpares, Cond.selects RX4 yX4_readSpares yX4_readSpares]
def wsX4_readFormats_r6 : List Cond := [Cond.code yX4_readSpares cX4_readSpares 2 (some .boolean), Cond.fieldLink RX4 101 "SkiShots$Format" "spares" "I", Cond.methodLink RX4 77 yX4_readMiss, Cond.instanceMethod yX4_readMiss, Cond.selects RX4 yX4_readMiss yX4_readMiss, Cond.code yX4_readMiss cX4_readMiss 2 (some .boolean), Cond.fieldLink RX4 110 "SkiShots$Format" "loops" "Z", Cond.fieldLink RX4 116 "SkiShots$Format" "missSeconds" "I", Cond.methodLink RX4 80 yX4_readStart, Cond.instanceMethod yX4_readStart, Cond.selects RX4 yX4_readStart yX4_readStart, Cond.code yX4_readStart cX4_readStart 3 (some .boolean), Cond.fieldLink RX4 123 "SkiShots$Format" "startSort" "I", Cond.fieldLink RX4 130 "SkiShots$Format" "startSeconds" "I"]
def wsX4_readFormats : List Cond := .code yX4_readFormats cX4_readFormats 2 (some .boolean) :: ((wsX4_readFormats_r1 ++ (wsX4_readFormats_r2 ++ (wsX4_readFormats_r3 ++ (wsX4_readFormats_r4 ++ (wsX4_readFormats_r5 ++ wsX4_readFormats_r6))))) ++ wsX40 ++ wsX20)
def wsX5_init : List Cond := .code yX5_init cX5_init 1 none :: ([.methodLink RX5 1 objectInit, .instanceMethod objectInit, .code objectInit ⟨#[0xb1]⟩ 1 none, .arrayClass .byte, .fieldLink RX5 9 "SkiShots" "tape" "[B", .classLink RX5 13 RX2, .fieldLink RX5 15 "SkiShots" "formatsByName" "[LSkiShots$Format;", .fieldLink RX5 19 "SkiShots" "latestFaultPlace" "I", .arrayClass .int, .fieldLink RX5 23 "SkiShots" "nations" "[I", .classLink RX5 27 RX3, .fieldLink RX5 29 "SkiShots" "races" "[LSkiShots$Race;", .fieldLink RX5 33 "SkiShots" "cup" "[I"] ++ wsX50)
def wsX5_putOnTape : List Cond := .code yX5_putOnTape cX5_putOnTape 3 none :: ([.fieldLink RX5 36 "SkiShots" "tapeLength" "I", .fieldLink RX5 9 "SkiShots" "tape" "[B"] ++ wsX50)
def wsX5_feed : List Cond := .code yX5_feed cX5_feed 6 (some .int) :: ([.fieldLink RX5 36 "SkiShots" "tapeLength" "I", .methodLink RX5 39 yX5_putOnTape, .instanceMethod yX5_putOnTape, .selects RX5 yX5_putOnTape yX5_putOnTape, .initialized RX5, .code yX5_putOnTape cX5_putOnTape 3 none, .fieldLink RX5 9 "SkiShots" "tape" "[B"] ++ wsX50)
def wsX5_formats_r1 : List Cond := [Cond.fieldLink RX5 36 "SkiShots" "tapeLength" "I", Cond.classLink RX5 43 RX4, Cond.instantiable RX4 10, Cond.initialized RX4, Cond.fieldLink RX5 9 "SkiShots" "tape" "[B", Cond.fieldLink RX5 52 "SkiShots$Reader" "fault" "I", Cond.fieldLink RX5 55 "SkiShots" "latestFault" "I", Cond.fieldLink RX5 58 "SkiShots$Reader" "faultPlace" "I", Cond.fieldLink RX5 19 "SkiShots" "latestFaultPlace" "I", Cond.fieldLink RX5 61 "SkiShots$Reader" "found" "[LSkiShots$Format;", Cond.fieldLink RX5 15 "SkiShots" "formatsByName" "[LSkiShots$Format;", Cond.fieldLink RX5 64 "SkiShots$Reader" "foundCount" "I", Cond.fieldLink RX5 67 "SkiShots" "formatCount" "I", Cond.methodLink RX5 45 yX4_init, Cond.instanceMethod yX4_init, Cond.code yX4_init cX4_init 3 none, Cond.methodLink RX4 3 objectInit, Cond.instanceMethod objectInit, Cond.code objectInit ⟨#[0xb1]⟩ 1 none, Cond.fieldLink RX4 9 "SkiShots$Reader" "text" "[B", Cond.methodLink RX4 15 Lib.Math.min.name, Cond.static Lib.Math.min.name, Cond.initialized "java/lang/Math", Cond.code Lib.Math.min.name Lib.Math.min.code 2 (some .int)]
def wsX5_formats_r2 : List Cond := [Cond.fieldLink RX4 21 "SkiShots$Reader" "length" "I", Cond.classLink RX4 25 RX2, Cond.fieldLink RX4 27 "SkiShots$Reader" "found" "[LSkiShots$Format;", Cond.fieldLink RX4 31 "SkiShots$Reader" "faultPlace" "I", Cond.methodLink RX5 48 yX4_readFormats, Cond.instanceMethod yX4_readFormats, Cond.selects RX4 yX4_readFormats yX4_readFormats, Cond.code yX4_readFormats cX4_readFormats 2 (some .boolean), Cond.fieldLink RX4 37 "SkiShots$Reader" "sort" "I", Cond.methodLink RX4 34 yX4_step, Cond.instanceMethod yX4_step, Cond.selects RX4 yX4_step yX4_step, Cond.code yX4_step cX4_step 1 none, Cond.fieldLink RX4 133 "SkiShots$Reader" "behind" "I", Cond.fieldLink RX4 54 "SkiShots$Reader" "place" "I", Cond.methodLink RX4 149 yX4_sortAt, Cond.instanceMethod yX4_sortAt, Cond.selects RX4 yX4_sortAt yX4_sortAt, Cond.code yX4_sortAt cX4_sortAt 3 (some .int), Cond.methodLink RX4 40 yX4_readFormat, Cond.instanceMethod yX4_readFormat, Cond.selects RX4 yX4_readFormat yX4_readFormat, Cond.code yX4_readFormat cX4_readFormat 3 (some .boolean), Cond.instantiable RX2 8]
def wsX5_formats_r3 : List Cond := [Cond.initialized RX2, Cond.fieldLink RX4 60 "SkiShots$Reader" "foundCount" "I", Cond.methodLink RX4 50 yX4_readWord, Cond.instanceMethod yX4_readWord, Cond.selects RX4 yX4_readWord yX4_readWord, Cond.code yX4_readWord cX4_readWord 2 (some .boolean), Cond.methodLink RX4 107 yX4_isWord, Cond.instanceMethod yX4_isWord, Cond.selects RX4 yX4_isWord yX4_isWord, Cond.code yX4_isWord cX4_isWord 3 (some .boolean), Cond.methodLink RX4 140 yJ0_length_8abf5, Cond.instanceMethod yJ0_length_8abf5, Cond.selects RJ0 yJ0_length_8abf5 yJ0_length_8abf5, Cond.initialized RJ0, Cond.code yJ0_length_8abf5 cJ0_length_8abf5 1 (some .int), Cond.fieldLink RJ0 9 "java/lang/String" "value" "[B", Cond.methodLink RJ0 335 yJ0_coder_7d493, Cond.instanceMethod yJ0_coder_7d493, Cond.selects RJ0 yJ0_coder_7d493 yJ0_coder_7d493, Cond.code yJ0_coder_7d493 cJ0_coder_7d493 1 (some .byte), Cond.fieldLink RJ0 38 "java/lang/String" "COMPACT_STRINGS" "Z", Cond.fieldLink RJ0 15 "java/lang/String" "coder" "B", Cond.methodLink RX4 145 yJ0_charAt_5068e, Cond.instanceMethod yJ0_charAt_5068e]
def wsX5_formats_r4 : List Cond := [Cond.selects RJ0 yJ0_charAt_5068e yJ0_charAt_5068e, Cond.code yJ0_charAt_5068e cJ0_charAt_5068e 2 (some .char), Cond.methodLink RJ0 492 yJ0_isLatin1_aae02, Cond.instanceMethod yJ0_isLatin1_aae02, Cond.selects RJ0 yJ0_isLatin1_aae02 yJ0_isLatin1_aae02, Cond.code yJ0_isLatin1_aae02 cJ0_isLatin1_aae02 1 (some .boolean), Cond.methodLink RJ0 495 yJ1_charAt_3b067, Cond.static yJ1_charAt_3b067, Cond.initialized RJ1, Cond.code yJ1_charAt_3b067 cJ1_charAt_3b067 2 (some .char), Cond.methodLink RJ1 9 yJ0_checkIndex_df160, Cond.static yJ0_checkIndex_df160, Cond.code yJ0_checkIndex_df160 cJ0_checkIndex_df160 2 none, Cond.fieldLink RJ0 1053 "jdk/internal/util/Preconditions" "SIOOBE_FORMATTER" "Ljava/util/function/BiFunction;", Cond.methodLink RJ0 1059 yJ3_checkIndex_8e157, Cond.static yJ3_checkIndex_8e157, Cond.initialized RJ3, Cond.code yJ3_checkIndex_8e157 cJ3_checkIndex_8e157 3 (some .int), Cond.methodLink RJ0 498 yJ2_charAt_3b067, Cond.static yJ2_charAt_3b067, Cond.initialized RJ2, Cond.code yJ2_charAt_3b067 cJ2_charAt_3b067 2 (some .char), Cond.methodLink RJ2 67 yJ2_checkIndex_2214a, Cond.static yJ2_checkIndex_2214a]
def wsX5_formats_r5 : List Cond := [Cond.code yJ2_checkIndex_2214a cJ2_checkIndex_2214a 2 none, Cond.methodLink RJ2 48 yJ2_length_9d52b, Cond.static yJ2_length_9d52b, Cond.code yJ2_length_9d52b cJ2_length_9d52b 1 (some .int), Cond.methodLink RJ2 414 yJ0_checkIndex_df160, Cond.methodLink RJ2 71 yJ2_getChar_3b067, Cond.static yJ2_getChar_3b067, Cond.code yJ2_getChar_3b067 cJ2_getChar_3b067 2 (some .char), Cond.fieldLink RJ2 44 "java/lang/StringUTF16" "$assertionsDisabled" "Z", Cond.fieldLink RJ2 59 "java/lang/StringUTF16" "HI_BYTE_SHIFT" "I", Cond.fieldLink RJ2 63 "java/lang/StringUTF16" "LO_BYTE_SHIFT" "I", Cond.methodLink RX4 44 yX4_fail, Cond.instanceMethod yX4_fail, Cond.selects RX4 yX4_fail yX4_fail, Cond.code yX4_fail cX4_fail 2 (some .boolean), Cond.fieldLink RX4 137 "SkiShots$Reader" "fault" "I", Cond.methodLink RX4 57 yX2_init, Cond.instanceMethod yX2_init, Cond.code yX2_init cX2_init 2 none, Cond.methodLink RX2 3 objectInit, Cond.fieldLink RX2 9 "SkiShots$Format" "name" "I", Cond.methodLink RX4 63 yX4_readSign, Cond.instanceMethod yX4_readSign, Cond.selects RX4 yX4_readSign yX4_readSign]
def wsX5_formats_r6 : List Cond := [Cond.code yX4_readSign cX4_readSign 2 (some .boolean), Cond.methodLink RX4 67 yX4_readLaps, Cond.instanceMethod yX4_readLaps, Cond.selects RX4 yX4_readLaps yX4_readLaps, Cond.code yX4_readLaps cX4_readLaps 2 (some .boolean), Cond.fieldLink RX4 89 "SkiShots$Reader" "number" "I", Cond.fieldLink RX4 92 "SkiShots$Format" "laps" "I", Cond.methodLink RX4 85 yX4_readNumber, Cond.instanceMethod yX4_readNumber, Cond.selects RX4 yX4_readNumber yX4_readNumber, Cond.code yX4_readNumber cX4_readNumber 4 (some .boolean), Cond.constant RX4 136 (100000), Cond.methodLink RX4 71 yX4_readShootings, Cond.instanceMethod yX4_readShootings, Cond.selects RX4 yX4_readShootings yX4_readShootings, Cond.code yX4_readShootings cX4_readShootings 4 (some .boolean), Cond.fieldLink RX4 96 "SkiShots$Format" "shootings" "I", Cond.methodLink RX4 74 yX4_readSpares, Cond.instanceMethod yX4_readSpares, Cond.selects RX4 yX4_readSpares yX4_readSpares, Cond.code yX4_readSpares cX4_readSpares 2 (some .boolean), Cond.fieldLink RX4 101 "SkiShots$Format" "spares" "I", Cond.methodLink RX4 77 yX4_readMiss, Cond.instanceMethod yX4_readMiss]
def wsX5_formats_r7 : List Cond := [Cond.selects RX4 yX4_readMiss yX4_readMiss, Cond.code yX4_readMiss cX4_readMiss 2 (some .boolean), Cond.fieldLink RX4 110 "SkiShots$Format" "loops" "Z", Cond.fieldLink RX4 116 "SkiShots$Format" "missSeconds" "I", Cond.methodLink RX4 80 yX4_readStart, Cond.instanceMethod yX4_readStart, Cond.selects RX4 yX4_readStart yX4_readStart, Cond.code yX4_readStart cX4_readStart 3 (some .boolean), Cond.fieldLink RX4 123 "SkiShots$Format" "startSort" "I", Cond.fieldLink RX4 130 "SkiShots$Format" "startSeconds" "I"]
def wsX5_formats : List Cond := .code yX5_formats cX5_formats 4 (some .int) :: ((wsX5_formats_r1 ++ (wsX5_formats_r2 ++ (wsX5_formats_r3 ++ (wsX5_formats_r4 ++ (wsX5_formats_r5 ++ (wsX5_formats_r6 ++ wsX5_formats_r7)))))) ++ wsX50 ++ wsX40 ++ wsX20)
def wsX5_fault : List Cond := .code yX5_fault cX5_fault 2 (some .int) :: ([.fieldLink RX5 55 "SkiShots" "latestFault" "I", .fieldLink RX5 19 "SkiShots" "latestFaultPlace" "I"] ++ wsX50)
def wsX5_pass : List Cond := .code yX5_pass cX5_pass 2 (some .int) :: ([.fieldLink RX5 70 "SkiShots" "today" "I"] ++ wsX50)
def wsX5_isNation : List Cond := .code yX5_isNation cX5_isNation 1 (some .boolean) :: ([])
def wsX5_racer : List Cond := .code yX5_racer cX5_racer 2 (some .int) :: ([.fieldLink RX5 77 "SkiShots" "racerCount" "I", .fieldLink RX5 23 "SkiShots" "nations" "[I", .methodLink RX5 73 yX5_isNation, .static yX5_isNation, .initialized RX5, .code yX5_isNation cX5_isNation 1 (some .boolean)] ++ wsX50)
def wsX5_raceAt : List Cond := .code yX5_raceAt cX5_raceAt 2 (some (.object "SkiShots$Race")) :: ([.fieldLink RX5 80 "SkiShots" "raceCount" "I", .fieldLink RX5 29 "SkiShots" "races" "[LSkiShots$Race;"] ++ wsX50)
def wsX5_race : List Cond := .code yX5_race cX5_race 6 (some .int) :: ([.fieldLink RX5 80 "SkiShots" "raceCount" "I", .fieldLink RX5 15 "SkiShots" "formatsByName" "[LSkiShots$Format;", .fieldLink RX5 87 "SkiShots$Format" "startSort" "I", .fieldLink RX5 29 "SkiShots" "races" "[LSkiShots$Race;", .classLink RX5 27 RX3, .instantiable RX3 7, .initialized RX3, .methodLink RX5 83 yX5_raceAt, .instanceMethod yX5_raceAt, .selects RX5 yX5_raceAt yX5_raceAt, .initialized RX5, .code yX5_raceAt cX5_raceAt 2 (some (.object "SkiShots$Race")), .methodLink RX5 90 yX3_init, .instanceMethod yX3_init, .code yX3_init cX3_init 4 none, .methodLink RX3 3 objectInit, .instanceMethod objectInit, .code objectInit ⟨#[0xb1]⟩ 1 none, .fieldLink RX3 9 "SkiShots$Race" "format" "LSkiShots$Format;", .fieldLink RX3 15 "SkiShots$Race" "by" "LSkiShots$Race;", .fieldLink RX3 19 "SkiShots$Race" "byNumber" "I", .classLink RX3 23 RX0, .fieldLink RX3 25 "SkiShots$Race" "entries" "[LSkiShots$Entry;"] ++ wsX50 ++ wsX20 ++ wsX30)
def wsX5_isRacer : List Cond := .code yX5_isRacer cX5_isRacer 2 (some .boolean) :: ([.fieldLink RX5 77 "SkiShots" "racerCount" "I"] ++ wsX50)
def wsX5_enter_r1 : List Cond := [Cond.fieldLink RX5 96 "SkiShots$Race" "told" "I", Cond.fieldLink RX5 106 "SkiShots$Race" "entryCount" "I", Cond.methodLink RX5 83 yX5_raceAt, Cond.instanceMethod yX5_raceAt, Cond.selects RX5 yX5_raceAt yX5_raceAt, Cond.initialized RX5, Cond.code yX5_raceAt cX5_raceAt 2 (some (.object "SkiShots$Race")), Cond.fieldLink RX5 80 "SkiShots" "raceCount" "I", Cond.fieldLink RX5 29 "SkiShots" "races" "[LSkiShots$Race;", Cond.methodLink RX5 93 yX5_isRacer, Cond.instanceMethod yX5_isRacer, Cond.selects RX5 yX5_isRacer yX5_isRacer, Cond.code yX5_isRacer cX5_isRacer 2 (some .boolean), Cond.fieldLink RX5 77 "SkiShots" "racerCount" "I", Cond.methodLink RX5 99 yX3_entryOf, Cond.instanceMethod yX3_entryOf, Cond.selects RX3 yX3_entryOf yX3_entryOf, Cond.initialized RX3, Cond.code yX3_entryOf cX3_entryOf 3 (some (.object "SkiShots$Entry")), Cond.fieldLink RX3 29 "SkiShots$Race" "entryCount" "I", Cond.fieldLink RX3 25 "SkiShots$Race" "entries" "[LSkiShots$Entry;", Cond.fieldLink RX3 35 "SkiShots$Entry" "racer" "I", Cond.methodLink RX5 103 yX3_add, Cond.instanceMethod yX3_add]
def wsX5_enter_r2 : List Cond := [Cond.selects RX3 yX3_add yX3_add, Cond.code yX3_add cX3_add 2 none, Cond.classLink RX3 23 RX0, Cond.instantiable RX0 10, Cond.initialized RX0, Cond.methodLink RX3 32 yX0_init, Cond.instanceMethod yX0_init, Cond.code yX0_init cX0_init 2 none, Cond.methodLink RX0 3 objectInit, Cond.instanceMethod objectInit, Cond.code objectInit ⟨#[0xb1]⟩ 1 none, Cond.fieldLink RX0 9 "SkiShots$Entry" "racer" "I"]
def wsX5_enter : List Cond := .code yX5_enter cX5_enter 4 (some .int) :: ((wsX5_enter_r1 ++ wsX5_enter_r2) ++ wsX30 ++ wsX50 ++ wsX00)
def wsX5_isValue : List Cond := .code yX5_isValue cX5_isValue 2 (some .boolean) :: ([.constant RX5 227 (200000)])
def wsX5_tell_r1 : List Cond := [Cond.fieldLink RX5 109 "SkiShots" "eventCount" "I", Cond.fieldLink RX5 112 "SkiShots$Race" "format" "LSkiShots$Format;", Cond.classLink RX5 123 RX1, Cond.instantiable RX1 5, Cond.initialized RX1, Cond.fieldLink RX5 70 "SkiShots" "today" "I", Cond.fieldLink RX5 125 "SkiShots$Entry" "latest" "LSkiShots$Event;", Cond.fieldLink RX5 96 "SkiShots$Race" "told" "I", Cond.methodLink RX5 83 yX5_raceAt, Cond.instanceMethod yX5_raceAt, Cond.selects RX5 yX5_raceAt yX5_raceAt, Cond.initialized RX5, Cond.code yX5_raceAt cX5_raceAt 2 (some (.object "SkiShots$Race")), Cond.fieldLink RX5 80 "SkiShots" "raceCount" "I", Cond.fieldLink RX5 29 "SkiShots" "races" "[LSkiShots$Race;", Cond.methodLink RX5 99 yX3_entryOf, Cond.instanceMethod yX3_entryOf, Cond.selects RX3 yX3_entryOf yX3_entryOf, Cond.initialized RX3, Cond.code yX3_entryOf cX3_entryOf 3 (some (.object "SkiShots$Entry")), Cond.fieldLink RX3 29 "SkiShots$Race" "entryCount" "I", Cond.fieldLink RX3 25 "SkiShots$Race" "entries" "[LSkiShots$Entry;", Cond.fieldLink RX3 35 "SkiShots$Entry" "racer" "I", Cond.methodLink RX5 116 yX2_hasEvent]
def wsX5_tell_r2 : List Cond := [Cond.instanceMethod yX2_hasEvent, Cond.selects RX2 yX2_hasEvent yX2_hasEvent, Cond.initialized RX2, Cond.code yX2_hasEvent cX2_hasEvent 3 (some .boolean), Cond.fieldLink RX2 15 "SkiShots$Format" "laps" "I", Cond.fieldLink RX2 18 "SkiShots$Format" "shootings" "I", Cond.methodLink RX5 120 yX5_isValue, Cond.static yX5_isValue, Cond.code yX5_isValue cX5_isValue 2 (some .boolean), Cond.constant RX5 227 (200000), Cond.methodLink RX5 131 yX1_init, Cond.instanceMethod yX1_init, Cond.code yX1_init cX1_init 6 none, Cond.methodLink RX1 1 objectInit, Cond.instanceMethod objectInit, Cond.code objectInit ⟨#[0xb1]⟩ 1 none, Cond.fieldLink RX1 7 "SkiShots$Event" "day" "I", Cond.fieldLink RX1 13 "SkiShots$Event" "sort" "I", Cond.fieldLink RX1 16 "SkiShots$Event" "k" "I", Cond.fieldLink RX1 19 "SkiShots$Event" "v" "I", Cond.fieldLink RX1 22 "SkiShots$Event" "before" "LSkiShots$Event;"]
def wsX5_tell : List Cond := .code yX5_tell cX5_tell 8 (some .int) :: ((wsX5_tell_r1 ++ wsX5_tell_r2) ++ wsX50 ++ wsX30 ++ wsX10 ++ wsX00 ++ wsX20)
def wsX5_look : List Cond := .code yX5_look cX5_look 4 (some .int) :: ([.classLink RX5 134 "java/lang/IndexOutOfBoundsException", .initialized "java/lang/IndexOutOfBoundsException", .classLink RX5 156 "java/util/NoSuchElementException", .initialized "java/util/NoSuchElementException", .fieldLink RX5 112 "SkiShots$Race" "format" "LSkiShots$Format;", .fieldLink RX5 141 "SkiShots$Format" "name" "I", .fieldLink RX5 144 "SkiShots$Format" "laps" "I", .fieldLink RX5 147 "SkiShots$Format" "shootings" "I", .fieldLink RX5 150 "SkiShots$Format" "spares" "I", .fieldLink RX5 153 "SkiShots$Race" "byNumber" "I", .fieldLink RX5 106 "SkiShots$Race" "entryCount" "I", .fieldLink RX5 96 "SkiShots$Race" "told" "I", .methodLink RX5 83 yX5_raceAt, .instanceMethod yX5_raceAt, .selects RX5 yX5_raceAt yX5_raceAt, .initialized RX5, .code yX5_raceAt cX5_raceAt 2 (some (.object "SkiShots$Race")), .fieldLink RX5 80 "SkiShots" "raceCount" "I", .fieldLink RX5 29 "SkiShots" "races" "[LSkiShots$Race;"] ++ wsX30 ++ wsX20 ++ wsX50 ++ (vx_atS RX5 138 "java/lang/IndexOutOfBoundsException" ["java/lang/RuntimeException", "java/lang/Exception"]).filter goodWord ++ (vx_atS RX5 160 "java/util/NoSuchElementException" ["java/lang/RuntimeException", "java/lang/Exception"]).filter goodWord)
def wsX5_entry : List Cond := .code yX5_entry cX5_entry 4 (some .int) :: ([.fieldLink RX5 106 "SkiShots$Race" "entryCount" "I", .fieldLink RX5 161 "SkiShots$Race" "entries" "[LSkiShots$Entry;", .fieldLink RX5 165 "SkiShots$Entry" "racer" "I", .methodLink RX5 83 yX5_raceAt, .instanceMethod yX5_raceAt, .selects RX5 yX5_raceAt yX5_raceAt, .initialized RX5, .code yX5_raceAt cX5_raceAt 2 (some (.object "SkiShots$Race")), .fieldLink RX5 80 "SkiShots" "raceCount" "I", .fieldLink RX5 29 "SkiShots" "races" "[LSkiShots$Race;"] ++ wsX30 ++ wsX00 ++ wsX50)
def wsX5_isDay : List Cond := .code yX5_isDay cX5_isDay 2 (some .boolean) :: ([.fieldLink RX5 70 "SkiShots" "today" "I"] ++ wsX50)
def wsX5_workOut_r1 : List Cond := [Cond.fieldLink RX5 80 "SkiShots" "raceCount" "I", Cond.fieldLink RX5 29 "SkiShots" "races" "[LSkiShots$Race;", Cond.methodLink RX5 228 yX3_workOut, Cond.instanceMethod yX3_workOut, Cond.selects RX3 yX3_workOut yX3_workOut, Cond.initialized RX3, Cond.code yX3_workOut cX3_workOut 4 none, Cond.fieldLink RX3 38 "SkiShots$Race" "leastLow" "I", Cond.fieldLink RX3 29 "SkiShots$Race" "entryCount" "I", Cond.fieldLink RX3 25 "SkiShots$Race" "entries" "[LSkiShots$Entry;", Cond.fieldLink RX3 9 "SkiShots$Race" "format" "LSkiShots$Format;", Cond.fieldLink RX3 53 "SkiShots$Entry" "low" "I", Cond.methodLink RX3 41 yX3_startOf, Cond.instanceMethod yX3_startOf, Cond.selects RX3 yX3_startOf yX3_startOf, Cond.code yX3_startOf cX3_startOf 2 (some .int), Cond.fieldLink RX3 56 "SkiShots$Format" "startSort" "I", Cond.fieldLink RX3 61 "SkiShots$Format" "startSeconds" "I", Cond.fieldLink RX3 35 "SkiShots$Entry" "racer" "I", Cond.methodLink RX3 64 yX3_chaseStart, Cond.instanceMethod yX3_chaseStart, Cond.selects RX3 yX3_chaseStart yX3_chaseStart, Cond.code yX3_chaseStart cX3_chaseStart 4 (some .int), Cond.fieldLink RX3 15 "SkiShots$Race" "by" "LSkiShots$Race;"]
def wsX5_workOut_r2 : List Cond := [Cond.methodLink RX3 71 Lib.Math.min.name, Cond.static Lib.Math.min.name, Cond.initialized "java/lang/Math", Cond.code Lib.Math.min.name Lib.Math.min.code 2 (some .int), Cond.methodLink RX3 67 yX3_entryOf, Cond.instanceMethod yX3_entryOf, Cond.selects RX3 yX3_entryOf yX3_entryOf, Cond.code yX3_entryOf cX3_entryOf 3 (some (.object "SkiShots$Entry")), Cond.methodLink RX3 49 yX0_hasTime, Cond.instanceMethod yX0_hasTime, Cond.selects RX0 yX0_hasTime yX0_hasTime, Cond.initialized RX0, Cond.code yX0_hasTime cX0_hasTime 1 (some .boolean), Cond.fieldLink RX0 39 "SkiShots$Entry" "low" "I", Cond.methodLink RX3 45 yX0_workOut, Cond.instanceMethod yX0_workOut, Cond.selects RX0 yX0_workOut yX0_workOut, Cond.code yX0_workOut cX0_workOut 5 none, Cond.fieldLink RX0 36 "SkiShots$Entry" "start" "I", Cond.fieldLink RX0 46 "SkiShots$Entry" "struck" "Z", Cond.fieldLink RX0 50 "SkiShots$Entry" "fewestMisses" "I", Cond.fieldLink RX0 53 "SkiShots$Entry" "mostMisses" "I", Cond.fieldLink RX0 56 "SkiShots$Entry" "leastPenalty" "I", Cond.fieldLink RX0 59 "SkiShots$Entry" "greatestPenalty" "I"]
def wsX5_workOut_r3 : List Cond := [Cond.fieldLink RX0 62 "SkiShots$Format" "shootings" "I", Cond.fieldLink RX0 71 "SkiShots$Format" "laps" "I", Cond.fieldLink RX0 78 "SkiShots$Entry" "high" "I", Cond.methodLink RX0 42 yX0_known, Cond.instanceMethod yX0_known, Cond.selects RX0 yX0_known yX0_known, Cond.code yX0_known cX0_known 5 (some .int), Cond.fieldLink RX0 15 "SkiShots$Entry" "latest" "LSkiShots$Event;", Cond.fieldLink RX0 19 "SkiShots$Event" "day" "I", Cond.fieldLink RX0 24 "SkiShots$Event" "sort" "I", Cond.fieldLink RX0 27 "SkiShots$Event" "k" "I", Cond.fieldLink RX0 30 "SkiShots$Event" "v" "I", Cond.fieldLink RX0 33 "SkiShots$Event" "before" "LSkiShots$Event;", Cond.methodLink RX0 67 yX0_addShooting, Cond.instanceMethod yX0_addShooting, Cond.selects RX0 yX0_addShooting yX0_addShooting, Cond.code yX0_addShooting cX0_addShooting 11 none, Cond.fieldLink RX0 86 "SkiShots$Format" "loops" "Z", Cond.fieldLink RX0 89 "SkiShots$Format" "missSeconds" "I", Cond.methodLink RX0 92 Lib.Math.max.name, Cond.static Lib.Math.max.name, Cond.code Lib.Math.max.name Lib.Math.max.code 2 (some .int), Cond.methodLink RX0 81 yJ6_bitCount_0f7a4, Cond.static yJ6_bitCount_0f7a4]
def wsX5_workOut_r4 : List Cond := [Cond.initialized RJ6, Cond.code yJ6_bitCount_0f7a4 cJ6_bitCount_0f7a4 1 (some .int), Cond.constant RJ6 265 (1431655765), Cond.constant RJ6 266 (858993459), Cond.constant RJ6 267 (252645135), Cond.methodLink RX0 74 yX0_sinceStart, Cond.instanceMethod yX0_sinceStart, Cond.selects RX0 yX0_sinceStart yX0_sinceStart, Cond.code yX0_sinceStart cX0_sinceStart 2 (some .int)]
def wsX5_workOut : List Cond := .code yX5_workOut cX5_workOut 4 none :: ((wsX5_workOut_r1 ++ (wsX5_workOut_r2 ++ (wsX5_workOut_r3 ++ wsX5_workOut_r4))) ++ wsX50 ++ wsX30 ++ wsX00 ++ wsX20 ++ wsX10)
def wsX5_time_r1 : List Cond := [Cond.fieldLink RX5 175 "SkiShots$Entry" "start" "I", Cond.fieldLink RX5 178 "SkiShots$Entry" "low" "I", Cond.fieldLink RX5 181 "SkiShots$Entry" "high" "I", Cond.fieldLink RX5 191 "SkiShots$Entry" "struck" "Z", Cond.fieldLink RX5 195 "SkiShots$Entry" "fewestMisses" "I", Cond.fieldLink RX5 198 "SkiShots$Entry" "mostMisses" "I", Cond.methodLink RX5 83 yX5_raceAt, Cond.instanceMethod yX5_raceAt, Cond.selects RX5 yX5_raceAt yX5_raceAt, Cond.initialized RX5, Cond.code yX5_raceAt cX5_raceAt 2 (some (.object "SkiShots$Race")), Cond.fieldLink RX5 80 "SkiShots" "raceCount" "I", Cond.fieldLink RX5 29 "SkiShots" "races" "[LSkiShots$Race;", Cond.methodLink RX5 168 yX5_isDay, Cond.instanceMethod yX5_isDay, Cond.selects RX5 yX5_isDay yX5_isDay, Cond.code yX5_isDay cX5_isDay 2 (some .boolean), Cond.fieldLink RX5 70 "SkiShots" "today" "I", Cond.methodLink RX5 99 yX3_entryOf, Cond.instanceMethod yX3_entryOf, Cond.selects RX3 yX3_entryOf yX3_entryOf, Cond.initialized RX3, Cond.code yX3_entryOf cX3_entryOf 3 (some (.object "SkiShots$Entry")), Cond.fieldLink RX3 29 "SkiShots$Race" "entryCount" "I"]
def wsX5_time_r2 : List Cond := [Cond.fieldLink RX3 25 "SkiShots$Race" "entries" "[LSkiShots$Entry;", Cond.fieldLink RX3 35 "SkiShots$Entry" "racer" "I", Cond.methodLink RX5 171 yX5_workOut, Cond.instanceMethod yX5_workOut, Cond.selects RX5 yX5_workOut yX5_workOut, Cond.code yX5_workOut cX5_workOut 4 none, Cond.methodLink RX5 228 yX3_workOut, Cond.instanceMethod yX3_workOut, Cond.selects RX3 yX3_workOut yX3_workOut, Cond.code yX3_workOut cX3_workOut 4 none, Cond.fieldLink RX3 38 "SkiShots$Race" "leastLow" "I", Cond.fieldLink RX3 9 "SkiShots$Race" "format" "LSkiShots$Format;", Cond.fieldLink RX3 53 "SkiShots$Entry" "low" "I", Cond.methodLink RX3 41 yX3_startOf, Cond.instanceMethod yX3_startOf, Cond.selects RX3 yX3_startOf yX3_startOf, Cond.code yX3_startOf cX3_startOf 2 (some .int), Cond.fieldLink RX3 56 "SkiShots$Format" "startSort" "I", Cond.fieldLink RX3 61 "SkiShots$Format" "startSeconds" "I", Cond.methodLink RX3 64 yX3_chaseStart, Cond.instanceMethod yX3_chaseStart, Cond.selects RX3 yX3_chaseStart yX3_chaseStart, Cond.code yX3_chaseStart cX3_chaseStart 4 (some .int), Cond.fieldLink RX3 15 "SkiShots$Race" "by" "LSkiShots$Race;"]
def wsX5_time_r3 : List Cond := [Cond.methodLink RX3 71 Lib.Math.min.name, Cond.static Lib.Math.min.name, Cond.initialized "java/lang/Math", Cond.code Lib.Math.min.name Lib.Math.min.code 2 (some .int), Cond.methodLink RX3 67 yX3_entryOf, Cond.methodLink RX3 49 yX0_hasTime, Cond.instanceMethod yX0_hasTime, Cond.selects RX0 yX0_hasTime yX0_hasTime, Cond.initialized RX0, Cond.code yX0_hasTime cX0_hasTime 1 (some .boolean), Cond.fieldLink RX0 39 "SkiShots$Entry" "low" "I", Cond.methodLink RX3 45 yX0_workOut, Cond.instanceMethod yX0_workOut, Cond.selects RX0 yX0_workOut yX0_workOut, Cond.code yX0_workOut cX0_workOut 5 none, Cond.fieldLink RX0 36 "SkiShots$Entry" "start" "I", Cond.fieldLink RX0 46 "SkiShots$Entry" "struck" "Z", Cond.fieldLink RX0 50 "SkiShots$Entry" "fewestMisses" "I", Cond.fieldLink RX0 53 "SkiShots$Entry" "mostMisses" "I", Cond.fieldLink RX0 56 "SkiShots$Entry" "leastPenalty" "I", Cond.fieldLink RX0 59 "SkiShots$Entry" "greatestPenalty" "I", Cond.fieldLink RX0 62 "SkiShots$Format" "shootings" "I", Cond.fieldLink RX0 71 "SkiShots$Format" "laps" "I", Cond.fieldLink RX0 78 "SkiShots$Entry" "high" "I"]
def wsX5_time_r4 : List Cond := [Cond.methodLink RX0 42 yX0_known, Cond.instanceMethod yX0_known, Cond.selects RX0 yX0_known yX0_known, Cond.code yX0_known cX0_known 5 (some .int), Cond.fieldLink RX0 15 "SkiShots$Entry" "latest" "LSkiShots$Event;", Cond.fieldLink RX0 19 "SkiShots$Event" "day" "I", Cond.fieldLink RX0 24 "SkiShots$Event" "sort" "I", Cond.fieldLink RX0 27 "SkiShots$Event" "k" "I", Cond.fieldLink RX0 30 "SkiShots$Event" "v" "I", Cond.fieldLink RX0 33 "SkiShots$Event" "before" "LSkiShots$Event;", Cond.methodLink RX0 67 yX0_addShooting, Cond.instanceMethod yX0_addShooting, Cond.selects RX0 yX0_addShooting yX0_addShooting, Cond.code yX0_addShooting cX0_addShooting 11 none, Cond.fieldLink RX0 86 "SkiShots$Format" "loops" "Z", Cond.fieldLink RX0 89 "SkiShots$Format" "missSeconds" "I", Cond.methodLink RX0 92 Lib.Math.max.name, Cond.static Lib.Math.max.name, Cond.code Lib.Math.max.name Lib.Math.max.code 2 (some .int), Cond.methodLink RX0 81 yJ6_bitCount_0f7a4, Cond.static yJ6_bitCount_0f7a4, Cond.initialized RJ6, Cond.code yJ6_bitCount_0f7a4 cJ6_bitCount_0f7a4 1 (some .int), Cond.constant RJ6 265 (1431655765)]
def wsX5_time_r5 : List Cond := [Cond.constant RJ6 266 (858993459), Cond.constant RJ6 267 (252645135), Cond.methodLink RX0 74 yX0_sinceStart, Cond.instanceMethod yX0_sinceStart, Cond.selects RX0 yX0_sinceStart yX0_sinceStart, Cond.code yX0_sinceStart cX0_sinceStart 2 (some .int), Cond.methodLink RX5 184 yX3_firstPlace, Cond.instanceMethod yX3_firstPlace, Cond.selects RX3 yX3_firstPlace yX3_firstPlace, Cond.code yX3_firstPlace cX3_firstPlace 5 (some .int), Cond.fieldLink RX3 77 "SkiShots$Entry" "high" "I", Cond.methodLink RX5 188 yX3_lastPlace, Cond.instanceMethod yX3_lastPlace, Cond.selects RX3 yX3_lastPlace yX3_lastPlace, Cond.code yX3_lastPlace cX3_lastPlace 5 (some .int)]
def wsX5_time : List Cond := .code yX5_time cX5_time 7 (some .int) :: ((wsX5_time_r1 ++ (wsX5_time_r2 ++ (wsX5_time_r3 ++ (wsX5_time_r4 ++ wsX5_time_r5)))) ++ wsX00 ++ wsX50 ++ wsX30 ++ wsX20 ++ wsX10)
def wsX5_split_r1 : List Cond := [Cond.fieldLink RX5 112 "SkiShots$Race" "format" "LSkiShots$Format;", Cond.methodLink RX5 83 yX5_raceAt, Cond.instanceMethod yX5_raceAt, Cond.selects RX5 yX5_raceAt yX5_raceAt, Cond.initialized RX5, Cond.code yX5_raceAt cX5_raceAt 2 (some (.object "SkiShots$Race")), Cond.fieldLink RX5 80 "SkiShots" "raceCount" "I", Cond.fieldLink RX5 29 "SkiShots" "races" "[LSkiShots$Race;", Cond.methodLink RX5 168 yX5_isDay, Cond.instanceMethod yX5_isDay, Cond.selects RX5 yX5_isDay yX5_isDay, Cond.code yX5_isDay cX5_isDay 2 (some .boolean), Cond.fieldLink RX5 70 "SkiShots" "today" "I", Cond.methodLink RX5 116 yX2_hasEvent, Cond.instanceMethod yX2_hasEvent, Cond.selects RX2 yX2_hasEvent yX2_hasEvent, Cond.initialized RX2, Cond.code yX2_hasEvent cX2_hasEvent 3 (some .boolean), Cond.fieldLink RX2 15 "SkiShots$Format" "laps" "I", Cond.fieldLink RX2 18 "SkiShots$Format" "shootings" "I", Cond.methodLink RX5 99 yX3_entryOf, Cond.instanceMethod yX3_entryOf, Cond.selects RX3 yX3_entryOf yX3_entryOf, Cond.initialized RX3]
def wsX5_split_r2 : List Cond := [Cond.code yX3_entryOf cX3_entryOf 3 (some (.object "SkiShots$Entry")), Cond.fieldLink RX3 29 "SkiShots$Race" "entryCount" "I", Cond.fieldLink RX3 25 "SkiShots$Race" "entries" "[LSkiShots$Entry;", Cond.fieldLink RX3 35 "SkiShots$Entry" "racer" "I", Cond.methodLink RX5 171 yX5_workOut, Cond.instanceMethod yX5_workOut, Cond.selects RX5 yX5_workOut yX5_workOut, Cond.code yX5_workOut cX5_workOut 4 none, Cond.methodLink RX5 228 yX3_workOut, Cond.instanceMethod yX3_workOut, Cond.selects RX3 yX3_workOut yX3_workOut, Cond.code yX3_workOut cX3_workOut 4 none, Cond.fieldLink RX3 38 "SkiShots$Race" "leastLow" "I", Cond.fieldLink RX3 9 "SkiShots$Race" "format" "LSkiShots$Format;", Cond.fieldLink RX3 53 "SkiShots$Entry" "low" "I", Cond.methodLink RX3 41 yX3_startOf, Cond.instanceMethod yX3_startOf, Cond.selects RX3 yX3_startOf yX3_startOf, Cond.code yX3_startOf cX3_startOf 2 (some .int), Cond.fieldLink RX3 56 "SkiShots$Format" "startSort" "I", Cond.fieldLink RX3 61 "SkiShots$Format" "startSeconds" "I", Cond.methodLink RX3 64 yX3_chaseStart, Cond.instanceMethod yX3_chaseStart, Cond.selects RX3 yX3_chaseStart yX3_chaseStart]
def wsX5_split_r3 : List Cond := [Cond.code yX3_chaseStart cX3_chaseStart 4 (some .int), Cond.fieldLink RX3 15 "SkiShots$Race" "by" "LSkiShots$Race;", Cond.methodLink RX3 71 Lib.Math.min.name, Cond.static Lib.Math.min.name, Cond.initialized "java/lang/Math", Cond.code Lib.Math.min.name Lib.Math.min.code 2 (some .int), Cond.methodLink RX3 67 yX3_entryOf, Cond.methodLink RX3 49 yX0_hasTime, Cond.instanceMethod yX0_hasTime, Cond.selects RX0 yX0_hasTime yX0_hasTime, Cond.initialized RX0, Cond.code yX0_hasTime cX0_hasTime 1 (some .boolean), Cond.fieldLink RX0 39 "SkiShots$Entry" "low" "I", Cond.methodLink RX3 45 yX0_workOut, Cond.instanceMethod yX0_workOut, Cond.selects RX0 yX0_workOut yX0_workOut, Cond.code yX0_workOut cX0_workOut 5 none, Cond.fieldLink RX0 36 "SkiShots$Entry" "start" "I", Cond.fieldLink RX0 46 "SkiShots$Entry" "struck" "Z", Cond.fieldLink RX0 50 "SkiShots$Entry" "fewestMisses" "I", Cond.fieldLink RX0 53 "SkiShots$Entry" "mostMisses" "I", Cond.fieldLink RX0 56 "SkiShots$Entry" "leastPenalty" "I", Cond.fieldLink RX0 59 "SkiShots$Entry" "greatestPenalty" "I", Cond.fieldLink RX0 62 "SkiShots$Format" "shootings" "I"]
def wsX5_split_r4 : List Cond := [Cond.fieldLink RX0 71 "SkiShots$Format" "laps" "I", Cond.fieldLink RX0 78 "SkiShots$Entry" "high" "I", Cond.methodLink RX0 42 yX0_known, Cond.instanceMethod yX0_known, Cond.selects RX0 yX0_known yX0_known, Cond.code yX0_known cX0_known 5 (some .int), Cond.fieldLink RX0 15 "SkiShots$Entry" "latest" "LSkiShots$Event;", Cond.fieldLink RX0 19 "SkiShots$Event" "day" "I", Cond.fieldLink RX0 24 "SkiShots$Event" "sort" "I", Cond.fieldLink RX0 27 "SkiShots$Event" "k" "I", Cond.fieldLink RX0 30 "SkiShots$Event" "v" "I", Cond.fieldLink RX0 33 "SkiShots$Event" "before" "LSkiShots$Event;", Cond.methodLink RX0 67 yX0_addShooting, Cond.instanceMethod yX0_addShooting, Cond.selects RX0 yX0_addShooting yX0_addShooting, Cond.code yX0_addShooting cX0_addShooting 11 none, Cond.fieldLink RX0 86 "SkiShots$Format" "loops" "Z", Cond.fieldLink RX0 89 "SkiShots$Format" "missSeconds" "I", Cond.methodLink RX0 92 Lib.Math.max.name, Cond.static Lib.Math.max.name, Cond.code Lib.Math.max.name Lib.Math.max.code 2 (some .int), Cond.methodLink RX0 81 yJ6_bitCount_0f7a4, Cond.static yJ6_bitCount_0f7a4, Cond.initialized RJ6]
def wsX5_split_r5 : List Cond := [Cond.code yJ6_bitCount_0f7a4 cJ6_bitCount_0f7a4 1 (some .int), Cond.constant RJ6 265 (1431655765), Cond.constant RJ6 266 (858993459), Cond.constant RJ6 267 (252645135), Cond.methodLink RX0 74 yX0_sinceStart, Cond.instanceMethod yX0_sinceStart, Cond.selects RX0 yX0_sinceStart yX0_sinceStart, Cond.code yX0_sinceStart cX0_sinceStart 2 (some .int), Cond.methodLink RX5 201 yX0_known, Cond.methodLink RX5 205 yX0_sinceStart]
def wsX5_split : List Cond := .code yX5_split cX5_split 7 (some .int) :: ((wsX5_split_r1 ++ (wsX5_split_r2 ++ (wsX5_split_r3 ++ (wsX5_split_r4 ++ wsX5_split_r5)))) ++ wsX30 ++ wsX50 ++ wsX20 ++ wsX00 ++ wsX10)
def wsX5_order_r1 : List Cond := [Cond.fieldLink RX5 106 "SkiShots$Race" "entryCount" "I", Cond.fieldLink RX5 161 "SkiShots$Race" "entries" "[LSkiShots$Entry;", Cond.fieldLink RX5 165 "SkiShots$Entry" "racer" "I", Cond.methodLink RX5 83 yX5_raceAt, Cond.instanceMethod yX5_raceAt, Cond.selects RX5 yX5_raceAt yX5_raceAt, Cond.initialized RX5, Cond.code yX5_raceAt cX5_raceAt 2 (some (.object "SkiShots$Race")), Cond.fieldLink RX5 80 "SkiShots" "raceCount" "I", Cond.fieldLink RX5 29 "SkiShots" "races" "[LSkiShots$Race;", Cond.methodLink RX5 168 yX5_isDay, Cond.instanceMethod yX5_isDay, Cond.selects RX5 yX5_isDay yX5_isDay, Cond.code yX5_isDay cX5_isDay 2 (some .boolean), Cond.fieldLink RX5 70 "SkiShots" "today" "I", Cond.methodLink RX5 171 yX5_workOut, Cond.instanceMethod yX5_workOut, Cond.selects RX5 yX5_workOut yX5_workOut, Cond.code yX5_workOut cX5_workOut 4 none, Cond.methodLink RX5 228 yX3_workOut, Cond.instanceMethod yX3_workOut, Cond.selects RX3 yX3_workOut yX3_workOut, Cond.initialized RX3, Cond.code yX3_workOut cX3_workOut 4 none]
def wsX5_order_r2 : List Cond := [Cond.fieldLink RX3 38 "SkiShots$Race" "leastLow" "I", Cond.fieldLink RX3 29 "SkiShots$Race" "entryCount" "I", Cond.fieldLink RX3 25 "SkiShots$Race" "entries" "[LSkiShots$Entry;", Cond.fieldLink RX3 9 "SkiShots$Race" "format" "LSkiShots$Format;", Cond.fieldLink RX3 53 "SkiShots$Entry" "low" "I", Cond.methodLink RX3 41 yX3_startOf, Cond.instanceMethod yX3_startOf, Cond.selects RX3 yX3_startOf yX3_startOf, Cond.code yX3_startOf cX3_startOf 2 (some .int), Cond.fieldLink RX3 56 "SkiShots$Format" "startSort" "I", Cond.fieldLink RX3 61 "SkiShots$Format" "startSeconds" "I", Cond.fieldLink RX3 35 "SkiShots$Entry" "racer" "I", Cond.methodLink RX3 64 yX3_chaseStart, Cond.instanceMethod yX3_chaseStart, Cond.selects RX3 yX3_chaseStart yX3_chaseStart, Cond.code yX3_chaseStart cX3_chaseStart 4 (some .int), Cond.fieldLink RX3 15 "SkiShots$Race" "by" "LSkiShots$Race;", Cond.methodLink RX3 71 Lib.Math.min.name, Cond.static Lib.Math.min.name, Cond.initialized "java/lang/Math", Cond.code Lib.Math.min.name Lib.Math.min.code 2 (some .int), Cond.methodLink RX3 67 yX3_entryOf, Cond.instanceMethod yX3_entryOf, Cond.selects RX3 yX3_entryOf yX3_entryOf]
def wsX5_order_r3 : List Cond := [Cond.code yX3_entryOf cX3_entryOf 3 (some (.object "SkiShots$Entry")), Cond.methodLink RX3 49 yX0_hasTime, Cond.instanceMethod yX0_hasTime, Cond.selects RX0 yX0_hasTime yX0_hasTime, Cond.initialized RX0, Cond.code yX0_hasTime cX0_hasTime 1 (some .boolean), Cond.fieldLink RX0 39 "SkiShots$Entry" "low" "I", Cond.methodLink RX3 45 yX0_workOut, Cond.instanceMethod yX0_workOut, Cond.selects RX0 yX0_workOut yX0_workOut, Cond.code yX0_workOut cX0_workOut 5 none, Cond.fieldLink RX0 36 "SkiShots$Entry" "start" "I", Cond.fieldLink RX0 46 "SkiShots$Entry" "struck" "Z", Cond.fieldLink RX0 50 "SkiShots$Entry" "fewestMisses" "I", Cond.fieldLink RX0 53 "SkiShots$Entry" "mostMisses" "I", Cond.fieldLink RX0 56 "SkiShots$Entry" "leastPenalty" "I", Cond.fieldLink RX0 59 "SkiShots$Entry" "greatestPenalty" "I", Cond.fieldLink RX0 62 "SkiShots$Format" "shootings" "I", Cond.fieldLink RX0 71 "SkiShots$Format" "laps" "I", Cond.fieldLink RX0 78 "SkiShots$Entry" "high" "I", Cond.methodLink RX0 42 yX0_known, Cond.instanceMethod yX0_known, Cond.selects RX0 yX0_known yX0_known, Cond.code yX0_known cX0_known 5 (some .int)]
def wsX5_order_r4 : List Cond := [Cond.fieldLink RX0 15 "SkiShots$Entry" "latest" "LSkiShots$Event;", Cond.fieldLink RX0 19 "SkiShots$Event" "day" "I", Cond.fieldLink RX0 24 "SkiShots$Event" "sort" "I", Cond.fieldLink RX0 27 "SkiShots$Event" "k" "I", Cond.fieldLink RX0 30 "SkiShots$Event" "v" "I", Cond.fieldLink RX0 33 "SkiShots$Event" "before" "LSkiShots$Event;", Cond.methodLink RX0 67 yX0_addShooting, Cond.instanceMethod yX0_addShooting, Cond.selects RX0 yX0_addShooting yX0_addShooting, Cond.code yX0_addShooting cX0_addShooting 11 none, Cond.fieldLink RX0 86 "SkiShots$Format" "loops" "Z", Cond.fieldLink RX0 89 "SkiShots$Format" "missSeconds" "I", Cond.methodLink RX0 92 Lib.Math.max.name, Cond.static Lib.Math.max.name, Cond.code Lib.Math.max.name Lib.Math.max.code 2 (some .int), Cond.methodLink RX0 81 yJ6_bitCount_0f7a4, Cond.static yJ6_bitCount_0f7a4, Cond.initialized RJ6, Cond.code yJ6_bitCount_0f7a4 cJ6_bitCount_0f7a4 1 (some .int), Cond.constant RJ6 265 (1431655765), Cond.constant RJ6 266 (858993459), Cond.constant RJ6 267 (252645135), Cond.methodLink RX0 74 yX0_sinceStart, Cond.instanceMethod yX0_sinceStart]
def wsX5_order_r5 : List Cond := [Cond.selects RX0 yX0_sinceStart yX0_sinceStart, Cond.code yX0_sinceStart cX0_sinceStart 2 (some .int), Cond.methodLink RX5 209 yX0_hasTime, Cond.methodLink RX5 212 yX3_aheadInOrder, Cond.instanceMethod yX3_aheadInOrder, Cond.selects RX3 yX3_aheadInOrder yX3_aheadInOrder, Cond.code yX3_aheadInOrder cX3_aheadInOrder 5 (some .int)]
def wsX5_order : List Cond := .code yX5_order cX5_order 6 (some .int) :: ((wsX5_order_r1 ++ (wsX5_order_r2 ++ (wsX5_order_r3 ++ (wsX5_order_r4 ++ wsX5_order_r5)))) ++ wsX30 ++ wsX00 ++ wsX50 ++ wsX20 ++ wsX10)
def wsX5_addToCup : List Cond := .code yX5_addToCup cX5_addToCup 4 none :: ([.fieldLink RX5 106 "SkiShots$Race" "entryCount" "I", .fieldLink RX5 161 "SkiShots$Race" "entries" "[LSkiShots$Entry;", .fieldLink RX5 33 "SkiShots" "cup" "[I", .fieldLink RX5 165 "SkiShots$Entry" "racer" "I", .methodLink RX5 234 Lib.Math.max.name, .static Lib.Math.max.name, .initialized "java/lang/Math", .code Lib.Math.max.name Lib.Math.max.code 2 (some .int), .methodLink RX5 209 yX0_hasTime, .instanceMethod yX0_hasTime, .selects RX0 yX0_hasTime yX0_hasTime, .initialized RX0, .code yX0_hasTime cX0_hasTime 1 (some .boolean), .fieldLink RX0 39 "SkiShots$Entry" "low" "I", .methodLink RX5 188 yX3_lastPlace, .instanceMethod yX3_lastPlace, .selects RX3 yX3_lastPlace yX3_lastPlace, .initialized RX3, .code yX3_lastPlace cX3_lastPlace 5 (some .int), .fieldLink RX3 29 "SkiShots$Race" "entryCount" "I", .fieldLink RX3 25 "SkiShots$Race" "entries" "[LSkiShots$Entry;", .fieldLink RX3 53 "SkiShots$Entry" "low" "I", .fieldLink RX3 77 "SkiShots$Entry" "high" "I", .methodLink RX3 49 yX0_hasTime] ++ wsX30 ++ wsX50 ++ wsX00)
def wsX5_addUpCup_r1 : List Cond := [Cond.fieldLink RX5 80 "SkiShots" "raceCount" "I", Cond.fieldLink RX5 77 "SkiShots" "racerCount" "I", Cond.fieldLink RX5 33 "SkiShots" "cup" "[I", Cond.fieldLink RX5 29 "SkiShots" "races" "[LSkiShots$Race;", Cond.methodLink RX5 171 yX5_workOut, Cond.instanceMethod yX5_workOut, Cond.selects RX5 yX5_workOut yX5_workOut, Cond.initialized RX5, Cond.code yX5_workOut cX5_workOut 4 none, Cond.methodLink RX5 228 yX3_workOut, Cond.instanceMethod yX3_workOut, Cond.selects RX3 yX3_workOut yX3_workOut, Cond.initialized RX3, Cond.code yX3_workOut cX3_workOut 4 none, Cond.fieldLink RX3 38 "SkiShots$Race" "leastLow" "I", Cond.fieldLink RX3 29 "SkiShots$Race" "entryCount" "I", Cond.fieldLink RX3 25 "SkiShots$Race" "entries" "[LSkiShots$Entry;", Cond.fieldLink RX3 9 "SkiShots$Race" "format" "LSkiShots$Format;", Cond.fieldLink RX3 53 "SkiShots$Entry" "low" "I", Cond.methodLink RX3 41 yX3_startOf, Cond.instanceMethod yX3_startOf, Cond.selects RX3 yX3_startOf yX3_startOf, Cond.code yX3_startOf cX3_startOf 2 (some .int), Cond.fieldLink RX3 56 "SkiShots$Format" "startSort" "I"]
def wsX5_addUpCup_r2 : List Cond := [Cond.fieldLink RX3 61 "SkiShots$Format" "startSeconds" "I", Cond.fieldLink RX3 35 "SkiShots$Entry" "racer" "I", Cond.methodLink RX3 64 yX3_chaseStart, Cond.instanceMethod yX3_chaseStart, Cond.selects RX3 yX3_chaseStart yX3_chaseStart, Cond.code yX3_chaseStart cX3_chaseStart 4 (some .int), Cond.fieldLink RX3 15 "SkiShots$Race" "by" "LSkiShots$Race;", Cond.methodLink RX3 71 Lib.Math.min.name, Cond.static Lib.Math.min.name, Cond.initialized "java/lang/Math", Cond.code Lib.Math.min.name Lib.Math.min.code 2 (some .int), Cond.methodLink RX3 67 yX3_entryOf, Cond.instanceMethod yX3_entryOf, Cond.selects RX3 yX3_entryOf yX3_entryOf, Cond.code yX3_entryOf cX3_entryOf 3 (some (.object "SkiShots$Entry")), Cond.methodLink RX3 49 yX0_hasTime, Cond.instanceMethod yX0_hasTime, Cond.selects RX0 yX0_hasTime yX0_hasTime, Cond.initialized RX0, Cond.code yX0_hasTime cX0_hasTime 1 (some .boolean), Cond.fieldLink RX0 39 "SkiShots$Entry" "low" "I", Cond.methodLink RX3 45 yX0_workOut, Cond.instanceMethod yX0_workOut, Cond.selects RX0 yX0_workOut yX0_workOut]
def wsX5_addUpCup_r3 : List Cond := [Cond.code yX0_workOut cX0_workOut 5 none, Cond.fieldLink RX0 36 "SkiShots$Entry" "start" "I", Cond.fieldLink RX0 46 "SkiShots$Entry" "struck" "Z", Cond.fieldLink RX0 50 "SkiShots$Entry" "fewestMisses" "I", Cond.fieldLink RX0 53 "SkiShots$Entry" "mostMisses" "I", Cond.fieldLink RX0 56 "SkiShots$Entry" "leastPenalty" "I", Cond.fieldLink RX0 59 "SkiShots$Entry" "greatestPenalty" "I", Cond.fieldLink RX0 62 "SkiShots$Format" "shootings" "I", Cond.fieldLink RX0 71 "SkiShots$Format" "laps" "I", Cond.fieldLink RX0 78 "SkiShots$Entry" "high" "I", Cond.methodLink RX0 42 yX0_known, Cond.instanceMethod yX0_known, Cond.selects RX0 yX0_known yX0_known, Cond.code yX0_known cX0_known 5 (some .int), Cond.fieldLink RX0 15 "SkiShots$Entry" "latest" "LSkiShots$Event;", Cond.fieldLink RX0 19 "SkiShots$Event" "day" "I", Cond.fieldLink RX0 24 "SkiShots$Event" "sort" "I", Cond.fieldLink RX0 27 "SkiShots$Event" "k" "I", Cond.fieldLink RX0 30 "SkiShots$Event" "v" "I", Cond.fieldLink RX0 33 "SkiShots$Event" "before" "LSkiShots$Event;", Cond.methodLink RX0 67 yX0_addShooting, Cond.instanceMethod yX0_addShooting, Cond.selects RX0 yX0_addShooting yX0_addShooting, Cond.code yX0_addShooting cX0_addShooting 11 none]
def wsX5_addUpCup_r4 : List Cond := [Cond.fieldLink RX0 86 "SkiShots$Format" "loops" "Z", Cond.fieldLink RX0 89 "SkiShots$Format" "missSeconds" "I", Cond.methodLink RX0 92 Lib.Math.max.name, Cond.static Lib.Math.max.name, Cond.code Lib.Math.max.name Lib.Math.max.code 2 (some .int), Cond.methodLink RX0 81 yJ6_bitCount_0f7a4, Cond.static yJ6_bitCount_0f7a4, Cond.initialized RJ6, Cond.code yJ6_bitCount_0f7a4 cJ6_bitCount_0f7a4 1 (some .int), Cond.constant RJ6 265 (1431655765), Cond.constant RJ6 266 (858993459), Cond.constant RJ6 267 (252645135), Cond.methodLink RX0 74 yX0_sinceStart, Cond.instanceMethod yX0_sinceStart, Cond.selects RX0 yX0_sinceStart yX0_sinceStart, Cond.code yX0_sinceStart cX0_sinceStart 2 (some .int), Cond.methodLink RX5 230 yX5_addToCup, Cond.instanceMethod yX5_addToCup, Cond.selects RX5 yX5_addToCup yX5_addToCup, Cond.code yX5_addToCup cX5_addToCup 4 none, Cond.fieldLink RX5 106 "SkiShots$Race" "entryCount" "I", Cond.fieldLink RX5 161 "SkiShots$Race" "entries" "[LSkiShots$Entry;", Cond.fieldLink RX5 165 "SkiShots$Entry" "racer" "I", Cond.methodLink RX5 234 Lib.Math.max.name]
def wsX5_addUpCup_r5 : List Cond := [Cond.methodLink RX5 209 yX0_hasTime, Cond.methodLink RX5 188 yX3_lastPlace, Cond.instanceMethod yX3_lastPlace, Cond.selects RX3 yX3_lastPlace yX3_lastPlace, Cond.code yX3_lastPlace cX3_lastPlace 5 (some .int), Cond.fieldLink RX3 77 "SkiShots$Entry" "high" "I"]
def wsX5_addUpCup : List Cond := .code yX5_addUpCup cX5_addUpCup 3 none :: ((wsX5_addUpCup_r1 ++ (wsX5_addUpCup_r2 ++ (wsX5_addUpCup_r3 ++ (wsX5_addUpCup_r4 ++ wsX5_addUpCup_r5)))) ++ wsX50 ++ wsX30 ++ wsX00 ++ wsX20 ++ wsX10)
def wsX5_points_r1 : List Cond := [Cond.fieldLink RX5 33 "SkiShots" "cup" "[I", Cond.methodLink RX5 93 yX5_isRacer, Cond.instanceMethod yX5_isRacer, Cond.selects RX5 yX5_isRacer yX5_isRacer, Cond.initialized RX5, Cond.code yX5_isRacer cX5_isRacer 2 (some .boolean), Cond.fieldLink RX5 77 "SkiShots" "racerCount" "I", Cond.methodLink RX5 168 yX5_isDay, Cond.instanceMethod yX5_isDay, Cond.selects RX5 yX5_isDay yX5_isDay, Cond.code yX5_isDay cX5_isDay 2 (some .boolean), Cond.fieldLink RX5 70 "SkiShots" "today" "I", Cond.methodLink RX5 215 yX5_addUpCup, Cond.instanceMethod yX5_addUpCup, Cond.selects RX5 yX5_addUpCup yX5_addUpCup, Cond.code yX5_addUpCup cX5_addUpCup 3 none, Cond.fieldLink RX5 80 "SkiShots" "raceCount" "I", Cond.fieldLink RX5 29 "SkiShots" "races" "[LSkiShots$Race;", Cond.methodLink RX5 171 yX5_workOut, Cond.instanceMethod yX5_workOut, Cond.selects RX5 yX5_workOut yX5_workOut, Cond.code yX5_workOut cX5_workOut 4 none, Cond.methodLink RX5 228 yX3_workOut, Cond.instanceMethod yX3_workOut]
def wsX5_points_r2 : List Cond := [Cond.selects RX3 yX3_workOut yX3_workOut, Cond.initialized RX3, Cond.code yX3_workOut cX3_workOut 4 none, Cond.fieldLink RX3 38 "SkiShots$Race" "leastLow" "I", Cond.fieldLink RX3 29 "SkiShots$Race" "entryCount" "I", Cond.fieldLink RX3 25 "SkiShots$Race" "entries" "[LSkiShots$Entry;", Cond.fieldLink RX3 9 "SkiShots$Race" "format" "LSkiShots$Format;", Cond.fieldLink RX3 53 "SkiShots$Entry" "low" "I", Cond.methodLink RX3 41 yX3_startOf, Cond.instanceMethod yX3_startOf, Cond.selects RX3 yX3_startOf yX3_startOf, Cond.code yX3_startOf cX3_startOf 2 (some .int), Cond.fieldLink RX3 56 "SkiShots$Format" "startSort" "I", Cond.fieldLink RX3 61 "SkiShots$Format" "startSeconds" "I", Cond.fieldLink RX3 35 "SkiShots$Entry" "racer" "I", Cond.methodLink RX3 64 yX3_chaseStart, Cond.instanceMethod yX3_chaseStart, Cond.selects RX3 yX3_chaseStart yX3_chaseStart, Cond.code yX3_chaseStart cX3_chaseStart 4 (some .int), Cond.fieldLink RX3 15 "SkiShots$Race" "by" "LSkiShots$Race;", Cond.methodLink RX3 71 Lib.Math.min.name, Cond.static Lib.Math.min.name, Cond.initialized "java/lang/Math", Cond.code Lib.Math.min.name Lib.Math.min.code 2 (some .int)]
def wsX5_points_r3 : List Cond := [Cond.methodLink RX3 67 yX3_entryOf, Cond.instanceMethod yX3_entryOf, Cond.selects RX3 yX3_entryOf yX3_entryOf, Cond.code yX3_entryOf cX3_entryOf 3 (some (.object "SkiShots$Entry")), Cond.methodLink RX3 49 yX0_hasTime, Cond.instanceMethod yX0_hasTime, Cond.selects RX0 yX0_hasTime yX0_hasTime, Cond.initialized RX0, Cond.code yX0_hasTime cX0_hasTime 1 (some .boolean), Cond.fieldLink RX0 39 "SkiShots$Entry" "low" "I", Cond.methodLink RX3 45 yX0_workOut, Cond.instanceMethod yX0_workOut, Cond.selects RX0 yX0_workOut yX0_workOut, Cond.code yX0_workOut cX0_workOut 5 none, Cond.fieldLink RX0 36 "SkiShots$Entry" "start" "I", Cond.fieldLink RX0 46 "SkiShots$Entry" "struck" "Z", Cond.fieldLink RX0 50 "SkiShots$Entry" "fewestMisses" "I", Cond.fieldLink RX0 53 "SkiShots$Entry" "mostMisses" "I", Cond.fieldLink RX0 56 "SkiShots$Entry" "leastPenalty" "I", Cond.fieldLink RX0 59 "SkiShots$Entry" "greatestPenalty" "I", Cond.fieldLink RX0 62 "SkiShots$Format" "shootings" "I", Cond.fieldLink RX0 71 "SkiShots$Format" "laps" "I", Cond.fieldLink RX0 78 "SkiShots$Entry" "high" "I", Cond.methodLink RX0 42 yX0_known]
def wsX5_points_r4 : List Cond := [Cond.instanceMethod yX0_known, Cond.selects RX0 yX0_known yX0_known, Cond.code yX0_known cX0_known 5 (some .int), Cond.fieldLink RX0 15 "SkiShots$Entry" "latest" "LSkiShots$Event;", Cond.fieldLink RX0 19 "SkiShots$Event" "day" "I", Cond.fieldLink RX0 24 "SkiShots$Event" "sort" "I", Cond.fieldLink RX0 27 "SkiShots$Event" "k" "I", Cond.fieldLink RX0 30 "SkiShots$Event" "v" "I", Cond.fieldLink RX0 33 "SkiShots$Event" "before" "LSkiShots$Event;", Cond.methodLink RX0 67 yX0_addShooting, Cond.instanceMethod yX0_addShooting, Cond.selects RX0 yX0_addShooting yX0_addShooting, Cond.code yX0_addShooting cX0_addShooting 11 none, Cond.fieldLink RX0 86 "SkiShots$Format" "loops" "Z", Cond.fieldLink RX0 89 "SkiShots$Format" "missSeconds" "I", Cond.methodLink RX0 92 Lib.Math.max.name, Cond.static Lib.Math.max.name, Cond.code Lib.Math.max.name Lib.Math.max.code 2 (some .int), Cond.methodLink RX0 81 yJ6_bitCount_0f7a4, Cond.static yJ6_bitCount_0f7a4, Cond.initialized RJ6, Cond.code yJ6_bitCount_0f7a4 cJ6_bitCount_0f7a4 1 (some .int), Cond.constant RJ6 265 (1431655765), Cond.constant RJ6 266 (858993459)]
def wsX5_points_r5 : List Cond := [Cond.constant RJ6 267 (252645135), Cond.methodLink RX0 74 yX0_sinceStart, Cond.instanceMethod yX0_sinceStart, Cond.selects RX0 yX0_sinceStart yX0_sinceStart, Cond.code yX0_sinceStart cX0_sinceStart 2 (some .int), Cond.methodLink RX5 230 yX5_addToCup, Cond.instanceMethod yX5_addToCup, Cond.selects RX5 yX5_addToCup yX5_addToCup, Cond.code yX5_addToCup cX5_addToCup 4 none, Cond.fieldLink RX5 106 "SkiShots$Race" "entryCount" "I", Cond.fieldLink RX5 161 "SkiShots$Race" "entries" "[LSkiShots$Entry;", Cond.fieldLink RX5 165 "SkiShots$Entry" "racer" "I", Cond.methodLink RX5 234 Lib.Math.max.name, Cond.methodLink RX5 209 yX0_hasTime, Cond.methodLink RX5 188 yX3_lastPlace, Cond.instanceMethod yX3_lastPlace, Cond.selects RX3 yX3_lastPlace yX3_lastPlace, Cond.code yX3_lastPlace cX3_lastPlace 5 (some .int), Cond.fieldLink RX3 77 "SkiShots$Entry" "high" "I"]
def wsX5_points : List Cond := .code yX5_points cX5_points 3 (some .int) :: ((wsX5_points_r1 ++ (wsX5_points_r2 ++ (wsX5_points_r3 ++ (wsX5_points_r4 ++ wsX5_points_r5)))) ++ wsX50 ++ wsX30 ++ wsX00 ++ wsX20 ++ wsX10)
def wsX5_standingInCup : List Cond := .code yX5_standingInCup cX5_standingInCup 4 (some .int) :: ([.fieldLink RX5 77 "SkiShots" "racerCount" "I", .fieldLink RX5 33 "SkiShots" "cup" "[I"] ++ wsX50)
def wsX5_standing_r1 : List Cond := [Cond.methodLink RX5 93 yX5_isRacer, Cond.instanceMethod yX5_isRacer, Cond.selects RX5 yX5_isRacer yX5_isRacer, Cond.initialized RX5, Cond.code yX5_isRacer cX5_isRacer 2 (some .boolean), Cond.fieldLink RX5 77 "SkiShots" "racerCount" "I", Cond.methodLink RX5 168 yX5_isDay, Cond.instanceMethod yX5_isDay, Cond.selects RX5 yX5_isDay yX5_isDay, Cond.code yX5_isDay cX5_isDay 2 (some .boolean), Cond.fieldLink RX5 70 "SkiShots" "today" "I", Cond.methodLink RX5 215 yX5_addUpCup, Cond.instanceMethod yX5_addUpCup, Cond.selects RX5 yX5_addUpCup yX5_addUpCup, Cond.code yX5_addUpCup cX5_addUpCup 3 none, Cond.fieldLink RX5 80 "SkiShots" "raceCount" "I", Cond.fieldLink RX5 33 "SkiShots" "cup" "[I", Cond.fieldLink RX5 29 "SkiShots" "races" "[LSkiShots$Race;", Cond.methodLink RX5 171 yX5_workOut, Cond.instanceMethod yX5_workOut, Cond.selects RX5 yX5_workOut yX5_workOut, Cond.code yX5_workOut cX5_workOut 4 none, Cond.methodLink RX5 228 yX3_workOut, Cond.instanceMethod yX3_workOut]
def wsX5_standing_r2 : List Cond := [Cond.selects RX3 yX3_workOut yX3_workOut, Cond.initialized RX3, Cond.code yX3_workOut cX3_workOut 4 none, Cond.fieldLink RX3 38 "SkiShots$Race" "leastLow" "I", Cond.fieldLink RX3 29 "SkiShots$Race" "entryCount" "I", Cond.fieldLink RX3 25 "SkiShots$Race" "entries" "[LSkiShots$Entry;", Cond.fieldLink RX3 9 "SkiShots$Race" "format" "LSkiShots$Format;", Cond.fieldLink RX3 53 "SkiShots$Entry" "low" "I", Cond.methodLink RX3 41 yX3_startOf, Cond.instanceMethod yX3_startOf, Cond.selects RX3 yX3_startOf yX3_startOf, Cond.code yX3_startOf cX3_startOf 2 (some .int), Cond.fieldLink RX3 56 "SkiShots$Format" "startSort" "I", Cond.fieldLink RX3 61 "SkiShots$Format" "startSeconds" "I", Cond.fieldLink RX3 35 "SkiShots$Entry" "racer" "I", Cond.methodLink RX3 64 yX3_chaseStart, Cond.instanceMethod yX3_chaseStart, Cond.selects RX3 yX3_chaseStart yX3_chaseStart, Cond.code yX3_chaseStart cX3_chaseStart 4 (some .int), Cond.fieldLink RX3 15 "SkiShots$Race" "by" "LSkiShots$Race;", Cond.methodLink RX3 71 Lib.Math.min.name, Cond.static Lib.Math.min.name, Cond.initialized "java/lang/Math", Cond.code Lib.Math.min.name Lib.Math.min.code 2 (some .int)]
def wsX5_standing_r3 : List Cond := [Cond.methodLink RX3 67 yX3_entryOf, Cond.instanceMethod yX3_entryOf, Cond.selects RX3 yX3_entryOf yX3_entryOf, Cond.code yX3_entryOf cX3_entryOf 3 (some (.object "SkiShots$Entry")), Cond.methodLink RX3 49 yX0_hasTime, Cond.instanceMethod yX0_hasTime, Cond.selects RX0 yX0_hasTime yX0_hasTime, Cond.initialized RX0, Cond.code yX0_hasTime cX0_hasTime 1 (some .boolean), Cond.fieldLink RX0 39 "SkiShots$Entry" "low" "I", Cond.methodLink RX3 45 yX0_workOut, Cond.instanceMethod yX0_workOut, Cond.selects RX0 yX0_workOut yX0_workOut, Cond.code yX0_workOut cX0_workOut 5 none, Cond.fieldLink RX0 36 "SkiShots$Entry" "start" "I", Cond.fieldLink RX0 46 "SkiShots$Entry" "struck" "Z", Cond.fieldLink RX0 50 "SkiShots$Entry" "fewestMisses" "I", Cond.fieldLink RX0 53 "SkiShots$Entry" "mostMisses" "I", Cond.fieldLink RX0 56 "SkiShots$Entry" "leastPenalty" "I", Cond.fieldLink RX0 59 "SkiShots$Entry" "greatestPenalty" "I", Cond.fieldLink RX0 62 "SkiShots$Format" "shootings" "I", Cond.fieldLink RX0 71 "SkiShots$Format" "laps" "I", Cond.fieldLink RX0 78 "SkiShots$Entry" "high" "I", Cond.methodLink RX0 42 yX0_known]
def wsX5_standing_r4 : List Cond := [Cond.instanceMethod yX0_known, Cond.selects RX0 yX0_known yX0_known, Cond.code yX0_known cX0_known 5 (some .int), Cond.fieldLink RX0 15 "SkiShots$Entry" "latest" "LSkiShots$Event;", Cond.fieldLink RX0 19 "SkiShots$Event" "day" "I", Cond.fieldLink RX0 24 "SkiShots$Event" "sort" "I", Cond.fieldLink RX0 27 "SkiShots$Event" "k" "I", Cond.fieldLink RX0 30 "SkiShots$Event" "v" "I", Cond.fieldLink RX0 33 "SkiShots$Event" "before" "LSkiShots$Event;", Cond.methodLink RX0 67 yX0_addShooting, Cond.instanceMethod yX0_addShooting, Cond.selects RX0 yX0_addShooting yX0_addShooting, Cond.code yX0_addShooting cX0_addShooting 11 none, Cond.fieldLink RX0 86 "SkiShots$Format" "loops" "Z", Cond.fieldLink RX0 89 "SkiShots$Format" "missSeconds" "I", Cond.methodLink RX0 92 Lib.Math.max.name, Cond.static Lib.Math.max.name, Cond.code Lib.Math.max.name Lib.Math.max.code 2 (some .int), Cond.methodLink RX0 81 yJ6_bitCount_0f7a4, Cond.static yJ6_bitCount_0f7a4, Cond.initialized RJ6, Cond.code yJ6_bitCount_0f7a4 cJ6_bitCount_0f7a4 1 (some .int), Cond.constant RJ6 265 (1431655765), Cond.constant RJ6 266 (858993459)]
def wsX5_standing_r5 : List Cond := [Cond.constant RJ6 267 (252645135), Cond.methodLink RX0 74 yX0_sinceStart, Cond.instanceMethod yX0_sinceStart, Cond.selects RX0 yX0_sinceStart yX0_sinceStart, Cond.code yX0_sinceStart cX0_sinceStart 2 (some .int), Cond.methodLink RX5 230 yX5_addToCup, Cond.instanceMethod yX5_addToCup, Cond.selects RX5 yX5_addToCup yX5_addToCup, Cond.code yX5_addToCup cX5_addToCup 4 none, Cond.fieldLink RX5 106 "SkiShots$Race" "entryCount" "I", Cond.fieldLink RX5 161 "SkiShots$Race" "entries" "[LSkiShots$Entry;", Cond.fieldLink RX5 165 "SkiShots$Entry" "racer" "I", Cond.methodLink RX5 234 Lib.Math.max.name, Cond.methodLink RX5 209 yX0_hasTime, Cond.methodLink RX5 188 yX3_lastPlace, Cond.instanceMethod yX3_lastPlace, Cond.selects RX3 yX3_lastPlace yX3_lastPlace, Cond.code yX3_lastPlace cX3_lastPlace 5 (some .int), Cond.fieldLink RX3 77 "SkiShots$Entry" "high" "I", Cond.methodLink RX5 218 yX5_standingInCup, Cond.instanceMethod yX5_standingInCup, Cond.selects RX5 yX5_standingInCup yX5_standingInCup, Cond.code yX5_standingInCup cX5_standingInCup 4 (some .int)]
def wsX5_standing : List Cond := .code yX5_standing cX5_standing 3 (some .int) :: ((wsX5_standing_r1 ++ (wsX5_standing_r2 ++ (wsX5_standing_r3 ++ (wsX5_standing_r4 ++ wsX5_standing_r5)))) ++ wsX50 ++ wsX30 ++ wsX00 ++ wsX20 ++ wsX10)
def wsX5_starters_r1 : List Cond := [Cond.fieldLink RX5 77 "SkiShots" "racerCount" "I", Cond.fieldLink RX5 23 "SkiShots" "nations" "[I", Cond.fieldLink RX5 33 "SkiShots" "cup" "[I", Cond.methodLink RX5 221 Lib.Math.min.name, Cond.static Lib.Math.min.name, Cond.initialized "java/lang/Math", Cond.code Lib.Math.min.name Lib.Math.min.code 2 (some .int), Cond.methodLink RX5 73 yX5_isNation, Cond.static yX5_isNation, Cond.initialized RX5, Cond.code yX5_isNation cX5_isNation 1 (some .boolean), Cond.methodLink RX5 168 yX5_isDay, Cond.instanceMethod yX5_isDay, Cond.selects RX5 yX5_isDay yX5_isDay, Cond.code yX5_isDay cX5_isDay 2 (some .boolean), Cond.fieldLink RX5 70 "SkiShots" "today" "I", Cond.methodLink RX5 215 yX5_addUpCup, Cond.instanceMethod yX5_addUpCup, Cond.selects RX5 yX5_addUpCup yX5_addUpCup, Cond.code yX5_addUpCup cX5_addUpCup 3 none, Cond.fieldLink RX5 80 "SkiShots" "raceCount" "I", Cond.fieldLink RX5 29 "SkiShots" "races" "[LSkiShots$Race;", Cond.methodLink RX5 171 yX5_workOut, Cond.instanceMethod yX5_workOut]
def wsX5_starters_r2 : List Cond := [Cond.selects RX5 yX5_workOut yX5_workOut, Cond.code yX5_workOut cX5_workOut 4 none, Cond.methodLink RX5 228 yX3_workOut, Cond.instanceMethod yX3_workOut, Cond.selects RX3 yX3_workOut yX3_workOut, Cond.initialized RX3, Cond.code yX3_workOut cX3_workOut 4 none, Cond.fieldLink RX3 38 "SkiShots$Race" "leastLow" "I", Cond.fieldLink RX3 29 "SkiShots$Race" "entryCount" "I", Cond.fieldLink RX3 25 "SkiShots$Race" "entries" "[LSkiShots$Entry;", Cond.fieldLink RX3 9 "SkiShots$Race" "format" "LSkiShots$Format;", Cond.fieldLink RX3 53 "SkiShots$Entry" "low" "I", Cond.methodLink RX3 41 yX3_startOf, Cond.instanceMethod yX3_startOf, Cond.selects RX3 yX3_startOf yX3_startOf, Cond.code yX3_startOf cX3_startOf 2 (some .int), Cond.fieldLink RX3 56 "SkiShots$Format" "startSort" "I", Cond.fieldLink RX3 61 "SkiShots$Format" "startSeconds" "I", Cond.fieldLink RX3 35 "SkiShots$Entry" "racer" "I", Cond.methodLink RX3 64 yX3_chaseStart, Cond.instanceMethod yX3_chaseStart, Cond.selects RX3 yX3_chaseStart yX3_chaseStart, Cond.code yX3_chaseStart cX3_chaseStart 4 (some .int), Cond.fieldLink RX3 15 "SkiShots$Race" "by" "LSkiShots$Race;"]
def wsX5_starters_r3 : List Cond := [Cond.methodLink RX3 71 Lib.Math.min.name, Cond.methodLink RX3 67 yX3_entryOf, Cond.instanceMethod yX3_entryOf, Cond.selects RX3 yX3_entryOf yX3_entryOf, Cond.code yX3_entryOf cX3_entryOf 3 (some (.object "SkiShots$Entry")), Cond.methodLink RX3 49 yX0_hasTime, Cond.instanceMethod yX0_hasTime, Cond.selects RX0 yX0_hasTime yX0_hasTime, Cond.initialized RX0, Cond.code yX0_hasTime cX0_hasTime 1 (some .boolean), Cond.fieldLink RX0 39 "SkiShots$Entry" "low" "I", Cond.methodLink RX3 45 yX0_workOut, Cond.instanceMethod yX0_workOut, Cond.selects RX0 yX0_workOut yX0_workOut, Cond.code yX0_workOut cX0_workOut 5 none, Cond.fieldLink RX0 36 "SkiShots$Entry" "start" "I", Cond.fieldLink RX0 46 "SkiShots$Entry" "struck" "Z", Cond.fieldLink RX0 50 "SkiShots$Entry" "fewestMisses" "I", Cond.fieldLink RX0 53 "SkiShots$Entry" "mostMisses" "I", Cond.fieldLink RX0 56 "SkiShots$Entry" "leastPenalty" "I", Cond.fieldLink RX0 59 "SkiShots$Entry" "greatestPenalty" "I", Cond.fieldLink RX0 62 "SkiShots$Format" "shootings" "I", Cond.fieldLink RX0 71 "SkiShots$Format" "laps" "I", Cond.fieldLink RX0 78 "SkiShots$Entry" "high" "I"]
def wsX5_starters_r4 : List Cond := [Cond.methodLink RX0 42 yX0_known, Cond.instanceMethod yX0_known, Cond.selects RX0 yX0_known yX0_known, Cond.code yX0_known cX0_known 5 (some .int), Cond.fieldLink RX0 15 "SkiShots$Entry" "latest" "LSkiShots$Event;", Cond.fieldLink RX0 19 "SkiShots$Event" "day" "I", Cond.fieldLink RX0 24 "SkiShots$Event" "sort" "I", Cond.fieldLink RX0 27 "SkiShots$Event" "k" "I", Cond.fieldLink RX0 30 "SkiShots$Event" "v" "I", Cond.fieldLink RX0 33 "SkiShots$Event" "before" "LSkiShots$Event;", Cond.methodLink RX0 67 yX0_addShooting, Cond.instanceMethod yX0_addShooting, Cond.selects RX0 yX0_addShooting yX0_addShooting, Cond.code yX0_addShooting cX0_addShooting 11 none, Cond.fieldLink RX0 86 "SkiShots$Format" "loops" "Z", Cond.fieldLink RX0 89 "SkiShots$Format" "missSeconds" "I", Cond.methodLink RX0 92 Lib.Math.max.name, Cond.static Lib.Math.max.name, Cond.code Lib.Math.max.name Lib.Math.max.code 2 (some .int), Cond.methodLink RX0 81 yJ6_bitCount_0f7a4, Cond.static yJ6_bitCount_0f7a4, Cond.initialized RJ6, Cond.code yJ6_bitCount_0f7a4 cJ6_bitCount_0f7a4 1 (some .int), Cond.constant RJ6 265 (1431655765)]
def wsX5_starters_r5 : List Cond := [Cond.constant RJ6 266 (858993459), Cond.constant RJ6 267 (252645135), Cond.methodLink RX0 74 yX0_sinceStart, Cond.instanceMethod yX0_sinceStart, Cond.selects RX0 yX0_sinceStart yX0_sinceStart, Cond.code yX0_sinceStart cX0_sinceStart 2 (some .int), Cond.methodLink RX5 230 yX5_addToCup, Cond.instanceMethod yX5_addToCup, Cond.selects RX5 yX5_addToCup yX5_addToCup, Cond.code yX5_addToCup cX5_addToCup 4 none, Cond.fieldLink RX5 106 "SkiShots$Race" "entryCount" "I", Cond.fieldLink RX5 161 "SkiShots$Race" "entries" "[LSkiShots$Entry;", Cond.fieldLink RX5 165 "SkiShots$Entry" "racer" "I", Cond.methodLink RX5 234 Lib.Math.max.name, Cond.methodLink RX5 209 yX0_hasTime, Cond.methodLink RX5 188 yX3_lastPlace, Cond.instanceMethod yX3_lastPlace, Cond.selects RX3 yX3_lastPlace yX3_lastPlace, Cond.code yX3_lastPlace cX3_lastPlace 5 (some .int), Cond.fieldLink RX3 77 "SkiShots$Entry" "high" "I", Cond.methodLink RX5 218 yX5_standingInCup, Cond.instanceMethod yX5_standingInCup, Cond.selects RX5 yX5_standingInCup yX5_standingInCup, Cond.code yX5_standingInCup cX5_standingInCup 4 (some .int)]
def wsX5_starters : List Cond := .code yX5_starters cX5_starters 5 (some .int) :: ((wsX5_starters_r1 ++ (wsX5_starters_r2 ++ (wsX5_starters_r3 ++ (wsX5_starters_r4 ++ wsX5_starters_r5)))) ++ wsX50 ++ wsX30 ++ wsX00 ++ wsX20 ++ wsX10)
def wsX5_count : List Cond := .code yX5_count cX5_count 2 (some .int) :: ([.fieldLink RX5 70 "SkiShots" "today" "I", .fieldLink RX5 67 "SkiShots" "formatCount" "I", .fieldLink RX5 77 "SkiShots" "racerCount" "I", .fieldLink RX5 80 "SkiShots" "raceCount" "I", .fieldLink RX5 109 "SkiShots" "eventCount" "I"] ++ wsX50)
def wsX6_init_r1 : List Cond := [Cond.methodLink RX6 1 objectInit, Cond.instanceMethod objectInit, Cond.code objectInit ⟨#[0xb1]⟩ 1 none, Cond.arrayClass .int, Cond.fieldLink RX6 7 "SkiShotsModel" "tape" "[I", Cond.fieldLink RX6 13 "SkiShotsModel" "laps" "[I", Cond.fieldLink RX6 16 "SkiShotsModel" "shootMany" "[I", Cond.fieldLink RX6 19 "SkiShotsModel" "shoot" "[I", Cond.fieldLink RX6 22 "SkiShotsModel" "spares" "[I", Cond.arrayClass .boolean, Cond.fieldLink RX6 25 "SkiShotsModel" "isLoop" "[Z", Cond.fieldLink RX6 29 "SkiShotsModel" "cost" "[I", Cond.fieldLink RX6 32 "SkiShotsModel" "startHow" "[I", Cond.fieldLink RX6 35 "SkiShotsModel" "startNumber" "[I", Cond.fieldLink RX6 38 "SkiShotsModel" "faultPlace" "I", Cond.fieldLink RX6 42 "SkiShotsModel" "nation" "[I", Cond.fieldLink RX6 45 "SkiShotsModel" "rName" "[I", Cond.fieldLink RX6 48 "SkiShotsModel" "rLaps" "[I", Cond.fieldLink RX6 51 "SkiShotsModel" "rShoots" "[I", Cond.fieldLink RX6 54 "SkiShotsModel" "rSpares" "[I", Cond.fieldLink RX6 57 "SkiShotsModel" "rLoop" "[Z", Cond.fieldLink RX6 60 "SkiShotsModel" "rCost" "[I", Cond.fieldLink RX6 63 "SkiShotsModel" "rHow" "[I", Cond.fieldLink RX6 66 "SkiShotsModel" "rNumber" "[I"]
def wsX6_init_r2 : List Cond := [Cond.fieldLink RX6 69 "SkiShotsModel" "rBy" "[I", Cond.fieldLink RX6 72 "SkiShotsModel" "rEntries" "[I", Cond.fieldLink RX6 75 "SkiShotsModel" "rEvents" "[I", Cond.fieldLink RX6 78 "SkiShotsModel" "entries" "[I", Cond.fieldLink RX6 81 "SkiShotsModel" "entryOf" "[I", Cond.fieldLink RX6 84 "SkiShotsModel" "tRace" "[I", Cond.fieldLink RX6 87 "SkiShotsModel" "tRacer" "[I", Cond.fieldLink RX6 90 "SkiShotsModel" "tSort" "[I", Cond.fieldLink RX6 93 "SkiShotsModel" "tK" "[I", Cond.fieldLink RX6 96 "SkiShotsModel" "tV" "[I", Cond.fieldLink RX6 99 "SkiShotsModel" "tDay" "[I", Cond.fieldLink RX6 102 "SkiShotsModel" "words" "[I", Cond.fieldLink RX6 105 "SkiShotsModel" "start" "[I", Cond.fieldLink RX6 108 "SkiShotsModel" "low" "[I", Cond.fieldLink RX6 111 "SkiShotsModel" "high" "[I", Cond.fieldLink RX6 114 "SkiShotsModel" "missLow" "[I", Cond.fieldLink RX6 117 "SkiShotsModel" "missHigh" "[I", Cond.fieldLink RX6 120 "SkiShotsModel" "line" "[I", Cond.fieldLink RX6 123 "SkiShotsModel" "sums" "[I"]
def wsX6_init : List Cond := .code yX6_init cX6_init 2 none :: ((wsX6_init_r1 ++ wsX6_init_r2) ++ wsX60)
def wsX6_feed : List Cond := .code yX6_feed cX6_feed 8 (some .int) :: ([.fieldLink RX6 126 "SkiShotsModel" "thrown" "I", .fieldLink RX6 129 "SkiShotsModel" "tapeSize" "I", .fieldLink RX6 7 "SkiShotsModel" "tape" "[I"] ++ wsX60)
def wsX6_wrong : List Cond := .code yX6_wrong cX6_wrong 3 (some .boolean) :: ([.fieldLink RX6 132 "SkiShotsModel" "fault" "I", .fieldLink RX6 38 "SkiShotsModel" "faultPlace" "I"] ++ wsX60)
def wsX6_wordAt : List Cond := .code yX6_wordAt cX6_wordAt 8 (some .int) :: ([.fieldLink RX6 102 "SkiShotsModel" "words" "[I", .fieldLink RX6 7 "SkiShotsModel" "tape" "[I"] ++ wsX60)
def wsX6_isSmall : List Cond := .code yX6_isSmall cX6_isSmall 2 (some .boolean) :: ([.fieldLink RX6 135 "SkiShotsModel" "size" "I", .fieldLink RX6 7 "SkiShotsModel" "tape" "[I"] ++ wsX60)
def wsX6_isDigit : List Cond := .code yX6_isDigit cX6_isDigit 2 (some .boolean) :: ([.fieldLink RX6 135 "SkiShotsModel" "size" "I", .fieldLink RX6 7 "SkiShotsModel" "tape" "[I"] ++ wsX60)
def wsX6_take : List Cond := .code yX6_take cX6_take 1 none :: ([.fieldLink RX6 138 "SkiShotsModel" "next" "I", .fieldLink RX6 135 "SkiShotsModel" "size" "I", .fieldLink RX6 7 "SkiShotsModel" "tape" "[I", .fieldLink RX6 141 "SkiShotsModel" "place" "I", .fieldLink RX6 144 "SkiShotsModel" "kind" "I", .fieldLink RX6 155 "SkiShotsModel" "which" "I", .constant RX6 161 (99999), .methodLink RX6 147 yX6_isSmall, .instanceMethod yX6_isSmall, .selects RX6 yX6_isSmall yX6_isSmall, .initialized RX6, .code yX6_isSmall cX6_isSmall 2 (some .boolean), .methodLink RX6 151 yX6_wordAt, .instanceMethod yX6_wordAt, .selects RX6 yX6_wordAt yX6_wordAt, .code yX6_wordAt cX6_wordAt 8 (some .int), .fieldLink RX6 102 "SkiShotsModel" "words" "[I", .methodLink RX6 158 yX6_isDigit, .instanceMethod yX6_isDigit, .selects RX6 yX6_isDigit yX6_isDigit, .code yX6_isDigit cX6_isDigit 2 (some .boolean)] ++ wsX60)
def wsX6_word_r1 : List Cond := [Cond.fieldLink RX6 144 "SkiShotsModel" "kind" "I", Cond.fieldLink RX6 155 "SkiShotsModel" "which" "I", Cond.fieldLink RX6 141 "SkiShotsModel" "place" "I", Cond.methodLink RX6 162 yX6_wrong, Cond.instanceMethod yX6_wrong, Cond.selects RX6 yX6_wrong yX6_wrong, Cond.initialized RX6, Cond.code yX6_wrong cX6_wrong 3 (some .boolean), Cond.fieldLink RX6 132 "SkiShotsModel" "fault" "I", Cond.fieldLink RX6 38 "SkiShotsModel" "faultPlace" "I", Cond.methodLink RX6 166 yX6_take, Cond.instanceMethod yX6_take, Cond.selects RX6 yX6_take yX6_take, Cond.code yX6_take cX6_take 1 none, Cond.fieldLink RX6 138 "SkiShotsModel" "next" "I", Cond.fieldLink RX6 135 "SkiShotsModel" "size" "I", Cond.fieldLink RX6 7 "SkiShotsModel" "tape" "[I", Cond.constant RX6 161 (99999), Cond.methodLink RX6 147 yX6_isSmall, Cond.instanceMethod yX6_isSmall, Cond.selects RX6 yX6_isSmall yX6_isSmall, Cond.code yX6_isSmall cX6_isSmall 2 (some .boolean), Cond.methodLink RX6 151 yX6_wordAt, Cond.instanceMethod yX6_wordAt]
def wsX6_word_r2 : List Cond := [Cond.selects RX6 yX6_wordAt yX6_wordAt, Cond.code yX6_wordAt cX6_wordAt 8 (some .int), Cond.fieldLink RX6 102 "SkiShotsModel" "words" "[I", Cond.methodLink RX6 158 yX6_isDigit, Cond.instanceMethod yX6_isDigit, Cond.selects RX6 yX6_isDigit yX6_isDigit, Cond.code yX6_isDigit cX6_isDigit 2 (some .boolean)]
def wsX6_word : List Cond := .code yX6_word cX6_word 2 (some .boolean) :: ((wsX6_word_r1 ++ wsX6_word_r2) ++ wsX60)
def wsX6_sign_r1 : List Cond := [Cond.fieldLink RX6 144 "SkiShotsModel" "kind" "I", Cond.fieldLink RX6 155 "SkiShotsModel" "which" "I", Cond.fieldLink RX6 141 "SkiShotsModel" "place" "I", Cond.methodLink RX6 162 yX6_wrong, Cond.instanceMethod yX6_wrong, Cond.selects RX6 yX6_wrong yX6_wrong, Cond.initialized RX6, Cond.code yX6_wrong cX6_wrong 3 (some .boolean), Cond.fieldLink RX6 132 "SkiShotsModel" "fault" "I", Cond.fieldLink RX6 38 "SkiShotsModel" "faultPlace" "I", Cond.methodLink RX6 166 yX6_take, Cond.instanceMethod yX6_take, Cond.selects RX6 yX6_take yX6_take, Cond.code yX6_take cX6_take 1 none, Cond.fieldLink RX6 138 "SkiShotsModel" "next" "I", Cond.fieldLink RX6 135 "SkiShotsModel" "size" "I", Cond.fieldLink RX6 7 "SkiShotsModel" "tape" "[I", Cond.constant RX6 161 (99999), Cond.methodLink RX6 147 yX6_isSmall, Cond.instanceMethod yX6_isSmall, Cond.selects RX6 yX6_isSmall yX6_isSmall, Cond.code yX6_isSmall cX6_isSmall 2 (some .boolean), Cond.methodLink RX6 151 yX6_wordAt, Cond.instanceMethod yX6_wordAt]
def wsX6_sign_r2 : List Cond := [Cond.selects RX6 yX6_wordAt yX6_wordAt, Cond.code yX6_wordAt cX6_wordAt 8 (some .int), Cond.fieldLink RX6 102 "SkiShotsModel" "words" "[I", Cond.methodLink RX6 158 yX6_isDigit, Cond.instanceMethod yX6_isDigit, Cond.selects RX6 yX6_isDigit yX6_isDigit, Cond.code yX6_isDigit cX6_isDigit 2 (some .boolean)]
def wsX6_sign : List Cond := .code yX6_sign cX6_sign 2 (some .boolean) :: ((wsX6_sign_r1 ++ wsX6_sign_r2) ++ wsX60)
def wsX6_number_r1 : List Cond := [Cond.fieldLink RX6 144 "SkiShotsModel" "kind" "I", Cond.fieldLink RX6 141 "SkiShotsModel" "place" "I", Cond.fieldLink RX6 155 "SkiShotsModel" "which" "I", Cond.fieldLink RX6 169 "SkiShotsModel" "read" "I", Cond.methodLink RX6 162 yX6_wrong, Cond.instanceMethod yX6_wrong, Cond.selects RX6 yX6_wrong yX6_wrong, Cond.initialized RX6, Cond.code yX6_wrong cX6_wrong 3 (some .boolean), Cond.fieldLink RX6 132 "SkiShotsModel" "fault" "I", Cond.fieldLink RX6 38 "SkiShotsModel" "faultPlace" "I", Cond.methodLink RX6 166 yX6_take, Cond.instanceMethod yX6_take, Cond.selects RX6 yX6_take yX6_take, Cond.code yX6_take cX6_take 1 none, Cond.fieldLink RX6 138 "SkiShotsModel" "next" "I", Cond.fieldLink RX6 135 "SkiShotsModel" "size" "I", Cond.fieldLink RX6 7 "SkiShotsModel" "tape" "[I", Cond.constant RX6 161 (99999), Cond.methodLink RX6 147 yX6_isSmall, Cond.instanceMethod yX6_isSmall, Cond.selects RX6 yX6_isSmall yX6_isSmall, Cond.code yX6_isSmall cX6_isSmall 2 (some .boolean), Cond.methodLink RX6 151 yX6_wordAt]
def wsX6_number_r2 : List Cond := [Cond.instanceMethod yX6_wordAt, Cond.selects RX6 yX6_wordAt yX6_wordAt, Cond.code yX6_wordAt cX6_wordAt 8 (some .int), Cond.fieldLink RX6 102 "SkiShotsModel" "words" "[I", Cond.methodLink RX6 158 yX6_isDigit, Cond.instanceMethod yX6_isDigit, Cond.selects RX6 yX6_isDigit yX6_isDigit, Cond.code yX6_isDigit cX6_isDigit 2 (some .boolean)]
def wsX6_number : List Cond := .code yX6_number cX6_number 3 (some .boolean) :: ((wsX6_number_r1 ++ wsX6_number_r2) ++ wsX60)
def wsX6_shots_r1 : List Cond := [Cond.fieldLink RX6 16 "SkiShotsModel" "shootMany" "[I", Cond.fieldLink RX6 144 "SkiShotsModel" "kind" "I", Cond.fieldLink RX6 141 "SkiShotsModel" "place" "I", Cond.fieldLink RX6 155 "SkiShotsModel" "which" "I", Cond.fieldLink RX6 13 "SkiShotsModel" "laps" "[I", Cond.fieldLink RX6 19 "SkiShotsModel" "shoot" "[I", Cond.methodLink RX6 162 yX6_wrong, Cond.instanceMethod yX6_wrong, Cond.selects RX6 yX6_wrong yX6_wrong, Cond.initialized RX6, Cond.code yX6_wrong cX6_wrong 3 (some .boolean), Cond.fieldLink RX6 132 "SkiShotsModel" "fault" "I", Cond.fieldLink RX6 38 "SkiShotsModel" "faultPlace" "I", Cond.methodLink RX6 166 yX6_take, Cond.instanceMethod yX6_take, Cond.selects RX6 yX6_take yX6_take, Cond.code yX6_take cX6_take 1 none, Cond.fieldLink RX6 138 "SkiShotsModel" "next" "I", Cond.fieldLink RX6 135 "SkiShotsModel" "size" "I", Cond.fieldLink RX6 7 "SkiShotsModel" "tape" "[I", Cond.constant RX6 161 (99999), Cond.methodLink RX6 147 yX6_isSmall, Cond.instanceMethod yX6_isSmall, Cond.selects RX6 yX6_isSmall yX6_isSmall]
def wsX6_shots_r2 : List Cond := [Cond.code yX6_isSmall cX6_isSmall 2 (some .boolean), Cond.methodLink RX6 151 yX6_wordAt, Cond.instanceMethod yX6_wordAt, Cond.selects RX6 yX6_wordAt yX6_wordAt, Cond.code yX6_wordAt cX6_wordAt 8 (some .int), Cond.fieldLink RX6 102 "SkiShotsModel" "words" "[I", Cond.methodLink RX6 158 yX6_isDigit, Cond.instanceMethod yX6_isDigit, Cond.selects RX6 yX6_isDigit yX6_isDigit, Cond.code yX6_isDigit cX6_isDigit 2 (some .boolean)]
def wsX6_shots : List Cond := .code yX6_shots cX6_shots 4 (some .boolean) :: ((wsX6_shots_r1 ++ wsX6_shots_r2) ++ wsX60)
def wsX6_starts_r1 : List Cond := [Cond.fieldLink RX6 144 "SkiShotsModel" "kind" "I", Cond.fieldLink RX6 155 "SkiShotsModel" "which" "I", Cond.fieldLink RX6 141 "SkiShotsModel" "place" "I", Cond.fieldLink RX6 32 "SkiShotsModel" "startHow" "[I", Cond.fieldLink RX6 35 "SkiShotsModel" "startNumber" "[I", Cond.fieldLink RX6 169 "SkiShotsModel" "read" "I", Cond.methodLink RX6 162 yX6_wrong, Cond.instanceMethod yX6_wrong, Cond.selects RX6 yX6_wrong yX6_wrong, Cond.initialized RX6, Cond.code yX6_wrong cX6_wrong 3 (some .boolean), Cond.fieldLink RX6 132 "SkiShotsModel" "fault" "I", Cond.fieldLink RX6 38 "SkiShotsModel" "faultPlace" "I", Cond.methodLink RX6 166 yX6_take, Cond.instanceMethod yX6_take, Cond.selects RX6 yX6_take yX6_take, Cond.code yX6_take cX6_take 1 none, Cond.fieldLink RX6 138 "SkiShotsModel" "next" "I", Cond.fieldLink RX6 135 "SkiShotsModel" "size" "I", Cond.fieldLink RX6 7 "SkiShotsModel" "tape" "[I", Cond.constant RX6 161 (99999), Cond.methodLink RX6 147 yX6_isSmall, Cond.instanceMethod yX6_isSmall, Cond.selects RX6 yX6_isSmall yX6_isSmall]
def wsX6_starts_r2 : List Cond := [Cond.code yX6_isSmall cX6_isSmall 2 (some .boolean), Cond.methodLink RX6 151 yX6_wordAt, Cond.instanceMethod yX6_wordAt, Cond.selects RX6 yX6_wordAt yX6_wordAt, Cond.code yX6_wordAt cX6_wordAt 8 (some .int), Cond.fieldLink RX6 102 "SkiShotsModel" "words" "[I", Cond.methodLink RX6 158 yX6_isDigit, Cond.instanceMethod yX6_isDigit, Cond.selects RX6 yX6_isDigit yX6_isDigit, Cond.code yX6_isDigit cX6_isDigit 2 (some .boolean), Cond.methodLink RX6 172 yX6_number, Cond.instanceMethod yX6_number, Cond.selects RX6 yX6_number yX6_number, Cond.code yX6_number cX6_number 3 (some .boolean)]
def wsX6_starts : List Cond := .code yX6_starts cX6_starts 3 (some .boolean) :: ((wsX6_starts_r1 ++ wsX6_starts_r2) ++ wsX60)
def wsX6_format_r1 : List Cond := [Cond.fieldLink RX6 144 "SkiShotsModel" "kind" "I", Cond.fieldLink RX6 141 "SkiShotsModel" "place" "I", Cond.fieldLink RX6 155 "SkiShotsModel" "which" "I", Cond.fieldLink RX6 13 "SkiShotsModel" "laps" "[I", Cond.fieldLink RX6 169 "SkiShotsModel" "read" "I", Cond.fieldLink RX6 22 "SkiShotsModel" "spares" "[I", Cond.fieldLink RX6 25 "SkiShotsModel" "isLoop" "[Z", Cond.fieldLink RX6 29 "SkiShotsModel" "cost" "[I", Cond.methodLink RX6 175 yX6_word, Cond.instanceMethod yX6_word, Cond.selects RX6 yX6_word yX6_word, Cond.initialized RX6, Cond.code yX6_word cX6_word 2 (some .boolean), Cond.methodLink RX6 162 yX6_wrong, Cond.instanceMethod yX6_wrong, Cond.selects RX6 yX6_wrong yX6_wrong, Cond.code yX6_wrong cX6_wrong 3 (some .boolean), Cond.fieldLink RX6 132 "SkiShotsModel" "fault" "I", Cond.fieldLink RX6 38 "SkiShotsModel" "faultPlace" "I", Cond.methodLink RX6 166 yX6_take, Cond.instanceMethod yX6_take, Cond.selects RX6 yX6_take yX6_take, Cond.code yX6_take cX6_take 1 none, Cond.fieldLink RX6 138 "SkiShotsModel" "next" "I"]
def wsX6_format_r2 : List Cond := [Cond.fieldLink RX6 135 "SkiShotsModel" "size" "I", Cond.fieldLink RX6 7 "SkiShotsModel" "tape" "[I", Cond.constant RX6 161 (99999), Cond.methodLink RX6 147 yX6_isSmall, Cond.instanceMethod yX6_isSmall, Cond.selects RX6 yX6_isSmall yX6_isSmall, Cond.code yX6_isSmall cX6_isSmall 2 (some .boolean), Cond.methodLink RX6 151 yX6_wordAt, Cond.instanceMethod yX6_wordAt, Cond.selects RX6 yX6_wordAt yX6_wordAt, Cond.code yX6_wordAt cX6_wordAt 8 (some .int), Cond.fieldLink RX6 102 "SkiShotsModel" "words" "[I", Cond.methodLink RX6 158 yX6_isDigit, Cond.instanceMethod yX6_isDigit, Cond.selects RX6 yX6_isDigit yX6_isDigit, Cond.code yX6_isDigit cX6_isDigit 2 (some .boolean), Cond.methodLink RX6 178 yX6_sign, Cond.instanceMethod yX6_sign, Cond.selects RX6 yX6_sign yX6_sign, Cond.code yX6_sign cX6_sign 2 (some .boolean), Cond.methodLink RX6 172 yX6_number, Cond.instanceMethod yX6_number, Cond.selects RX6 yX6_number yX6_number, Cond.code yX6_number cX6_number 3 (some .boolean)]
def wsX6_format_r3 : List Cond := [Cond.methodLink RX6 181 yX6_shots, Cond.instanceMethod yX6_shots, Cond.selects RX6 yX6_shots yX6_shots, Cond.code yX6_shots cX6_shots 4 (some .boolean), Cond.fieldLink RX6 16 "SkiShotsModel" "shootMany" "[I", Cond.fieldLink RX6 19 "SkiShotsModel" "shoot" "[I", Cond.methodLink RX6 184 yX6_starts, Cond.instanceMethod yX6_starts, Cond.selects RX6 yX6_starts yX6_starts, Cond.code yX6_starts cX6_starts 3 (some .boolean), Cond.fieldLink RX6 32 "SkiShotsModel" "startHow" "[I", Cond.fieldLink RX6 35 "SkiShotsModel" "startNumber" "[I"]
def wsX6_format : List Cond := .code yX6_format cX6_format 2 (some .boolean) :: ((wsX6_format_r1 ++ (wsX6_format_r2 ++ wsX6_format_r3)) ++ wsX60)
def wsX6_formats_r1 : List Cond := [Cond.fieldLink RX6 126 "SkiShotsModel" "thrown" "I", Cond.fieldLink RX6 129 "SkiShotsModel" "tapeSize" "I", Cond.fieldLink RX6 135 "SkiShotsModel" "size" "I", Cond.fieldLink RX6 132 "SkiShotsModel" "fault" "I", Cond.fieldLink RX6 38 "SkiShotsModel" "faultPlace" "I", Cond.fieldLink RX6 13 "SkiShotsModel" "laps" "[I", Cond.fieldLink RX6 138 "SkiShotsModel" "next" "I", Cond.fieldLink RX6 144 "SkiShotsModel" "kind" "I", Cond.fieldLink RX6 191 "SkiShotsModel" "formatMany" "I", Cond.fieldLink RX6 16 "SkiShotsModel" "shootMany" "[I", Cond.fieldLink RX6 22 "SkiShotsModel" "spares" "[I", Cond.fieldLink RX6 25 "SkiShotsModel" "isLoop" "[Z", Cond.fieldLink RX6 29 "SkiShotsModel" "cost" "[I", Cond.fieldLink RX6 32 "SkiShotsModel" "startHow" "[I", Cond.fieldLink RX6 35 "SkiShotsModel" "startNumber" "[I", Cond.methodLink RX6 166 yX6_take, Cond.instanceMethod yX6_take, Cond.selects RX6 yX6_take yX6_take, Cond.initialized RX6, Cond.code yX6_take cX6_take 1 none, Cond.fieldLink RX6 7 "SkiShotsModel" "tape" "[I", Cond.fieldLink RX6 141 "SkiShotsModel" "place" "I", Cond.fieldLink RX6 155 "SkiShotsModel" "which" "I", Cond.constant RX6 161 (99999)]
def wsX6_formats_r2 : List Cond := [Cond.methodLink RX6 147 yX6_isSmall, Cond.instanceMethod yX6_isSmall, Cond.selects RX6 yX6_isSmall yX6_isSmall, Cond.code yX6_isSmall cX6_isSmall 2 (some .boolean), Cond.methodLink RX6 151 yX6_wordAt, Cond.instanceMethod yX6_wordAt, Cond.selects RX6 yX6_wordAt yX6_wordAt, Cond.code yX6_wordAt cX6_wordAt 8 (some .int), Cond.fieldLink RX6 102 "SkiShotsModel" "words" "[I", Cond.methodLink RX6 158 yX6_isDigit, Cond.instanceMethod yX6_isDigit, Cond.selects RX6 yX6_isDigit yX6_isDigit, Cond.code yX6_isDigit cX6_isDigit 2 (some .boolean), Cond.methodLink RX6 187 yX6_format, Cond.instanceMethod yX6_format, Cond.selects RX6 yX6_format yX6_format, Cond.code yX6_format cX6_format 2 (some .boolean), Cond.fieldLink RX6 169 "SkiShotsModel" "read" "I", Cond.methodLink RX6 175 yX6_word, Cond.instanceMethod yX6_word, Cond.selects RX6 yX6_word yX6_word, Cond.code yX6_word cX6_word 2 (some .boolean), Cond.methodLink RX6 162 yX6_wrong, Cond.instanceMethod yX6_wrong]
def wsX6_formats_r3 : List Cond := [Cond.selects RX6 yX6_wrong yX6_wrong, Cond.code yX6_wrong cX6_wrong 3 (some .boolean), Cond.methodLink RX6 178 yX6_sign, Cond.instanceMethod yX6_sign, Cond.selects RX6 yX6_sign yX6_sign, Cond.code yX6_sign cX6_sign 2 (some .boolean), Cond.methodLink RX6 172 yX6_number, Cond.instanceMethod yX6_number, Cond.selects RX6 yX6_number yX6_number, Cond.code yX6_number cX6_number 3 (some .boolean), Cond.methodLink RX6 181 yX6_shots, Cond.instanceMethod yX6_shots, Cond.selects RX6 yX6_shots yX6_shots, Cond.code yX6_shots cX6_shots 4 (some .boolean), Cond.fieldLink RX6 19 "SkiShotsModel" "shoot" "[I", Cond.methodLink RX6 184 yX6_starts, Cond.instanceMethod yX6_starts, Cond.selects RX6 yX6_starts yX6_starts, Cond.code yX6_starts cX6_starts 3 (some .boolean)]
def wsX6_formats : List Cond := .code yX6_formats cX6_formats 4 (some .int) :: ((wsX6_formats_r1 ++ (wsX6_formats_r2 ++ wsX6_formats_r3)) ++ wsX60)
def wsX6_fault : List Cond := .code yX6_fault cX6_fault 2 (some .int) :: ([.fieldLink RX6 126 "SkiShotsModel" "thrown" "I", .fieldLink RX6 132 "SkiShotsModel" "fault" "I", .fieldLink RX6 38 "SkiShotsModel" "faultPlace" "I"] ++ wsX60)
def wsX6_pass : List Cond := .code yX6_pass cX6_pass 2 (some .int) :: ([.fieldLink RX6 126 "SkiShotsModel" "thrown" "I", .fieldLink RX6 194 "SkiShotsModel" "today" "I"] ++ wsX60)
def wsX6_racer : List Cond := .code yX6_racer cX6_racer 2 (some .int) :: ([.fieldLink RX6 126 "SkiShotsModel" "thrown" "I", .fieldLink RX6 197 "SkiShotsModel" "racers" "I", .fieldLink RX6 42 "SkiShotsModel" "nation" "[I"] ++ wsX60)
def wsX6_isRace : List Cond := .code yX6_isRace cX6_isRace 2 (some .boolean) :: ([.fieldLink RX6 200 "SkiShotsModel" "races" "I"] ++ wsX60)
def wsX6_isRacer : List Cond := .code yX6_isRacer cX6_isRacer 2 (some .boolean) :: ([.fieldLink RX6 197 "SkiShotsModel" "racers" "I"] ++ wsX60)
def wsX6_race : List Cond := .code yX6_race cX6_race 3 (some .int) :: ([.fieldLink RX6 126 "SkiShotsModel" "thrown" "I", .fieldLink RX6 13 "SkiShotsModel" "laps" "[I", .fieldLink RX6 200 "SkiShotsModel" "races" "I", .fieldLink RX6 32 "SkiShotsModel" "startHow" "[I", .fieldLink RX6 45 "SkiShotsModel" "rName" "[I", .fieldLink RX6 48 "SkiShotsModel" "rLaps" "[I", .fieldLink RX6 51 "SkiShotsModel" "rShoots" "[I", .fieldLink RX6 16 "SkiShotsModel" "shootMany" "[I", .fieldLink RX6 54 "SkiShotsModel" "rSpares" "[I", .fieldLink RX6 22 "SkiShotsModel" "spares" "[I", .fieldLink RX6 57 "SkiShotsModel" "rLoop" "[Z", .fieldLink RX6 25 "SkiShotsModel" "isLoop" "[Z", .fieldLink RX6 60 "SkiShotsModel" "rCost" "[I", .fieldLink RX6 29 "SkiShotsModel" "cost" "[I", .fieldLink RX6 63 "SkiShotsModel" "rHow" "[I", .fieldLink RX6 66 "SkiShotsModel" "rNumber" "[I", .fieldLink RX6 35 "SkiShotsModel" "startNumber" "[I", .fieldLink RX6 69 "SkiShotsModel" "rBy" "[I", .methodLink RX6 203 yX6_isRace, .instanceMethod yX6_isRace, .selects RX6 yX6_isRace yX6_isRace, .initialized RX6, .code yX6_isRace cX6_isRace 2 (some .boolean)] ++ wsX60)
def wsX6_enter : List Cond := .code yX6_enter cX6_enter 3 (some .int) :: ([.fieldLink RX6 126 "SkiShotsModel" "thrown" "I", .fieldLink RX6 81 "SkiShotsModel" "entryOf" "[I", .fieldLink RX6 75 "SkiShotsModel" "rEvents" "[I", .fieldLink RX6 72 "SkiShotsModel" "rEntries" "[I", .fieldLink RX6 78 "SkiShotsModel" "entries" "[I", .methodLink RX6 203 yX6_isRace, .instanceMethod yX6_isRace, .selects RX6 yX6_isRace yX6_isRace, .initialized RX6, .code yX6_isRace cX6_isRace 2 (some .boolean), .fieldLink RX6 200 "SkiShotsModel" "races" "I", .methodLink RX6 206 yX6_isRacer, .instanceMethod yX6_isRacer, .selects RX6 yX6_isRacer yX6_isRacer, .code yX6_isRacer cX6_isRacer 2 (some .boolean), .fieldLink RX6 197 "SkiShotsModel" "racers" "I"] ++ wsX60)
def wsX6_isIn : List Cond := .code yX6_isIn cX6_isIn 3 (some .boolean) :: ([.fieldLink RX6 81 "SkiShotsModel" "entryOf" "[I", .methodLink RX6 203 yX6_isRace, .instanceMethod yX6_isRace, .selects RX6 yX6_isRace yX6_isRace, .initialized RX6, .code yX6_isRace cX6_isRace 2 (some .boolean), .fieldLink RX6 200 "SkiShotsModel" "races" "I", .methodLink RX6 206 yX6_isRacer, .instanceMethod yX6_isRacer, .selects RX6 yX6_isRacer yX6_isRacer, .code yX6_isRacer cX6_isRacer 2 (some .boolean), .fieldLink RX6 197 "SkiShotsModel" "racers" "I"] ++ wsX60)
def wsX6_can : List Cond := .code yX6_can cX6_can 5 (some .boolean) :: ([.fieldLink RX6 48 "SkiShotsModel" "rLaps" "[I", .constant RX6 209 (200000), .fieldLink RX6 51 "SkiShotsModel" "rShoots" "[I"] ++ wsX60)
def wsX6_tell_r1 : List Cond := [Cond.fieldLink RX6 126 "SkiShotsModel" "thrown" "I", Cond.fieldLink RX6 217 "SkiShotsModel" "told" "I", Cond.fieldLink RX6 84 "SkiShotsModel" "tRace" "[I", Cond.fieldLink RX6 87 "SkiShotsModel" "tRacer" "[I", Cond.fieldLink RX6 90 "SkiShotsModel" "tSort" "[I", Cond.fieldLink RX6 93 "SkiShotsModel" "tK" "[I", Cond.fieldLink RX6 96 "SkiShotsModel" "tV" "[I", Cond.fieldLink RX6 99 "SkiShotsModel" "tDay" "[I", Cond.fieldLink RX6 194 "SkiShotsModel" "today" "I", Cond.fieldLink RX6 75 "SkiShotsModel" "rEvents" "[I", Cond.methodLink RX6 210 yX6_isIn, Cond.instanceMethod yX6_isIn, Cond.selects RX6 yX6_isIn yX6_isIn, Cond.initialized RX6, Cond.code yX6_isIn cX6_isIn 3 (some .boolean), Cond.fieldLink RX6 81 "SkiShotsModel" "entryOf" "[I", Cond.methodLink RX6 203 yX6_isRace, Cond.instanceMethod yX6_isRace, Cond.selects RX6 yX6_isRace yX6_isRace, Cond.code yX6_isRace cX6_isRace 2 (some .boolean), Cond.fieldLink RX6 200 "SkiShotsModel" "races" "I", Cond.methodLink RX6 206 yX6_isRacer, Cond.instanceMethod yX6_isRacer, Cond.selects RX6 yX6_isRacer yX6_isRacer]
def wsX6_tell_r2 : List Cond := [Cond.code yX6_isRacer cX6_isRacer 2 (some .boolean), Cond.fieldLink RX6 197 "SkiShotsModel" "racers" "I", Cond.methodLink RX6 213 yX6_can, Cond.instanceMethod yX6_can, Cond.selects RX6 yX6_can yX6_can, Cond.code yX6_can cX6_can 5 (some .boolean), Cond.fieldLink RX6 48 "SkiShotsModel" "rLaps" "[I", Cond.constant RX6 209 (200000), Cond.fieldLink RX6 51 "SkiShotsModel" "rShoots" "[I"]
def wsX6_tell : List Cond := .code yX6_tell cX6_tell 6 (some .int) :: ((wsX6_tell_r1 ++ wsX6_tell_r2) ++ wsX60)
def wsX6_fails : List Cond := .code yX6_fails cX6_fails 2 (some .int) :: ([.fieldLink RX6 126 "SkiShotsModel" "thrown" "I"] ++ wsX60)
def wsX6_look : List Cond := .code yX6_look cX6_look 3 (some .int) :: ([.fieldLink RX6 126 "SkiShotsModel" "thrown" "I", .fieldLink RX6 45 "SkiShotsModel" "rName" "[I", .fieldLink RX6 48 "SkiShotsModel" "rLaps" "[I", .fieldLink RX6 51 "SkiShotsModel" "rShoots" "[I", .fieldLink RX6 54 "SkiShotsModel" "rSpares" "[I", .fieldLink RX6 69 "SkiShotsModel" "rBy" "[I", .fieldLink RX6 72 "SkiShotsModel" "rEntries" "[I", .fieldLink RX6 75 "SkiShotsModel" "rEvents" "[I", .methodLink RX6 203 yX6_isRace, .instanceMethod yX6_isRace, .selects RX6 yX6_isRace yX6_isRace, .initialized RX6, .code yX6_isRace cX6_isRace 2 (some .boolean), .fieldLink RX6 200 "SkiShotsModel" "races" "I", .methodLink RX6 220 yX6_fails, .instanceMethod yX6_fails, .selects RX6 yX6_fails yX6_fails, .code yX6_fails cX6_fails 2 (some .int)] ++ wsX60)
def wsX6_entry : List Cond := .code yX6_entry cX6_entry 3 (some .int) :: ([.fieldLink RX6 126 "SkiShotsModel" "thrown" "I", .fieldLink RX6 72 "SkiShotsModel" "rEntries" "[I", .fieldLink RX6 78 "SkiShotsModel" "entries" "[I", .methodLink RX6 203 yX6_isRace, .instanceMethod yX6_isRace, .selects RX6 yX6_isRace yX6_isRace, .initialized RX6, .code yX6_isRace cX6_isRace 2 (some .boolean), .fieldLink RX6 200 "SkiShotsModel" "races" "I"] ++ wsX60)
def wsX6_known : List Cond := .code yX6_known cX6_known 7 (some .int) :: ([.fieldLink RX6 217 "SkiShotsModel" "told" "I", .fieldLink RX6 99 "SkiShotsModel" "tDay" "[I", .fieldLink RX6 84 "SkiShotsModel" "tRace" "[I", .fieldLink RX6 87 "SkiShotsModel" "tRacer" "[I", .fieldLink RX6 90 "SkiShotsModel" "tSort" "[I", .fieldLink RX6 93 "SkiShotsModel" "tK" "[I", .fieldLink RX6 96 "SkiShotsModel" "tV" "[I"] ++ wsX60)
def wsX6_hits : List Cond := .code yX6_hits cX6_hits 3 (some .int) :: ([])
def wsX6_least : List Cond := .code yX6_least cX6_least 4 (some .int) :: ([.fieldLink RX6 197 "SkiShotsModel" "racers" "I", .fieldLink RX6 81 "SkiShotsModel" "entryOf" "[I", .fieldLink RX6 108 "SkiShotsModel" "low" "[I"] ++ wsX60)
def wsX6_startOf : List Cond := .code yX6_startOf cX6_startOf 5 (some .int) :: ([.fieldLink RX6 63 "SkiShotsModel" "rHow" "[I", .fieldLink RX6 66 "SkiShotsModel" "rNumber" "[I", .fieldLink RX6 81 "SkiShotsModel" "entryOf" "[I", .fieldLink RX6 69 "SkiShotsModel" "rBy" "[I", .fieldLink RX6 108 "SkiShotsModel" "low" "[I", .methodLink RX6 224 yX6_least, .instanceMethod yX6_least, .selects RX6 yX6_least yX6_least, .initialized RX6, .code yX6_least cX6_least 4 (some .int), .fieldLink RX6 197 "SkiShotsModel" "racers" "I"] ++ wsX60)
def wsX6_work_r1 : List Cond := [Cond.fieldLink RX6 105 "SkiShotsModel" "start" "[I", Cond.fieldLink RX6 114 "SkiShotsModel" "missLow" "[I", Cond.fieldLink RX6 117 "SkiShotsModel" "missHigh" "[I", Cond.fieldLink RX6 51 "SkiShotsModel" "rShoots" "[I", Cond.fieldLink RX6 57 "SkiShotsModel" "rLoop" "[Z", Cond.fieldLink RX6 60 "SkiShotsModel" "rCost" "[I", Cond.fieldLink RX6 48 "SkiShotsModel" "rLaps" "[I", Cond.fieldLink RX6 108 "SkiShotsModel" "low" "[I", Cond.fieldLink RX6 111 "SkiShotsModel" "high" "[I", Cond.methodLink RX6 227 yX6_startOf, Cond.instanceMethod yX6_startOf, Cond.selects RX6 yX6_startOf yX6_startOf, Cond.initialized RX6, Cond.code yX6_startOf cX6_startOf 5 (some .int), Cond.fieldLink RX6 63 "SkiShotsModel" "rHow" "[I", Cond.fieldLink RX6 66 "SkiShotsModel" "rNumber" "[I", Cond.fieldLink RX6 81 "SkiShotsModel" "entryOf" "[I", Cond.fieldLink RX6 69 "SkiShotsModel" "rBy" "[I", Cond.methodLink RX6 224 yX6_least, Cond.instanceMethod yX6_least, Cond.selects RX6 yX6_least yX6_least, Cond.code yX6_least cX6_least 4 (some .int), Cond.fieldLink RX6 197 "SkiShotsModel" "racers" "I", Cond.methodLink RX6 230 yX6_known]
def wsX6_work_r2 : List Cond := [Cond.instanceMethod yX6_known, Cond.selects RX6 yX6_known yX6_known, Cond.code yX6_known cX6_known 7 (some .int), Cond.fieldLink RX6 217 "SkiShotsModel" "told" "I", Cond.fieldLink RX6 99 "SkiShotsModel" "tDay" "[I", Cond.fieldLink RX6 84 "SkiShotsModel" "tRace" "[I", Cond.fieldLink RX6 87 "SkiShotsModel" "tRacer" "[I", Cond.fieldLink RX6 90 "SkiShotsModel" "tSort" "[I", Cond.fieldLink RX6 93 "SkiShotsModel" "tK" "[I", Cond.fieldLink RX6 96 "SkiShotsModel" "tV" "[I", Cond.methodLink RX6 234 yX6_hits, Cond.static yX6_hits, Cond.code yX6_hits cX6_hits 3 (some .int)]
def wsX6_work : List Cond := .code yX6_work cX6_work 12 none :: ((wsX6_work_r1 ++ wsX6_work_r2) ++ wsX60)
def wsX6_workAll_r1 : List Cond := [Cond.fieldLink RX6 72 "SkiShotsModel" "rEntries" "[I", Cond.fieldLink RX6 78 "SkiShotsModel" "entries" "[I", Cond.methodLink RX6 237 yX6_work, Cond.instanceMethod yX6_work, Cond.selects RX6 yX6_work yX6_work, Cond.initialized RX6, Cond.code yX6_work cX6_work 12 none, Cond.fieldLink RX6 105 "SkiShotsModel" "start" "[I", Cond.fieldLink RX6 114 "SkiShotsModel" "missLow" "[I", Cond.fieldLink RX6 117 "SkiShotsModel" "missHigh" "[I", Cond.fieldLink RX6 51 "SkiShotsModel" "rShoots" "[I", Cond.fieldLink RX6 57 "SkiShotsModel" "rLoop" "[Z", Cond.fieldLink RX6 60 "SkiShotsModel" "rCost" "[I", Cond.fieldLink RX6 48 "SkiShotsModel" "rLaps" "[I", Cond.fieldLink RX6 108 "SkiShotsModel" "low" "[I", Cond.fieldLink RX6 111 "SkiShotsModel" "high" "[I", Cond.methodLink RX6 227 yX6_startOf, Cond.instanceMethod yX6_startOf, Cond.selects RX6 yX6_startOf yX6_startOf, Cond.code yX6_startOf cX6_startOf 5 (some .int), Cond.fieldLink RX6 63 "SkiShotsModel" "rHow" "[I", Cond.fieldLink RX6 66 "SkiShotsModel" "rNumber" "[I", Cond.fieldLink RX6 81 "SkiShotsModel" "entryOf" "[I", Cond.fieldLink RX6 69 "SkiShotsModel" "rBy" "[I"]
def wsX6_workAll_r2 : List Cond := [Cond.methodLink RX6 224 yX6_least, Cond.instanceMethod yX6_least, Cond.selects RX6 yX6_least yX6_least, Cond.code yX6_least cX6_least 4 (some .int), Cond.fieldLink RX6 197 "SkiShotsModel" "racers" "I", Cond.methodLink RX6 230 yX6_known, Cond.instanceMethod yX6_known, Cond.selects RX6 yX6_known yX6_known, Cond.code yX6_known cX6_known 7 (some .int), Cond.fieldLink RX6 217 "SkiShotsModel" "told" "I", Cond.fieldLink RX6 99 "SkiShotsModel" "tDay" "[I", Cond.fieldLink RX6 84 "SkiShotsModel" "tRace" "[I", Cond.fieldLink RX6 87 "SkiShotsModel" "tRacer" "[I", Cond.fieldLink RX6 90 "SkiShotsModel" "tSort" "[I", Cond.fieldLink RX6 93 "SkiShotsModel" "tK" "[I", Cond.fieldLink RX6 96 "SkiShotsModel" "tV" "[I", Cond.methodLink RX6 234 yX6_hits, Cond.static yX6_hits, Cond.code yX6_hits cX6_hits 3 (some .int)]
def wsX6_workAll : List Cond := .code yX6_workAll cX6_workAll 5 none :: ((wsX6_workAll_r1 ++ wsX6_workAll_r2) ++ wsX60)
def wsX6_placed : List Cond := .code yX6_placed cX6_placed 8 (some .int) :: ([.fieldLink RX6 72 "SkiShotsModel" "rEntries" "[I", .fieldLink RX6 78 "SkiShotsModel" "entries" "[I", .fieldLink RX6 108 "SkiShotsModel" "low" "[I", .fieldLink RX6 111 "SkiShotsModel" "high" "[I"] ++ wsX60)
def wsX6_isDay : List Cond := .code yX6_isDay cX6_isDay 2 (some .boolean) :: ([.fieldLink RX6 194 "SkiShotsModel" "today" "I"] ++ wsX60)
def wsX6_time_r1 : List Cond := [Cond.fieldLink RX6 126 "SkiShotsModel" "thrown" "I", Cond.fieldLink RX6 105 "SkiShotsModel" "start" "[I", Cond.fieldLink RX6 108 "SkiShotsModel" "low" "[I", Cond.fieldLink RX6 111 "SkiShotsModel" "high" "[I", Cond.fieldLink RX6 114 "SkiShotsModel" "missLow" "[I", Cond.fieldLink RX6 117 "SkiShotsModel" "missHigh" "[I", Cond.methodLink RX6 210 yX6_isIn, Cond.instanceMethod yX6_isIn, Cond.selects RX6 yX6_isIn yX6_isIn, Cond.initialized RX6, Cond.code yX6_isIn cX6_isIn 3 (some .boolean), Cond.fieldLink RX6 81 "SkiShotsModel" "entryOf" "[I", Cond.methodLink RX6 203 yX6_isRace, Cond.instanceMethod yX6_isRace, Cond.selects RX6 yX6_isRace yX6_isRace, Cond.code yX6_isRace cX6_isRace 2 (some .boolean), Cond.fieldLink RX6 200 "SkiShotsModel" "races" "I", Cond.methodLink RX6 206 yX6_isRacer, Cond.instanceMethod yX6_isRacer, Cond.selects RX6 yX6_isRacer yX6_isRacer, Cond.code yX6_isRacer cX6_isRacer 2 (some .boolean), Cond.fieldLink RX6 197 "SkiShotsModel" "racers" "I", Cond.methodLink RX6 241 yX6_isDay, Cond.instanceMethod yX6_isDay]
def wsX6_time_r2 : List Cond := [Cond.selects RX6 yX6_isDay yX6_isDay, Cond.code yX6_isDay cX6_isDay 2 (some .boolean), Cond.fieldLink RX6 194 "SkiShotsModel" "today" "I", Cond.methodLink RX6 244 yX6_workAll, Cond.instanceMethod yX6_workAll, Cond.selects RX6 yX6_workAll yX6_workAll, Cond.code yX6_workAll cX6_workAll 5 none, Cond.fieldLink RX6 72 "SkiShotsModel" "rEntries" "[I", Cond.fieldLink RX6 78 "SkiShotsModel" "entries" "[I", Cond.methodLink RX6 237 yX6_work, Cond.instanceMethod yX6_work, Cond.selects RX6 yX6_work yX6_work, Cond.code yX6_work cX6_work 12 none, Cond.fieldLink RX6 51 "SkiShotsModel" "rShoots" "[I", Cond.fieldLink RX6 57 "SkiShotsModel" "rLoop" "[Z", Cond.fieldLink RX6 60 "SkiShotsModel" "rCost" "[I", Cond.fieldLink RX6 48 "SkiShotsModel" "rLaps" "[I", Cond.methodLink RX6 227 yX6_startOf, Cond.instanceMethod yX6_startOf, Cond.selects RX6 yX6_startOf yX6_startOf, Cond.code yX6_startOf cX6_startOf 5 (some .int), Cond.fieldLink RX6 63 "SkiShotsModel" "rHow" "[I", Cond.fieldLink RX6 66 "SkiShotsModel" "rNumber" "[I", Cond.fieldLink RX6 69 "SkiShotsModel" "rBy" "[I"]
def wsX6_time_r3 : List Cond := [Cond.methodLink RX6 224 yX6_least, Cond.instanceMethod yX6_least, Cond.selects RX6 yX6_least yX6_least, Cond.code yX6_least cX6_least 4 (some .int), Cond.methodLink RX6 230 yX6_known, Cond.instanceMethod yX6_known, Cond.selects RX6 yX6_known yX6_known, Cond.code yX6_known cX6_known 7 (some .int), Cond.fieldLink RX6 217 "SkiShotsModel" "told" "I", Cond.fieldLink RX6 99 "SkiShotsModel" "tDay" "[I", Cond.fieldLink RX6 84 "SkiShotsModel" "tRace" "[I", Cond.fieldLink RX6 87 "SkiShotsModel" "tRacer" "[I", Cond.fieldLink RX6 90 "SkiShotsModel" "tSort" "[I", Cond.fieldLink RX6 93 "SkiShotsModel" "tK" "[I", Cond.fieldLink RX6 96 "SkiShotsModel" "tV" "[I", Cond.methodLink RX6 234 yX6_hits, Cond.static yX6_hits, Cond.code yX6_hits cX6_hits 3 (some .int), Cond.methodLink RX6 248 yX6_placed, Cond.instanceMethod yX6_placed, Cond.selects RX6 yX6_placed yX6_placed, Cond.code yX6_placed cX6_placed 8 (some .int)]
def wsX6_time : List Cond := .code yX6_time cX6_time 6 (some .int) :: ((wsX6_time_r1 ++ (wsX6_time_r2 ++ wsX6_time_r3)) ++ wsX60)
def wsX6_split_r1 : List Cond := [Cond.fieldLink RX6 126 "SkiShotsModel" "thrown" "I", Cond.fieldLink RX6 48 "SkiShotsModel" "rLaps" "[I", Cond.fieldLink RX6 105 "SkiShotsModel" "start" "[I", Cond.methodLink RX6 210 yX6_isIn, Cond.instanceMethod yX6_isIn, Cond.selects RX6 yX6_isIn yX6_isIn, Cond.initialized RX6, Cond.code yX6_isIn cX6_isIn 3 (some .boolean), Cond.fieldLink RX6 81 "SkiShotsModel" "entryOf" "[I", Cond.methodLink RX6 203 yX6_isRace, Cond.instanceMethod yX6_isRace, Cond.selects RX6 yX6_isRace yX6_isRace, Cond.code yX6_isRace cX6_isRace 2 (some .boolean), Cond.fieldLink RX6 200 "SkiShotsModel" "races" "I", Cond.methodLink RX6 206 yX6_isRacer, Cond.instanceMethod yX6_isRacer, Cond.selects RX6 yX6_isRacer yX6_isRacer, Cond.code yX6_isRacer cX6_isRacer 2 (some .boolean), Cond.fieldLink RX6 197 "SkiShotsModel" "racers" "I", Cond.methodLink RX6 241 yX6_isDay, Cond.instanceMethod yX6_isDay, Cond.selects RX6 yX6_isDay yX6_isDay, Cond.code yX6_isDay cX6_isDay 2 (some .boolean), Cond.fieldLink RX6 194 "SkiShotsModel" "today" "I"]
def wsX6_split_r2 : List Cond := [Cond.methodLink RX6 244 yX6_workAll, Cond.instanceMethod yX6_workAll, Cond.selects RX6 yX6_workAll yX6_workAll, Cond.code yX6_workAll cX6_workAll 5 none, Cond.fieldLink RX6 72 "SkiShotsModel" "rEntries" "[I", Cond.fieldLink RX6 78 "SkiShotsModel" "entries" "[I", Cond.methodLink RX6 237 yX6_work, Cond.instanceMethod yX6_work, Cond.selects RX6 yX6_work yX6_work, Cond.code yX6_work cX6_work 12 none, Cond.fieldLink RX6 114 "SkiShotsModel" "missLow" "[I", Cond.fieldLink RX6 117 "SkiShotsModel" "missHigh" "[I", Cond.fieldLink RX6 51 "SkiShotsModel" "rShoots" "[I", Cond.fieldLink RX6 57 "SkiShotsModel" "rLoop" "[Z", Cond.fieldLink RX6 60 "SkiShotsModel" "rCost" "[I", Cond.fieldLink RX6 108 "SkiShotsModel" "low" "[I", Cond.fieldLink RX6 111 "SkiShotsModel" "high" "[I", Cond.methodLink RX6 227 yX6_startOf, Cond.instanceMethod yX6_startOf, Cond.selects RX6 yX6_startOf yX6_startOf, Cond.code yX6_startOf cX6_startOf 5 (some .int), Cond.fieldLink RX6 63 "SkiShotsModel" "rHow" "[I", Cond.fieldLink RX6 66 "SkiShotsModel" "rNumber" "[I", Cond.fieldLink RX6 69 "SkiShotsModel" "rBy" "[I"]
def wsX6_split_r3 : List Cond := [Cond.methodLink RX6 224 yX6_least, Cond.instanceMethod yX6_least, Cond.selects RX6 yX6_least yX6_least, Cond.code yX6_least cX6_least 4 (some .int), Cond.methodLink RX6 230 yX6_known, Cond.instanceMethod yX6_known, Cond.selects RX6 yX6_known yX6_known, Cond.code yX6_known cX6_known 7 (some .int), Cond.fieldLink RX6 217 "SkiShotsModel" "told" "I", Cond.fieldLink RX6 99 "SkiShotsModel" "tDay" "[I", Cond.fieldLink RX6 84 "SkiShotsModel" "tRace" "[I", Cond.fieldLink RX6 87 "SkiShotsModel" "tRacer" "[I", Cond.fieldLink RX6 90 "SkiShotsModel" "tSort" "[I", Cond.fieldLink RX6 93 "SkiShotsModel" "tK" "[I", Cond.fieldLink RX6 96 "SkiShotsModel" "tV" "[I", Cond.methodLink RX6 234 yX6_hits, Cond.static yX6_hits, Cond.code yX6_hits cX6_hits 3 (some .int)]
def wsX6_split : List Cond := .code yX6_split cX6_split 7 (some .int) :: ((wsX6_split_r1 ++ (wsX6_split_r2 ++ wsX6_split_r3)) ++ wsX60)
def wsX6_order_r1 : List Cond := [Cond.fieldLink RX6 126 "SkiShotsModel" "thrown" "I", Cond.fieldLink RX6 72 "SkiShotsModel" "rEntries" "[I", Cond.fieldLink RX6 78 "SkiShotsModel" "entries" "[I", Cond.fieldLink RX6 108 "SkiShotsModel" "low" "[I", Cond.fieldLink RX6 120 "SkiShotsModel" "line" "[I", Cond.methodLink RX6 203 yX6_isRace, Cond.instanceMethod yX6_isRace, Cond.selects RX6 yX6_isRace yX6_isRace, Cond.initialized RX6, Cond.code yX6_isRace cX6_isRace 2 (some .boolean), Cond.fieldLink RX6 200 "SkiShotsModel" "races" "I", Cond.methodLink RX6 241 yX6_isDay, Cond.instanceMethod yX6_isDay, Cond.selects RX6 yX6_isDay yX6_isDay, Cond.code yX6_isDay cX6_isDay 2 (some .boolean), Cond.fieldLink RX6 194 "SkiShotsModel" "today" "I", Cond.methodLink RX6 244 yX6_workAll, Cond.instanceMethod yX6_workAll, Cond.selects RX6 yX6_workAll yX6_workAll, Cond.code yX6_workAll cX6_workAll 5 none, Cond.methodLink RX6 237 yX6_work, Cond.instanceMethod yX6_work, Cond.selects RX6 yX6_work yX6_work, Cond.code yX6_work cX6_work 12 none]
def wsX6_order_r2 : List Cond := [Cond.fieldLink RX6 105 "SkiShotsModel" "start" "[I", Cond.fieldLink RX6 114 "SkiShotsModel" "missLow" "[I", Cond.fieldLink RX6 117 "SkiShotsModel" "missHigh" "[I", Cond.fieldLink RX6 51 "SkiShotsModel" "rShoots" "[I", Cond.fieldLink RX6 57 "SkiShotsModel" "rLoop" "[Z", Cond.fieldLink RX6 60 "SkiShotsModel" "rCost" "[I", Cond.fieldLink RX6 48 "SkiShotsModel" "rLaps" "[I", Cond.fieldLink RX6 111 "SkiShotsModel" "high" "[I", Cond.methodLink RX6 227 yX6_startOf, Cond.instanceMethod yX6_startOf, Cond.selects RX6 yX6_startOf yX6_startOf, Cond.code yX6_startOf cX6_startOf 5 (some .int), Cond.fieldLink RX6 63 "SkiShotsModel" "rHow" "[I", Cond.fieldLink RX6 66 "SkiShotsModel" "rNumber" "[I", Cond.fieldLink RX6 81 "SkiShotsModel" "entryOf" "[I", Cond.fieldLink RX6 69 "SkiShotsModel" "rBy" "[I", Cond.methodLink RX6 224 yX6_least, Cond.instanceMethod yX6_least, Cond.selects RX6 yX6_least yX6_least, Cond.code yX6_least cX6_least 4 (some .int), Cond.fieldLink RX6 197 "SkiShotsModel" "racers" "I", Cond.methodLink RX6 230 yX6_known, Cond.instanceMethod yX6_known, Cond.selects RX6 yX6_known yX6_known]
def wsX6_order_r3 : List Cond := [Cond.code yX6_known cX6_known 7 (some .int), Cond.fieldLink RX6 217 "SkiShotsModel" "told" "I", Cond.fieldLink RX6 99 "SkiShotsModel" "tDay" "[I", Cond.fieldLink RX6 84 "SkiShotsModel" "tRace" "[I", Cond.fieldLink RX6 87 "SkiShotsModel" "tRacer" "[I", Cond.fieldLink RX6 90 "SkiShotsModel" "tSort" "[I", Cond.fieldLink RX6 93 "SkiShotsModel" "tK" "[I", Cond.fieldLink RX6 96 "SkiShotsModel" "tV" "[I", Cond.methodLink RX6 234 yX6_hits, Cond.static yX6_hits, Cond.code yX6_hits cX6_hits 3 (some .int)]
def wsX6_order : List Cond := .code yX6_order cX6_order 8 (some .int) :: ((wsX6_order_r1 ++ (wsX6_order_r2 ++ wsX6_order_r3)) ++ wsX60)
def wsX6_cup_r1 : List Cond := [Cond.fieldLink RX6 200 "SkiShotsModel" "races" "I", Cond.fieldLink RX6 123 "SkiShotsModel" "sums" "[I", Cond.fieldLink RX6 72 "SkiShotsModel" "rEntries" "[I", Cond.fieldLink RX6 78 "SkiShotsModel" "entries" "[I", Cond.fieldLink RX6 108 "SkiShotsModel" "low" "[I", Cond.methodLink RX6 244 yX6_workAll, Cond.instanceMethod yX6_workAll, Cond.selects RX6 yX6_workAll yX6_workAll, Cond.initialized RX6, Cond.code yX6_workAll cX6_workAll 5 none, Cond.methodLink RX6 237 yX6_work, Cond.instanceMethod yX6_work, Cond.selects RX6 yX6_work yX6_work, Cond.code yX6_work cX6_work 12 none, Cond.fieldLink RX6 105 "SkiShotsModel" "start" "[I", Cond.fieldLink RX6 114 "SkiShotsModel" "missLow" "[I", Cond.fieldLink RX6 117 "SkiShotsModel" "missHigh" "[I", Cond.fieldLink RX6 51 "SkiShotsModel" "rShoots" "[I", Cond.fieldLink RX6 57 "SkiShotsModel" "rLoop" "[Z", Cond.fieldLink RX6 60 "SkiShotsModel" "rCost" "[I", Cond.fieldLink RX6 48 "SkiShotsModel" "rLaps" "[I", Cond.fieldLink RX6 111 "SkiShotsModel" "high" "[I", Cond.methodLink RX6 227 yX6_startOf, Cond.instanceMethod yX6_startOf]
def wsX6_cup_r2 : List Cond := [Cond.selects RX6 yX6_startOf yX6_startOf, Cond.code yX6_startOf cX6_startOf 5 (some .int), Cond.fieldLink RX6 63 "SkiShotsModel" "rHow" "[I", Cond.fieldLink RX6 66 "SkiShotsModel" "rNumber" "[I", Cond.fieldLink RX6 81 "SkiShotsModel" "entryOf" "[I", Cond.fieldLink RX6 69 "SkiShotsModel" "rBy" "[I", Cond.methodLink RX6 224 yX6_least, Cond.instanceMethod yX6_least, Cond.selects RX6 yX6_least yX6_least, Cond.code yX6_least cX6_least 4 (some .int), Cond.fieldLink RX6 197 "SkiShotsModel" "racers" "I", Cond.methodLink RX6 230 yX6_known, Cond.instanceMethod yX6_known, Cond.selects RX6 yX6_known yX6_known, Cond.code yX6_known cX6_known 7 (some .int), Cond.fieldLink RX6 217 "SkiShotsModel" "told" "I", Cond.fieldLink RX6 99 "SkiShotsModel" "tDay" "[I", Cond.fieldLink RX6 84 "SkiShotsModel" "tRace" "[I", Cond.fieldLink RX6 87 "SkiShotsModel" "tRacer" "[I", Cond.fieldLink RX6 90 "SkiShotsModel" "tSort" "[I", Cond.fieldLink RX6 93 "SkiShotsModel" "tK" "[I", Cond.fieldLink RX6 96 "SkiShotsModel" "tV" "[I", Cond.methodLink RX6 234 yX6_hits, Cond.static yX6_hits]
def wsX6_cup_r3 : List Cond := [Cond.code yX6_hits cX6_hits 3 (some .int), Cond.methodLink RX6 248 yX6_placed, Cond.instanceMethod yX6_placed, Cond.selects RX6 yX6_placed yX6_placed, Cond.code yX6_placed cX6_placed 8 (some .int)]
def wsX6_cup : List Cond := .code yX6_cup cX6_cup 6 none :: ((wsX6_cup_r1 ++ (wsX6_cup_r2 ++ wsX6_cup_r3)) ++ wsX60)
def wsX6_stands : List Cond := .code yX6_stands cX6_stands 4 (some .int) :: ([.fieldLink RX6 197 "SkiShotsModel" "racers" "I", .fieldLink RX6 123 "SkiShotsModel" "sums" "[I"] ++ wsX60)
def wsX6_points_r1 : List Cond := [Cond.fieldLink RX6 126 "SkiShotsModel" "thrown" "I", Cond.fieldLink RX6 123 "SkiShotsModel" "sums" "[I", Cond.methodLink RX6 206 yX6_isRacer, Cond.instanceMethod yX6_isRacer, Cond.selects RX6 yX6_isRacer yX6_isRacer, Cond.initialized RX6, Cond.code yX6_isRacer cX6_isRacer 2 (some .boolean), Cond.fieldLink RX6 197 "SkiShotsModel" "racers" "I", Cond.methodLink RX6 241 yX6_isDay, Cond.instanceMethod yX6_isDay, Cond.selects RX6 yX6_isDay yX6_isDay, Cond.code yX6_isDay cX6_isDay 2 (some .boolean), Cond.fieldLink RX6 194 "SkiShotsModel" "today" "I", Cond.methodLink RX6 252 yX6_cup, Cond.instanceMethod yX6_cup, Cond.selects RX6 yX6_cup yX6_cup, Cond.code yX6_cup cX6_cup 6 none, Cond.fieldLink RX6 200 "SkiShotsModel" "races" "I", Cond.fieldLink RX6 72 "SkiShotsModel" "rEntries" "[I", Cond.fieldLink RX6 78 "SkiShotsModel" "entries" "[I", Cond.fieldLink RX6 108 "SkiShotsModel" "low" "[I", Cond.methodLink RX6 244 yX6_workAll, Cond.instanceMethod yX6_workAll, Cond.selects RX6 yX6_workAll yX6_workAll]
def wsX6_points_r2 : List Cond := [Cond.code yX6_workAll cX6_workAll 5 none, Cond.methodLink RX6 237 yX6_work, Cond.instanceMethod yX6_work, Cond.selects RX6 yX6_work yX6_work, Cond.code yX6_work cX6_work 12 none, Cond.fieldLink RX6 105 "SkiShotsModel" "start" "[I", Cond.fieldLink RX6 114 "SkiShotsModel" "missLow" "[I", Cond.fieldLink RX6 117 "SkiShotsModel" "missHigh" "[I", Cond.fieldLink RX6 51 "SkiShotsModel" "rShoots" "[I", Cond.fieldLink RX6 57 "SkiShotsModel" "rLoop" "[Z", Cond.fieldLink RX6 60 "SkiShotsModel" "rCost" "[I", Cond.fieldLink RX6 48 "SkiShotsModel" "rLaps" "[I", Cond.fieldLink RX6 111 "SkiShotsModel" "high" "[I", Cond.methodLink RX6 227 yX6_startOf, Cond.instanceMethod yX6_startOf, Cond.selects RX6 yX6_startOf yX6_startOf, Cond.code yX6_startOf cX6_startOf 5 (some .int), Cond.fieldLink RX6 63 "SkiShotsModel" "rHow" "[I", Cond.fieldLink RX6 66 "SkiShotsModel" "rNumber" "[I", Cond.fieldLink RX6 81 "SkiShotsModel" "entryOf" "[I", Cond.fieldLink RX6 69 "SkiShotsModel" "rBy" "[I", Cond.methodLink RX6 224 yX6_least, Cond.instanceMethod yX6_least, Cond.selects RX6 yX6_least yX6_least]
def wsX6_points_r3 : List Cond := [Cond.code yX6_least cX6_least 4 (some .int), Cond.methodLink RX6 230 yX6_known, Cond.instanceMethod yX6_known, Cond.selects RX6 yX6_known yX6_known, Cond.code yX6_known cX6_known 7 (some .int), Cond.fieldLink RX6 217 "SkiShotsModel" "told" "I", Cond.fieldLink RX6 99 "SkiShotsModel" "tDay" "[I", Cond.fieldLink RX6 84 "SkiShotsModel" "tRace" "[I", Cond.fieldLink RX6 87 "SkiShotsModel" "tRacer" "[I", Cond.fieldLink RX6 90 "SkiShotsModel" "tSort" "[I", Cond.fieldLink RX6 93 "SkiShotsModel" "tK" "[I", Cond.fieldLink RX6 96 "SkiShotsModel" "tV" "[I", Cond.methodLink RX6 234 yX6_hits, Cond.static yX6_hits, Cond.code yX6_hits cX6_hits 3 (some .int), Cond.methodLink RX6 248 yX6_placed, Cond.instanceMethod yX6_placed, Cond.selects RX6 yX6_placed yX6_placed, Cond.code yX6_placed cX6_placed 8 (some .int)]
def wsX6_points : List Cond := .code yX6_points cX6_points 3 (some .int) :: ((wsX6_points_r1 ++ (wsX6_points_r2 ++ wsX6_points_r3)) ++ wsX60)
def wsX6_standing_r1 : List Cond := [Cond.fieldLink RX6 126 "SkiShotsModel" "thrown" "I", Cond.methodLink RX6 206 yX6_isRacer, Cond.instanceMethod yX6_isRacer, Cond.selects RX6 yX6_isRacer yX6_isRacer, Cond.initialized RX6, Cond.code yX6_isRacer cX6_isRacer 2 (some .boolean), Cond.fieldLink RX6 197 "SkiShotsModel" "racers" "I", Cond.methodLink RX6 241 yX6_isDay, Cond.instanceMethod yX6_isDay, Cond.selects RX6 yX6_isDay yX6_isDay, Cond.code yX6_isDay cX6_isDay 2 (some .boolean), Cond.fieldLink RX6 194 "SkiShotsModel" "today" "I", Cond.methodLink RX6 252 yX6_cup, Cond.instanceMethod yX6_cup, Cond.selects RX6 yX6_cup yX6_cup, Cond.code yX6_cup cX6_cup 6 none, Cond.fieldLink RX6 200 "SkiShotsModel" "races" "I", Cond.fieldLink RX6 123 "SkiShotsModel" "sums" "[I", Cond.fieldLink RX6 72 "SkiShotsModel" "rEntries" "[I", Cond.fieldLink RX6 78 "SkiShotsModel" "entries" "[I", Cond.fieldLink RX6 108 "SkiShotsModel" "low" "[I", Cond.methodLink RX6 244 yX6_workAll, Cond.instanceMethod yX6_workAll, Cond.selects RX6 yX6_workAll yX6_workAll]
def wsX6_standing_r2 : List Cond := [Cond.code yX6_workAll cX6_workAll 5 none, Cond.methodLink RX6 237 yX6_work, Cond.instanceMethod yX6_work, Cond.selects RX6 yX6_work yX6_work, Cond.code yX6_work cX6_work 12 none, Cond.fieldLink RX6 105 "SkiShotsModel" "start" "[I", Cond.fieldLink RX6 114 "SkiShotsModel" "missLow" "[I", Cond.fieldLink RX6 117 "SkiShotsModel" "missHigh" "[I", Cond.fieldLink RX6 51 "SkiShotsModel" "rShoots" "[I", Cond.fieldLink RX6 57 "SkiShotsModel" "rLoop" "[Z", Cond.fieldLink RX6 60 "SkiShotsModel" "rCost" "[I", Cond.fieldLink RX6 48 "SkiShotsModel" "rLaps" "[I", Cond.fieldLink RX6 111 "SkiShotsModel" "high" "[I", Cond.methodLink RX6 227 yX6_startOf, Cond.instanceMethod yX6_startOf, Cond.selects RX6 yX6_startOf yX6_startOf, Cond.code yX6_startOf cX6_startOf 5 (some .int), Cond.fieldLink RX6 63 "SkiShotsModel" "rHow" "[I", Cond.fieldLink RX6 66 "SkiShotsModel" "rNumber" "[I", Cond.fieldLink RX6 81 "SkiShotsModel" "entryOf" "[I", Cond.fieldLink RX6 69 "SkiShotsModel" "rBy" "[I", Cond.methodLink RX6 224 yX6_least, Cond.instanceMethod yX6_least, Cond.selects RX6 yX6_least yX6_least]
def wsX6_standing_r3 : List Cond := [Cond.code yX6_least cX6_least 4 (some .int), Cond.methodLink RX6 230 yX6_known, Cond.instanceMethod yX6_known, Cond.selects RX6 yX6_known yX6_known, Cond.code yX6_known cX6_known 7 (some .int), Cond.fieldLink RX6 217 "SkiShotsModel" "told" "I", Cond.fieldLink RX6 99 "SkiShotsModel" "tDay" "[I", Cond.fieldLink RX6 84 "SkiShotsModel" "tRace" "[I", Cond.fieldLink RX6 87 "SkiShotsModel" "tRacer" "[I", Cond.fieldLink RX6 90 "SkiShotsModel" "tSort" "[I", Cond.fieldLink RX6 93 "SkiShotsModel" "tK" "[I", Cond.fieldLink RX6 96 "SkiShotsModel" "tV" "[I", Cond.methodLink RX6 234 yX6_hits, Cond.static yX6_hits, Cond.code yX6_hits cX6_hits 3 (some .int), Cond.methodLink RX6 248 yX6_placed, Cond.instanceMethod yX6_placed, Cond.selects RX6 yX6_placed yX6_placed, Cond.code yX6_placed cX6_placed 8 (some .int), Cond.methodLink RX6 256 yX6_stands, Cond.instanceMethod yX6_stands, Cond.selects RX6 yX6_stands yX6_stands, Cond.code yX6_stands cX6_stands 4 (some .int)]
def wsX6_standing : List Cond := .code yX6_standing cX6_standing 3 (some .int) :: ((wsX6_standing_r1 ++ (wsX6_standing_r2 ++ wsX6_standing_r3)) ++ wsX60)
def wsX6_starters_r1 : List Cond := [Cond.fieldLink RX6 126 "SkiShotsModel" "thrown" "I", Cond.fieldLink RX6 197 "SkiShotsModel" "racers" "I", Cond.fieldLink RX6 42 "SkiShotsModel" "nation" "[I", Cond.fieldLink RX6 123 "SkiShotsModel" "sums" "[I", Cond.methodLink RX6 241 yX6_isDay, Cond.instanceMethod yX6_isDay, Cond.selects RX6 yX6_isDay yX6_isDay, Cond.initialized RX6, Cond.code yX6_isDay cX6_isDay 2 (some .boolean), Cond.fieldLink RX6 194 "SkiShotsModel" "today" "I", Cond.methodLink RX6 252 yX6_cup, Cond.instanceMethod yX6_cup, Cond.selects RX6 yX6_cup yX6_cup, Cond.code yX6_cup cX6_cup 6 none, Cond.fieldLink RX6 200 "SkiShotsModel" "races" "I", Cond.fieldLink RX6 72 "SkiShotsModel" "rEntries" "[I", Cond.fieldLink RX6 78 "SkiShotsModel" "entries" "[I", Cond.fieldLink RX6 108 "SkiShotsModel" "low" "[I", Cond.methodLink RX6 244 yX6_workAll, Cond.instanceMethod yX6_workAll, Cond.selects RX6 yX6_workAll yX6_workAll, Cond.code yX6_workAll cX6_workAll 5 none, Cond.methodLink RX6 237 yX6_work, Cond.instanceMethod yX6_work]
def wsX6_starters_r2 : List Cond := [Cond.selects RX6 yX6_work yX6_work, Cond.code yX6_work cX6_work 12 none, Cond.fieldLink RX6 105 "SkiShotsModel" "start" "[I", Cond.fieldLink RX6 114 "SkiShotsModel" "missLow" "[I", Cond.fieldLink RX6 117 "SkiShotsModel" "missHigh" "[I", Cond.fieldLink RX6 51 "SkiShotsModel" "rShoots" "[I", Cond.fieldLink RX6 57 "SkiShotsModel" "rLoop" "[Z", Cond.fieldLink RX6 60 "SkiShotsModel" "rCost" "[I", Cond.fieldLink RX6 48 "SkiShotsModel" "rLaps" "[I", Cond.fieldLink RX6 111 "SkiShotsModel" "high" "[I", Cond.methodLink RX6 227 yX6_startOf, Cond.instanceMethod yX6_startOf, Cond.selects RX6 yX6_startOf yX6_startOf, Cond.code yX6_startOf cX6_startOf 5 (some .int), Cond.fieldLink RX6 63 "SkiShotsModel" "rHow" "[I", Cond.fieldLink RX6 66 "SkiShotsModel" "rNumber" "[I", Cond.fieldLink RX6 81 "SkiShotsModel" "entryOf" "[I", Cond.fieldLink RX6 69 "SkiShotsModel" "rBy" "[I", Cond.methodLink RX6 224 yX6_least, Cond.instanceMethod yX6_least, Cond.selects RX6 yX6_least yX6_least, Cond.code yX6_least cX6_least 4 (some .int), Cond.methodLink RX6 230 yX6_known, Cond.instanceMethod yX6_known]
def wsX6_starters_r3 : List Cond := [Cond.selects RX6 yX6_known yX6_known, Cond.code yX6_known cX6_known 7 (some .int), Cond.fieldLink RX6 217 "SkiShotsModel" "told" "I", Cond.fieldLink RX6 99 "SkiShotsModel" "tDay" "[I", Cond.fieldLink RX6 84 "SkiShotsModel" "tRace" "[I", Cond.fieldLink RX6 87 "SkiShotsModel" "tRacer" "[I", Cond.fieldLink RX6 90 "SkiShotsModel" "tSort" "[I", Cond.fieldLink RX6 93 "SkiShotsModel" "tK" "[I", Cond.fieldLink RX6 96 "SkiShotsModel" "tV" "[I", Cond.methodLink RX6 234 yX6_hits, Cond.static yX6_hits, Cond.code yX6_hits cX6_hits 3 (some .int), Cond.methodLink RX6 248 yX6_placed, Cond.instanceMethod yX6_placed, Cond.selects RX6 yX6_placed yX6_placed, Cond.code yX6_placed cX6_placed 8 (some .int), Cond.methodLink RX6 256 yX6_stands, Cond.instanceMethod yX6_stands, Cond.selects RX6 yX6_stands yX6_stands, Cond.code yX6_stands cX6_stands 4 (some .int)]
def wsX6_starters : List Cond := .code yX6_starters cX6_starters 5 (some .int) :: ((wsX6_starters_r1 ++ (wsX6_starters_r2 ++ wsX6_starters_r3)) ++ wsX60)
def wsX6_count : List Cond := .code yX6_count cX6_count 2 (some .int) :: ([.fieldLink RX6 126 "SkiShotsModel" "thrown" "I", .fieldLink RX6 194 "SkiShotsModel" "today" "I", .fieldLink RX6 191 "SkiShotsModel" "formatMany" "I", .fieldLink RX6 197 "SkiShotsModel" "racers" "I", .fieldLink RX6 200 "SkiShotsModel" "races" "I", .fieldLink RX6 217 "SkiShotsModel" "told" "I"] ++ wsX60)
def wsJ9_max_7cf53 : List Cond := .code yJ9_max_7cf53 cJ9_max_7cf53 2 (some .int) :: ([])
def wsJ9_min_7cf53 : List Cond := .code yJ9_min_7cf53 cJ9_min_7cf53 2 (some .int) :: ([])
abbrev vwCl : List vw_C := [(RX0, TX0, 10), (RX1, TX1, 5), (RX2, TX2, 8), (RX3, TX3, 7), (RX4, TX4, 10), (RX5, TX5, 13), (RX6, TX6, 52)]
end
section
/-! a throw that the first row of the method's own table takes (the row's name linked now, or before) -/
section CatchFirst
variable {p : Program} {l : Launch} {e : Env} {R : Room} {s : State} {m : MethodId} {args : Array Value} {below : List Frame} {meth : Method} {c : Code} {H : Heap} {locs : List Loc} {cells slots : Nat} {Q : State → Prop} {pc : Nat} {ls : Array Slot} {rest : List Value}
theorem ct_catch {own name E : String} {ce : Cell} {q : Addr} (hown : s.vm.findClass own = some m.cls) (x : ExceptionTableEntry) (suf : List ExceptionTableEntry) (hsplit : c.exceptionTable.toList = x :: suf) (hx : covers x pc = true) (h0 : x.catchType ≠ 0)
    (hlink : (Cond.classLink own x.catchType name).before args s = true) (hcast : (Cond.castable E name).before args s = true) (hcell : H[q]? = some ce) (hv : ce.vm = .none) (hcl : s.vm.findClass E = some ce.cls)
    (kk : W p l e R s m args below meth c H locs cells slots Q (F0 m x.handlerPc ls [.ref q])) : vx_W p l e R s m args below meth c H locs cells slots Q (F0 m pc ls rest) q := by
  intro T hT X
  have hpl : e.platform.magicAccessors = ({} : Platform).magicAccessors := by rw [X.admits.platform]
  obtain ⟨c3, c4, hc3, hc4, hasg⟩ := Cond.castable_spec hcast
  cases Option.some.inj (hc3.symm.trans hcl)
  obtain ⟨c5, hc5, hlk⟩ := Cond.classLink_spec hown hlink e.platform hpl
  cases Option.some.inj (hc4.symm.trans hc5)
  obtain ⟨dk, _, _, kt, hd, _, _, _, _, hkt, _, hopen⟩ := hlk.here
  have hW' : s.WarmedH (T.vm.noted m.cls x.catchType (.cls c4)) := X.warmed.noted hd hopen (State.rightAt_cls hlk)
  obtain ⟨t, a1, b1⟩ := kk (T.setVm (T.vm.noted m.cls x.catchType (.cls c4))) hT (X.noted hW')
  refine ⟨t, ?_, b1⟩
  have hal := X.warmed.alike
  obtain ⟨k9, hk9, -⟩ := Vm.findClass_spec hcl
  have hfind : ∀ (Z : Handler → Pre) (Y : CtlPost) (d : Bool) (acts : List Action), wp (findHandler (F0 m pc ls rest) q) Z Y e d acts ((T.setTop (F0 m pc ls rest)).pushFrame (.throwing q)) ↔ Z (.found x.handlerPc) d acts (((T.setTop (F0 m pc ls rest)).pushFrame (.throwing q)).setVm (T.vm.noted m.cls x.catchType (.cls c4))) := by
    intro Z Y d acts
    rw [W.findHandler_eq (f := F0 m pc ls rest) (s := (T.setTop (F0 m pc ls rest)).pushFrame (.throwing q)) X.method' X.code, hsplit]
    have hx' := hx
    simp only [covers] at hx'
    obtain ⟨ha, hb⟩ := (resolveClass_links e.toSetting (X.warmed.classLinks hlk)).op (op := VmOp.resolveClass m.cls x.catchType) rfl
    have hal2 : T.vm.Alike (T.vm.noted m.cls x.catchType (.cls c4)) := (Vm.Alike.refl T.vm).noted _ _ _
    obtain ⟨k1, hk1, -⟩ := hal.2.2 _ _ hk9
    obtain ⟨k2, hk2, -⟩ := hal.2.2 _ _ hkt
    obtain ⟨k1', hk1', -⟩ := hal2.2.2 _ _ hk1
    obtain ⟨k2', hk2', -⟩ := hal2.2.2 _ _ hk2
    have hfit : (T.vm.noted m.cls x.catchType (.cls c4)).assignable ce.cls c4 = true := by rw [hal2.assignable, hal.assignable]; exact hasg
    have hcell' : ((T.setTop (F0 m pc ls rest)).pushFrame (.throwing q)).heap[q]? = some ce := by
      show T.heap[q]? = some ce
      rw [hT]; exact hcell
    have hobj : ∀ k, ce.vm ≠ .statics k := fun k h => by rw [hv] at h; cases h
    have hvm' : ((T.setTop (F0 m pc ls rest)).pushFrame (.throwing q)).vm = T.vm := rfl
    simp [findHandler.go, hx', h0, ha, hb, hcell', hobj, hk1', hk2', hfit, VmOp.dirties, VmOp.acts, hvm']
  have hthr : (stepThrowing e ((T.setTop (F0 m pc ls rest)).pushFrame (.throwing q)) q (.java (F0 m pc ls rest) :: T.frames.tail)).Is ((((T.setTop (F0 m pc ls rest)).pushFrame (.throwing q)).setVm (T.vm.noted m.cls x.catchType (.cls c4))).setFrames (.java { F0 m pc ls rest with pc := x.handlerPc, stack := [.ref q] } :: T.frames.tail)) [] := by
    simp only [stepThrowing, searchFrame, vmDo]
    generalize hr : Sem.go _ e false [] _ = res
    obtain ⟨as, rfl, ha⟩ := Sem.eq_ok_of hr (a := Handler.found x.handlerPc) (s' := ((T.setTop (F0 m pc ls rest)).pushFrame (.throwing q)).setVm (T.vm.noted m.cls x.catchType (.cls c4))) (acts' := []) (by simp [hfind _ _ _ _])
    exact ⟨rfl, ha⟩
  obtain ⟨hgo, hw⟩ := X.here.throwing (g := F0 m pc ls rest) q
  refine Steps.head hgo hw ?_
  rw [stepThread_throwing (frames_entered X.here.top _), hthr.1]
  obtain ⟨g₀, hfr⟩ := X.frames_eq
  have hfr' : (T.setVm (T.vm.noted m.cls x.catchType (.cls c4))).frames = .java g₀ :: below := hfr
  rw [State.setTop_of_frames _ hfr'] at a1
  have e1 : ∀ (u : State) (v : Vm) (F G : List Frame), ((u.setFrames F).setVm v).setFrames G = (u.setVm v).setFrames G := fun u v F G => by
    have h1 : (u.setFrames F).setVm v = (u.setVm v).setFrames F := rfl
    rw [h1, State.setFrames_setFrames]
  rw [hfr, List.tail_cons, State.pushFrame, State.setTop_of_frames _ hfr, e1, e1]
  exact a1
end CatchFirst
end
section

end
section
theorem dX0_init_0 : decode cX0_init 0 = .ok (.aload_n 0, 1) := by decide +kernel
theorem dX0_init_1 : decode cX0_init 1 = .ok (.invokespecial 3, 3) := by decide +kernel
theorem dX0_init_4 : decode cX0_init 4 = .ok (.aload_n 0, 1) := by decide +kernel
theorem dX0_init_5 : decode cX0_init 5 = .ok (.iload_n 1, 1) := by decide +kernel
theorem dX0_init_6 : decode cX0_init 6 = .ok (.putfield 9, 3) := by decide +kernel
theorem dX0_init_9 : decode cX0_init 9 = .ok (.return_, 1) := by decide +kernel
theorem dX0_known_0 : decode cX0_known 0 = .ok (.aload_n 0, 1) := by decide +kernel
theorem dX0_known_1 : decode cX0_known 1 = .ok (.getfield 15, 3) := by decide +kernel
theorem dX0_known_4 : decode cX0_known 4 = .ok (.astore 4, 2) := by decide +kernel
theorem dX0_known_6 : decode cX0_known 6 = .ok (.aload 4, 2) := by decide +kernel
theorem dX0_known_8 : decode cX0_known 8 = .ok (.ifnull 46, 3) := by decide +kernel
theorem dX0_known_11 : decode cX0_known 11 = .ok (.aload 4, 2) := by decide +kernel
theorem dX0_known_13 : decode cX0_known 13 = .ok (.getfield 19, 3) := by decide +kernel
theorem dX0_known_16 : decode cX0_known 16 = .ok (.iload_n 3, 1) := by decide +kernel
theorem dX0_known_17 : decode cX0_known 17 = .ok (.if_icmp .gt 27, 3) := by decide +kernel
theorem dX0_known_20 : decode cX0_known 20 = .ok (.aload 4, 2) := by decide +kernel
theorem dX0_known_22 : decode cX0_known 22 = .ok (.getfield 24, 3) := by decide +kernel
theorem dX0_known_25 : decode cX0_known 25 = .ok (.iload_n 1, 1) := by decide +kernel
theorem dX0_known_26 : decode cX0_known 26 = .ok (.if_icmp .ne 18, 3) := by decide +kernel
theorem dX0_known_29 : decode cX0_known 29 = .ok (.aload 4, 2) := by decide +kernel
theorem dX0_known_31 : decode cX0_known 31 = .ok (.getfield 27, 3) := by decide +kernel
theorem dX0_known_34 : decode cX0_known 34 = .ok (.iload_n 2, 1) := by decide +kernel
theorem dX0_known_35 : decode cX0_known 35 = .ok (.if_icmp .ne 9, 3) := by decide +kernel
theorem dX0_known_38 : decode cX0_known 38 = .ok (.aload 4, 2) := by decide +kernel
theorem dX0_known_40 : decode cX0_known 40 = .ok (.getfield 30, 3) := by decide +kernel
theorem dX0_known_43 : decode cX0_known 43 = .ok (.ireturn, 1) := by decide +kernel
theorem dX0_known_44 : decode cX0_known 44 = .ok (.aload 4, 2) := by decide +kernel
theorem dX0_known_46 : decode cX0_known 46 = .ok (.getfield 33, 3) := by decide +kernel
theorem dX0_known_49 : decode cX0_known 49 = .ok (.astore 4, 2) := by decide +kernel
theorem dX0_known_51 : decode cX0_known 51 = .ok (.goto (-45), 3) := by decide +kernel
theorem dX0_known_54 : decode cX0_known 54 = .ok (.iconst (-1), 1) := by decide +kernel
theorem dX0_known_55 : decode cX0_known 55 = .ok (.ireturn, 1) := by decide +kernel
theorem dX0_sinceStart_0 : decode cX0_sinceStart 0 = .ok (.aload_n 0, 1) := by decide +kernel
theorem dX0_sinceStart_1 : decode cX0_sinceStart 1 = .ok (.getfield 36, 3) := by decide +kernel
theorem dX0_sinceStart_4 : decode cX0_sinceStart 4 = .ok (.iconst (-1), 1) := by decide +kernel
theorem dX0_sinceStart_5 : decode cX0_sinceStart 5 = .ok (.if_icmp .eq 16, 3) := by decide +kernel
theorem dX0_sinceStart_8 : decode cX0_sinceStart 8 = .ok (.iload_n 1, 1) := by decide +kernel
theorem dX0_sinceStart_9 : decode cX0_sinceStart 9 = .ok (.iconst (-1), 1) := by decide +kernel
theorem dX0_sinceStart_10 : decode cX0_sinceStart 10 = .ok (.if_icmp .eq 11, 3) := by decide +kernel
theorem dX0_sinceStart_13 : decode cX0_sinceStart 13 = .ok (.iload_n 1, 1) := by decide +kernel
theorem dX0_sinceStart_14 : decode cX0_sinceStart 14 = .ok (.aload_n 0, 1) := by decide +kernel
theorem dX0_sinceStart_15 : decode cX0_sinceStart 15 = .ok (.getfield 36, 3) := by decide +kernel
theorem dX0_sinceStart_18 : decode cX0_sinceStart 18 = .ok (.if_icmp .ge 7, 3) := by decide +kernel
theorem dX0_sinceStart_21 : decode cX0_sinceStart 21 = .ok (.iconst (-1), 1) := by decide +kernel
theorem dX0_sinceStart_22 : decode cX0_sinceStart 22 = .ok (.goto 9, 3) := by decide +kernel
theorem dX0_sinceStart_25 : decode cX0_sinceStart 25 = .ok (.iload_n 1, 1) := by decide +kernel
theorem dX0_sinceStart_26 : decode cX0_sinceStart 26 = .ok (.aload_n 0, 1) := by decide +kernel
theorem dX0_sinceStart_27 : decode cX0_sinceStart 27 = .ok (.getfield 36, 3) := by decide +kernel
theorem dX0_sinceStart_30 : decode cX0_sinceStart 30 = .ok (.isub, 1) := by decide +kernel
theorem dX0_sinceStart_31 : decode cX0_sinceStart 31 = .ok (.ireturn, 1) := by decide +kernel
theorem dX0_hasTime_0 : decode cX0_hasTime 0 = .ok (.aload_n 0, 1) := by decide +kernel
theorem dX0_hasTime_1 : decode cX0_hasTime 1 = .ok (.getfield 39, 3) := by decide +kernel
theorem dX0_hasTime_4 : decode cX0_hasTime 4 = .ok (.iconst (-1), 1) := by decide +kernel
theorem dX0_hasTime_5 : decode cX0_hasTime 5 = .ok (.if_icmp .eq 7, 3) := by decide +kernel
theorem dX0_hasTime_8 : decode cX0_hasTime 8 = .ok (.iconst 1, 1) := by decide +kernel
theorem dX0_hasTime_9 : decode cX0_hasTime 9 = .ok (.goto 4, 3) := by decide +kernel
theorem dX0_hasTime_12 : decode cX0_hasTime 12 = .ok (.iconst 0, 1) := by decide +kernel
theorem dX0_hasTime_13 : decode cX0_hasTime 13 = .ok (.ireturn, 1) := by decide +kernel
theorem dX0_workOut_0 : decode cX0_workOut 0 = .ok (.aload_n 0, 1) := by decide +kernel
theorem dX0_workOut_1 : decode cX0_workOut 1 = .ok (.iload_n 2, 1) := by decide +kernel
theorem dX0_workOut_2 : decode cX0_workOut 2 = .ok (.putfield 36, 3) := by decide +kernel
theorem dX0_workOut_5 : decode cX0_workOut 5 = .ok (.aload_n 0, 1) := by decide +kernel
theorem dX0_workOut_6 : decode cX0_workOut 6 = .ok (.aload_n 0, 1) := by decide +kernel
theorem dX0_workOut_7 : decode cX0_workOut 7 = .ok (.iconst 3, 1) := by decide +kernel
theorem dX0_workOut_8 : decode cX0_workOut 8 = .ok (.iconst 0, 1) := by decide +kernel
theorem dX0_workOut_9 : decode cX0_workOut 9 = .ok (.iload_n 3, 1) := by decide +kernel
theorem dX0_workOut_10 : decode cX0_workOut 10 = .ok (.invokevirtual 42, 3) := by decide +kernel
theorem dX0_workOut_13 : decode cX0_workOut 13 = .ok (.iconst 1, 1) := by decide +kernel
theorem dX0_workOut_14 : decode cX0_workOut 14 = .ok (.if_icmp .ne 7, 3) := by decide +kernel
theorem dX0_workOut_17 : decode cX0_workOut 17 = .ok (.iconst 1, 1) := by decide +kernel
theorem dX0_workOut_18 : decode cX0_workOut 18 = .ok (.goto 4, 3) := by decide +kernel
theorem dX0_workOut_21 : decode cX0_workOut 21 = .ok (.iconst 0, 1) := by decide +kernel
theorem dX0_workOut_22 : decode cX0_workOut 22 = .ok (.putfield 46, 3) := by decide +kernel
theorem dX0_workOut_25 : decode cX0_workOut 25 = .ok (.aload_n 0, 1) := by decide +kernel
theorem dX0_workOut_26 : decode cX0_workOut 26 = .ok (.iconst 0, 1) := by decide +kernel
theorem dX0_workOut_27 : decode cX0_workOut 27 = .ok (.putfield 50, 3) := by decide +kernel
theorem dX0_workOut_30 : decode cX0_workOut 30 = .ok (.aload_n 0, 1) := by decide +kernel
theorem dX0_workOut_31 : decode cX0_workOut 31 = .ok (.iconst 0, 1) := by decide +kernel
theorem dX0_workOut_32 : decode cX0_workOut 32 = .ok (.putfield 53, 3) := by decide +kernel
theorem dX0_workOut_35 : decode cX0_workOut 35 = .ok (.aload_n 0, 1) := by decide +kernel
theorem dX0_workOut_36 : decode cX0_workOut 36 = .ok (.iconst 0, 1) := by decide +kernel
theorem dX0_workOut_37 : decode cX0_workOut 37 = .ok (.putfield 56, 3) := by decide +kernel
theorem dX0_workOut_40 : decode cX0_workOut 40 = .ok (.aload_n 0, 1) := by decide +kernel
theorem dX0_workOut_41 : decode cX0_workOut 41 = .ok (.iconst 0, 1) := by decide +kernel
theorem dX0_workOut_42 : decode cX0_workOut 42 = .ok (.putfield 59, 3) := by decide +kernel
theorem dX0_workOut_45 : decode cX0_workOut 45 = .ok (.iconst 0, 1) := by decide +kernel
theorem dX0_workOut_46 : decode cX0_workOut 46 = .ok (.istore 4, 2) := by decide +kernel
theorem dX0_workOut_48 : decode cX0_workOut 48 = .ok (.iload 4, 2) := by decide +kernel
theorem dX0_workOut_50 : decode cX0_workOut 50 = .ok (.aload_n 1, 1) := by decide +kernel
theorem dX0_workOut_51 : decode cX0_workOut 51 = .ok (.getfield 62, 3) := by decide +kernel
theorem dX0_workOut_54 : decode cX0_workOut 54 = .ok (.if_icmp .ge 17, 3) := by decide +kernel
theorem dX0_workOut_57 : decode cX0_workOut 57 = .ok (.aload_n 0, 1) := by decide +kernel
theorem dX0_workOut_58 : decode cX0_workOut 58 = .ok (.aload_n 1, 1) := by decide +kernel
theorem dX0_workOut_59 : decode cX0_workOut 59 = .ok (.iload 4, 2) := by decide +kernel
theorem dX0_workOut_61 : decode cX0_workOut 61 = .ok (.iload_n 3, 1) := by decide +kernel
theorem dX0_workOut_62 : decode cX0_workOut 62 = .ok (.invokevirtual 67, 3) := by decide +kernel
theorem dX0_workOut_65 : decode cX0_workOut 65 = .ok (.iinc 4 1, 3) := by decide +kernel
theorem dX0_workOut_68 : decode cX0_workOut 68 = .ok (.goto (-20), 3) := by decide +kernel
theorem dX0_workOut_71 : decode cX0_workOut 71 = .ok (.aload_n 0, 1) := by decide +kernel
theorem dX0_workOut_72 : decode cX0_workOut 72 = .ok (.getfield 46, 3) := by decide +kernel
theorem dX0_workOut_75 : decode cX0_workOut 75 = .ok (.ifCond .eq 7, 3) := by decide +kernel
theorem dX0_workOut_78 : decode cX0_workOut 78 = .ok (.iconst (-1), 1) := by decide +kernel
theorem dX0_workOut_79 : decode cX0_workOut 79 = .ok (.goto 17, 3) := by decide +kernel
theorem dX0_workOut_82 : decode cX0_workOut 82 = .ok (.aload_n 0, 1) := by decide +kernel
theorem dX0_workOut_83 : decode cX0_workOut 83 = .ok (.aload_n 0, 1) := by decide +kernel
theorem dX0_workOut_84 : decode cX0_workOut 84 = .ok (.iconst 0, 1) := by decide +kernel
theorem dX0_workOut_85 : decode cX0_workOut 85 = .ok (.aload_n 1, 1) := by decide +kernel
theorem dX0_workOut_86 : decode cX0_workOut 86 = .ok (.getfield 71, 3) := by decide +kernel
theorem dX0_workOut_89 : decode cX0_workOut 89 = .ok (.iload_n 3, 1) := by decide +kernel
theorem dX0_workOut_90 : decode cX0_workOut 90 = .ok (.invokevirtual 42, 3) := by decide +kernel
theorem dX0_workOut_93 : decode cX0_workOut 93 = .ok (.invokevirtual 74, 3) := by decide +kernel
theorem dX0_workOut_96 : decode cX0_workOut 96 = .ok (.istore 4, 2) := by decide +kernel
theorem dX0_workOut_98 : decode cX0_workOut 98 = .ok (.aload_n 0, 1) := by decide +kernel
theorem dX0_workOut_99 : decode cX0_workOut 99 = .ok (.iload 4, 2) := by decide +kernel
theorem dX0_workOut_101 : decode cX0_workOut 101 = .ok (.iconst (-1), 1) := by decide +kernel
theorem dX0_workOut_102 : decode cX0_workOut 102 = .ok (.if_icmp .ne 7, 3) := by decide +kernel
theorem dX0_workOut_105 : decode cX0_workOut 105 = .ok (.iconst (-1), 1) := by decide +kernel
theorem dX0_workOut_106 : decode cX0_workOut 106 = .ok (.goto 10, 3) := by decide +kernel
theorem dX0_workOut_109 : decode cX0_workOut 109 = .ok (.iload 4, 2) := by decide +kernel
theorem dX0_workOut_111 : decode cX0_workOut 111 = .ok (.aload_n 0, 1) := by decide +kernel
theorem dX0_workOut_112 : decode cX0_workOut 112 = .ok (.getfield 56, 3) := by decide +kernel
theorem dX0_workOut_115 : decode cX0_workOut 115 = .ok (.iadd, 1) := by decide +kernel
theorem dX0_workOut_116 : decode cX0_workOut 116 = .ok (.putfield 39, 3) := by decide +kernel
theorem dX0_workOut_119 : decode cX0_workOut 119 = .ok (.aload_n 0, 1) := by decide +kernel
theorem dX0_workOut_120 : decode cX0_workOut 120 = .ok (.iload 4, 2) := by decide +kernel
theorem dX0_workOut_122 : decode cX0_workOut 122 = .ok (.iconst (-1), 1) := by decide +kernel
theorem dX0_workOut_123 : decode cX0_workOut 123 = .ok (.if_icmp .ne 7, 3) := by decide +kernel
theorem dX0_workOut_126 : decode cX0_workOut 126 = .ok (.iconst (-1), 1) := by decide +kernel
theorem dX0_workOut_127 : decode cX0_workOut 127 = .ok (.goto 10, 3) := by decide +kernel
theorem dX0_workOut_130 : decode cX0_workOut 130 = .ok (.iload 4, 2) := by decide +kernel
theorem dX0_workOut_132 : decode cX0_workOut 132 = .ok (.aload_n 0, 1) := by decide +kernel
theorem dX0_workOut_133 : decode cX0_workOut 133 = .ok (.getfield 59, 3) := by decide +kernel
theorem dX0_workOut_136 : decode cX0_workOut 136 = .ok (.iadd, 1) := by decide +kernel
theorem dX0_workOut_137 : decode cX0_workOut 137 = .ok (.putfield 78, 3) := by decide +kernel
theorem dX0_workOut_140 : decode cX0_workOut 140 = .ok (.return_, 1) := by decide +kernel
theorem dX0_addShooting_0 : decode cX0_addShooting 0 = .ok (.aload_n 0, 1) := by decide +kernel
theorem dX0_addShooting_1 : decode cX0_addShooting 1 = .ok (.iconst 1, 1) := by decide +kernel
theorem dX0_addShooting_2 : decode cX0_addShooting 2 = .ok (.iload_n 2, 1) := by decide +kernel
theorem dX0_addShooting_3 : decode cX0_addShooting 3 = .ok (.iload_n 3, 1) := by decide +kernel
theorem dX0_addShooting_4 : decode cX0_addShooting 4 = .ok (.invokevirtual 42, 3) := by decide +kernel
theorem dX0_addShooting_7 : decode cX0_addShooting 7 = .ok (.istore 4, 2) := by decide +kernel
theorem dX0_addShooting_9 : decode cX0_addShooting 9 = .ok (.iload 4, 2) := by decide +kernel
theorem dX0_addShooting_11 : decode cX0_addShooting 11 = .ok (.iconst (-1), 1) := by decide +kernel
theorem dX0_addShooting_12 : decode cX0_addShooting 12 = .ok (.if_icmp .ne 7, 3) := by decide +kernel
theorem dX0_addShooting_15 : decode cX0_addShooting 15 = .ok (.iconst 0, 1) := by decide +kernel
theorem dX0_addShooting_16 : decode cX0_addShooting 16 = .ok (.goto 10, 3) := by decide +kernel
theorem dX0_addShooting_19 : decode cX0_addShooting 19 = .ok (.iconst 5, 1) := by decide +kernel
theorem dX0_addShooting_20 : decode cX0_addShooting 20 = .ok (.iload 4, 2) := by decide +kernel
theorem dX0_addShooting_22 : decode cX0_addShooting 22 = .ok (.invokestatic 81, 3) := by decide +kernel
theorem dX0_addShooting_25 : decode cX0_addShooting 25 = .ok (.isub, 1) := by decide +kernel
theorem dX0_addShooting_26 : decode cX0_addShooting 26 = .ok (.istore 5, 2) := by decide +kernel
theorem dX0_addShooting_28 : decode cX0_addShooting 28 = .ok (.iload 4, 2) := by decide +kernel
theorem dX0_addShooting_30 : decode cX0_addShooting 30 = .ok (.iconst (-1), 1) := by decide +kernel
theorem dX0_addShooting_31 : decode cX0_addShooting 31 = .ok (.if_icmp .ne 7, 3) := by decide +kernel
theorem dX0_addShooting_34 : decode cX0_addShooting 34 = .ok (.iconst 5, 1) := by decide +kernel
theorem dX0_addShooting_35 : decode cX0_addShooting 35 = .ok (.goto 5, 3) := by decide +kernel
theorem dX0_addShooting_38 : decode cX0_addShooting 38 = .ok (.iload 5, 2) := by decide +kernel
theorem dX0_addShooting_40 : decode cX0_addShooting 40 = .ok (.istore 6, 2) := by decide +kernel
theorem dX0_addShooting_42 : decode cX0_addShooting 42 = .ok (.aload_n 1, 1) := by decide +kernel
theorem dX0_addShooting_43 : decode cX0_addShooting 43 = .ok (.getfield 86, 3) := by decide +kernel
theorem dX0_addShooting_46 : decode cX0_addShooting 46 = .ok (.ifCond .eq 13, 3) := by decide +kernel
theorem dX0_addShooting_49 : decode cX0_addShooting 49 = .ok (.aload_n 0, 1) := by decide +kernel
theorem dX0_addShooting_50 : decode cX0_addShooting 50 = .ok (.iconst 2, 1) := by decide +kernel
theorem dX0_addShooting_51 : decode cX0_addShooting 51 = .ok (.iload_n 2, 1) := by decide +kernel
theorem dX0_addShooting_52 : decode cX0_addShooting 52 = .ok (.iload_n 3, 1) := by decide +kernel
theorem dX0_addShooting_53 : decode cX0_addShooting 53 = .ok (.invokevirtual 42, 3) := by decide +kernel
theorem dX0_addShooting_56 : decode cX0_addShooting 56 = .ok (.goto 4, 3) := by decide +kernel
theorem dX0_addShooting_59 : decode cX0_addShooting 59 = .ok (.iconst 0, 1) := by decide +kernel
theorem dX0_addShooting_60 : decode cX0_addShooting 60 = .ok (.istore 7, 2) := by decide +kernel
theorem dX0_addShooting_62 : decode cX0_addShooting 62 = .ok (.iload 7, 2) := by decide +kernel
theorem dX0_addShooting_64 : decode cX0_addShooting 64 = .ok (.iconst (-1), 1) := by decide +kernel
theorem dX0_addShooting_65 : decode cX0_addShooting 65 = .ok (.if_icmp .ne 7, 3) := by decide +kernel
theorem dX0_addShooting_68 : decode cX0_addShooting 68 = .ok (.iconst 0, 1) := by decide +kernel
theorem dX0_addShooting_69 : decode cX0_addShooting 69 = .ok (.goto 5, 3) := by decide +kernel
theorem dX0_addShooting_72 : decode cX0_addShooting 72 = .ok (.iload 7, 2) := by decide +kernel
theorem dX0_addShooting_74 : decode cX0_addShooting 74 = .ok (.istore 8, 2) := by decide +kernel
theorem dX0_addShooting_76 : decode cX0_addShooting 76 = .ok (.iload 7, 2) := by decide +kernel
theorem dX0_addShooting_78 : decode cX0_addShooting 78 = .ok (.iconst (-1), 1) := by decide +kernel
theorem dX0_addShooting_79 : decode cX0_addShooting 79 = .ok (.if_icmp .ne 8, 3) := by decide +kernel
theorem dX0_addShooting_82 : decode cX0_addShooting 82 = .ok (.bipush 9, 2) := by decide +kernel
theorem dX0_addShooting_84 : decode cX0_addShooting 84 = .ok (.goto 5, 3) := by decide +kernel
theorem dX0_addShooting_87 : decode cX0_addShooting 87 = .ok (.iload 7, 2) := by decide +kernel
theorem dX0_addShooting_89 : decode cX0_addShooting 89 = .ok (.istore 9, 2) := by decide +kernel
theorem dX0_addShooting_91 : decode cX0_addShooting 91 = .ok (.aload_n 1, 1) := by decide +kernel
theorem dX0_addShooting_92 : decode cX0_addShooting 92 = .ok (.getfield 89, 3) := by decide +kernel
theorem dX0_addShooting_95 : decode cX0_addShooting 95 = .ok (.bipush 10, 2) := by decide +kernel
theorem dX0_addShooting_97 : decode cX0_addShooting 97 = .ok (.imul, 1) := by decide +kernel
theorem dX0_addShooting_98 : decode cX0_addShooting 98 = .ok (.istore 10, 2) := by decide +kernel
theorem dX0_addShooting_100 : decode cX0_addShooting 100 = .ok (.aload_n 0, 1) := by decide +kernel
theorem dX0_addShooting_101 : decode cX0_addShooting 101 = .ok (.dup, 1) := by decide +kernel
theorem dX0_addShooting_102 : decode cX0_addShooting 102 = .ok (.getfield 50, 3) := by decide +kernel
theorem dX0_addShooting_105 : decode cX0_addShooting 105 = .ok (.iload 5, 2) := by decide +kernel
theorem dX0_addShooting_107 : decode cX0_addShooting 107 = .ok (.iadd, 1) := by decide +kernel
theorem dX0_addShooting_108 : decode cX0_addShooting 108 = .ok (.putfield 50, 3) := by decide +kernel
theorem dX0_addShooting_111 : decode cX0_addShooting 111 = .ok (.aload_n 0, 1) := by decide +kernel
theorem dX0_addShooting_112 : decode cX0_addShooting 112 = .ok (.dup, 1) := by decide +kernel
theorem dX0_addShooting_113 : decode cX0_addShooting 113 = .ok (.getfield 53, 3) := by decide +kernel
theorem dX0_addShooting_116 : decode cX0_addShooting 116 = .ok (.iload 6, 2) := by decide +kernel
theorem dX0_addShooting_118 : decode cX0_addShooting 118 = .ok (.iadd, 1) := by decide +kernel
theorem dX0_addShooting_119 : decode cX0_addShooting 119 = .ok (.putfield 53, 3) := by decide +kernel
theorem dX0_addShooting_122 : decode cX0_addShooting 122 = .ok (.aload_n 0, 1) := by decide +kernel
theorem dX0_addShooting_123 : decode cX0_addShooting 123 = .ok (.dup, 1) := by decide +kernel
theorem dX0_addShooting_124 : decode cX0_addShooting 124 = .ok (.getfield 56, 3) := by decide +kernel
theorem dX0_addShooting_127 : decode cX0_addShooting 127 = .ok (.iconst 0, 1) := by decide +kernel
theorem dX0_addShooting_128 : decode cX0_addShooting 128 = .ok (.iload 5, 2) := by decide +kernel
theorem dX0_addShooting_130 : decode cX0_addShooting 130 = .ok (.iload 9, 2) := by decide +kernel
theorem dX0_addShooting_132 : decode cX0_addShooting 132 = .ok (.isub, 1) := by decide +kernel
theorem dX0_addShooting_133 : decode cX0_addShooting 133 = .ok (.invokestatic 92, 3) := by decide +kernel
theorem dX0_addShooting_136 : decode cX0_addShooting 136 = .ok (.iload 10, 2) := by decide +kernel
theorem dX0_addShooting_138 : decode cX0_addShooting 138 = .ok (.imul, 1) := by decide +kernel
theorem dX0_addShooting_139 : decode cX0_addShooting 139 = .ok (.iadd, 1) := by decide +kernel
theorem dX0_addShooting_140 : decode cX0_addShooting 140 = .ok (.putfield 56, 3) := by decide +kernel
theorem dX0_addShooting_143 : decode cX0_addShooting 143 = .ok (.aload_n 0, 1) := by decide +kernel
theorem dX0_addShooting_144 : decode cX0_addShooting 144 = .ok (.dup, 1) := by decide +kernel
theorem dX0_addShooting_145 : decode cX0_addShooting 145 = .ok (.getfield 59, 3) := by decide +kernel
theorem dX0_addShooting_148 : decode cX0_addShooting 148 = .ok (.iconst 0, 1) := by decide +kernel
theorem dX0_addShooting_149 : decode cX0_addShooting 149 = .ok (.iload 6, 2) := by decide +kernel
theorem dX0_addShooting_151 : decode cX0_addShooting 151 = .ok (.iload 8, 2) := by decide +kernel
theorem dX0_addShooting_153 : decode cX0_addShooting 153 = .ok (.isub, 1) := by decide +kernel
theorem dX0_addShooting_154 : decode cX0_addShooting 154 = .ok (.invokestatic 92, 3) := by decide +kernel
theorem dX0_addShooting_157 : decode cX0_addShooting 157 = .ok (.iload 10, 2) := by decide +kernel
theorem dX0_addShooting_159 : decode cX0_addShooting 159 = .ok (.imul, 1) := by decide +kernel
theorem dX0_addShooting_160 : decode cX0_addShooting 160 = .ok (.iadd, 1) := by decide +kernel
theorem dX0_addShooting_161 : decode cX0_addShooting 161 = .ok (.putfield 59, 3) := by decide +kernel
theorem dX0_addShooting_164 : decode cX0_addShooting 164 = .ok (.return_, 1) := by decide +kernel
theorem dX1_init_0 : decode cX1_init 0 = .ok (.aload_n 0, 1) := by decide +kernel
theorem dX1_init_1 : decode cX1_init 1 = .ok (.invokespecial 1, 3) := by decide +kernel
theorem dX1_init_4 : decode cX1_init 4 = .ok (.aload_n 0, 1) := by decide +kernel
theorem dX1_init_5 : decode cX1_init 5 = .ok (.iload_n 1, 1) := by decide +kernel
theorem dX1_init_6 : decode cX1_init 6 = .ok (.putfield 7, 3) := by decide +kernel
theorem dX1_init_9 : decode cX1_init 9 = .ok (.aload_n 0, 1) := by decide +kernel
theorem dX1_init_10 : decode cX1_init 10 = .ok (.iload_n 2, 1) := by decide +kernel
theorem dX1_init_11 : decode cX1_init 11 = .ok (.putfield 13, 3) := by decide +kernel
theorem dX1_init_14 : decode cX1_init 14 = .ok (.aload_n 0, 1) := by decide +kernel
theorem dX1_init_15 : decode cX1_init 15 = .ok (.iload_n 3, 1) := by decide +kernel
theorem dX1_init_16 : decode cX1_init 16 = .ok (.putfield 16, 3) := by decide +kernel
theorem dX1_init_19 : decode cX1_init 19 = .ok (.aload_n 0, 1) := by decide +kernel
theorem dX1_init_20 : decode cX1_init 20 = .ok (.iload 4, 2) := by decide +kernel
theorem dX1_init_22 : decode cX1_init 22 = .ok (.putfield 19, 3) := by decide +kernel
theorem dX1_init_25 : decode cX1_init 25 = .ok (.aload_n 0, 1) := by decide +kernel
theorem dX1_init_26 : decode cX1_init 26 = .ok (.aload 5, 2) := by decide +kernel
theorem dX1_init_28 : decode cX1_init 28 = .ok (.putfield 22, 3) := by decide +kernel
theorem dX1_init_31 : decode cX1_init 31 = .ok (.return_, 1) := by decide +kernel
theorem dX2_init_0 : decode cX2_init 0 = .ok (.aload_n 0, 1) := by decide +kernel
theorem dX2_init_1 : decode cX2_init 1 = .ok (.invokespecial 3, 3) := by decide +kernel
theorem dX2_init_4 : decode cX2_init 4 = .ok (.aload_n 0, 1) := by decide +kernel
theorem dX2_init_5 : decode cX2_init 5 = .ok (.iload_n 1, 1) := by decide +kernel
theorem dX2_init_6 : decode cX2_init 6 = .ok (.putfield 9, 3) := by decide +kernel
theorem dX2_init_9 : decode cX2_init 9 = .ok (.return_, 1) := by decide +kernel
theorem dX2_hasEvent_0 : decode cX2_hasEvent 0 = .ok (.iload_n 1, 1) := by decide +kernel
theorem dX2_hasEvent_1 : decode cX2_hasEvent 1 = .ok (.tableswitch 78 0 3 #[31, 50, 50, 68], 31) := by decide +kernel
theorem dX2_hasEvent_32 : decode cX2_hasEvent 32 = .ok (.iload_n 2, 1) := by decide +kernel
theorem dX2_hasEvent_33 : decode cX2_hasEvent 33 = .ok (.iconst 1, 1) := by decide +kernel
theorem dX2_hasEvent_34 : decode cX2_hasEvent 34 = .ok (.if_icmp .lt 15, 3) := by decide +kernel
theorem dX2_hasEvent_37 : decode cX2_hasEvent 37 = .ok (.iload_n 2, 1) := by decide +kernel
theorem dX2_hasEvent_38 : decode cX2_hasEvent 38 = .ok (.aload_n 0, 1) := by decide +kernel
theorem dX2_hasEvent_39 : decode cX2_hasEvent 39 = .ok (.getfield 15, 3) := by decide +kernel
theorem dX2_hasEvent_42 : decode cX2_hasEvent 42 = .ok (.if_icmp .gt 7, 3) := by decide +kernel
theorem dX2_hasEvent_45 : decode cX2_hasEvent 45 = .ok (.iconst 1, 1) := by decide +kernel
theorem dX2_hasEvent_46 : decode cX2_hasEvent 46 = .ok (.goto 4, 3) := by decide +kernel
theorem dX2_hasEvent_49 : decode cX2_hasEvent 49 = .ok (.iconst 0, 1) := by decide +kernel
theorem dX2_hasEvent_50 : decode cX2_hasEvent 50 = .ok (.ireturn, 1) := by decide +kernel
theorem dX2_hasEvent_51 : decode cX2_hasEvent 51 = .ok (.iload_n 2, 1) := by decide +kernel
theorem dX2_hasEvent_52 : decode cX2_hasEvent 52 = .ok (.ifCond .lt 15, 3) := by decide +kernel
theorem dX2_hasEvent_55 : decode cX2_hasEvent 55 = .ok (.iload_n 2, 1) := by decide +kernel
theorem dX2_hasEvent_56 : decode cX2_hasEvent 56 = .ok (.aload_n 0, 1) := by decide +kernel
theorem dX2_hasEvent_57 : decode cX2_hasEvent 57 = .ok (.getfield 18, 3) := by decide +kernel
theorem dX2_hasEvent_60 : decode cX2_hasEvent 60 = .ok (.if_icmp .ge 7, 3) := by decide +kernel
theorem dX2_hasEvent_63 : decode cX2_hasEvent 63 = .ok (.iconst 1, 1) := by decide +kernel
theorem dX2_hasEvent_64 : decode cX2_hasEvent 64 = .ok (.goto 4, 3) := by decide +kernel
theorem dX2_hasEvent_67 : decode cX2_hasEvent 67 = .ok (.iconst 0, 1) := by decide +kernel
theorem dX2_hasEvent_68 : decode cX2_hasEvent 68 = .ok (.ireturn, 1) := by decide +kernel
theorem dX2_hasEvent_69 : decode cX2_hasEvent 69 = .ok (.iload_n 2, 1) := by decide +kernel
theorem dX2_hasEvent_70 : decode cX2_hasEvent 70 = .ok (.ifCond .ne 7, 3) := by decide +kernel
theorem dX2_hasEvent_73 : decode cX2_hasEvent 73 = .ok (.iconst 1, 1) := by decide +kernel
theorem dX2_hasEvent_74 : decode cX2_hasEvent 74 = .ok (.goto 4, 3) := by decide +kernel
theorem dX2_hasEvent_77 : decode cX2_hasEvent 77 = .ok (.iconst 0, 1) := by decide +kernel
theorem dX2_hasEvent_78 : decode cX2_hasEvent 78 = .ok (.ireturn, 1) := by decide +kernel
theorem dX2_hasEvent_79 : decode cX2_hasEvent 79 = .ok (.iconst 0, 1) := by decide +kernel
theorem dX2_hasEvent_80 : decode cX2_hasEvent 80 = .ok (.ireturn, 1) := by decide +kernel
theorem dX3_init_0 : decode cX3_init 0 = .ok (.aload_n 0, 1) := by decide +kernel
theorem dX3_init_1 : decode cX3_init 1 = .ok (.invokespecial 3, 3) := by decide +kernel
theorem dX3_init_4 : decode cX3_init 4 = .ok (.aload_n 0, 1) := by decide +kernel
theorem dX3_init_5 : decode cX3_init 5 = .ok (.aload_n 1, 1) := by decide +kernel
theorem dX3_init_6 : decode cX3_init 6 = .ok (.putfield 9, 3) := by decide +kernel
theorem dX3_init_9 : decode cX3_init 9 = .ok (.aload_n 0, 1) := by decide +kernel
theorem dX3_init_10 : decode cX3_init 10 = .ok (.aload_n 2, 1) := by decide +kernel
theorem dX3_init_11 : decode cX3_init 11 = .ok (.putfield 15, 3) := by decide +kernel
theorem dX3_init_14 : decode cX3_init 14 = .ok (.aload_n 0, 1) := by decide +kernel
theorem dX3_init_15 : decode cX3_init 15 = .ok (.iload_n 3, 1) := by decide +kernel
theorem dX3_init_16 : decode cX3_init 16 = .ok (.putfield 19, 3) := by decide +kernel
theorem dX3_init_19 : decode cX3_init 19 = .ok (.aload_n 0, 1) := by decide +kernel
theorem dX3_init_20 : decode cX3_init 20 = .ok (.bipush 16, 2) := by decide +kernel
theorem dX3_init_22 : decode cX3_init 22 = .ok (.anewarray 23, 3) := by decide +kernel
theorem dX3_init_25 : decode cX3_init 25 = .ok (.putfield 25, 3) := by decide +kernel
theorem dX3_init_28 : decode cX3_init 28 = .ok (.return_, 1) := by decide +kernel
theorem dX3_add_0 : decode cX3_add 0 = .ok (.aload_n 0, 1) := by decide +kernel
theorem dX3_add_1 : decode cX3_add 1 = .ok (.getfield 29, 3) := by decide +kernel
theorem dX3_add_4 : decode cX3_add 4 = .ok (.bipush 16, 2) := by decide +kernel
theorem dX3_add_6 : decode cX3_add 6 = .ok (.if_icmp .ge 30, 3) := by decide +kernel
theorem dX3_add_9 : decode cX3_add 9 = .ok (.aload_n 0, 1) := by decide +kernel
theorem dX3_add_10 : decode cX3_add 10 = .ok (.getfield 25, 3) := by decide +kernel
theorem dX3_add_13 : decode cX3_add 13 = .ok (.aload_n 0, 1) := by decide +kernel
theorem dX3_add_14 : decode cX3_add 14 = .ok (.getfield 29, 3) := by decide +kernel
theorem dX3_add_17 : decode cX3_add 17 = .ok (.new 23, 3) := by decide +kernel
theorem dX3_add_20 : decode cX3_add 20 = .ok (.dup, 1) := by decide +kernel
theorem dX3_add_21 : decode cX3_add 21 = .ok (.iload_n 1, 1) := by decide +kernel
theorem dX3_add_22 : decode cX3_add 22 = .ok (.invokespecial 32, 3) := by decide +kernel
theorem dX3_add_25 : decode cX3_add 25 = .ok (.aastore, 1) := by decide +kernel
theorem dX3_add_26 : decode cX3_add 26 = .ok (.aload_n 0, 1) := by decide +kernel
theorem dX3_add_27 : decode cX3_add 27 = .ok (.dup, 1) := by decide +kernel
theorem dX3_add_28 : decode cX3_add 28 = .ok (.getfield 29, 3) := by decide +kernel
theorem dX3_add_31 : decode cX3_add 31 = .ok (.iconst 1, 1) := by decide +kernel
theorem dX3_add_32 : decode cX3_add 32 = .ok (.iadd, 1) := by decide +kernel
theorem dX3_add_33 : decode cX3_add 33 = .ok (.putfield 29, 3) := by decide +kernel
theorem dX3_add_36 : decode cX3_add 36 = .ok (.return_, 1) := by decide +kernel
theorem dX3_entryOf_0 : decode cX3_entryOf 0 = .ok (.iconst 0, 1) := by decide +kernel
theorem dX3_entryOf_1 : decode cX3_entryOf 1 = .ok (.istore_n 2, 1) := by decide +kernel
theorem dX3_entryOf_2 : decode cX3_entryOf 2 = .ok (.iload_n 2, 1) := by decide +kernel
theorem dX3_entryOf_3 : decode cX3_entryOf 3 = .ok (.aload_n 0, 1) := by decide +kernel
theorem dX3_entryOf_4 : decode cX3_entryOf 4 = .ok (.getfield 29, 3) := by decide +kernel
theorem dX3_entryOf_7 : decode cX3_entryOf 7 = .ok (.if_icmp .ge 29, 3) := by decide +kernel
theorem dX3_entryOf_10 : decode cX3_entryOf 10 = .ok (.aload_n 0, 1) := by decide +kernel
theorem dX3_entryOf_11 : decode cX3_entryOf 11 = .ok (.getfield 25, 3) := by decide +kernel
theorem dX3_entryOf_14 : decode cX3_entryOf 14 = .ok (.iload_n 2, 1) := by decide +kernel
theorem dX3_entryOf_15 : decode cX3_entryOf 15 = .ok (.aaload, 1) := by decide +kernel
theorem dX3_entryOf_16 : decode cX3_entryOf 16 = .ok (.getfield 35, 3) := by decide +kernel
theorem dX3_entryOf_19 : decode cX3_entryOf 19 = .ok (.iload_n 1, 1) := by decide +kernel
theorem dX3_entryOf_20 : decode cX3_entryOf 20 = .ok (.if_icmp .ne 10, 3) := by decide +kernel
theorem dX3_entryOf_23 : decode cX3_entryOf 23 = .ok (.aload_n 0, 1) := by decide +kernel
theorem dX3_entryOf_24 : decode cX3_entryOf 24 = .ok (.getfield 25, 3) := by decide +kernel
theorem dX3_entryOf_27 : decode cX3_entryOf 27 = .ok (.iload_n 2, 1) := by decide +kernel
theorem dX3_entryOf_28 : decode cX3_entryOf 28 = .ok (.aaload, 1) := by decide +kernel
theorem dX3_entryOf_29 : decode cX3_entryOf 29 = .ok (.areturn, 1) := by decide +kernel
theorem dX3_entryOf_30 : decode cX3_entryOf 30 = .ok (.iinc 2 1, 3) := by decide +kernel
theorem dX3_entryOf_33 : decode cX3_entryOf 33 = .ok (.goto (-31), 3) := by decide +kernel
theorem dX3_entryOf_36 : decode cX3_entryOf 36 = .ok (.aconst_null, 1) := by decide +kernel
theorem dX3_entryOf_37 : decode cX3_entryOf 37 = .ok (.areturn, 1) := by decide +kernel
theorem dX3_workOut_0 : decode cX3_workOut 0 = .ok (.aload_n 0, 1) := by decide +kernel
theorem dX3_workOut_1 : decode cX3_workOut 1 = .ok (.iconst (-1), 1) := by decide +kernel
theorem dX3_workOut_2 : decode cX3_workOut 2 = .ok (.putfield 38, 3) := by decide +kernel
theorem dX3_workOut_5 : decode cX3_workOut 5 = .ok (.iconst 0, 1) := by decide +kernel
theorem dX3_workOut_6 : decode cX3_workOut 6 = .ok (.istore_n 2, 1) := by decide +kernel
theorem dX3_workOut_7 : decode cX3_workOut 7 = .ok (.iload_n 2, 1) := by decide +kernel
theorem dX3_workOut_8 : decode cX3_workOut 8 = .ok (.aload_n 0, 1) := by decide +kernel
theorem dX3_workOut_9 : decode cX3_workOut 9 = .ok (.getfield 29, 3) := by decide +kernel
theorem dX3_workOut_12 : decode cX3_workOut 12 = .ok (.if_icmp .ge 64, 3) := by decide +kernel
theorem dX3_workOut_15 : decode cX3_workOut 15 = .ok (.aload_n 0, 1) := by decide +kernel
theorem dX3_workOut_16 : decode cX3_workOut 16 = .ok (.getfield 25, 3) := by decide +kernel
theorem dX3_workOut_19 : decode cX3_workOut 19 = .ok (.iload_n 2, 1) := by decide +kernel
theorem dX3_workOut_20 : decode cX3_workOut 20 = .ok (.aaload, 1) := by decide +kernel
theorem dX3_workOut_21 : decode cX3_workOut 21 = .ok (.astore_n 3, 1) := by decide +kernel
theorem dX3_workOut_22 : decode cX3_workOut 22 = .ok (.aload_n 3, 1) := by decide +kernel
theorem dX3_workOut_23 : decode cX3_workOut 23 = .ok (.aload_n 0, 1) := by decide +kernel
theorem dX3_workOut_24 : decode cX3_workOut 24 = .ok (.getfield 9, 3) := by decide +kernel
theorem dX3_workOut_27 : decode cX3_workOut 27 = .ok (.aload_n 0, 1) := by decide +kernel
theorem dX3_workOut_28 : decode cX3_workOut 28 = .ok (.iload_n 2, 1) := by decide +kernel
theorem dX3_workOut_29 : decode cX3_workOut 29 = .ok (.invokevirtual 41, 3) := by decide +kernel
theorem dX3_workOut_32 : decode cX3_workOut 32 = .ok (.iload_n 1, 1) := by decide +kernel
theorem dX3_workOut_33 : decode cX3_workOut 33 = .ok (.invokevirtual 45, 3) := by decide +kernel
theorem dX3_workOut_36 : decode cX3_workOut 36 = .ok (.aload_n 3, 1) := by decide +kernel
theorem dX3_workOut_37 : decode cX3_workOut 37 = .ok (.invokevirtual 49, 3) := by decide +kernel
theorem dX3_workOut_40 : decode cX3_workOut 40 = .ok (.ifCond .eq 30, 3) := by decide +kernel
theorem dX3_workOut_43 : decode cX3_workOut 43 = .ok (.aload_n 0, 1) := by decide +kernel
theorem dX3_workOut_44 : decode cX3_workOut 44 = .ok (.getfield 38, 3) := by decide +kernel
theorem dX3_workOut_47 : decode cX3_workOut 47 = .ok (.iconst (-1), 1) := by decide +kernel
theorem dX3_workOut_48 : decode cX3_workOut 48 = .ok (.if_icmp .eq 14, 3) := by decide +kernel
theorem dX3_workOut_51 : decode cX3_workOut 51 = .ok (.aload_n 3, 1) := by decide +kernel
theorem dX3_workOut_52 : decode cX3_workOut 52 = .ok (.getfield 53, 3) := by decide +kernel
theorem dX3_workOut_55 : decode cX3_workOut 55 = .ok (.aload_n 0, 1) := by decide +kernel
theorem dX3_workOut_56 : decode cX3_workOut 56 = .ok (.getfield 38, 3) := by decide +kernel
theorem dX3_workOut_59 : decode cX3_workOut 59 = .ok (.if_icmp .ge 11, 3) := by decide +kernel
theorem dX3_workOut_62 : decode cX3_workOut 62 = .ok (.aload_n 0, 1) := by decide +kernel
theorem dX3_workOut_63 : decode cX3_workOut 63 = .ok (.aload_n 3, 1) := by decide +kernel
theorem dX3_workOut_64 : decode cX3_workOut 64 = .ok (.getfield 53, 3) := by decide +kernel
theorem dX3_workOut_67 : decode cX3_workOut 67 = .ok (.putfield 38, 3) := by decide +kernel
theorem dX3_workOut_70 : decode cX3_workOut 70 = .ok (.iinc 2 1, 3) := by decide +kernel
theorem dX3_workOut_73 : decode cX3_workOut 73 = .ok (.goto (-66), 3) := by decide +kernel
theorem dX3_workOut_76 : decode cX3_workOut 76 = .ok (.return_, 1) := by decide +kernel
theorem dX3_startOf_0 : decode cX3_startOf 0 = .ok (.aload_n 0, 1) := by decide +kernel
theorem dX3_startOf_1 : decode cX3_startOf 1 = .ok (.getfield 9, 3) := by decide +kernel
theorem dX3_startOf_4 : decode cX3_startOf 4 = .ok (.getfield 56, 3) := by decide +kernel
theorem dX3_startOf_7 : decode cX3_startOf 7 = .ok (.lookupswitch 40 #[(0, 25), (1, 27)], 25) := by decide +kernel
theorem dX3_startOf_32 : decode cX3_startOf 32 = .ok (.iconst 0, 1) := by decide +kernel
theorem dX3_startOf_33 : decode cX3_startOf 33 = .ok (.ireturn, 1) := by decide +kernel
theorem dX3_startOf_34 : decode cX3_startOf 34 = .ok (.aload_n 0, 1) := by decide +kernel
theorem dX3_startOf_35 : decode cX3_startOf 35 = .ok (.getfield 9, 3) := by decide +kernel
theorem dX3_startOf_38 : decode cX3_startOf 38 = .ok (.getfield 61, 3) := by decide +kernel
theorem dX3_startOf_41 : decode cX3_startOf 41 = .ok (.bipush 10, 2) := by decide +kernel
theorem dX3_startOf_43 : decode cX3_startOf 43 = .ok (.imul, 1) := by decide +kernel
theorem dX3_startOf_44 : decode cX3_startOf 44 = .ok (.iload_n 1, 1) := by decide +kernel
theorem dX3_startOf_45 : decode cX3_startOf 45 = .ok (.imul, 1) := by decide +kernel
theorem dX3_startOf_46 : decode cX3_startOf 46 = .ok (.ireturn, 1) := by decide +kernel
theorem dX3_startOf_47 : decode cX3_startOf 47 = .ok (.aload_n 0, 1) := by decide +kernel
theorem dX3_startOf_48 : decode cX3_startOf 48 = .ok (.aload_n 0, 1) := by decide +kernel
theorem dX3_startOf_49 : decode cX3_startOf 49 = .ok (.getfield 25, 3) := by decide +kernel
theorem dX3_startOf_52 : decode cX3_startOf 52 = .ok (.iload_n 1, 1) := by decide +kernel
theorem dX3_startOf_53 : decode cX3_startOf 53 = .ok (.aaload, 1) := by decide +kernel
theorem dX3_startOf_54 : decode cX3_startOf 54 = .ok (.getfield 35, 3) := by decide +kernel
theorem dX3_startOf_57 : decode cX3_startOf 57 = .ok (.invokevirtual 64, 3) := by decide +kernel
theorem dX3_startOf_60 : decode cX3_startOf 60 = .ok (.ireturn, 1) := by decide +kernel
theorem dX3_chaseStart_0 : decode cX3_chaseStart 0 = .ok (.aload_n 0, 1) := by decide +kernel
theorem dX3_chaseStart_1 : decode cX3_chaseStart 1 = .ok (.getfield 15, 3) := by decide +kernel
theorem dX3_chaseStart_4 : decode cX3_chaseStart 4 = .ok (.ifnonnull 7, 3) := by decide +kernel
theorem dX3_chaseStart_7 : decode cX3_chaseStart 7 = .ok (.aconst_null, 1) := by decide +kernel
theorem dX3_chaseStart_8 : decode cX3_chaseStart 8 = .ok (.goto 11, 3) := by decide +kernel
theorem dX3_chaseStart_11 : decode cX3_chaseStart 11 = .ok (.aload_n 0, 1) := by decide +kernel
theorem dX3_chaseStart_12 : decode cX3_chaseStart 12 = .ok (.getfield 15, 3) := by decide +kernel
theorem dX3_chaseStart_15 : decode cX3_chaseStart 15 = .ok (.iload_n 1, 1) := by decide +kernel
theorem dX3_chaseStart_16 : decode cX3_chaseStart 16 = .ok (.invokevirtual 67, 3) := by decide +kernel
theorem dX3_chaseStart_19 : decode cX3_chaseStart 19 = .ok (.astore_n 2, 1) := by decide +kernel
theorem dX3_chaseStart_20 : decode cX3_chaseStart 20 = .ok (.aload_n 2, 1) := by decide +kernel
theorem dX3_chaseStart_21 : decode cX3_chaseStart 21 = .ok (.ifnull 10, 3) := by decide +kernel
theorem dX3_chaseStart_24 : decode cX3_chaseStart 24 = .ok (.aload_n 2, 1) := by decide +kernel
theorem dX3_chaseStart_25 : decode cX3_chaseStart 25 = .ok (.invokevirtual 49, 3) := by decide +kernel
theorem dX3_chaseStart_28 : decode cX3_chaseStart 28 = .ok (.ifCond .ne 5, 3) := by decide +kernel
theorem dX3_chaseStart_31 : decode cX3_chaseStart 31 = .ok (.iconst (-1), 1) := by decide +kernel
theorem dX3_chaseStart_32 : decode cX3_chaseStart 32 = .ok (.ireturn, 1) := by decide +kernel
theorem dX3_chaseStart_33 : decode cX3_chaseStart 33 = .ok (.aload_n 2, 1) := by decide +kernel
theorem dX3_chaseStart_34 : decode cX3_chaseStart 34 = .ok (.getfield 53, 3) := by decide +kernel
theorem dX3_chaseStart_37 : decode cX3_chaseStart 37 = .ok (.aload_n 0, 1) := by decide +kernel
theorem dX3_chaseStart_38 : decode cX3_chaseStart 38 = .ok (.getfield 15, 3) := by decide +kernel
theorem dX3_chaseStart_41 : decode cX3_chaseStart 41 = .ok (.getfield 38, 3) := by decide +kernel
theorem dX3_chaseStart_44 : decode cX3_chaseStart 44 = .ok (.isub, 1) := by decide +kernel
theorem dX3_chaseStart_45 : decode cX3_chaseStart 45 = .ok (.bipush 10, 2) := by decide +kernel
theorem dX3_chaseStart_47 : decode cX3_chaseStart 47 = .ok (.idiv, 1) := by decide +kernel
theorem dX3_chaseStart_48 : decode cX3_chaseStart 48 = .ok (.istore_n 3, 1) := by decide +kernel
theorem dX3_chaseStart_49 : decode cX3_chaseStart 49 = .ok (.iload_n 3, 1) := by decide +kernel
theorem dX3_chaseStart_50 : decode cX3_chaseStart 50 = .ok (.aload_n 0, 1) := by decide +kernel
theorem dX3_chaseStart_51 : decode cX3_chaseStart 51 = .ok (.getfield 9, 3) := by decide +kernel
theorem dX3_chaseStart_54 : decode cX3_chaseStart 54 = .ok (.getfield 61, 3) := by decide +kernel
theorem dX3_chaseStart_57 : decode cX3_chaseStart 57 = .ok (.invokestatic 71, 3) := by decide +kernel
theorem dX3_chaseStart_60 : decode cX3_chaseStart 60 = .ok (.bipush 10, 2) := by decide +kernel
theorem dX3_chaseStart_62 : decode cX3_chaseStart 62 = .ok (.imul, 1) := by decide +kernel
theorem dX3_chaseStart_63 : decode cX3_chaseStart 63 = .ok (.ireturn, 1) := by decide +kernel
theorem dX3_firstPlace_0 : decode cX3_firstPlace 0 = .ok (.aload_n 1, 1) := by decide +kernel
theorem dX3_firstPlace_1 : decode cX3_firstPlace 1 = .ok (.invokevirtual 49, 3) := by decide +kernel
theorem dX3_firstPlace_4 : decode cX3_firstPlace 4 = .ok (.ifCond .ne 5, 3) := by decide +kernel
theorem dX3_firstPlace_7 : decode cX3_firstPlace 7 = .ok (.iconst (-1), 1) := by decide +kernel
theorem dX3_firstPlace_8 : decode cX3_firstPlace 8 = .ok (.ireturn, 1) := by decide +kernel
theorem dX3_firstPlace_9 : decode cX3_firstPlace 9 = .ok (.iconst 1, 1) := by decide +kernel
theorem dX3_firstPlace_10 : decode cX3_firstPlace 10 = .ok (.istore_n 2, 1) := by decide +kernel
theorem dX3_firstPlace_11 : decode cX3_firstPlace 11 = .ok (.iconst 0, 1) := by decide +kernel
theorem dX3_firstPlace_12 : decode cX3_firstPlace 12 = .ok (.istore_n 3, 1) := by decide +kernel
theorem dX3_firstPlace_13 : decode cX3_firstPlace 13 = .ok (.iload_n 3, 1) := by decide +kernel
theorem dX3_firstPlace_14 : decode cX3_firstPlace 14 = .ok (.aload_n 0, 1) := by decide +kernel
theorem dX3_firstPlace_15 : decode cX3_firstPlace 15 = .ok (.getfield 29, 3) := by decide +kernel
theorem dX3_firstPlace_18 : decode cX3_firstPlace 18 = .ok (.if_icmp .ge 46, 3) := by decide +kernel
theorem dX3_firstPlace_21 : decode cX3_firstPlace 21 = .ok (.aload_n 0, 1) := by decide +kernel
theorem dX3_firstPlace_22 : decode cX3_firstPlace 22 = .ok (.getfield 25, 3) := by decide +kernel
theorem dX3_firstPlace_25 : decode cX3_firstPlace 25 = .ok (.iload_n 3, 1) := by decide +kernel
theorem dX3_firstPlace_26 : decode cX3_firstPlace 26 = .ok (.aaload, 1) := by decide +kernel
theorem dX3_firstPlace_27 : decode cX3_firstPlace 27 = .ok (.astore 4, 2) := by decide +kernel
theorem dX3_firstPlace_29 : decode cX3_firstPlace 29 = .ok (.aload 4, 2) := by decide +kernel
theorem dX3_firstPlace_31 : decode cX3_firstPlace 31 = .ok (.aload_n 1, 1) := by decide +kernel
theorem dX3_firstPlace_32 : decode cX3_firstPlace 32 = .ok (.if_acmp .eq 26, 3) := by decide +kernel
theorem dX3_firstPlace_35 : decode cX3_firstPlace 35 = .ok (.aload 4, 2) := by decide +kernel
theorem dX3_firstPlace_37 : decode cX3_firstPlace 37 = .ok (.invokevirtual 49, 3) := by decide +kernel
theorem dX3_firstPlace_40 : decode cX3_firstPlace 40 = .ok (.ifCond .eq 18, 3) := by decide +kernel
theorem dX3_firstPlace_43 : decode cX3_firstPlace 43 = .ok (.aload 4, 2) := by decide +kernel
theorem dX3_firstPlace_45 : decode cX3_firstPlace 45 = .ok (.getfield 77, 3) := by decide +kernel
theorem dX3_firstPlace_48 : decode cX3_firstPlace 48 = .ok (.aload_n 1, 1) := by decide +kernel
theorem dX3_firstPlace_49 : decode cX3_firstPlace 49 = .ok (.getfield 53, 3) := by decide +kernel
theorem dX3_firstPlace_52 : decode cX3_firstPlace 52 = .ok (.if_icmp .ge 6, 3) := by decide +kernel
theorem dX3_firstPlace_55 : decode cX3_firstPlace 55 = .ok (.iinc 2 1, 3) := by decide +kernel
theorem dX3_firstPlace_58 : decode cX3_firstPlace 58 = .ok (.iinc 3 1, 3) := by decide +kernel
theorem dX3_firstPlace_61 : decode cX3_firstPlace 61 = .ok (.goto (-48), 3) := by decide +kernel
theorem dX3_firstPlace_64 : decode cX3_firstPlace 64 = .ok (.iload_n 2, 1) := by decide +kernel
theorem dX3_firstPlace_65 : decode cX3_firstPlace 65 = .ok (.ireturn, 1) := by decide +kernel
theorem dX3_lastPlace_0 : decode cX3_lastPlace 0 = .ok (.aload_n 1, 1) := by decide +kernel
theorem dX3_lastPlace_1 : decode cX3_lastPlace 1 = .ok (.invokevirtual 49, 3) := by decide +kernel
theorem dX3_lastPlace_4 : decode cX3_lastPlace 4 = .ok (.ifCond .ne 5, 3) := by decide +kernel
theorem dX3_lastPlace_7 : decode cX3_lastPlace 7 = .ok (.iconst (-1), 1) := by decide +kernel
theorem dX3_lastPlace_8 : decode cX3_lastPlace 8 = .ok (.ireturn, 1) := by decide +kernel
theorem dX3_lastPlace_9 : decode cX3_lastPlace 9 = .ok (.iconst 1, 1) := by decide +kernel
theorem dX3_lastPlace_10 : decode cX3_lastPlace 10 = .ok (.istore_n 2, 1) := by decide +kernel
theorem dX3_lastPlace_11 : decode cX3_lastPlace 11 = .ok (.iconst 0, 1) := by decide +kernel
theorem dX3_lastPlace_12 : decode cX3_lastPlace 12 = .ok (.istore_n 3, 1) := by decide +kernel
theorem dX3_lastPlace_13 : decode cX3_lastPlace 13 = .ok (.iload_n 3, 1) := by decide +kernel
theorem dX3_lastPlace_14 : decode cX3_lastPlace 14 = .ok (.aload_n 0, 1) := by decide +kernel
theorem dX3_lastPlace_15 : decode cX3_lastPlace 15 = .ok (.getfield 29, 3) := by decide +kernel
theorem dX3_lastPlace_18 : decode cX3_lastPlace 18 = .ok (.if_icmp .ge 46, 3) := by decide +kernel
theorem dX3_lastPlace_21 : decode cX3_lastPlace 21 = .ok (.aload_n 0, 1) := by decide +kernel
theorem dX3_lastPlace_22 : decode cX3_lastPlace 22 = .ok (.getfield 25, 3) := by decide +kernel
theorem dX3_lastPlace_25 : decode cX3_lastPlace 25 = .ok (.iload_n 3, 1) := by decide +kernel
theorem dX3_lastPlace_26 : decode cX3_lastPlace 26 = .ok (.aaload, 1) := by decide +kernel
theorem dX3_lastPlace_27 : decode cX3_lastPlace 27 = .ok (.astore 4, 2) := by decide +kernel
theorem dX3_lastPlace_29 : decode cX3_lastPlace 29 = .ok (.aload 4, 2) := by decide +kernel
theorem dX3_lastPlace_31 : decode cX3_lastPlace 31 = .ok (.aload_n 1, 1) := by decide +kernel
theorem dX3_lastPlace_32 : decode cX3_lastPlace 32 = .ok (.if_acmp .eq 26, 3) := by decide +kernel
theorem dX3_lastPlace_35 : decode cX3_lastPlace 35 = .ok (.aload 4, 2) := by decide +kernel
theorem dX3_lastPlace_37 : decode cX3_lastPlace 37 = .ok (.invokevirtual 49, 3) := by decide +kernel
theorem dX3_lastPlace_40 : decode cX3_lastPlace 40 = .ok (.ifCond .eq 18, 3) := by decide +kernel
theorem dX3_lastPlace_43 : decode cX3_lastPlace 43 = .ok (.aload 4, 2) := by decide +kernel
theorem dX3_lastPlace_45 : decode cX3_lastPlace 45 = .ok (.getfield 53, 3) := by decide +kernel
theorem dX3_lastPlace_48 : decode cX3_lastPlace 48 = .ok (.aload_n 1, 1) := by decide +kernel
theorem dX3_lastPlace_49 : decode cX3_lastPlace 49 = .ok (.getfield 77, 3) := by decide +kernel
theorem dX3_lastPlace_52 : decode cX3_lastPlace 52 = .ok (.if_icmp .ge 6, 3) := by decide +kernel
theorem dX3_lastPlace_55 : decode cX3_lastPlace 55 = .ok (.iinc 2 1, 3) := by decide +kernel
theorem dX3_lastPlace_58 : decode cX3_lastPlace 58 = .ok (.iinc 3 1, 3) := by decide +kernel
theorem dX3_lastPlace_61 : decode cX3_lastPlace 61 = .ok (.goto (-48), 3) := by decide +kernel
theorem dX3_lastPlace_64 : decode cX3_lastPlace 64 = .ok (.iload_n 2, 1) := by decide +kernel
theorem dX3_lastPlace_65 : decode cX3_lastPlace 65 = .ok (.ireturn, 1) := by decide +kernel
theorem dX3_aheadInOrder_0 : decode cX3_aheadInOrder 0 = .ok (.iconst 0, 1) := by decide +kernel
theorem dX3_aheadInOrder_1 : decode cX3_aheadInOrder 1 = .ok (.istore_n 2, 1) := by decide +kernel
theorem dX3_aheadInOrder_2 : decode cX3_aheadInOrder 2 = .ok (.iconst 0, 1) := by decide +kernel
theorem dX3_aheadInOrder_3 : decode cX3_aheadInOrder 3 = .ok (.istore_n 3, 1) := by decide +kernel
theorem dX3_aheadInOrder_4 : decode cX3_aheadInOrder 4 = .ok (.iload_n 3, 1) := by decide +kernel
theorem dX3_aheadInOrder_5 : decode cX3_aheadInOrder 5 = .ok (.aload_n 0, 1) := by decide +kernel
theorem dX3_aheadInOrder_6 : decode cX3_aheadInOrder 6 = .ok (.getfield 29, 3) := by decide +kernel
theorem dX3_aheadInOrder_9 : decode cX3_aheadInOrder 9 = .ok (.if_icmp .ge 62, 3) := by decide +kernel
theorem dX3_aheadInOrder_12 : decode cX3_aheadInOrder 12 = .ok (.aload_n 0, 1) := by decide +kernel
theorem dX3_aheadInOrder_13 : decode cX3_aheadInOrder 13 = .ok (.getfield 25, 3) := by decide +kernel
theorem dX3_aheadInOrder_16 : decode cX3_aheadInOrder 16 = .ok (.iload_n 3, 1) := by decide +kernel
theorem dX3_aheadInOrder_17 : decode cX3_aheadInOrder 17 = .ok (.aaload, 1) := by decide +kernel
theorem dX3_aheadInOrder_18 : decode cX3_aheadInOrder 18 = .ok (.getfield 53, 3) := by decide +kernel
theorem dX3_aheadInOrder_21 : decode cX3_aheadInOrder 21 = .ok (.istore 4, 2) := by decide +kernel
theorem dX3_aheadInOrder_23 : decode cX3_aheadInOrder 23 = .ok (.iload 4, 2) := by decide +kernel
theorem dX3_aheadInOrder_25 : decode cX3_aheadInOrder 25 = .ok (.iconst (-1), 1) := by decide +kernel
theorem dX3_aheadInOrder_26 : decode cX3_aheadInOrder 26 = .ok (.if_icmp .eq 39, 3) := by decide +kernel
theorem dX3_aheadInOrder_29 : decode cX3_aheadInOrder 29 = .ok (.iload 4, 2) := by decide +kernel
theorem dX3_aheadInOrder_31 : decode cX3_aheadInOrder 31 = .ok (.aload_n 0, 1) := by decide +kernel
theorem dX3_aheadInOrder_32 : decode cX3_aheadInOrder 32 = .ok (.getfield 25, 3) := by decide +kernel
theorem dX3_aheadInOrder_35 : decode cX3_aheadInOrder 35 = .ok (.iload_n 1, 1) := by decide +kernel
theorem dX3_aheadInOrder_36 : decode cX3_aheadInOrder 36 = .ok (.aaload, 1) := by decide +kernel
theorem dX3_aheadInOrder_37 : decode cX3_aheadInOrder 37 = .ok (.getfield 53, 3) := by decide +kernel
theorem dX3_aheadInOrder_40 : decode cX3_aheadInOrder 40 = .ok (.if_icmp .lt 22, 3) := by decide +kernel
theorem dX3_aheadInOrder_43 : decode cX3_aheadInOrder 43 = .ok (.iload 4, 2) := by decide +kernel
theorem dX3_aheadInOrder_45 : decode cX3_aheadInOrder 45 = .ok (.aload_n 0, 1) := by decide +kernel
theorem dX3_aheadInOrder_46 : decode cX3_aheadInOrder 46 = .ok (.getfield 25, 3) := by decide +kernel
theorem dX3_aheadInOrder_49 : decode cX3_aheadInOrder 49 = .ok (.iload_n 1, 1) := by decide +kernel
theorem dX3_aheadInOrder_50 : decode cX3_aheadInOrder 50 = .ok (.aaload, 1) := by decide +kernel
theorem dX3_aheadInOrder_51 : decode cX3_aheadInOrder 51 = .ok (.getfield 53, 3) := by decide +kernel
theorem dX3_aheadInOrder_54 : decode cX3_aheadInOrder 54 = .ok (.if_icmp .ne 11, 3) := by decide +kernel
theorem dX3_aheadInOrder_57 : decode cX3_aheadInOrder 57 = .ok (.iload_n 3, 1) := by decide +kernel
theorem dX3_aheadInOrder_58 : decode cX3_aheadInOrder 58 = .ok (.iload_n 1, 1) := by decide +kernel
theorem dX3_aheadInOrder_59 : decode cX3_aheadInOrder 59 = .ok (.if_icmp .ge 6, 3) := by decide +kernel
theorem dX3_aheadInOrder_62 : decode cX3_aheadInOrder 62 = .ok (.iinc 2 1, 3) := by decide +kernel
theorem dX3_aheadInOrder_65 : decode cX3_aheadInOrder 65 = .ok (.iinc 3 1, 3) := by decide +kernel
theorem dX3_aheadInOrder_68 : decode cX3_aheadInOrder 68 = .ok (.goto (-64), 3) := by decide +kernel
theorem dX3_aheadInOrder_71 : decode cX3_aheadInOrder 71 = .ok (.iload_n 2, 1) := by decide +kernel
theorem dX3_aheadInOrder_72 : decode cX3_aheadInOrder 72 = .ok (.ireturn, 1) := by decide +kernel
theorem dX4_init_0 : decode cX4_init 0 = .ok (.aload_n 0, 1) := by decide +kernel
theorem dX4_init_1 : decode cX4_init 1 = .ok (.invokespecial 3, 3) := by decide +kernel
theorem dX4_init_4 : decode cX4_init 4 = .ok (.aload_n 0, 1) := by decide +kernel
theorem dX4_init_5 : decode cX4_init 5 = .ok (.aload_n 1, 1) := by decide +kernel
theorem dX4_init_6 : decode cX4_init 6 = .ok (.putfield 9, 3) := by decide +kernel
theorem dX4_init_9 : decode cX4_init 9 = .ok (.aload_n 0, 1) := by decide +kernel
theorem dX4_init_10 : decode cX4_init 10 = .ok (.iload_n 2, 1) := by decide +kernel
theorem dX4_init_11 : decode cX4_init 11 = .ok (.aload_n 1, 1) := by decide +kernel
theorem dX4_init_12 : decode cX4_init 12 = .ok (.arraylength, 1) := by decide +kernel
theorem dX4_init_13 : decode cX4_init 13 = .ok (.invokestatic 15, 3) := by decide +kernel
theorem dX4_init_16 : decode cX4_init 16 = .ok (.putfield 21, 3) := by decide +kernel
theorem dX4_init_19 : decode cX4_init 19 = .ok (.aload_n 0, 1) := by decide +kernel
theorem dX4_init_20 : decode cX4_init 20 = .ok (.bipush 8, 2) := by decide +kernel
theorem dX4_init_22 : decode cX4_init 22 = .ok (.anewarray 25, 3) := by decide +kernel
theorem dX4_init_25 : decode cX4_init 25 = .ok (.putfield 27, 3) := by decide +kernel
theorem dX4_init_28 : decode cX4_init 28 = .ok (.aload_n 0, 1) := by decide +kernel
theorem dX4_init_29 : decode cX4_init 29 = .ok (.iconst (-1), 1) := by decide +kernel
theorem dX4_init_30 : decode cX4_init 30 = .ok (.putfield 31, 3) := by decide +kernel
theorem dX4_init_33 : decode cX4_init 33 = .ok (.return_, 1) := by decide +kernel
theorem dX4_readFormats_0 : decode cX4_readFormats 0 = .ok (.aload_n 0, 1) := by decide +kernel
theorem dX4_readFormats_1 : decode cX4_readFormats 1 = .ok (.invokevirtual 34, 3) := by decide +kernel
theorem dX4_readFormats_4 : decode cX4_readFormats 4 = .ok (.iconst 0, 1) := by decide +kernel
theorem dX4_readFormats_5 : decode cX4_readFormats 5 = .ok (.istore_n 1, 1) := by decide +kernel
theorem dX4_readFormats_6 : decode cX4_readFormats 6 = .ok (.iload_n 1, 1) := by decide +kernel
theorem dX4_readFormats_7 : decode cX4_readFormats 7 = .ok (.bipush 8, 2) := by decide +kernel
theorem dX4_readFormats_9 : decode cX4_readFormats 9 = .ok (.if_icmp .ge 25, 3) := by decide +kernel
theorem dX4_readFormats_12 : decode cX4_readFormats 12 = .ok (.aload_n 0, 1) := by decide +kernel
theorem dX4_readFormats_13 : decode cX4_readFormats 13 = .ok (.getfield 37, 3) := by decide +kernel
theorem dX4_readFormats_16 : decode cX4_readFormats 16 = .ok (.ifCond .eq 18, 3) := by decide +kernel
theorem dX4_readFormats_19 : decode cX4_readFormats 19 = .ok (.aload_n 0, 1) := by decide +kernel
theorem dX4_readFormats_20 : decode cX4_readFormats 20 = .ok (.invokevirtual 40, 3) := by decide +kernel
theorem dX4_readFormats_23 : decode cX4_readFormats 23 = .ok (.ifCond .ne 5, 3) := by decide +kernel
theorem dX4_readFormats_26 : decode cX4_readFormats 26 = .ok (.iconst 0, 1) := by decide +kernel
theorem dX4_readFormats_27 : decode cX4_readFormats 27 = .ok (.ireturn, 1) := by decide +kernel
theorem dX4_readFormats_28 : decode cX4_readFormats 28 = .ok (.iinc 1 1, 3) := by decide +kernel
theorem dX4_readFormats_31 : decode cX4_readFormats 31 = .ok (.goto (-25), 3) := by decide +kernel
theorem dX4_readFormats_34 : decode cX4_readFormats 34 = .ok (.aload_n 0, 1) := by decide +kernel
theorem dX4_readFormats_35 : decode cX4_readFormats 35 = .ok (.getfield 37, 3) := by decide +kernel
theorem dX4_readFormats_38 : decode cX4_readFormats 38 = .ok (.ifCond .eq 11, 3) := by decide +kernel
theorem dX4_readFormats_41 : decode cX4_readFormats 41 = .ok (.aload_n 0, 1) := by decide +kernel
theorem dX4_readFormats_42 : decode cX4_readFormats 42 = .ok (.iconst 1, 1) := by decide +kernel
theorem dX4_readFormats_43 : decode cX4_readFormats 43 = .ok (.invokevirtual 44, 3) := by decide +kernel
theorem dX4_readFormats_46 : decode cX4_readFormats 46 = .ok (.ifCond .eq 7, 3) := by decide +kernel
theorem dX4_readFormats_49 : decode cX4_readFormats 49 = .ok (.iconst 1, 1) := by decide +kernel
theorem dX4_readFormats_50 : decode cX4_readFormats 50 = .ok (.goto 4, 3) := by decide +kernel
theorem dX4_readFormats_53 : decode cX4_readFormats 53 = .ok (.iconst 0, 1) := by decide +kernel
theorem dX4_readFormats_54 : decode cX4_readFormats 54 = .ok (.ireturn, 1) := by decide +kernel
theorem dX4_readFormat_0 : decode cX4_readFormat 0 = .ok (.aload_n 0, 1) := by decide +kernel
theorem dX4_readFormat_1 : decode cX4_readFormat 1 = .ok (.ldc 48, 2) := by decide +kernel
theorem dX4_readFormat_3 : decode cX4_readFormat 3 = .ok (.invokevirtual 50, 3) := by decide +kernel
theorem dX4_readFormat_6 : decode cX4_readFormat 6 = .ok (.ifCond .ne 5, 3) := by decide +kernel
theorem dX4_readFormat_9 : decode cX4_readFormat 9 = .ok (.iconst 0, 1) := by decide +kernel
theorem dX4_readFormat_10 : decode cX4_readFormat 10 = .ok (.ireturn, 1) := by decide +kernel
theorem dX4_readFormat_11 : decode cX4_readFormat 11 = .ok (.aload_n 0, 1) := by decide +kernel
theorem dX4_readFormat_12 : decode cX4_readFormat 12 = .ok (.getfield 37, 3) := by decide +kernel
theorem dX4_readFormat_15 : decode cX4_readFormat 15 = .ok (.iconst 3, 1) := by decide +kernel
theorem dX4_readFormat_16 : decode cX4_readFormat 16 = .ok (.if_icmp .ne 18, 3) := by decide +kernel
theorem dX4_readFormat_19 : decode cX4_readFormat 19 = .ok (.aload_n 0, 1) := by decide +kernel
theorem dX4_readFormat_20 : decode cX4_readFormat 20 = .ok (.getfield 9, 3) := by decide +kernel
theorem dX4_readFormat_23 : decode cX4_readFormat 23 = .ok (.aload_n 0, 1) := by decide +kernel
theorem dX4_readFormat_24 : decode cX4_readFormat 24 = .ok (.getfield 54, 3) := by decide +kernel
theorem dX4_readFormat_27 : decode cX4_readFormat 27 = .ok (.baload, 1) := by decide +kernel
theorem dX4_readFormat_28 : decode cX4_readFormat 28 = .ok (.bipush 65, 2) := by decide +kernel
theorem dX4_readFormat_30 : decode cX4_readFormat 30 = .ok (.isub, 1) := by decide +kernel
theorem dX4_readFormat_31 : decode cX4_readFormat 31 = .ok (.goto 4, 3) := by decide +kernel
theorem dX4_readFormat_34 : decode cX4_readFormat 34 = .ok (.iconst (-1), 1) := by decide +kernel
theorem dX4_readFormat_35 : decode cX4_readFormat 35 = .ok (.istore_n 1, 1) := by decide +kernel
theorem dX4_readFormat_36 : decode cX4_readFormat 36 = .ok (.iload_n 1, 1) := by decide +kernel
theorem dX4_readFormat_37 : decode cX4_readFormat 37 = .ok (.ifCond .lt 9, 3) := by decide +kernel
theorem dX4_readFormat_40 : decode cX4_readFormat 40 = .ok (.iload_n 1, 1) := by decide +kernel
theorem dX4_readFormat_41 : decode cX4_readFormat 41 = .ok (.bipush 8, 2) := by decide +kernel
theorem dX4_readFormat_43 : decode cX4_readFormat 43 = .ok (.if_icmp .lt 9, 3) := by decide +kernel
theorem dX4_readFormat_46 : decode cX4_readFormat 46 = .ok (.aload_n 0, 1) := by decide +kernel
theorem dX4_readFormat_47 : decode cX4_readFormat 47 = .ok (.iconst 1, 1) := by decide +kernel
theorem dX4_readFormat_48 : decode cX4_readFormat 48 = .ok (.invokevirtual 44, 3) := by decide +kernel
theorem dX4_readFormat_51 : decode cX4_readFormat 51 = .ok (.ireturn, 1) := by decide +kernel
theorem dX4_readFormat_52 : decode cX4_readFormat 52 = .ok (.aload_n 0, 1) := by decide +kernel
theorem dX4_readFormat_53 : decode cX4_readFormat 53 = .ok (.getfield 27, 3) := by decide +kernel
theorem dX4_readFormat_56 : decode cX4_readFormat 56 = .ok (.iload_n 1, 1) := by decide +kernel
theorem dX4_readFormat_57 : decode cX4_readFormat 57 = .ok (.aaload, 1) := by decide +kernel
theorem dX4_readFormat_58 : decode cX4_readFormat 58 = .ok (.ifnull 9, 3) := by decide +kernel
theorem dX4_readFormat_61 : decode cX4_readFormat 61 = .ok (.aload_n 0, 1) := by decide +kernel
theorem dX4_readFormat_62 : decode cX4_readFormat 62 = .ok (.iconst 3, 1) := by decide +kernel
theorem dX4_readFormat_63 : decode cX4_readFormat 63 = .ok (.invokevirtual 44, 3) := by decide +kernel
theorem dX4_readFormat_66 : decode cX4_readFormat 66 = .ok (.ireturn, 1) := by decide +kernel
theorem dX4_readFormat_67 : decode cX4_readFormat 67 = .ok (.aload_n 0, 1) := by decide +kernel
theorem dX4_readFormat_68 : decode cX4_readFormat 68 = .ok (.invokevirtual 34, 3) := by decide +kernel
theorem dX4_readFormat_71 : decode cX4_readFormat 71 = .ok (.new 25, 3) := by decide +kernel
theorem dX4_readFormat_74 : decode cX4_readFormat 74 = .ok (.dup, 1) := by decide +kernel
theorem dX4_readFormat_75 : decode cX4_readFormat 75 = .ok (.iload_n 1, 1) := by decide +kernel
theorem dX4_readFormat_76 : decode cX4_readFormat 76 = .ok (.invokespecial 57, 3) := by decide +kernel
theorem dX4_readFormat_79 : decode cX4_readFormat 79 = .ok (.astore_n 2, 1) := by decide +kernel
theorem dX4_readFormat_80 : decode cX4_readFormat 80 = .ok (.aload_n 0, 1) := by decide +kernel
theorem dX4_readFormat_81 : decode cX4_readFormat 81 = .ok (.getfield 27, 3) := by decide +kernel
theorem dX4_readFormat_84 : decode cX4_readFormat 84 = .ok (.iload_n 1, 1) := by decide +kernel
theorem dX4_readFormat_85 : decode cX4_readFormat 85 = .ok (.aload_n 2, 1) := by decide +kernel
theorem dX4_readFormat_86 : decode cX4_readFormat 86 = .ok (.aastore, 1) := by decide +kernel
theorem dX4_readFormat_87 : decode cX4_readFormat 87 = .ok (.aload_n 0, 1) := by decide +kernel
theorem dX4_readFormat_88 : decode cX4_readFormat 88 = .ok (.dup, 1) := by decide +kernel
theorem dX4_readFormat_89 : decode cX4_readFormat 89 = .ok (.getfield 60, 3) := by decide +kernel
theorem dX4_readFormat_92 : decode cX4_readFormat 92 = .ok (.iconst 1, 1) := by decide +kernel
theorem dX4_readFormat_93 : decode cX4_readFormat 93 = .ok (.iadd, 1) := by decide +kernel
theorem dX4_readFormat_94 : decode cX4_readFormat 94 = .ok (.putfield 60, 3) := by decide +kernel
theorem dX4_readFormat_97 : decode cX4_readFormat 97 = .ok (.aload_n 0, 1) := by decide +kernel
theorem dX4_readFormat_98 : decode cX4_readFormat 98 = .ok (.bipush 123, 2) := by decide +kernel
theorem dX4_readFormat_100 : decode cX4_readFormat 100 = .ok (.invokevirtual 63, 3) := by decide +kernel
theorem dX4_readFormat_103 : decode cX4_readFormat 103 = .ok (.ifCond .eq 101, 3) := by decide +kernel
theorem dX4_readFormat_106 : decode cX4_readFormat 106 = .ok (.aload_n 0, 1) := by decide +kernel
theorem dX4_readFormat_107 : decode cX4_readFormat 107 = .ok (.aload_n 2, 1) := by decide +kernel
theorem dX4_readFormat_108 : decode cX4_readFormat 108 = .ok (.invokevirtual 67, 3) := by decide +kernel
theorem dX4_readFormat_111 : decode cX4_readFormat 111 = .ok (.ifCond .eq 93, 3) := by decide +kernel
theorem dX4_readFormat_114 : decode cX4_readFormat 114 = .ok (.aload_n 0, 1) := by decide +kernel
theorem dX4_readFormat_115 : decode cX4_readFormat 115 = .ok (.bipush 59, 2) := by decide +kernel
theorem dX4_readFormat_117 : decode cX4_readFormat 117 = .ok (.invokevirtual 63, 3) := by decide +kernel
theorem dX4_readFormat_120 : decode cX4_readFormat 120 = .ok (.ifCond .eq 84, 3) := by decide +kernel
theorem dX4_readFormat_123 : decode cX4_readFormat 123 = .ok (.aload_n 0, 1) := by decide +kernel
theorem dX4_readFormat_124 : decode cX4_readFormat 124 = .ok (.aload_n 2, 1) := by decide +kernel
theorem dX4_readFormat_125 : decode cX4_readFormat 125 = .ok (.invokevirtual 71, 3) := by decide +kernel
theorem dX4_readFormat_128 : decode cX4_readFormat 128 = .ok (.ifCond .eq 76, 3) := by decide +kernel
theorem dX4_readFormat_131 : decode cX4_readFormat 131 = .ok (.aload_n 0, 1) := by decide +kernel
theorem dX4_readFormat_132 : decode cX4_readFormat 132 = .ok (.bipush 59, 2) := by decide +kernel
theorem dX4_readFormat_134 : decode cX4_readFormat 134 = .ok (.invokevirtual 63, 3) := by decide +kernel
theorem dX4_readFormat_137 : decode cX4_readFormat 137 = .ok (.ifCond .eq 67, 3) := by decide +kernel
theorem dX4_readFormat_140 : decode cX4_readFormat 140 = .ok (.aload_n 0, 1) := by decide +kernel
theorem dX4_readFormat_141 : decode cX4_readFormat 141 = .ok (.aload_n 2, 1) := by decide +kernel
theorem dX4_readFormat_142 : decode cX4_readFormat 142 = .ok (.invokevirtual 74, 3) := by decide +kernel
theorem dX4_readFormat_145 : decode cX4_readFormat 145 = .ok (.ifCond .eq 59, 3) := by decide +kernel
theorem dX4_readFormat_148 : decode cX4_readFormat 148 = .ok (.aload_n 0, 1) := by decide +kernel
theorem dX4_readFormat_149 : decode cX4_readFormat 149 = .ok (.bipush 59, 2) := by decide +kernel
theorem dX4_readFormat_151 : decode cX4_readFormat 151 = .ok (.invokevirtual 63, 3) := by decide +kernel
theorem dX4_readFormat_154 : decode cX4_readFormat 154 = .ok (.ifCond .eq 50, 3) := by decide +kernel
theorem dX4_readFormat_157 : decode cX4_readFormat 157 = .ok (.aload_n 0, 1) := by decide +kernel
theorem dX4_readFormat_158 : decode cX4_readFormat 158 = .ok (.aload_n 2, 1) := by decide +kernel
theorem dX4_readFormat_159 : decode cX4_readFormat 159 = .ok (.invokevirtual 77, 3) := by decide +kernel
theorem dX4_readFormat_162 : decode cX4_readFormat 162 = .ok (.ifCond .eq 42, 3) := by decide +kernel
theorem dX4_readFormat_165 : decode cX4_readFormat 165 = .ok (.aload_n 0, 1) := by decide +kernel
theorem dX4_readFormat_166 : decode cX4_readFormat 166 = .ok (.bipush 59, 2) := by decide +kernel
theorem dX4_readFormat_168 : decode cX4_readFormat 168 = .ok (.invokevirtual 63, 3) := by decide +kernel
theorem dX4_readFormat_171 : decode cX4_readFormat 171 = .ok (.ifCond .eq 33, 3) := by decide +kernel
theorem dX4_readFormat_174 : decode cX4_readFormat 174 = .ok (.aload_n 0, 1) := by decide +kernel
theorem dX4_readFormat_175 : decode cX4_readFormat 175 = .ok (.aload_n 2, 1) := by decide +kernel
theorem dX4_readFormat_176 : decode cX4_readFormat 176 = .ok (.invokevirtual 80, 3) := by decide +kernel
theorem dX4_readFormat_179 : decode cX4_readFormat 179 = .ok (.ifCond .eq 25, 3) := by decide +kernel
theorem dX4_readFormat_182 : decode cX4_readFormat 182 = .ok (.aload_n 0, 1) := by decide +kernel
theorem dX4_readFormat_183 : decode cX4_readFormat 183 = .ok (.bipush 59, 2) := by decide +kernel
theorem dX4_readFormat_185 : decode cX4_readFormat 185 = .ok (.invokevirtual 63, 3) := by decide +kernel
theorem dX4_readFormat_188 : decode cX4_readFormat 188 = .ok (.ifCond .eq 16, 3) := by decide +kernel
theorem dX4_readFormat_191 : decode cX4_readFormat 191 = .ok (.aload_n 0, 1) := by decide +kernel
theorem dX4_readFormat_192 : decode cX4_readFormat 192 = .ok (.bipush 125, 2) := by decide +kernel
theorem dX4_readFormat_194 : decode cX4_readFormat 194 = .ok (.invokevirtual 63, 3) := by decide +kernel
theorem dX4_readFormat_197 : decode cX4_readFormat 197 = .ok (.ifCond .eq 7, 3) := by decide +kernel
theorem dX4_readFormat_200 : decode cX4_readFormat 200 = .ok (.iconst 1, 1) := by decide +kernel
theorem dX4_readFormat_201 : decode cX4_readFormat 201 = .ok (.goto 4, 3) := by decide +kernel
theorem dX4_readFormat_204 : decode cX4_readFormat 204 = .ok (.iconst 0, 1) := by decide +kernel
theorem dX4_readFormat_205 : decode cX4_readFormat 205 = .ok (.ireturn, 1) := by decide +kernel
theorem dX4_readLaps_0 : decode cX4_readLaps 0 = .ok (.aload_n 0, 1) := by decide +kernel
theorem dX4_readLaps_1 : decode cX4_readLaps 1 = .ok (.ldc 83, 2) := by decide +kernel
theorem dX4_readLaps_3 : decode cX4_readLaps 3 = .ok (.invokevirtual 50, 3) := by decide +kernel
end
section
theorem dX4_readLaps_6 : decode cX4_readLaps 6 = .ok (.ifCond .eq 13, 3) := by decide +kernel
theorem dX4_readLaps_9 : decode cX4_readLaps 9 = .ok (.aload_n 0, 1) := by decide +kernel
theorem dX4_readLaps_10 : decode cX4_readLaps 10 = .ok (.iconst 1, 1) := by decide +kernel
theorem dX4_readLaps_11 : decode cX4_readLaps 11 = .ok (.bipush 6, 2) := by decide +kernel
theorem dX4_readLaps_13 : decode cX4_readLaps 13 = .ok (.invokevirtual 85, 3) := by decide +kernel
theorem dX4_readLaps_16 : decode cX4_readLaps 16 = .ok (.ifCond .ne 5, 3) := by decide +kernel
theorem dX4_readLaps_19 : decode cX4_readLaps 19 = .ok (.iconst 0, 1) := by decide +kernel
theorem dX4_readLaps_20 : decode cX4_readLaps 20 = .ok (.ireturn, 1) := by decide +kernel
theorem dX4_readLaps_21 : decode cX4_readLaps 21 = .ok (.aload_n 1, 1) := by decide +kernel
theorem dX4_readLaps_22 : decode cX4_readLaps 22 = .ok (.aload_n 0, 1) := by decide +kernel
theorem dX4_readLaps_23 : decode cX4_readLaps 23 = .ok (.getfield 89, 3) := by decide +kernel
theorem dX4_readLaps_26 : decode cX4_readLaps 26 = .ok (.putfield 92, 3) := by decide +kernel
theorem dX4_readLaps_29 : decode cX4_readLaps 29 = .ok (.iconst 1, 1) := by decide +kernel
theorem dX4_readLaps_30 : decode cX4_readLaps 30 = .ok (.ireturn, 1) := by decide +kernel
theorem dX4_readShootings_0 : decode cX4_readShootings 0 = .ok (.aload_n 0, 1) := by decide +kernel
theorem dX4_readShootings_1 : decode cX4_readShootings 1 = .ok (.ldc 94, 2) := by decide +kernel
theorem dX4_readShootings_3 : decode cX4_readShootings 3 = .ok (.invokevirtual 50, 3) := by decide +kernel
theorem dX4_readShootings_6 : decode cX4_readShootings 6 = .ok (.ifCond .ne 5, 3) := by decide +kernel
theorem dX4_readShootings_9 : decode cX4_readShootings 9 = .ok (.iconst 0, 1) := by decide +kernel
theorem dX4_readShootings_10 : decode cX4_readShootings 10 = .ok (.ireturn, 1) := by decide +kernel
theorem dX4_readShootings_11 : decode cX4_readShootings 11 = .ok (.iconst 1, 1) := by decide +kernel
theorem dX4_readShootings_12 : decode cX4_readShootings 12 = .ok (.istore_n 2, 1) := by decide +kernel
theorem dX4_readShootings_13 : decode cX4_readShootings 13 = .ok (.iconst 0, 1) := by decide +kernel
theorem dX4_readShootings_14 : decode cX4_readShootings 14 = .ok (.istore_n 3, 1) := by decide +kernel
theorem dX4_readShootings_15 : decode cX4_readShootings 15 = .ok (.iload_n 3, 1) := by decide +kernel
theorem dX4_readShootings_16 : decode cX4_readShootings 16 = .ok (.iconst 4, 1) := by decide +kernel
theorem dX4_readShootings_17 : decode cX4_readShootings 17 = .ok (.if_icmp .ge 54, 3) := by decide +kernel
theorem dX4_readShootings_20 : decode cX4_readShootings 20 = .ok (.iload_n 3, 1) := by decide +kernel
theorem dX4_readShootings_21 : decode cX4_readShootings 21 = .ok (.ifCond .eq 11, 3) := by decide +kernel
theorem dX4_readShootings_24 : decode cX4_readShootings 24 = .ok (.aload_n 0, 1) := by decide +kernel
theorem dX4_readShootings_25 : decode cX4_readShootings 25 = .ok (.getfield 37, 3) := by decide +kernel
theorem dX4_readShootings_28 : decode cX4_readShootings 28 = .ok (.iconst 2, 1) := by decide +kernel
theorem dX4_readShootings_29 : decode cX4_readShootings 29 = .ok (.if_icmp .ne 42, 3) := by decide +kernel
theorem dX4_readShootings_32 : decode cX4_readShootings 32 = .ok (.aload_n 0, 1) := by decide +kernel
theorem dX4_readShootings_33 : decode cX4_readShootings 33 = .ok (.iload_n 2, 1) := by decide +kernel
theorem dX4_readShootings_34 : decode cX4_readShootings 34 = .ok (.aload_n 1, 1) := by decide +kernel
theorem dX4_readShootings_35 : decode cX4_readShootings 35 = .ok (.getfield 92, 3) := by decide +kernel
theorem dX4_readShootings_38 : decode cX4_readShootings 38 = .ok (.iconst 1, 1) := by decide +kernel
theorem dX4_readShootings_39 : decode cX4_readShootings 39 = .ok (.isub, 1) := by decide +kernel
theorem dX4_readShootings_40 : decode cX4_readShootings 40 = .ok (.invokevirtual 85, 3) := by decide +kernel
theorem dX4_readShootings_43 : decode cX4_readShootings 43 = .ok (.ifCond .ne 5, 3) := by decide +kernel
theorem dX4_readShootings_46 : decode cX4_readShootings 46 = .ok (.iconst 0, 1) := by decide +kernel
theorem dX4_readShootings_47 : decode cX4_readShootings 47 = .ok (.ireturn, 1) := by decide +kernel
theorem dX4_readShootings_48 : decode cX4_readShootings 48 = .ok (.aload_n 0, 1) := by decide +kernel
theorem dX4_readShootings_49 : decode cX4_readShootings 49 = .ok (.getfield 89, 3) := by decide +kernel
theorem dX4_readShootings_52 : decode cX4_readShootings 52 = .ok (.iconst 1, 1) := by decide +kernel
theorem dX4_readShootings_53 : decode cX4_readShootings 53 = .ok (.iadd, 1) := by decide +kernel
theorem dX4_readShootings_54 : decode cX4_readShootings 54 = .ok (.istore_n 2, 1) := by decide +kernel
theorem dX4_readShootings_55 : decode cX4_readShootings 55 = .ok (.aload_n 1, 1) := by decide +kernel
theorem dX4_readShootings_56 : decode cX4_readShootings 56 = .ok (.dup, 1) := by decide +kernel
theorem dX4_readShootings_57 : decode cX4_readShootings 57 = .ok (.getfield 96, 3) := by decide +kernel
theorem dX4_readShootings_60 : decode cX4_readShootings 60 = .ok (.iconst 1, 1) := by decide +kernel
theorem dX4_readShootings_61 : decode cX4_readShootings 61 = .ok (.iadd, 1) := by decide +kernel
theorem dX4_readShootings_62 : decode cX4_readShootings 62 = .ok (.putfield 96, 3) := by decide +kernel
theorem dX4_readShootings_65 : decode cX4_readShootings 65 = .ok (.iinc 3 1, 3) := by decide +kernel
theorem dX4_readShootings_68 : decode cX4_readShootings 68 = .ok (.goto (-53), 3) := by decide +kernel
theorem dX4_readShootings_71 : decode cX4_readShootings 71 = .ok (.aload_n 0, 1) := by decide +kernel
theorem dX4_readShootings_72 : decode cX4_readShootings 72 = .ok (.getfield 37, 3) := by decide +kernel
theorem dX4_readShootings_75 : decode cX4_readShootings 75 = .ok (.iconst 2, 1) := by decide +kernel
theorem dX4_readShootings_76 : decode cX4_readShootings 76 = .ok (.if_icmp .ne 11, 3) := by decide +kernel
theorem dX4_readShootings_79 : decode cX4_readShootings 79 = .ok (.aload_n 0, 1) := by decide +kernel
theorem dX4_readShootings_80 : decode cX4_readShootings 80 = .ok (.iconst 2, 1) := by decide +kernel
theorem dX4_readShootings_81 : decode cX4_readShootings 81 = .ok (.invokevirtual 44, 3) := by decide +kernel
theorem dX4_readShootings_84 : decode cX4_readShootings 84 = .ok (.ifCond .eq 7, 3) := by decide +kernel
theorem dX4_readShootings_87 : decode cX4_readShootings 87 = .ok (.iconst 1, 1) := by decide +kernel
theorem dX4_readShootings_88 : decode cX4_readShootings 88 = .ok (.goto 4, 3) := by decide +kernel
theorem dX4_readShootings_91 : decode cX4_readShootings 91 = .ok (.iconst 0, 1) := by decide +kernel
theorem dX4_readShootings_92 : decode cX4_readShootings 92 = .ok (.ireturn, 1) := by decide +kernel
theorem dX4_readSpares_0 : decode cX4_readSpares 0 = .ok (.aload_n 0, 1) := by decide +kernel
theorem dX4_readSpares_1 : decode cX4_readSpares 1 = .ok (.ldc 99, 2) := by decide +kernel
theorem dX4_readSpares_3 : decode cX4_readSpares 3 = .ok (.invokevirtual 50, 3) := by decide +kernel
theorem dX4_readSpares_6 : decode cX4_readSpares 6 = .ok (.ifCond .eq 12, 3) := by decide +kernel
theorem dX4_readSpares_9 : decode cX4_readSpares 9 = .ok (.aload_n 0, 1) := by decide +kernel
theorem dX4_readSpares_10 : decode cX4_readSpares 10 = .ok (.iconst 0, 1) := by decide +kernel
theorem dX4_readSpares_11 : decode cX4_readSpares 11 = .ok (.iconst 3, 1) := by decide +kernel
theorem dX4_readSpares_12 : decode cX4_readSpares 12 = .ok (.invokevirtual 85, 3) := by decide +kernel
theorem dX4_readSpares_15 : decode cX4_readSpares 15 = .ok (.ifCond .ne 5, 3) := by decide +kernel
theorem dX4_readSpares_18 : decode cX4_readSpares 18 = .ok (.iconst 0, 1) := by decide +kernel
theorem dX4_readSpares_19 : decode cX4_readSpares 19 = .ok (.ireturn, 1) := by decide +kernel
theorem dX4_readSpares_20 : decode cX4_readSpares 20 = .ok (.aload_n 1, 1) := by decide +kernel
theorem dX4_readSpares_21 : decode cX4_readSpares 21 = .ok (.aload_n 0, 1) := by decide +kernel
theorem dX4_readSpares_22 : decode cX4_readSpares 22 = .ok (.getfield 89, 3) := by decide +kernel
theorem dX4_readSpares_25 : decode cX4_readSpares 25 = .ok (.putfield 101, 3) := by decide +kernel
theorem dX4_readSpares_28 : decode cX4_readSpares 28 = .ok (.iconst 1, 1) := by decide +kernel
theorem dX4_readSpares_29 : decode cX4_readSpares 29 = .ok (.ireturn, 1) := by decide +kernel
theorem dX4_readMiss_0 : decode cX4_readMiss 0 = .ok (.aload_n 0, 1) := by decide +kernel
theorem dX4_readMiss_1 : decode cX4_readMiss 1 = .ok (.ldc 103, 2) := by decide +kernel
theorem dX4_readMiss_3 : decode cX4_readMiss 3 = .ok (.invokevirtual 50, 3) := by decide +kernel
theorem dX4_readMiss_6 : decode cX4_readMiss 6 = .ok (.ifCond .ne 5, 3) := by decide +kernel
theorem dX4_readMiss_9 : decode cX4_readMiss 9 = .ok (.iconst 0, 1) := by decide +kernel
theorem dX4_readMiss_10 : decode cX4_readMiss 10 = .ok (.ireturn, 1) := by decide +kernel
theorem dX4_readMiss_11 : decode cX4_readMiss 11 = .ok (.aload_n 1, 1) := by decide +kernel
theorem dX4_readMiss_12 : decode cX4_readMiss 12 = .ok (.aload_n 0, 1) := by decide +kernel
theorem dX4_readMiss_13 : decode cX4_readMiss 13 = .ok (.ldc 105, 2) := by decide +kernel
theorem dX4_readMiss_15 : decode cX4_readMiss 15 = .ok (.invokevirtual 107, 3) := by decide +kernel
theorem dX4_readMiss_18 : decode cX4_readMiss 18 = .ok (.putfield 110, 3) := by decide +kernel
theorem dX4_readMiss_21 : decode cX4_readMiss 21 = .ok (.aload_n 1, 1) := by decide +kernel
theorem dX4_readMiss_22 : decode cX4_readMiss 22 = .ok (.getfield 110, 3) := by decide +kernel
theorem dX4_readMiss_25 : decode cX4_readMiss 25 = .ok (.ifCond .ne 18, 3) := by decide +kernel
theorem dX4_readMiss_28 : decode cX4_readMiss 28 = .ok (.aload_n 0, 1) := by decide +kernel
theorem dX4_readMiss_29 : decode cX4_readMiss 29 = .ok (.ldc 114, 2) := by decide +kernel
theorem dX4_readMiss_31 : decode cX4_readMiss 31 = .ok (.invokevirtual 107, 3) := by decide +kernel
theorem dX4_readMiss_34 : decode cX4_readMiss 34 = .ok (.ifCond .ne 9, 3) := by decide +kernel
theorem dX4_readMiss_37 : decode cX4_readMiss 37 = .ok (.aload_n 0, 1) := by decide +kernel
theorem dX4_readMiss_38 : decode cX4_readMiss 38 = .ok (.iconst 1, 1) := by decide +kernel
theorem dX4_readMiss_39 : decode cX4_readMiss 39 = .ok (.invokevirtual 44, 3) := by decide +kernel
theorem dX4_readMiss_42 : decode cX4_readMiss 42 = .ok (.ireturn, 1) := by decide +kernel
theorem dX4_readMiss_43 : decode cX4_readMiss 43 = .ok (.aload_n 0, 1) := by decide +kernel
theorem dX4_readMiss_44 : decode cX4_readMiss 44 = .ok (.invokevirtual 34, 3) := by decide +kernel
theorem dX4_readMiss_47 : decode cX4_readMiss 47 = .ok (.aload_n 0, 1) := by decide +kernel
theorem dX4_readMiss_48 : decode cX4_readMiss 48 = .ok (.iconst 0, 1) := by decide +kernel
theorem dX4_readMiss_49 : decode cX4_readMiss 49 = .ok (.sipush 600, 3) := by decide +kernel
theorem dX4_readMiss_52 : decode cX4_readMiss 52 = .ok (.invokevirtual 85, 3) := by decide +kernel
theorem dX4_readMiss_55 : decode cX4_readMiss 55 = .ok (.ifCond .ne 5, 3) := by decide +kernel
theorem dX4_readMiss_58 : decode cX4_readMiss 58 = .ok (.iconst 0, 1) := by decide +kernel
theorem dX4_readMiss_59 : decode cX4_readMiss 59 = .ok (.ireturn, 1) := by decide +kernel
theorem dX4_readMiss_60 : decode cX4_readMiss 60 = .ok (.aload_n 1, 1) := by decide +kernel
theorem dX4_readMiss_61 : decode cX4_readMiss 61 = .ok (.aload_n 0, 1) := by decide +kernel
theorem dX4_readMiss_62 : decode cX4_readMiss 62 = .ok (.getfield 89, 3) := by decide +kernel
theorem dX4_readMiss_65 : decode cX4_readMiss 65 = .ok (.putfield 116, 3) := by decide +kernel
theorem dX4_readMiss_68 : decode cX4_readMiss 68 = .ok (.iconst 1, 1) := by decide +kernel
theorem dX4_readMiss_69 : decode cX4_readMiss 69 = .ok (.ireturn, 1) := by decide +kernel
theorem dX4_readStart_0 : decode cX4_readStart 0 = .ok (.aload_n 0, 1) := by decide +kernel
theorem dX4_readStart_1 : decode cX4_readStart 1 = .ok (.ldc 119, 2) := by decide +kernel
theorem dX4_readStart_3 : decode cX4_readStart 3 = .ok (.invokevirtual 50, 3) := by decide +kernel
theorem dX4_readStart_6 : decode cX4_readStart 6 = .ok (.ifCond .ne 5, 3) := by decide +kernel
theorem dX4_readStart_9 : decode cX4_readStart 9 = .ok (.iconst 0, 1) := by decide +kernel
theorem dX4_readStart_10 : decode cX4_readStart 10 = .ok (.ireturn, 1) := by decide +kernel
theorem dX4_readStart_11 : decode cX4_readStart 11 = .ok (.aload_n 0, 1) := by decide +kernel
theorem dX4_readStart_12 : decode cX4_readStart 12 = .ok (.ldc 121, 2) := by decide +kernel
theorem dX4_readStart_14 : decode cX4_readStart 14 = .ok (.invokevirtual 107, 3) := by decide +kernel
theorem dX4_readStart_17 : decode cX4_readStart 17 = .ok (.ifCond .eq 14, 3) := by decide +kernel
theorem dX4_readStart_20 : decode cX4_readStart 20 = .ok (.aload_n 1, 1) := by decide +kernel
theorem dX4_readStart_21 : decode cX4_readStart 21 = .ok (.iconst 0, 1) := by decide +kernel
theorem dX4_readStart_22 : decode cX4_readStart 22 = .ok (.putfield 123, 3) := by decide +kernel
theorem dX4_readStart_25 : decode cX4_readStart 25 = .ok (.aload_n 0, 1) := by decide +kernel
theorem dX4_readStart_26 : decode cX4_readStart 26 = .ok (.invokevirtual 34, 3) := by decide +kernel
theorem dX4_readStart_29 : decode cX4_readStart 29 = .ok (.iconst 1, 1) := by decide +kernel
theorem dX4_readStart_30 : decode cX4_readStart 30 = .ok (.ireturn, 1) := by decide +kernel
theorem dX4_readStart_31 : decode cX4_readStart 31 = .ok (.aload_n 0, 1) := by decide +kernel
theorem dX4_readStart_32 : decode cX4_readStart 32 = .ok (.ldc 126, 2) := by decide +kernel
theorem dX4_readStart_34 : decode cX4_readStart 34 = .ok (.invokevirtual 107, 3) := by decide +kernel
theorem dX4_readStart_37 : decode cX4_readStart 37 = .ok (.istore_n 2, 1) := by decide +kernel
theorem dX4_readStart_38 : decode cX4_readStart 38 = .ok (.iload_n 2, 1) := by decide +kernel
theorem dX4_readStart_39 : decode cX4_readStart 39 = .ok (.ifCond .ne 18, 3) := by decide +kernel
theorem dX4_readStart_42 : decode cX4_readStart 42 = .ok (.aload_n 0, 1) := by decide +kernel
theorem dX4_readStart_43 : decode cX4_readStart 43 = .ok (.ldc 128, 2) := by decide +kernel
theorem dX4_readStart_45 : decode cX4_readStart 45 = .ok (.invokevirtual 107, 3) := by decide +kernel
theorem dX4_readStart_48 : decode cX4_readStart 48 = .ok (.ifCond .ne 9, 3) := by decide +kernel
theorem dX4_readStart_51 : decode cX4_readStart 51 = .ok (.aload_n 0, 1) := by decide +kernel
theorem dX4_readStart_52 : decode cX4_readStart 52 = .ok (.iconst 1, 1) := by decide +kernel
theorem dX4_readStart_53 : decode cX4_readStart 53 = .ok (.invokevirtual 44, 3) := by decide +kernel
theorem dX4_readStart_56 : decode cX4_readStart 56 = .ok (.ireturn, 1) := by decide +kernel
theorem dX4_readStart_57 : decode cX4_readStart 57 = .ok (.aload_n 1, 1) := by decide +kernel
theorem dX4_readStart_58 : decode cX4_readStart 58 = .ok (.iload_n 2, 1) := by decide +kernel
theorem dX4_readStart_59 : decode cX4_readStart 59 = .ok (.ifCond .eq 7, 3) := by decide +kernel
theorem dX4_readStart_62 : decode cX4_readStart 62 = .ok (.iconst 2, 1) := by decide +kernel
theorem dX4_readStart_63 : decode cX4_readStart 63 = .ok (.goto 4, 3) := by decide +kernel
theorem dX4_readStart_66 : decode cX4_readStart 66 = .ok (.iconst 1, 1) := by decide +kernel
theorem dX4_readStart_67 : decode cX4_readStart 67 = .ok (.putfield 123, 3) := by decide +kernel
theorem dX4_readStart_70 : decode cX4_readStart 70 = .ok (.aload_n 0, 1) := by decide +kernel
theorem dX4_readStart_71 : decode cX4_readStart 71 = .ok (.invokevirtual 34, 3) := by decide +kernel
theorem dX4_readStart_74 : decode cX4_readStart 74 = .ok (.aload_n 0, 1) := by decide +kernel
theorem dX4_readStart_75 : decode cX4_readStart 75 = .ok (.iload_n 2, 1) := by decide +kernel
theorem dX4_readStart_76 : decode cX4_readStart 76 = .ok (.ifCond .eq 7, 3) := by decide +kernel
theorem dX4_readStart_79 : decode cX4_readStart 79 = .ok (.iconst 0, 1) := by decide +kernel
theorem dX4_readStart_80 : decode cX4_readStart 80 = .ok (.goto 4, 3) := by decide +kernel
theorem dX4_readStart_83 : decode cX4_readStart 83 = .ok (.iconst 1, 1) := by decide +kernel
theorem dX4_readStart_84 : decode cX4_readStart 84 = .ok (.iload_n 2, 1) := by decide +kernel
theorem dX4_readStart_85 : decode cX4_readStart 85 = .ok (.ifCond .eq 9, 3) := by decide +kernel
theorem dX4_readStart_88 : decode cX4_readStart 88 = .ok (.sipush 3600, 3) := by decide +kernel
theorem dX4_readStart_91 : decode cX4_readStart 91 = .ok (.goto 6, 3) := by decide +kernel
theorem dX4_readStart_94 : decode cX4_readStart 94 = .ok (.sipush 600, 3) := by decide +kernel
theorem dX4_readStart_97 : decode cX4_readStart 97 = .ok (.invokevirtual 85, 3) := by decide +kernel
theorem dX4_readStart_100 : decode cX4_readStart 100 = .ok (.ifCond .ne 5, 3) := by decide +kernel
theorem dX4_readStart_103 : decode cX4_readStart 103 = .ok (.iconst 0, 1) := by decide +kernel
theorem dX4_readStart_104 : decode cX4_readStart 104 = .ok (.ireturn, 1) := by decide +kernel
theorem dX4_readStart_105 : decode cX4_readStart 105 = .ok (.aload_n 1, 1) := by decide +kernel
theorem dX4_readStart_106 : decode cX4_readStart 106 = .ok (.aload_n 0, 1) := by decide +kernel
theorem dX4_readStart_107 : decode cX4_readStart 107 = .ok (.getfield 89, 3) := by decide +kernel
theorem dX4_readStart_110 : decode cX4_readStart 110 = .ok (.putfield 130, 3) := by decide +kernel
theorem dX4_readStart_113 : decode cX4_readStart 113 = .ok (.iconst 1, 1) := by decide +kernel
theorem dX4_readStart_114 : decode cX4_readStart 114 = .ok (.ireturn, 1) := by decide +kernel
theorem dX4_readWord_0 : decode cX4_readWord 0 = .ok (.aload_n 0, 1) := by decide +kernel
theorem dX4_readWord_1 : decode cX4_readWord 1 = .ok (.aload_n 1, 1) := by decide +kernel
theorem dX4_readWord_2 : decode cX4_readWord 2 = .ok (.invokevirtual 107, 3) := by decide +kernel
theorem dX4_readWord_5 : decode cX4_readWord 5 = .ok (.ifCond .ne 9, 3) := by decide +kernel
theorem dX4_readWord_8 : decode cX4_readWord 8 = .ok (.aload_n 0, 1) := by decide +kernel
theorem dX4_readWord_9 : decode cX4_readWord 9 = .ok (.iconst 1, 1) := by decide +kernel
theorem dX4_readWord_10 : decode cX4_readWord 10 = .ok (.invokevirtual 44, 3) := by decide +kernel
theorem dX4_readWord_13 : decode cX4_readWord 13 = .ok (.ireturn, 1) := by decide +kernel
theorem dX4_readWord_14 : decode cX4_readWord 14 = .ok (.aload_n 0, 1) := by decide +kernel
theorem dX4_readWord_15 : decode cX4_readWord 15 = .ok (.invokevirtual 34, 3) := by decide +kernel
theorem dX4_readWord_18 : decode cX4_readWord 18 = .ok (.iconst 1, 1) := by decide +kernel
theorem dX4_readWord_19 : decode cX4_readWord 19 = .ok (.ireturn, 1) := by decide +kernel
theorem dX4_readSign_0 : decode cX4_readSign 0 = .ok (.aload_n 0, 1) := by decide +kernel
theorem dX4_readSign_1 : decode cX4_readSign 1 = .ok (.getfield 37, 3) := by decide +kernel
theorem dX4_readSign_4 : decode cX4_readSign 4 = .ok (.iconst 3, 1) := by decide +kernel
theorem dX4_readSign_5 : decode cX4_readSign 5 = .ok (.if_icmp .ne 16, 3) := by decide +kernel
theorem dX4_readSign_8 : decode cX4_readSign 8 = .ok (.aload_n 0, 1) := by decide +kernel
theorem dX4_readSign_9 : decode cX4_readSign 9 = .ok (.getfield 9, 3) := by decide +kernel
theorem dX4_readSign_12 : decode cX4_readSign 12 = .ok (.aload_n 0, 1) := by decide +kernel
theorem dX4_readSign_13 : decode cX4_readSign 13 = .ok (.getfield 54, 3) := by decide +kernel
theorem dX4_readSign_16 : decode cX4_readSign 16 = .ok (.baload, 1) := by decide +kernel
theorem dX4_readSign_17 : decode cX4_readSign 17 = .ok (.iload_n 1, 1) := by decide +kernel
theorem dX4_readSign_18 : decode cX4_readSign 18 = .ok (.if_icmp .eq 9, 3) := by decide +kernel
theorem dX4_readSign_21 : decode cX4_readSign 21 = .ok (.aload_n 0, 1) := by decide +kernel
theorem dX4_readSign_22 : decode cX4_readSign 22 = .ok (.iconst 1, 1) := by decide +kernel
theorem dX4_readSign_23 : decode cX4_readSign 23 = .ok (.invokevirtual 44, 3) := by decide +kernel
theorem dX4_readSign_26 : decode cX4_readSign 26 = .ok (.ireturn, 1) := by decide +kernel
theorem dX4_readSign_27 : decode cX4_readSign 27 = .ok (.aload_n 0, 1) := by decide +kernel
theorem dX4_readSign_28 : decode cX4_readSign 28 = .ok (.invokevirtual 34, 3) := by decide +kernel
theorem dX4_readSign_31 : decode cX4_readSign 31 = .ok (.iconst 1, 1) := by decide +kernel
theorem dX4_readSign_32 : decode cX4_readSign 32 = .ok (.ireturn, 1) := by decide +kernel
theorem dX4_readNumber_0 : decode cX4_readNumber 0 = .ok (.aload_n 0, 1) := by decide +kernel
theorem dX4_readNumber_1 : decode cX4_readNumber 1 = .ok (.getfield 37, 3) := by decide +kernel
theorem dX4_readNumber_4 : decode cX4_readNumber 4 = .ok (.iconst 2, 1) := by decide +kernel
theorem dX4_readNumber_5 : decode cX4_readNumber 5 = .ok (.if_icmp .eq 9, 3) := by decide +kernel
theorem dX4_readNumber_8 : decode cX4_readNumber 8 = .ok (.aload_n 0, 1) := by decide +kernel
theorem dX4_readNumber_9 : decode cX4_readNumber 9 = .ok (.iconst 1, 1) := by decide +kernel
theorem dX4_readNumber_10 : decode cX4_readNumber 10 = .ok (.invokevirtual 44, 3) := by decide +kernel
theorem dX4_readNumber_13 : decode cX4_readNumber 13 = .ok (.ireturn, 1) := by decide +kernel
theorem dX4_readNumber_14 : decode cX4_readNumber 14 = .ok (.aload_n 0, 1) := by decide +kernel
theorem dX4_readNumber_15 : decode cX4_readNumber 15 = .ok (.iconst 0, 1) := by decide +kernel
theorem dX4_readNumber_16 : decode cX4_readNumber 16 = .ok (.putfield 89, 3) := by decide +kernel
theorem dX4_readNumber_19 : decode cX4_readNumber 19 = .ok (.aload_n 0, 1) := by decide +kernel
theorem dX4_readNumber_20 : decode cX4_readNumber 20 = .ok (.getfield 54, 3) := by decide +kernel
theorem dX4_readNumber_23 : decode cX4_readNumber 23 = .ok (.istore_n 3, 1) := by decide +kernel
theorem dX4_readNumber_24 : decode cX4_readNumber 24 = .ok (.iload_n 3, 1) := by decide +kernel
theorem dX4_readNumber_25 : decode cX4_readNumber 25 = .ok (.aload_n 0, 1) := by decide +kernel
theorem dX4_readNumber_26 : decode cX4_readNumber 26 = .ok (.getfield 133, 3) := by decide +kernel
theorem dX4_readNumber_29 : decode cX4_readNumber 29 = .ok (.if_icmp .ge 35, 3) := by decide +kernel
theorem dX4_readNumber_32 : decode cX4_readNumber 32 = .ok (.aload_n 0, 1) := by decide +kernel
theorem dX4_readNumber_33 : decode cX4_readNumber 33 = .ok (.aload_n 0, 1) := by decide +kernel
theorem dX4_readNumber_34 : decode cX4_readNumber 34 = .ok (.getfield 89, 3) := by decide +kernel
theorem dX4_readNumber_37 : decode cX4_readNumber 37 = .ok (.bipush 10, 2) := by decide +kernel
theorem dX4_readNumber_39 : decode cX4_readNumber 39 = .ok (.imul, 1) := by decide +kernel
theorem dX4_readNumber_40 : decode cX4_readNumber 40 = .ok (.aload_n 0, 1) := by decide +kernel
theorem dX4_readNumber_41 : decode cX4_readNumber 41 = .ok (.getfield 9, 3) := by decide +kernel
theorem dX4_readNumber_44 : decode cX4_readNumber 44 = .ok (.iload_n 3, 1) := by decide +kernel
theorem dX4_readNumber_45 : decode cX4_readNumber 45 = .ok (.baload, 1) := by decide +kernel
theorem dX4_readNumber_46 : decode cX4_readNumber 46 = .ok (.iadd, 1) := by decide +kernel
theorem dX4_readNumber_47 : decode cX4_readNumber 47 = .ok (.bipush 48, 2) := by decide +kernel
theorem dX4_readNumber_49 : decode cX4_readNumber 49 = .ok (.isub, 1) := by decide +kernel
theorem dX4_readNumber_50 : decode cX4_readNumber 50 = .ok (.ldc 136, 2) := by decide +kernel
theorem dX4_readNumber_52 : decode cX4_readNumber 52 = .ok (.invokestatic 15, 3) := by decide +kernel
theorem dX4_readNumber_55 : decode cX4_readNumber 55 = .ok (.putfield 89, 3) := by decide +kernel
theorem dX4_readNumber_58 : decode cX4_readNumber 58 = .ok (.iinc 3 1, 3) := by decide +kernel
theorem dX4_readNumber_61 : decode cX4_readNumber 61 = .ok (.goto (-37), 3) := by decide +kernel
theorem dX4_readNumber_64 : decode cX4_readNumber 64 = .ok (.aload_n 0, 1) := by decide +kernel
theorem dX4_readNumber_65 : decode cX4_readNumber 65 = .ok (.getfield 89, 3) := by decide +kernel
theorem dX4_readNumber_68 : decode cX4_readNumber 68 = .ok (.iload_n 1, 1) := by decide +kernel
theorem dX4_readNumber_69 : decode cX4_readNumber 69 = .ok (.if_icmp .lt 11, 3) := by decide +kernel
theorem dX4_readNumber_72 : decode cX4_readNumber 72 = .ok (.aload_n 0, 1) := by decide +kernel
theorem dX4_readNumber_73 : decode cX4_readNumber 73 = .ok (.getfield 89, 3) := by decide +kernel
theorem dX4_readNumber_76 : decode cX4_readNumber 76 = .ok (.iload_n 2, 1) := by decide +kernel
theorem dX4_readNumber_77 : decode cX4_readNumber 77 = .ok (.if_icmp .le 9, 3) := by decide +kernel
theorem dX4_readNumber_80 : decode cX4_readNumber 80 = .ok (.aload_n 0, 1) := by decide +kernel
theorem dX4_readNumber_81 : decode cX4_readNumber 81 = .ok (.iconst 2, 1) := by decide +kernel
theorem dX4_readNumber_82 : decode cX4_readNumber 82 = .ok (.invokevirtual 44, 3) := by decide +kernel
theorem dX4_readNumber_85 : decode cX4_readNumber 85 = .ok (.ireturn, 1) := by decide +kernel
theorem dX4_readNumber_86 : decode cX4_readNumber 86 = .ok (.aload_n 0, 1) := by decide +kernel
theorem dX4_readNumber_87 : decode cX4_readNumber 87 = .ok (.invokevirtual 34, 3) := by decide +kernel
theorem dX4_readNumber_90 : decode cX4_readNumber 90 = .ok (.iconst 1, 1) := by decide +kernel
theorem dX4_readNumber_91 : decode cX4_readNumber 91 = .ok (.ireturn, 1) := by decide +kernel
theorem dX4_fail_0 : decode cX4_fail 0 = .ok (.aload_n 0, 1) := by decide +kernel
theorem dX4_fail_1 : decode cX4_fail 1 = .ok (.iload_n 1, 1) := by decide +kernel
theorem dX4_fail_2 : decode cX4_fail 2 = .ok (.putfield 137, 3) := by decide +kernel
theorem dX4_fail_5 : decode cX4_fail 5 = .ok (.aload_n 0, 1) := by decide +kernel
theorem dX4_fail_6 : decode cX4_fail 6 = .ok (.aload_n 0, 1) := by decide +kernel
theorem dX4_fail_7 : decode cX4_fail 7 = .ok (.getfield 54, 3) := by decide +kernel
theorem dX4_fail_10 : decode cX4_fail 10 = .ok (.putfield 31, 3) := by decide +kernel
theorem dX4_fail_13 : decode cX4_fail 13 = .ok (.iconst 0, 1) := by decide +kernel
theorem dX4_fail_14 : decode cX4_fail 14 = .ok (.ireturn, 1) := by decide +kernel
theorem dX4_isWord_0 : decode cX4_isWord 0 = .ok (.aload_n 0, 1) := by decide +kernel
theorem dX4_isWord_1 : decode cX4_isWord 1 = .ok (.getfield 37, 3) := by decide +kernel
theorem dX4_isWord_4 : decode cX4_isWord 4 = .ok (.iconst 1, 1) := by decide +kernel
theorem dX4_isWord_5 : decode cX4_isWord 5 = .ok (.if_icmp .ne 19, 3) := by decide +kernel
theorem dX4_isWord_8 : decode cX4_isWord 8 = .ok (.aload_n 0, 1) := by decide +kernel
theorem dX4_isWord_9 : decode cX4_isWord 9 = .ok (.getfield 133, 3) := by decide +kernel
theorem dX4_isWord_12 : decode cX4_isWord 12 = .ok (.aload_n 0, 1) := by decide +kernel
theorem dX4_isWord_13 : decode cX4_isWord 13 = .ok (.getfield 54, 3) := by decide +kernel
theorem dX4_isWord_16 : decode cX4_isWord 16 = .ok (.isub, 1) := by decide +kernel
theorem dX4_isWord_17 : decode cX4_isWord 17 = .ok (.aload_n 1, 1) := by decide +kernel
theorem dX4_isWord_18 : decode cX4_isWord 18 = .ok (.invokevirtual 140, 3) := by decide +kernel
theorem dX4_isWord_21 : decode cX4_isWord 21 = .ok (.if_icmp .eq 5, 3) := by decide +kernel
theorem dX4_isWord_24 : decode cX4_isWord 24 = .ok (.iconst 0, 1) := by decide +kernel
theorem dX4_isWord_25 : decode cX4_isWord 25 = .ok (.ireturn, 1) := by decide +kernel
theorem dX4_isWord_26 : decode cX4_isWord 26 = .ok (.iconst 0, 1) := by decide +kernel
theorem dX4_isWord_27 : decode cX4_isWord 27 = .ok (.istore_n 2, 1) := by decide +kernel
theorem dX4_isWord_28 : decode cX4_isWord 28 = .ok (.iload_n 2, 1) := by decide +kernel
theorem dX4_isWord_29 : decode cX4_isWord 29 = .ok (.aload_n 1, 1) := by decide +kernel
theorem dX4_isWord_30 : decode cX4_isWord 30 = .ok (.invokevirtual 140, 3) := by decide +kernel
theorem dX4_isWord_33 : decode cX4_isWord 33 = .ok (.if_icmp .ge 30, 3) := by decide +kernel
theorem dX4_isWord_36 : decode cX4_isWord 36 = .ok (.aload_n 0, 1) := by decide +kernel
theorem dX4_isWord_37 : decode cX4_isWord 37 = .ok (.getfield 9, 3) := by decide +kernel
theorem dX4_isWord_40 : decode cX4_isWord 40 = .ok (.aload_n 0, 1) := by decide +kernel
theorem dX4_isWord_41 : decode cX4_isWord 41 = .ok (.getfield 54, 3) := by decide +kernel
theorem dX4_isWord_44 : decode cX4_isWord 44 = .ok (.iload_n 2, 1) := by decide +kernel
theorem dX4_isWord_45 : decode cX4_isWord 45 = .ok (.iadd, 1) := by decide +kernel
theorem dX4_isWord_46 : decode cX4_isWord 46 = .ok (.baload, 1) := by decide +kernel
theorem dX4_isWord_47 : decode cX4_isWord 47 = .ok (.aload_n 1, 1) := by decide +kernel
theorem dX4_isWord_48 : decode cX4_isWord 48 = .ok (.iload_n 2, 1) := by decide +kernel
theorem dX4_isWord_49 : decode cX4_isWord 49 = .ok (.invokevirtual 145, 3) := by decide +kernel
theorem dX4_isWord_52 : decode cX4_isWord 52 = .ok (.if_icmp .eq 5, 3) := by decide +kernel
theorem dX4_isWord_55 : decode cX4_isWord 55 = .ok (.iconst 0, 1) := by decide +kernel
theorem dX4_isWord_56 : decode cX4_isWord 56 = .ok (.ireturn, 1) := by decide +kernel
theorem dX4_isWord_57 : decode cX4_isWord 57 = .ok (.iinc 2 1, 3) := by decide +kernel
theorem dX4_isWord_60 : decode cX4_isWord 60 = .ok (.goto (-32), 3) := by decide +kernel
theorem dX4_isWord_63 : decode cX4_isWord 63 = .ok (.iconst 1, 1) := by decide +kernel
theorem dX4_isWord_64 : decode cX4_isWord 64 = .ok (.ireturn, 1) := by decide +kernel
theorem dX4_step_0 : decode cX4_step 0 = .ok (.aload_n 0, 1) := by decide +kernel
theorem dX4_step_1 : decode cX4_step 1 = .ok (.aload_n 0, 1) := by decide +kernel
theorem dX4_step_2 : decode cX4_step 2 = .ok (.getfield 133, 3) := by decide +kernel
theorem dX4_step_5 : decode cX4_step 5 = .ok (.putfield 54, 3) := by decide +kernel
theorem dX4_step_8 : decode cX4_step 8 = .ok (.aload_n 0, 1) := by decide +kernel
theorem dX4_step_9 : decode cX4_step 9 = .ok (.getfield 54, 3) := by decide +kernel
theorem dX4_step_12 : decode cX4_step 12 = .ok (.aload_n 0, 1) := by decide +kernel
theorem dX4_step_13 : decode cX4_step 13 = .ok (.getfield 21, 3) := by decide +kernel
theorem dX4_step_16 : decode cX4_step 16 = .ok (.if_icmp .ge 28, 3) := by decide +kernel
theorem dX4_step_19 : decode cX4_step 19 = .ok (.aload_n 0, 1) := by decide +kernel
theorem dX4_step_20 : decode cX4_step 20 = .ok (.aload_n 0, 1) := by decide +kernel
theorem dX4_step_21 : decode cX4_step 21 = .ok (.getfield 54, 3) := by decide +kernel
theorem dX4_step_24 : decode cX4_step 24 = .ok (.invokevirtual 149, 3) := by decide +kernel
theorem dX4_step_27 : decode cX4_step 27 = .ok (.iconst 4, 1) := by decide +kernel
theorem dX4_step_28 : decode cX4_step 28 = .ok (.if_icmp .ne 16, 3) := by decide +kernel
theorem dX4_step_31 : decode cX4_step 31 = .ok (.aload_n 0, 1) := by decide +kernel
theorem dX4_step_32 : decode cX4_step 32 = .ok (.dup, 1) := by decide +kernel
theorem dX4_step_33 : decode cX4_step 33 = .ok (.getfield 54, 3) := by decide +kernel
theorem dX4_step_36 : decode cX4_step 36 = .ok (.iconst 1, 1) := by decide +kernel
theorem dX4_step_37 : decode cX4_step 37 = .ok (.iadd, 1) := by decide +kernel
theorem dX4_step_38 : decode cX4_step 38 = .ok (.putfield 54, 3) := by decide +kernel
theorem dX4_step_41 : decode cX4_step 41 = .ok (.goto (-33), 3) := by decide +kernel
theorem dX4_step_44 : decode cX4_step 44 = .ok (.aload_n 0, 1) := by decide +kernel
theorem dX4_step_45 : decode cX4_step 45 = .ok (.aload_n 0, 1) := by decide +kernel
theorem dX4_step_46 : decode cX4_step 46 = .ok (.aload_n 0, 1) := by decide +kernel
theorem dX4_step_47 : decode cX4_step 47 = .ok (.getfield 54, 3) := by decide +kernel
theorem dX4_step_50 : decode cX4_step 50 = .ok (.invokevirtual 149, 3) := by decide +kernel
theorem dX4_step_53 : decode cX4_step 53 = .ok (.putfield 37, 3) := by decide +kernel
theorem dX4_step_56 : decode cX4_step 56 = .ok (.aload_n 0, 1) := by decide +kernel
theorem dX4_step_57 : decode cX4_step 57 = .ok (.aload_n 0, 1) := by decide +kernel
theorem dX4_step_58 : decode cX4_step 58 = .ok (.getfield 54, 3) := by decide +kernel
theorem dX4_step_61 : decode cX4_step 61 = .ok (.iconst 1, 1) := by decide +kernel
theorem dX4_step_62 : decode cX4_step 62 = .ok (.iadd, 1) := by decide +kernel
theorem dX4_step_63 : decode cX4_step 63 = .ok (.aload_n 0, 1) := by decide +kernel
theorem dX4_step_64 : decode cX4_step 64 = .ok (.getfield 21, 3) := by decide +kernel
theorem dX4_step_67 : decode cX4_step 67 = .ok (.invokestatic 15, 3) := by decide +kernel
theorem dX4_step_70 : decode cX4_step 70 = .ok (.putfield 133, 3) := by decide +kernel
theorem dX4_step_73 : decode cX4_step 73 = .ok (.aload_n 0, 1) := by decide +kernel
theorem dX4_step_74 : decode cX4_step 74 = .ok (.getfield 37, 3) := by decide +kernel
theorem dX4_step_77 : decode cX4_step 77 = .ok (.iconst 1, 1) := by decide +kernel
theorem dX4_step_78 : decode cX4_step 78 = .ok (.if_icmp .eq 11, 3) := by decide +kernel
theorem dX4_step_81 : decode cX4_step 81 = .ok (.aload_n 0, 1) := by decide +kernel
theorem dX4_step_82 : decode cX4_step 82 = .ok (.getfield 37, 3) := by decide +kernel
theorem dX4_step_85 : decode cX4_step 85 = .ok (.iconst 2, 1) := by decide +kernel
theorem dX4_step_86 : decode cX4_step 86 = .ok (.if_icmp .ne 42, 3) := by decide +kernel
theorem dX4_step_89 : decode cX4_step 89 = .ok (.aload_n 0, 1) := by decide +kernel
theorem dX4_step_90 : decode cX4_step 90 = .ok (.getfield 133, 3) := by decide +kernel
theorem dX4_step_93 : decode cX4_step 93 = .ok (.aload_n 0, 1) := by decide +kernel
theorem dX4_step_94 : decode cX4_step 94 = .ok (.getfield 21, 3) := by decide +kernel
theorem dX4_step_97 : decode cX4_step 97 = .ok (.if_icmp .ge 31, 3) := by decide +kernel
theorem dX4_step_100 : decode cX4_step 100 = .ok (.aload_n 0, 1) := by decide +kernel
theorem dX4_step_101 : decode cX4_step 101 = .ok (.aload_n 0, 1) := by decide +kernel
theorem dX4_step_102 : decode cX4_step 102 = .ok (.getfield 133, 3) := by decide +kernel
theorem dX4_step_105 : decode cX4_step 105 = .ok (.invokevirtual 149, 3) := by decide +kernel
theorem dX4_step_108 : decode cX4_step 108 = .ok (.aload_n 0, 1) := by decide +kernel
theorem dX4_step_109 : decode cX4_step 109 = .ok (.getfield 37, 3) := by decide +kernel
theorem dX4_step_112 : decode cX4_step 112 = .ok (.if_icmp .ne 16, 3) := by decide +kernel
theorem dX4_step_115 : decode cX4_step 115 = .ok (.aload_n 0, 1) := by decide +kernel
theorem dX4_step_116 : decode cX4_step 116 = .ok (.dup, 1) := by decide +kernel
theorem dX4_step_117 : decode cX4_step 117 = .ok (.getfield 133, 3) := by decide +kernel
theorem dX4_step_120 : decode cX4_step 120 = .ok (.iconst 1, 1) := by decide +kernel
theorem dX4_step_121 : decode cX4_step 121 = .ok (.iadd, 1) := by decide +kernel
theorem dX4_step_122 : decode cX4_step 122 = .ok (.putfield 133, 3) := by decide +kernel
theorem dX4_step_125 : decode cX4_step 125 = .ok (.goto (-36), 3) := by decide +kernel
theorem dX4_step_128 : decode cX4_step 128 = .ok (.return_, 1) := by decide +kernel
theorem dX4_sortAt_0 : decode cX4_sortAt 0 = .ok (.iload_n 1, 1) := by decide +kernel
theorem dX4_sortAt_1 : decode cX4_sortAt 1 = .ok (.ifCond .lt 11, 3) := by decide +kernel
theorem dX4_sortAt_4 : decode cX4_sortAt 4 = .ok (.iload_n 1, 1) := by decide +kernel
theorem dX4_sortAt_5 : decode cX4_sortAt 5 = .ok (.aload_n 0, 1) := by decide +kernel
theorem dX4_sortAt_6 : decode cX4_sortAt 6 = .ok (.getfield 21, 3) := by decide +kernel
theorem dX4_sortAt_9 : decode cX4_sortAt 9 = .ok (.if_icmp .lt 5, 3) := by decide +kernel
theorem dX4_sortAt_12 : decode cX4_sortAt 12 = .ok (.iconst 0, 1) := by decide +kernel
theorem dX4_sortAt_13 : decode cX4_sortAt 13 = .ok (.ireturn, 1) := by decide +kernel
theorem dX4_sortAt_14 : decode cX4_sortAt 14 = .ok (.aload_n 0, 1) := by decide +kernel
theorem dX4_sortAt_15 : decode cX4_sortAt 15 = .ok (.getfield 9, 3) := by decide +kernel
theorem dX4_sortAt_18 : decode cX4_sortAt 18 = .ok (.iload_n 1, 1) := by decide +kernel
theorem dX4_sortAt_19 : decode cX4_sortAt 19 = .ok (.baload, 1) := by decide +kernel
theorem dX4_sortAt_20 : decode cX4_sortAt 20 = .ok (.istore_n 2, 1) := by decide +kernel
theorem dX4_sortAt_21 : decode cX4_sortAt 21 = .ok (.iload_n 2, 1) := by decide +kernel
theorem dX4_sortAt_22 : decode cX4_sortAt 22 = .ok (.bipush 10, 2) := by decide +kernel
theorem dX4_sortAt_24 : decode cX4_sortAt 24 = .ok (.if_icmp .eq 9, 3) := by decide +kernel
theorem dX4_sortAt_27 : decode cX4_sortAt 27 = .ok (.iload_n 2, 1) := by decide +kernel
theorem dX4_sortAt_28 : decode cX4_sortAt 28 = .ok (.bipush 32, 2) := by decide +kernel
theorem dX4_sortAt_30 : decode cX4_sortAt 30 = .ok (.if_icmp .ne 5, 3) := by decide +kernel
theorem dX4_sortAt_33 : decode cX4_sortAt 33 = .ok (.iconst 4, 1) := by decide +kernel
theorem dX4_sortAt_34 : decode cX4_sortAt 34 = .ok (.ireturn, 1) := by decide +kernel
theorem dX4_sortAt_35 : decode cX4_sortAt 35 = .ok (.iload_n 2, 1) := by decide +kernel
theorem dX4_sortAt_36 : decode cX4_sortAt 36 = .ok (.bipush 97, 2) := by decide +kernel
theorem dX4_sortAt_38 : decode cX4_sortAt 38 = .ok (.if_icmp .lt 11, 3) := by decide +kernel
theorem dX4_sortAt_41 : decode cX4_sortAt 41 = .ok (.iload_n 2, 1) := by decide +kernel
theorem dX4_sortAt_42 : decode cX4_sortAt 42 = .ok (.bipush 122, 2) := by decide +kernel
theorem dX4_sortAt_44 : decode cX4_sortAt 44 = .ok (.if_icmp .gt 5, 3) := by decide +kernel
theorem dX4_sortAt_47 : decode cX4_sortAt 47 = .ok (.iconst 1, 1) := by decide +kernel
theorem dX4_sortAt_48 : decode cX4_sortAt 48 = .ok (.ireturn, 1) := by decide +kernel
theorem dX4_sortAt_49 : decode cX4_sortAt 49 = .ok (.iload_n 2, 1) := by decide +kernel
theorem dX4_sortAt_50 : decode cX4_sortAt 50 = .ok (.bipush 48, 2) := by decide +kernel
theorem dX4_sortAt_52 : decode cX4_sortAt 52 = .ok (.if_icmp .lt 13, 3) := by decide +kernel
theorem dX4_sortAt_55 : decode cX4_sortAt 55 = .ok (.iload_n 2, 1) := by decide +kernel
theorem dX4_sortAt_56 : decode cX4_sortAt 56 = .ok (.bipush 57, 2) := by decide +kernel
theorem dX4_sortAt_58 : decode cX4_sortAt 58 = .ok (.if_icmp .gt 7, 3) := by decide +kernel
theorem dX4_sortAt_61 : decode cX4_sortAt 61 = .ok (.iconst 2, 1) := by decide +kernel
theorem dX4_sortAt_62 : decode cX4_sortAt 62 = .ok (.goto 4, 3) := by decide +kernel
theorem dX4_sortAt_65 : decode cX4_sortAt 65 = .ok (.iconst 3, 1) := by decide +kernel
theorem dX4_sortAt_66 : decode cX4_sortAt 66 = .ok (.ireturn, 1) := by decide +kernel
theorem dX5_init_0 : decode cX5_init 0 = .ok (.aload_n 0, 1) := by decide +kernel
theorem dX5_init_1 : decode cX5_init 1 = .ok (.invokespecial 1, 3) := by decide +kernel
theorem dX5_init_4 : decode cX5_init 4 = .ok (.aload_n 0, 1) := by decide +kernel
theorem dX5_init_5 : decode cX5_init 5 = .ok (.sipush 1000, 3) := by decide +kernel
theorem dX5_init_8 : decode cX5_init 8 = .ok (.newarray .byte, 2) := by decide +kernel
theorem dX5_init_10 : decode cX5_init 10 = .ok (.putfield 9, 3) := by decide +kernel
theorem dX5_init_13 : decode cX5_init 13 = .ok (.aload_n 0, 1) := by decide +kernel
theorem dX5_init_14 : decode cX5_init 14 = .ok (.bipush 8, 2) := by decide +kernel
theorem dX5_init_16 : decode cX5_init 16 = .ok (.anewarray 13, 3) := by decide +kernel
theorem dX5_init_19 : decode cX5_init 19 = .ok (.putfield 15, 3) := by decide +kernel
theorem dX5_init_22 : decode cX5_init 22 = .ok (.aload_n 0, 1) := by decide +kernel
theorem dX5_init_23 : decode cX5_init 23 = .ok (.iconst (-1), 1) := by decide +kernel
theorem dX5_init_24 : decode cX5_init 24 = .ok (.putfield 19, 3) := by decide +kernel
theorem dX5_init_27 : decode cX5_init 27 = .ok (.aload_n 0, 1) := by decide +kernel
theorem dX5_init_28 : decode cX5_init 28 = .ok (.bipush 16, 2) := by decide +kernel
theorem dX5_init_30 : decode cX5_init 30 = .ok (.newarray .int, 2) := by decide +kernel
theorem dX5_init_32 : decode cX5_init 32 = .ok (.putfield 23, 3) := by decide +kernel
theorem dX5_init_35 : decode cX5_init 35 = .ok (.aload_n 0, 1) := by decide +kernel
theorem dX5_init_36 : decode cX5_init 36 = .ok (.bipush 8, 2) := by decide +kernel
theorem dX5_init_38 : decode cX5_init 38 = .ok (.anewarray 27, 3) := by decide +kernel
theorem dX5_init_41 : decode cX5_init 41 = .ok (.putfield 29, 3) := by decide +kernel
theorem dX5_init_44 : decode cX5_init 44 = .ok (.aload_n 0, 1) := by decide +kernel
theorem dX5_init_45 : decode cX5_init 45 = .ok (.bipush 16, 2) := by decide +kernel
theorem dX5_init_47 : decode cX5_init 47 = .ok (.newarray .int, 2) := by decide +kernel
theorem dX5_init_49 : decode cX5_init 49 = .ok (.putfield 33, 3) := by decide +kernel
theorem dX5_init_52 : decode cX5_init 52 = .ok (.return_, 1) := by decide +kernel
theorem dX5_feed_0 : decode cX5_feed 0 = .ok (.aload_n 0, 1) := by decide +kernel
theorem dX5_feed_1 : decode cX5_feed 1 = .ok (.getfield 36, 3) := by decide +kernel
theorem dX5_feed_4 : decode cX5_feed 4 = .ok (.bipush 20, 2) := by decide +kernel
theorem dX5_feed_6 : decode cX5_feed 6 = .ok (.iadd, 1) := by decide +kernel
theorem dX5_feed_7 : decode cX5_feed 7 = .ok (.sipush 1000, 3) := by decide +kernel
theorem dX5_feed_10 : decode cX5_feed 10 = .ok (.if_icmp .le 5, 3) := by decide +kernel
theorem dX5_feed_13 : decode cX5_feed 13 = .ok (.iconst (-1), 1) := by decide +kernel
theorem dX5_feed_14 : decode cX5_feed 14 = .ok (.ireturn, 1) := by decide +kernel
theorem dX5_feed_15 : decode cX5_feed 15 = .ok (.aload_n 0, 1) := by decide +kernel
theorem dX5_feed_16 : decode cX5_feed 16 = .ok (.iload_n 1, 1) := by decide +kernel
theorem dX5_feed_17 : decode cX5_feed 17 = .ok (.invokevirtual 39, 3) := by decide +kernel
theorem dX5_feed_20 : decode cX5_feed 20 = .ok (.aload_n 0, 1) := by decide +kernel
theorem dX5_feed_21 : decode cX5_feed 21 = .ok (.iload_n 2, 1) := by decide +kernel
theorem dX5_feed_22 : decode cX5_feed 22 = .ok (.invokevirtual 39, 3) := by decide +kernel
theorem dX5_feed_25 : decode cX5_feed 25 = .ok (.aload_n 0, 1) := by decide +kernel
theorem dX5_feed_26 : decode cX5_feed 26 = .ok (.iload_n 3, 1) := by decide +kernel
theorem dX5_feed_27 : decode cX5_feed 27 = .ok (.invokevirtual 39, 3) := by decide +kernel
theorem dX5_feed_30 : decode cX5_feed 30 = .ok (.aload_n 0, 1) := by decide +kernel
theorem dX5_feed_31 : decode cX5_feed 31 = .ok (.iload 4, 2) := by decide +kernel
theorem dX5_feed_33 : decode cX5_feed 33 = .ok (.invokevirtual 39, 3) := by decide +kernel
theorem dX5_feed_36 : decode cX5_feed 36 = .ok (.aload_n 0, 1) := by decide +kernel
theorem dX5_feed_37 : decode cX5_feed 37 = .ok (.iload 5, 2) := by decide +kernel
theorem dX5_feed_39 : decode cX5_feed 39 = .ok (.invokevirtual 39, 3) := by decide +kernel
theorem dX5_feed_42 : decode cX5_feed 42 = .ok (.aload_n 0, 1) := by decide +kernel
theorem dX5_feed_43 : decode cX5_feed 43 = .ok (.getfield 36, 3) := by decide +kernel
theorem dX5_feed_46 : decode cX5_feed 46 = .ok (.ireturn, 1) := by decide +kernel
theorem dX5_putOnTape_0 : decode cX5_putOnTape 0 = .ok (.bipush 24, 2) := by decide +kernel
theorem dX5_putOnTape_2 : decode cX5_putOnTape 2 = .ok (.istore_n 2, 1) := by decide +kernel
theorem dX5_putOnTape_3 : decode cX5_putOnTape 3 = .ok (.iload_n 2, 1) := by decide +kernel
theorem dX5_putOnTape_4 : decode cX5_putOnTape 4 = .ok (.ifCond .lt 42, 3) := by decide +kernel
theorem dX5_putOnTape_7 : decode cX5_putOnTape 7 = .ok (.aload_n 0, 1) := by decide +kernel
theorem dX5_putOnTape_8 : decode cX5_putOnTape 8 = .ok (.getfield 36, 3) := by decide +kernel
theorem dX5_putOnTape_11 : decode cX5_putOnTape 11 = .ok (.sipush 1000, 3) := by decide +kernel
theorem dX5_putOnTape_14 : decode cX5_putOnTape 14 = .ok (.if_icmp .ge 32, 3) := by decide +kernel
theorem dX5_putOnTape_17 : decode cX5_putOnTape 17 = .ok (.aload_n 0, 1) := by decide +kernel
theorem dX5_putOnTape_18 : decode cX5_putOnTape 18 = .ok (.getfield 9, 3) := by decide +kernel
theorem dX5_putOnTape_21 : decode cX5_putOnTape 21 = .ok (.aload_n 0, 1) := by decide +kernel
theorem dX5_putOnTape_22 : decode cX5_putOnTape 22 = .ok (.getfield 36, 3) := by decide +kernel
theorem dX5_putOnTape_25 : decode cX5_putOnTape 25 = .ok (.iload_n 1, 1) := by decide +kernel
theorem dX5_putOnTape_26 : decode cX5_putOnTape 26 = .ok (.iload_n 2, 1) := by decide +kernel
theorem dX5_putOnTape_27 : decode cX5_putOnTape 27 = .ok (.ishr, 1) := by decide +kernel
theorem dX5_putOnTape_28 : decode cX5_putOnTape 28 = .ok (.i2b, 1) := by decide +kernel
theorem dX5_putOnTape_29 : decode cX5_putOnTape 29 = .ok (.bastore, 1) := by decide +kernel
theorem dX5_putOnTape_30 : decode cX5_putOnTape 30 = .ok (.aload_n 0, 1) := by decide +kernel
theorem dX5_putOnTape_31 : decode cX5_putOnTape 31 = .ok (.dup, 1) := by decide +kernel
theorem dX5_putOnTape_32 : decode cX5_putOnTape 32 = .ok (.getfield 36, 3) := by decide +kernel
theorem dX5_putOnTape_35 : decode cX5_putOnTape 35 = .ok (.iconst 1, 1) := by decide +kernel
theorem dX5_putOnTape_36 : decode cX5_putOnTape 36 = .ok (.iadd, 1) := by decide +kernel
theorem dX5_putOnTape_37 : decode cX5_putOnTape 37 = .ok (.putfield 36, 3) := by decide +kernel
theorem dX5_putOnTape_40 : decode cX5_putOnTape 40 = .ok (.iinc 2 (-8), 3) := by decide +kernel
theorem dX5_putOnTape_43 : decode cX5_putOnTape 43 = .ok (.goto (-40), 3) := by decide +kernel
theorem dX5_putOnTape_46 : decode cX5_putOnTape 46 = .ok (.return_, 1) := by decide +kernel
theorem dX5_formats_0 : decode cX5_formats 0 = .ok (.iload_n 1, 1) := by decide +kernel
theorem dX5_formats_1 : decode cX5_formats 1 = .ok (.ifCond .lt 11, 3) := by decide +kernel
theorem dX5_formats_4 : decode cX5_formats 4 = .ok (.iload_n 1, 1) := by decide +kernel
theorem dX5_formats_5 : decode cX5_formats 5 = .ok (.aload_n 0, 1) := by decide +kernel
theorem dX5_formats_6 : decode cX5_formats 6 = .ok (.getfield 36, 3) := by decide +kernel
theorem dX5_formats_9 : decode cX5_formats 9 = .ok (.if_icmp .le 6, 3) := by decide +kernel
theorem dX5_formats_12 : decode cX5_formats 12 = .ok (.bipush (-2), 2) := by decide +kernel
theorem dX5_formats_14 : decode cX5_formats 14 = .ok (.ireturn, 1) := by decide +kernel
theorem dX5_formats_15 : decode cX5_formats 15 = .ok (.new 43, 3) := by decide +kernel
theorem dX5_formats_18 : decode cX5_formats 18 = .ok (.dup, 1) := by decide +kernel
theorem dX5_formats_19 : decode cX5_formats 19 = .ok (.aload_n 0, 1) := by decide +kernel
theorem dX5_formats_20 : decode cX5_formats 20 = .ok (.getfield 9, 3) := by decide +kernel
theorem dX5_formats_23 : decode cX5_formats 23 = .ok (.iload_n 1, 1) := by decide +kernel
theorem dX5_formats_24 : decode cX5_formats 24 = .ok (.invokespecial 45, 3) := by decide +kernel
theorem dX5_formats_27 : decode cX5_formats 27 = .ok (.astore_n 2, 1) := by decide +kernel
theorem dX5_formats_28 : decode cX5_formats 28 = .ok (.aload_n 2, 1) := by decide +kernel
theorem dX5_formats_29 : decode cX5_formats 29 = .ok (.invokevirtual 48, 3) := by decide +kernel
theorem dX5_formats_32 : decode cX5_formats 32 = .ok (.istore_n 3, 1) := by decide +kernel
theorem dX5_formats_33 : decode cX5_formats 33 = .ok (.aload_n 0, 1) := by decide +kernel
theorem dX5_formats_34 : decode cX5_formats 34 = .ok (.iconst 0, 1) := by decide +kernel
theorem dX5_formats_35 : decode cX5_formats 35 = .ok (.putfield 36, 3) := by decide +kernel
theorem dX5_formats_38 : decode cX5_formats 38 = .ok (.aload_n 0, 1) := by decide +kernel
theorem dX5_formats_39 : decode cX5_formats 39 = .ok (.aload_n 2, 1) := by decide +kernel
theorem dX5_formats_40 : decode cX5_formats 40 = .ok (.getfield 52, 3) := by decide +kernel
theorem dX5_formats_43 : decode cX5_formats 43 = .ok (.putfield 55, 3) := by decide +kernel
theorem dX5_formats_46 : decode cX5_formats 46 = .ok (.aload_n 0, 1) := by decide +kernel
theorem dX5_formats_47 : decode cX5_formats 47 = .ok (.aload_n 2, 1) := by decide +kernel
theorem dX5_formats_48 : decode cX5_formats 48 = .ok (.getfield 58, 3) := by decide +kernel
theorem dX5_formats_51 : decode cX5_formats 51 = .ok (.putfield 19, 3) := by decide +kernel
theorem dX5_formats_54 : decode cX5_formats 54 = .ok (.iload_n 3, 1) := by decide +kernel
theorem dX5_formats_55 : decode cX5_formats 55 = .ok (.ifCond .ne 5, 3) := by decide +kernel
theorem dX5_formats_58 : decode cX5_formats 58 = .ok (.iconst (-1), 1) := by decide +kernel
theorem dX5_formats_59 : decode cX5_formats 59 = .ok (.ireturn, 1) := by decide +kernel
theorem dX5_formats_60 : decode cX5_formats 60 = .ok (.aload_n 0, 1) := by decide +kernel
theorem dX5_formats_61 : decode cX5_formats 61 = .ok (.aload_n 2, 1) := by decide +kernel
theorem dX5_formats_62 : decode cX5_formats 62 = .ok (.getfield 61, 3) := by decide +kernel
theorem dX5_formats_65 : decode cX5_formats 65 = .ok (.putfield 15, 3) := by decide +kernel
theorem dX5_formats_68 : decode cX5_formats 68 = .ok (.aload_n 0, 1) := by decide +kernel
theorem dX5_formats_69 : decode cX5_formats 69 = .ok (.aload_n 2, 1) := by decide +kernel
theorem dX5_formats_70 : decode cX5_formats 70 = .ok (.getfield 64, 3) := by decide +kernel
theorem dX5_formats_73 : decode cX5_formats 73 = .ok (.putfield 67, 3) := by decide +kernel
theorem dX5_formats_76 : decode cX5_formats 76 = .ok (.aload_n 0, 1) := by decide +kernel
theorem dX5_formats_77 : decode cX5_formats 77 = .ok (.getfield 67, 3) := by decide +kernel
theorem dX5_formats_80 : decode cX5_formats 80 = .ok (.ireturn, 1) := by decide +kernel
theorem dX5_fault_0 : decode cX5_fault 0 = .ok (.iload_n 1, 1) := by decide +kernel
theorem dX5_fault_1 : decode cX5_fault 1 = .ok (.lookupswitch 37 #[(0, 27), (1, 32)], 27) := by decide +kernel
theorem dX5_fault_28 : decode cX5_fault 28 = .ok (.aload_n 0, 1) := by decide +kernel
theorem dX5_fault_29 : decode cX5_fault 29 = .ok (.getfield 55, 3) := by decide +kernel
theorem dX5_fault_32 : decode cX5_fault 32 = .ok (.ireturn, 1) := by decide +kernel
theorem dX5_fault_33 : decode cX5_fault 33 = .ok (.aload_n 0, 1) := by decide +kernel
theorem dX5_fault_34 : decode cX5_fault 34 = .ok (.getfield 19, 3) := by decide +kernel
theorem dX5_fault_37 : decode cX5_fault 37 = .ok (.ireturn, 1) := by decide +kernel
theorem dX5_fault_38 : decode cX5_fault 38 = .ok (.iconst (-1), 1) := by decide +kernel
theorem dX5_fault_39 : decode cX5_fault 39 = .ok (.ireturn, 1) := by decide +kernel
theorem dX5_pass_0 : decode cX5_pass 0 = .ok (.iload_n 1, 1) := by decide +kernel
theorem dX5_pass_1 : decode cX5_pass 1 = .ok (.ifCond .lt 15, 3) := by decide +kernel
theorem dX5_pass_4 : decode cX5_pass 4 = .ok (.iload_n 1, 1) := by decide +kernel
theorem dX5_pass_5 : decode cX5_pass 5 = .ok (.sipush 200, 3) := by decide +kernel
theorem dX5_pass_8 : decode cX5_pass 8 = .ok (.aload_n 0, 1) := by decide +kernel
theorem dX5_pass_9 : decode cX5_pass 9 = .ok (.getfield 70, 3) := by decide +kernel
theorem dX5_pass_12 : decode cX5_pass 12 = .ok (.isub, 1) := by decide +kernel
theorem dX5_pass_13 : decode cX5_pass 13 = .ok (.if_icmp .le 5, 3) := by decide +kernel
theorem dX5_pass_16 : decode cX5_pass 16 = .ok (.iconst (-1), 1) := by decide +kernel
theorem dX5_pass_17 : decode cX5_pass 17 = .ok (.ireturn, 1) := by decide +kernel
theorem dX5_pass_18 : decode cX5_pass 18 = .ok (.aload_n 0, 1) := by decide +kernel
theorem dX5_pass_19 : decode cX5_pass 19 = .ok (.dup, 1) := by decide +kernel
theorem dX5_pass_20 : decode cX5_pass 20 = .ok (.getfield 70, 3) := by decide +kernel
theorem dX5_pass_23 : decode cX5_pass 23 = .ok (.iload_n 1, 1) := by decide +kernel
theorem dX5_pass_24 : decode cX5_pass 24 = .ok (.iadd, 1) := by decide +kernel
theorem dX5_pass_25 : decode cX5_pass 25 = .ok (.putfield 70, 3) := by decide +kernel
theorem dX5_pass_28 : decode cX5_pass 28 = .ok (.aload_n 0, 1) := by decide +kernel
theorem dX5_pass_29 : decode cX5_pass 29 = .ok (.getfield 70, 3) := by decide +kernel
theorem dX5_pass_32 : decode cX5_pass 32 = .ok (.ireturn, 1) := by decide +kernel
theorem dX5_racer_0 : decode cX5_racer 0 = .ok (.iload_n 1, 1) := by decide +kernel
theorem dX5_racer_1 : decode cX5_racer 1 = .ok (.invokestatic 73, 3) := by decide +kernel
theorem dX5_racer_4 : decode cX5_racer 4 = .ok (.ifCond .eq 12, 3) := by decide +kernel
theorem dX5_racer_7 : decode cX5_racer 7 = .ok (.aload_n 0, 1) := by decide +kernel
theorem dX5_racer_8 : decode cX5_racer 8 = .ok (.getfield 77, 3) := by decide +kernel
theorem dX5_racer_11 : decode cX5_racer 11 = .ok (.bipush 16, 2) := by decide +kernel
theorem dX5_racer_13 : decode cX5_racer 13 = .ok (.if_icmp .lt 5, 3) := by decide +kernel
theorem dX5_racer_16 : decode cX5_racer 16 = .ok (.iconst (-1), 1) := by decide +kernel
theorem dX5_racer_17 : decode cX5_racer 17 = .ok (.ireturn, 1) := by decide +kernel
theorem dX5_racer_18 : decode cX5_racer 18 = .ok (.aload_n 0, 1) := by decide +kernel
theorem dX5_racer_19 : decode cX5_racer 19 = .ok (.getfield 23, 3) := by decide +kernel
theorem dX5_racer_22 : decode cX5_racer 22 = .ok (.aload_n 0, 1) := by decide +kernel
theorem dX5_racer_23 : decode cX5_racer 23 = .ok (.getfield 77, 3) := by decide +kernel
theorem dX5_racer_26 : decode cX5_racer 26 = .ok (.iload_n 1, 1) := by decide +kernel
theorem dX5_racer_27 : decode cX5_racer 27 = .ok (.iastore, 1) := by decide +kernel
theorem dX5_racer_28 : decode cX5_racer 28 = .ok (.aload_n 0, 1) := by decide +kernel
theorem dX5_racer_29 : decode cX5_racer 29 = .ok (.dup, 1) := by decide +kernel
theorem dX5_racer_30 : decode cX5_racer 30 = .ok (.getfield 77, 3) := by decide +kernel
theorem dX5_racer_33 : decode cX5_racer 33 = .ok (.iconst 1, 1) := by decide +kernel
theorem dX5_racer_34 : decode cX5_racer 34 = .ok (.iadd, 1) := by decide +kernel
theorem dX5_racer_35 : decode cX5_racer 35 = .ok (.putfield 77, 3) := by decide +kernel
theorem dX5_racer_38 : decode cX5_racer 38 = .ok (.aload_n 0, 1) := by decide +kernel
theorem dX5_racer_39 : decode cX5_racer 39 = .ok (.getfield 77, 3) := by decide +kernel
theorem dX5_racer_42 : decode cX5_racer 42 = .ok (.iconst 1, 1) := by decide +kernel
theorem dX5_racer_43 : decode cX5_racer 43 = .ok (.isub, 1) := by decide +kernel
theorem dX5_racer_44 : decode cX5_racer 44 = .ok (.ireturn, 1) := by decide +kernel
theorem dX5_race_0 : decode cX5_race 0 = .ok (.iload_n 1, 1) := by decide +kernel
theorem dX5_race_1 : decode cX5_race 1 = .ok (.ifCond .lt 18, 3) := by decide +kernel
theorem dX5_race_4 : decode cX5_race 4 = .ok (.iload_n 1, 1) := by decide +kernel
theorem dX5_race_5 : decode cX5_race 5 = .ok (.bipush 8, 2) := by decide +kernel
theorem dX5_race_7 : decode cX5_race 7 = .ok (.if_icmp .ge 12, 3) := by decide +kernel
theorem dX5_race_10 : decode cX5_race 10 = .ok (.aload_n 0, 1) := by decide +kernel
theorem dX5_race_11 : decode cX5_race 11 = .ok (.getfield 80, 3) := by decide +kernel
theorem dX5_race_14 : decode cX5_race 14 = .ok (.bipush 8, 2) := by decide +kernel
theorem dX5_race_16 : decode cX5_race 16 = .ok (.if_icmp .lt 5, 3) := by decide +kernel
theorem dX5_race_19 : decode cX5_race 19 = .ok (.iconst (-1), 1) := by decide +kernel
theorem dX5_race_20 : decode cX5_race 20 = .ok (.ireturn, 1) := by decide +kernel
theorem dX5_race_21 : decode cX5_race 21 = .ok (.aload_n 0, 1) := by decide +kernel
theorem dX5_race_22 : decode cX5_race 22 = .ok (.getfield 15, 3) := by decide +kernel
theorem dX5_race_25 : decode cX5_race 25 = .ok (.iload_n 1, 1) := by decide +kernel
theorem dX5_race_26 : decode cX5_race 26 = .ok (.aaload, 1) := by decide +kernel
theorem dX5_race_27 : decode cX5_race 27 = .ok (.astore_n 3, 1) := by decide +kernel
theorem dX5_race_28 : decode cX5_race 28 = .ok (.aload_n 3, 1) := by decide +kernel
theorem dX5_race_29 : decode cX5_race 29 = .ok (.ifnonnull 5, 3) := by decide +kernel
theorem dX5_race_32 : decode cX5_race 32 = .ok (.iconst (-1), 1) := by decide +kernel
theorem dX5_race_33 : decode cX5_race 33 = .ok (.ireturn, 1) := by decide +kernel
theorem dX5_race_34 : decode cX5_race 34 = .ok (.aload_n 0, 1) := by decide +kernel
theorem dX5_race_35 : decode cX5_race 35 = .ok (.iload_n 2, 1) := by decide +kernel
theorem dX5_race_36 : decode cX5_race 36 = .ok (.invokevirtual 83, 3) := by decide +kernel
theorem dX5_race_39 : decode cX5_race 39 = .ok (.astore 4, 2) := by decide +kernel
theorem dX5_race_41 : decode cX5_race 41 = .ok (.aload_n 3, 1) := by decide +kernel
theorem dX5_race_42 : decode cX5_race 42 = .ok (.getfield 87, 3) := by decide +kernel
theorem dX5_race_45 : decode cX5_race 45 = .ok (.iconst 2, 1) := by decide +kernel
theorem dX5_race_46 : decode cX5_race 46 = .ok (.if_icmp .ne 16, 3) := by decide +kernel
theorem dX5_race_49 : decode cX5_race 49 = .ok (.aload 4, 2) := by decide +kernel
theorem dX5_race_51 : decode cX5_race 51 = .ok (.ifnull 7, 3) := by decide +kernel
theorem dX5_race_54 : decode cX5_race 54 = .ok (.iconst 1, 1) := by decide +kernel
theorem dX5_race_55 : decode cX5_race 55 = .ok (.goto 17, 3) := by decide +kernel
theorem dX5_race_58 : decode cX5_race 58 = .ok (.iconst 0, 1) := by decide +kernel
theorem dX5_race_59 : decode cX5_race 59 = .ok (.goto 13, 3) := by decide +kernel
theorem dX5_race_62 : decode cX5_race 62 = .ok (.iload_n 2, 1) := by decide +kernel
theorem dX5_race_63 : decode cX5_race 63 = .ok (.iconst (-1), 1) := by decide +kernel
theorem dX5_race_64 : decode cX5_race 64 = .ok (.if_icmp .ne 7, 3) := by decide +kernel
theorem dX5_race_67 : decode cX5_race 67 = .ok (.iconst 1, 1) := by decide +kernel
theorem dX5_race_68 : decode cX5_race 68 = .ok (.goto 4, 3) := by decide +kernel
theorem dX5_race_71 : decode cX5_race 71 = .ok (.iconst 0, 1) := by decide +kernel
theorem dX5_race_72 : decode cX5_race 72 = .ok (.istore 5, 2) := by decide +kernel
theorem dX5_race_74 : decode cX5_race 74 = .ok (.iload 5, 2) := by decide +kernel
theorem dX5_race_76 : decode cX5_race 76 = .ok (.ifCond .ne 5, 3) := by decide +kernel
theorem dX5_race_79 : decode cX5_race 79 = .ok (.iconst (-1), 1) := by decide +kernel
theorem dX5_race_80 : decode cX5_race 80 = .ok (.ireturn, 1) := by decide +kernel
theorem dX5_race_81 : decode cX5_race 81 = .ok (.aload_n 0, 1) := by decide +kernel
theorem dX5_race_82 : decode cX5_race 82 = .ok (.getfield 29, 3) := by decide +kernel
theorem dX5_race_85 : decode cX5_race 85 = .ok (.aload_n 0, 1) := by decide +kernel
theorem dX5_race_86 : decode cX5_race 86 = .ok (.getfield 80, 3) := by decide +kernel
theorem dX5_race_89 : decode cX5_race 89 = .ok (.new 27, 3) := by decide +kernel
theorem dX5_race_92 : decode cX5_race 92 = .ok (.dup, 1) := by decide +kernel
theorem dX5_race_93 : decode cX5_race 93 = .ok (.aload_n 3, 1) := by decide +kernel
theorem dX5_race_94 : decode cX5_race 94 = .ok (.aload 4, 2) := by decide +kernel
theorem dX5_race_96 : decode cX5_race 96 = .ok (.iload_n 2, 1) := by decide +kernel
theorem dX5_race_97 : decode cX5_race 97 = .ok (.invokespecial 90, 3) := by decide +kernel
theorem dX5_race_100 : decode cX5_race 100 = .ok (.aastore, 1) := by decide +kernel
theorem dX5_race_101 : decode cX5_race 101 = .ok (.aload_n 0, 1) := by decide +kernel
theorem dX5_race_102 : decode cX5_race 102 = .ok (.dup, 1) := by decide +kernel
theorem dX5_race_103 : decode cX5_race 103 = .ok (.getfield 80, 3) := by decide +kernel
theorem dX5_race_106 : decode cX5_race 106 = .ok (.iconst 1, 1) := by decide +kernel
theorem dX5_race_107 : decode cX5_race 107 = .ok (.iadd, 1) := by decide +kernel
theorem dX5_race_108 : decode cX5_race 108 = .ok (.putfield 80, 3) := by decide +kernel
theorem dX5_race_111 : decode cX5_race 111 = .ok (.aload_n 0, 1) := by decide +kernel
theorem dX5_race_112 : decode cX5_race 112 = .ok (.getfield 80, 3) := by decide +kernel
theorem dX5_race_115 : decode cX5_race 115 = .ok (.iconst 1, 1) := by decide +kernel
theorem dX5_race_116 : decode cX5_race 116 = .ok (.isub, 1) := by decide +kernel
theorem dX5_race_117 : decode cX5_race 117 = .ok (.ireturn, 1) := by decide +kernel
theorem dX5_enter_0 : decode cX5_enter 0 = .ok (.aload_n 0, 1) := by decide +kernel
theorem dX5_enter_1 : decode cX5_enter 1 = .ok (.iload_n 1, 1) := by decide +kernel
theorem dX5_enter_2 : decode cX5_enter 2 = .ok (.invokevirtual 83, 3) := by decide +kernel
theorem dX5_enter_5 : decode cX5_enter 5 = .ok (.astore_n 3, 1) := by decide +kernel
theorem dX5_enter_6 : decode cX5_enter 6 = .ok (.aload_n 3, 1) := by decide +kernel
theorem dX5_enter_7 : decode cX5_enter 7 = .ok (.ifnull 26, 3) := by decide +kernel
theorem dX5_enter_10 : decode cX5_enter 10 = .ok (.aload_n 0, 1) := by decide +kernel
theorem dX5_enter_11 : decode cX5_enter 11 = .ok (.iload_n 2, 1) := by decide +kernel
theorem dX5_enter_12 : decode cX5_enter 12 = .ok (.invokevirtual 93, 3) := by decide +kernel
theorem dX5_enter_15 : decode cX5_enter 15 = .ok (.ifCond .eq 18, 3) := by decide +kernel
theorem dX5_enter_18 : decode cX5_enter 18 = .ok (.aload_n 3, 1) := by decide +kernel
theorem dX5_enter_19 : decode cX5_enter 19 = .ok (.getfield 96, 3) := by decide +kernel
theorem dX5_enter_22 : decode cX5_enter 22 = .ok (.ifCond .gt 11, 3) := by decide +kernel
theorem dX5_enter_25 : decode cX5_enter 25 = .ok (.aload_n 3, 1) := by decide +kernel
theorem dX5_enter_26 : decode cX5_enter 26 = .ok (.iload_n 2, 1) := by decide +kernel
theorem dX5_enter_27 : decode cX5_enter 27 = .ok (.invokevirtual 99, 3) := by decide +kernel
theorem dX5_enter_30 : decode cX5_enter 30 = .ok (.ifnull 5, 3) := by decide +kernel
theorem dX5_enter_33 : decode cX5_enter 33 = .ok (.iconst (-1), 1) := by decide +kernel
theorem dX5_enter_34 : decode cX5_enter 34 = .ok (.ireturn, 1) := by decide +kernel
theorem dX5_enter_35 : decode cX5_enter 35 = .ok (.aload_n 3, 1) := by decide +kernel
theorem dX5_enter_36 : decode cX5_enter 36 = .ok (.iload_n 2, 1) := by decide +kernel
theorem dX5_enter_37 : decode cX5_enter 37 = .ok (.invokevirtual 103, 3) := by decide +kernel
theorem dX5_enter_40 : decode cX5_enter 40 = .ok (.aload_n 3, 1) := by decide +kernel
theorem dX5_enter_41 : decode cX5_enter 41 = .ok (.getfield 106, 3) := by decide +kernel
theorem dX5_enter_44 : decode cX5_enter 44 = .ok (.ireturn, 1) := by decide +kernel
theorem dX5_tell_0 : decode cX5_tell 0 = .ok (.aload_n 0, 1) := by decide +kernel
theorem dX5_tell_1 : decode cX5_tell 1 = .ok (.iload_n 1, 1) := by decide +kernel
theorem dX5_tell_2 : decode cX5_tell 2 = .ok (.invokevirtual 83, 3) := by decide +kernel
theorem dX5_tell_5 : decode cX5_tell 5 = .ok (.astore 6, 2) := by decide +kernel
theorem dX5_tell_7 : decode cX5_tell 7 = .ok (.aload 6, 2) := by decide +kernel
theorem dX5_tell_9 : decode cX5_tell 9 = .ok (.ifnull 13, 3) := by decide +kernel
theorem dX5_tell_12 : decode cX5_tell 12 = .ok (.aload_n 0, 1) := by decide +kernel
theorem dX5_tell_13 : decode cX5_tell 13 = .ok (.getfield 109, 3) := by decide +kernel
theorem dX5_tell_16 : decode cX5_tell 16 = .ok (.sipush 400, 3) := by decide +kernel
theorem dX5_tell_19 : decode cX5_tell 19 = .ok (.if_icmp .lt 5, 3) := by decide +kernel
theorem dX5_tell_22 : decode cX5_tell 22 = .ok (.iconst (-1), 1) := by decide +kernel
theorem dX5_tell_23 : decode cX5_tell 23 = .ok (.ireturn, 1) := by decide +kernel
theorem dX5_tell_24 : decode cX5_tell 24 = .ok (.aload 6, 2) := by decide +kernel
theorem dX5_tell_26 : decode cX5_tell 26 = .ok (.iload_n 2, 1) := by decide +kernel
theorem dX5_tell_27 : decode cX5_tell 27 = .ok (.invokevirtual 99, 3) := by decide +kernel
theorem dX5_tell_30 : decode cX5_tell 30 = .ok (.astore 7, 2) := by decide +kernel
end
section
theorem dX5_tell_32 : decode cX5_tell 32 = .ok (.aload 7, 2) := by decide +kernel
theorem dX5_tell_34 : decode cX5_tell 34 = .ok (.ifnull 26, 3) := by decide +kernel
theorem dX5_tell_37 : decode cX5_tell 37 = .ok (.aload 6, 2) := by decide +kernel
theorem dX5_tell_39 : decode cX5_tell 39 = .ok (.getfield 112, 3) := by decide +kernel
theorem dX5_tell_42 : decode cX5_tell 42 = .ok (.iload_n 3, 1) := by decide +kernel
theorem dX5_tell_43 : decode cX5_tell 43 = .ok (.iload 4, 2) := by decide +kernel
theorem dX5_tell_45 : decode cX5_tell 45 = .ok (.invokevirtual 116, 3) := by decide +kernel
theorem dX5_tell_48 : decode cX5_tell 48 = .ok (.ifCond .eq 12, 3) := by decide +kernel
theorem dX5_tell_51 : decode cX5_tell 51 = .ok (.iload_n 3, 1) := by decide +kernel
theorem dX5_tell_52 : decode cX5_tell 52 = .ok (.iload 5, 2) := by decide +kernel
theorem dX5_tell_54 : decode cX5_tell 54 = .ok (.invokestatic 120, 3) := by decide +kernel
theorem dX5_tell_57 : decode cX5_tell 57 = .ok (.ifCond .ne 5, 3) := by decide +kernel
theorem dX5_tell_60 : decode cX5_tell 60 = .ok (.iconst (-1), 1) := by decide +kernel
theorem dX5_tell_61 : decode cX5_tell 61 = .ok (.ireturn, 1) := by decide +kernel
theorem dX5_tell_62 : decode cX5_tell 62 = .ok (.aload 7, 2) := by decide +kernel
theorem dX5_tell_64 : decode cX5_tell 64 = .ok (.new 123, 3) := by decide +kernel
theorem dX5_tell_67 : decode cX5_tell 67 = .ok (.dup, 1) := by decide +kernel
theorem dX5_tell_68 : decode cX5_tell 68 = .ok (.aload_n 0, 1) := by decide +kernel
theorem dX5_tell_69 : decode cX5_tell 69 = .ok (.getfield 70, 3) := by decide +kernel
theorem dX5_tell_72 : decode cX5_tell 72 = .ok (.iload_n 3, 1) := by decide +kernel
theorem dX5_tell_73 : decode cX5_tell 73 = .ok (.iload 4, 2) := by decide +kernel
theorem dX5_tell_75 : decode cX5_tell 75 = .ok (.iload 5, 2) := by decide +kernel
theorem dX5_tell_77 : decode cX5_tell 77 = .ok (.aload 7, 2) := by decide +kernel
theorem dX5_tell_79 : decode cX5_tell 79 = .ok (.getfield 125, 3) := by decide +kernel
theorem dX5_tell_82 : decode cX5_tell 82 = .ok (.invokespecial 131, 3) := by decide +kernel
theorem dX5_tell_85 : decode cX5_tell 85 = .ok (.putfield 125, 3) := by decide +kernel
theorem dX5_tell_88 : decode cX5_tell 88 = .ok (.aload 6, 2) := by decide +kernel
theorem dX5_tell_90 : decode cX5_tell 90 = .ok (.dup, 1) := by decide +kernel
theorem dX5_tell_91 : decode cX5_tell 91 = .ok (.getfield 96, 3) := by decide +kernel
theorem dX5_tell_94 : decode cX5_tell 94 = .ok (.iconst 1, 1) := by decide +kernel
theorem dX5_tell_95 : decode cX5_tell 95 = .ok (.iadd, 1) := by decide +kernel
theorem dX5_tell_96 : decode cX5_tell 96 = .ok (.putfield 96, 3) := by decide +kernel
theorem dX5_tell_99 : decode cX5_tell 99 = .ok (.aload_n 0, 1) := by decide +kernel
theorem dX5_tell_100 : decode cX5_tell 100 = .ok (.dup, 1) := by decide +kernel
theorem dX5_tell_101 : decode cX5_tell 101 = .ok (.getfield 109, 3) := by decide +kernel
theorem dX5_tell_104 : decode cX5_tell 104 = .ok (.iconst 1, 1) := by decide +kernel
theorem dX5_tell_105 : decode cX5_tell 105 = .ok (.iadd, 1) := by decide +kernel
theorem dX5_tell_106 : decode cX5_tell 106 = .ok (.putfield 109, 3) := by decide +kernel
theorem dX5_tell_109 : decode cX5_tell 109 = .ok (.aload_n 0, 1) := by decide +kernel
theorem dX5_tell_110 : decode cX5_tell 110 = .ok (.getfield 109, 3) := by decide +kernel
theorem dX5_tell_113 : decode cX5_tell 113 = .ok (.ireturn, 1) := by decide +kernel
theorem dX5_look_0 : decode cX5_look 0 = .ok (.aload_n 0, 1) := by decide +kernel
theorem dX5_look_1 : decode cX5_look 1 = .ok (.iload_n 1, 1) := by decide +kernel
theorem dX5_look_2 : decode cX5_look 2 = .ok (.invokevirtual 83, 3) := by decide +kernel
theorem dX5_look_5 : decode cX5_look 5 = .ok (.astore_n 3, 1) := by decide +kernel
theorem dX5_look_6 : decode cX5_look 6 = .ok (.aload_n 3, 1) := by decide +kernel
theorem dX5_look_7 : decode cX5_look 7 = .ok (.ifnonnull 13, 3) := by decide +kernel
theorem dX5_look_10 : decode cX5_look 10 = .ok (.new 134, 3) := by decide +kernel
theorem dX5_look_13 : decode cX5_look 13 = .ok (.dup, 1) := by decide +kernel
theorem dX5_look_14 : decode cX5_look 14 = .ok (.ldc 136, 2) := by decide +kernel
theorem dX5_look_16 : decode cX5_look 16 = .ok (.invokespecial 138, 3) := by decide +kernel
theorem dX5_look_19 : decode cX5_look 19 = .ok (.athrow, 1) := by decide +kernel
theorem dX5_look_20 : decode cX5_look 20 = .ok (.iload_n 2, 1) := by decide +kernel
theorem dX5_look_21 : decode cX5_look 21 = .ok (.tableswitch 90 0 6 #[43, 51, 59, 67, 75, 80, 85], 43) := by decide +kernel
theorem dX5_look_64 : decode cX5_look 64 = .ok (.aload_n 3, 1) := by decide +kernel
theorem dX5_look_65 : decode cX5_look 65 = .ok (.getfield 112, 3) := by decide +kernel
theorem dX5_look_68 : decode cX5_look 68 = .ok (.getfield 141, 3) := by decide +kernel
theorem dX5_look_71 : decode cX5_look 71 = .ok (.ireturn, 1) := by decide +kernel
theorem dX5_look_72 : decode cX5_look 72 = .ok (.aload_n 3, 1) := by decide +kernel
theorem dX5_look_73 : decode cX5_look 73 = .ok (.getfield 112, 3) := by decide +kernel
theorem dX5_look_76 : decode cX5_look 76 = .ok (.getfield 144, 3) := by decide +kernel
theorem dX5_look_79 : decode cX5_look 79 = .ok (.ireturn, 1) := by decide +kernel
theorem dX5_look_80 : decode cX5_look 80 = .ok (.aload_n 3, 1) := by decide +kernel
theorem dX5_look_81 : decode cX5_look 81 = .ok (.getfield 112, 3) := by decide +kernel
theorem dX5_look_84 : decode cX5_look 84 = .ok (.getfield 147, 3) := by decide +kernel
theorem dX5_look_87 : decode cX5_look 87 = .ok (.ireturn, 1) := by decide +kernel
theorem dX5_look_88 : decode cX5_look 88 = .ok (.aload_n 3, 1) := by decide +kernel
theorem dX5_look_89 : decode cX5_look 89 = .ok (.getfield 112, 3) := by decide +kernel
theorem dX5_look_92 : decode cX5_look 92 = .ok (.getfield 150, 3) := by decide +kernel
theorem dX5_look_95 : decode cX5_look 95 = .ok (.ireturn, 1) := by decide +kernel
theorem dX5_look_96 : decode cX5_look 96 = .ok (.aload_n 3, 1) := by decide +kernel
theorem dX5_look_97 : decode cX5_look 97 = .ok (.getfield 153, 3) := by decide +kernel
theorem dX5_look_100 : decode cX5_look 100 = .ok (.ireturn, 1) := by decide +kernel
theorem dX5_look_101 : decode cX5_look 101 = .ok (.aload_n 3, 1) := by decide +kernel
theorem dX5_look_102 : decode cX5_look 102 = .ok (.getfield 106, 3) := by decide +kernel
theorem dX5_look_105 : decode cX5_look 105 = .ok (.ireturn, 1) := by decide +kernel
theorem dX5_look_106 : decode cX5_look 106 = .ok (.aload_n 3, 1) := by decide +kernel
theorem dX5_look_107 : decode cX5_look 107 = .ok (.getfield 96, 3) := by decide +kernel
theorem dX5_look_110 : decode cX5_look 110 = .ok (.ireturn, 1) := by decide +kernel
theorem dX5_look_111 : decode cX5_look 111 = .ok (.new 156, 3) := by decide +kernel
theorem dX5_look_114 : decode cX5_look 114 = .ok (.dup, 1) := by decide +kernel
theorem dX5_look_115 : decode cX5_look 115 = .ok (.ldc 158, 2) := by decide +kernel
theorem dX5_look_117 : decode cX5_look 117 = .ok (.invokespecial 160, 3) := by decide +kernel
theorem dX5_look_120 : decode cX5_look 120 = .ok (.athrow, 1) := by decide +kernel
theorem dX5_entry_0 : decode cX5_entry 0 = .ok (.aload_n 0, 1) := by decide +kernel
theorem dX5_entry_1 : decode cX5_entry 1 = .ok (.iload_n 1, 1) := by decide +kernel
theorem dX5_entry_2 : decode cX5_entry 2 = .ok (.invokevirtual 83, 3) := by decide +kernel
theorem dX5_entry_5 : decode cX5_entry 5 = .ok (.astore_n 3, 1) := by decide +kernel
theorem dX5_entry_6 : decode cX5_entry 6 = .ok (.aload_n 3, 1) := by decide +kernel
theorem dX5_entry_7 : decode cX5_entry 7 = .ok (.ifnull 15, 3) := by decide +kernel
theorem dX5_entry_10 : decode cX5_entry 10 = .ok (.iload_n 2, 1) := by decide +kernel
theorem dX5_entry_11 : decode cX5_entry 11 = .ok (.ifCond .lt 11, 3) := by decide +kernel
theorem dX5_entry_14 : decode cX5_entry 14 = .ok (.iload_n 2, 1) := by decide +kernel
theorem dX5_entry_15 : decode cX5_entry 15 = .ok (.aload_n 3, 1) := by decide +kernel
theorem dX5_entry_16 : decode cX5_entry 16 = .ok (.getfield 106, 3) := by decide +kernel
theorem dX5_entry_19 : decode cX5_entry 19 = .ok (.if_icmp .lt 5, 3) := by decide +kernel
theorem dX5_entry_22 : decode cX5_entry 22 = .ok (.iconst (-1), 1) := by decide +kernel
theorem dX5_entry_23 : decode cX5_entry 23 = .ok (.ireturn, 1) := by decide +kernel
theorem dX5_entry_24 : decode cX5_entry 24 = .ok (.aload_n 3, 1) := by decide +kernel
theorem dX5_entry_25 : decode cX5_entry 25 = .ok (.getfield 161, 3) := by decide +kernel
theorem dX5_entry_28 : decode cX5_entry 28 = .ok (.iload_n 2, 1) := by decide +kernel
theorem dX5_entry_29 : decode cX5_entry 29 = .ok (.aaload, 1) := by decide +kernel
theorem dX5_entry_30 : decode cX5_entry 30 = .ok (.getfield 165, 3) := by decide +kernel
theorem dX5_entry_33 : decode cX5_entry 33 = .ok (.ireturn, 1) := by decide +kernel
theorem dX5_time_0 : decode cX5_time 0 = .ok (.aload_n 0, 1) := by decide +kernel
theorem dX5_time_1 : decode cX5_time 1 = .ok (.iload_n 1, 1) := by decide +kernel
theorem dX5_time_2 : decode cX5_time 2 = .ok (.invokevirtual 83, 3) := by decide +kernel
theorem dX5_time_5 : decode cX5_time 5 = .ok (.astore 5, 2) := by decide +kernel
theorem dX5_time_7 : decode cX5_time 7 = .ok (.aload 5, 2) := by decide +kernel
theorem dX5_time_9 : decode cX5_time 9 = .ok (.ifnull 11, 3) := by decide +kernel
theorem dX5_time_12 : decode cX5_time 12 = .ok (.aload_n 0, 1) := by decide +kernel
theorem dX5_time_13 : decode cX5_time 13 = .ok (.iload_n 3, 1) := by decide +kernel
theorem dX5_time_14 : decode cX5_time 14 = .ok (.invokevirtual 168, 3) := by decide +kernel
theorem dX5_time_17 : decode cX5_time 17 = .ok (.ifCond .ne 6, 3) := by decide +kernel
theorem dX5_time_20 : decode cX5_time 20 = .ok (.bipush (-2), 2) := by decide +kernel
theorem dX5_time_22 : decode cX5_time 22 = .ok (.ireturn, 1) := by decide +kernel
theorem dX5_time_23 : decode cX5_time 23 = .ok (.aload 5, 2) := by decide +kernel
theorem dX5_time_25 : decode cX5_time 25 = .ok (.iload_n 2, 1) := by decide +kernel
theorem dX5_time_26 : decode cX5_time 26 = .ok (.invokevirtual 99, 3) := by decide +kernel
theorem dX5_time_29 : decode cX5_time 29 = .ok (.astore 6, 2) := by decide +kernel
theorem dX5_time_31 : decode cX5_time 31 = .ok (.aload 6, 2) := by decide +kernel
theorem dX5_time_33 : decode cX5_time 33 = .ok (.ifnonnull 6, 3) := by decide +kernel
theorem dX5_time_36 : decode cX5_time 36 = .ok (.bipush (-2), 2) := by decide +kernel
theorem dX5_time_38 : decode cX5_time 38 = .ok (.ireturn, 1) := by decide +kernel
theorem dX5_time_39 : decode cX5_time 39 = .ok (.aload_n 0, 1) := by decide +kernel
theorem dX5_time_40 : decode cX5_time 40 = .ok (.iload_n 1, 1) := by decide +kernel
theorem dX5_time_41 : decode cX5_time 41 = .ok (.iconst 1, 1) := by decide +kernel
theorem dX5_time_42 : decode cX5_time 42 = .ok (.iadd, 1) := by decide +kernel
theorem dX5_time_43 : decode cX5_time 43 = .ok (.iload_n 3, 1) := by decide +kernel
theorem dX5_time_44 : decode cX5_time 44 = .ok (.invokevirtual 171, 3) := by decide +kernel
theorem dX5_time_47 : decode cX5_time 47 = .ok (.iload 4, 2) := by decide +kernel
theorem dX5_time_49 : decode cX5_time 49 = .ok (.tableswitch 107 0 7 #[47, 53, 59, 65, 73, 81, 95, 101], 47) := by decide +kernel
theorem dX5_time_96 : decode cX5_time 96 = .ok (.aload 6, 2) := by decide +kernel
theorem dX5_time_98 : decode cX5_time 98 = .ok (.getfield 175, 3) := by decide +kernel
theorem dX5_time_101 : decode cX5_time 101 = .ok (.ireturn, 1) := by decide +kernel
theorem dX5_time_102 : decode cX5_time 102 = .ok (.aload 6, 2) := by decide +kernel
theorem dX5_time_104 : decode cX5_time 104 = .ok (.getfield 178, 3) := by decide +kernel
theorem dX5_time_107 : decode cX5_time 107 = .ok (.ireturn, 1) := by decide +kernel
theorem dX5_time_108 : decode cX5_time 108 = .ok (.aload 6, 2) := by decide +kernel
theorem dX5_time_110 : decode cX5_time 110 = .ok (.getfield 181, 3) := by decide +kernel
theorem dX5_time_113 : decode cX5_time 113 = .ok (.ireturn, 1) := by decide +kernel
theorem dX5_time_114 : decode cX5_time 114 = .ok (.aload 5, 2) := by decide +kernel
theorem dX5_time_116 : decode cX5_time 116 = .ok (.aload 6, 2) := by decide +kernel
theorem dX5_time_118 : decode cX5_time 118 = .ok (.invokevirtual 184, 3) := by decide +kernel
theorem dX5_time_121 : decode cX5_time 121 = .ok (.ireturn, 1) := by decide +kernel
theorem dX5_time_122 : decode cX5_time 122 = .ok (.aload 5, 2) := by decide +kernel
theorem dX5_time_124 : decode cX5_time 124 = .ok (.aload 6, 2) := by decide +kernel
theorem dX5_time_126 : decode cX5_time 126 = .ok (.invokevirtual 188, 3) := by decide +kernel
theorem dX5_time_129 : decode cX5_time 129 = .ok (.ireturn, 1) := by decide +kernel
theorem dX5_time_130 : decode cX5_time 130 = .ok (.aload 6, 2) := by decide +kernel
theorem dX5_time_132 : decode cX5_time 132 = .ok (.getfield 191, 3) := by decide +kernel
theorem dX5_time_135 : decode cX5_time 135 = .ok (.ifCond .eq 7, 3) := by decide +kernel
theorem dX5_time_138 : decode cX5_time 138 = .ok (.iconst 1, 1) := by decide +kernel
theorem dX5_time_139 : decode cX5_time 139 = .ok (.goto 4, 3) := by decide +kernel
theorem dX5_time_142 : decode cX5_time 142 = .ok (.iconst 0, 1) := by decide +kernel
theorem dX5_time_143 : decode cX5_time 143 = .ok (.ireturn, 1) := by decide +kernel
theorem dX5_time_144 : decode cX5_time 144 = .ok (.aload 6, 2) := by decide +kernel
theorem dX5_time_146 : decode cX5_time 146 = .ok (.getfield 195, 3) := by decide +kernel
theorem dX5_time_149 : decode cX5_time 149 = .ok (.ireturn, 1) := by decide +kernel
theorem dX5_time_150 : decode cX5_time 150 = .ok (.aload 6, 2) := by decide +kernel
theorem dX5_time_152 : decode cX5_time 152 = .ok (.getfield 198, 3) := by decide +kernel
theorem dX5_time_155 : decode cX5_time 155 = .ok (.ireturn, 1) := by decide +kernel
theorem dX5_time_156 : decode cX5_time 156 = .ok (.bipush (-2), 2) := by decide +kernel
theorem dX5_time_158 : decode cX5_time 158 = .ok (.ireturn, 1) := by decide +kernel
theorem dX5_split_0 : decode cX5_split 0 = .ok (.aload_n 0, 1) := by decide +kernel
theorem dX5_split_1 : decode cX5_split 1 = .ok (.iload_n 1, 1) := by decide +kernel
theorem dX5_split_2 : decode cX5_split 2 = .ok (.invokevirtual 83, 3) := by decide +kernel
theorem dX5_split_5 : decode cX5_split 5 = .ok (.astore 5, 2) := by decide +kernel
theorem dX5_split_7 : decode cX5_split 7 = .ok (.aload 5, 2) := by decide +kernel
theorem dX5_split_9 : decode cX5_split 9 = .ok (.ifnull 25, 3) := by decide +kernel
theorem dX5_split_12 : decode cX5_split 12 = .ok (.aload_n 0, 1) := by decide +kernel
theorem dX5_split_13 : decode cX5_split 13 = .ok (.iload 4, 2) := by decide +kernel
theorem dX5_split_15 : decode cX5_split 15 = .ok (.invokevirtual 168, 3) := by decide +kernel
theorem dX5_split_18 : decode cX5_split 18 = .ok (.ifCond .eq 16, 3) := by decide +kernel
theorem dX5_split_21 : decode cX5_split 21 = .ok (.aload 5, 2) := by decide +kernel
theorem dX5_split_23 : decode cX5_split 23 = .ok (.getfield 112, 3) := by decide +kernel
theorem dX5_split_26 : decode cX5_split 26 = .ok (.iconst 0, 1) := by decide +kernel
theorem dX5_split_27 : decode cX5_split 27 = .ok (.iload_n 3, 1) := by decide +kernel
theorem dX5_split_28 : decode cX5_split 28 = .ok (.invokevirtual 116, 3) := by decide +kernel
theorem dX5_split_31 : decode cX5_split 31 = .ok (.ifCond .ne 6, 3) := by decide +kernel
theorem dX5_split_34 : decode cX5_split 34 = .ok (.bipush (-2), 2) := by decide +kernel
theorem dX5_split_36 : decode cX5_split 36 = .ok (.ireturn, 1) := by decide +kernel
theorem dX5_split_37 : decode cX5_split 37 = .ok (.aload 5, 2) := by decide +kernel
theorem dX5_split_39 : decode cX5_split 39 = .ok (.iload_n 2, 1) := by decide +kernel
theorem dX5_split_40 : decode cX5_split 40 = .ok (.invokevirtual 99, 3) := by decide +kernel
theorem dX5_split_43 : decode cX5_split 43 = .ok (.astore 6, 2) := by decide +kernel
theorem dX5_split_45 : decode cX5_split 45 = .ok (.aload 6, 2) := by decide +kernel
theorem dX5_split_47 : decode cX5_split 47 = .ok (.ifnonnull 6, 3) := by decide +kernel
theorem dX5_split_50 : decode cX5_split 50 = .ok (.bipush (-2), 2) := by decide +kernel
theorem dX5_split_52 : decode cX5_split 52 = .ok (.ireturn, 1) := by decide +kernel
theorem dX5_split_53 : decode cX5_split 53 = .ok (.aload_n 0, 1) := by decide +kernel
theorem dX5_split_54 : decode cX5_split 54 = .ok (.iload_n 1, 1) := by decide +kernel
theorem dX5_split_55 : decode cX5_split 55 = .ok (.iconst 1, 1) := by decide +kernel
theorem dX5_split_56 : decode cX5_split 56 = .ok (.iadd, 1) := by decide +kernel
theorem dX5_split_57 : decode cX5_split 57 = .ok (.iload 4, 2) := by decide +kernel
theorem dX5_split_59 : decode cX5_split 59 = .ok (.invokevirtual 171, 3) := by decide +kernel
theorem dX5_split_62 : decode cX5_split 62 = .ok (.aload 6, 2) := by decide +kernel
theorem dX5_split_64 : decode cX5_split 64 = .ok (.aload 6, 2) := by decide +kernel
theorem dX5_split_66 : decode cX5_split 66 = .ok (.iconst 0, 1) := by decide +kernel
theorem dX5_split_67 : decode cX5_split 67 = .ok (.iload_n 3, 1) := by decide +kernel
theorem dX5_split_68 : decode cX5_split 68 = .ok (.iload 4, 2) := by decide +kernel
theorem dX5_split_70 : decode cX5_split 70 = .ok (.invokevirtual 201, 3) := by decide +kernel
theorem dX5_split_73 : decode cX5_split 73 = .ok (.invokevirtual 205, 3) := by decide +kernel
theorem dX5_split_76 : decode cX5_split 76 = .ok (.ireturn, 1) := by decide +kernel
theorem dX5_order_0 : decode cX5_order 0 = .ok (.aload_n 0, 1) := by decide +kernel
theorem dX5_order_1 : decode cX5_order 1 = .ok (.iload_n 1, 1) := by decide +kernel
theorem dX5_order_2 : decode cX5_order 2 = .ok (.invokevirtual 83, 3) := by decide +kernel
theorem dX5_order_5 : decode cX5_order 5 = .ok (.astore 4, 2) := by decide +kernel
theorem dX5_order_7 : decode cX5_order 7 = .ok (.aload 4, 2) := by decide +kernel
theorem dX5_order_9 : decode cX5_order 9 = .ok (.ifnull 11, 3) := by decide +kernel
theorem dX5_order_12 : decode cX5_order 12 = .ok (.aload_n 0, 1) := by decide +kernel
theorem dX5_order_13 : decode cX5_order 13 = .ok (.iload_n 2, 1) := by decide +kernel
theorem dX5_order_14 : decode cX5_order 14 = .ok (.invokevirtual 168, 3) := by decide +kernel
theorem dX5_order_17 : decode cX5_order 17 = .ok (.ifCond .ne 5, 3) := by decide +kernel
theorem dX5_order_20 : decode cX5_order 20 = .ok (.iconst (-1), 1) := by decide +kernel
theorem dX5_order_21 : decode cX5_order 21 = .ok (.ireturn, 1) := by decide +kernel
theorem dX5_order_22 : decode cX5_order 22 = .ok (.aload_n 0, 1) := by decide +kernel
theorem dX5_order_23 : decode cX5_order 23 = .ok (.iload_n 1, 1) := by decide +kernel
theorem dX5_order_24 : decode cX5_order 24 = .ok (.iconst 1, 1) := by decide +kernel
theorem dX5_order_25 : decode cX5_order 25 = .ok (.iadd, 1) := by decide +kernel
theorem dX5_order_26 : decode cX5_order 26 = .ok (.iload_n 2, 1) := by decide +kernel
theorem dX5_order_27 : decode cX5_order 27 = .ok (.invokevirtual 171, 3) := by decide +kernel
theorem dX5_order_30 : decode cX5_order 30 = .ok (.iconst 0, 1) := by decide +kernel
theorem dX5_order_31 : decode cX5_order 31 = .ok (.istore 5, 2) := by decide +kernel
theorem dX5_order_33 : decode cX5_order 33 = .ok (.iload 5, 2) := by decide +kernel
theorem dX5_order_35 : decode cX5_order 35 = .ok (.aload 4, 2) := by decide +kernel
theorem dX5_order_37 : decode cX5_order 37 = .ok (.getfield 106, 3) := by decide +kernel
theorem dX5_order_40 : decode cX5_order 40 = .ok (.if_icmp .ge 46, 3) := by decide +kernel
theorem dX5_order_43 : decode cX5_order 43 = .ok (.aload 4, 2) := by decide +kernel
theorem dX5_order_45 : decode cX5_order 45 = .ok (.getfield 161, 3) := by decide +kernel
theorem dX5_order_48 : decode cX5_order 48 = .ok (.iload 5, 2) := by decide +kernel
theorem dX5_order_50 : decode cX5_order 50 = .ok (.aaload, 1) := by decide +kernel
theorem dX5_order_51 : decode cX5_order 51 = .ok (.invokevirtual 209, 3) := by decide +kernel
theorem dX5_order_54 : decode cX5_order 54 = .ok (.ifCond .eq 26, 3) := by decide +kernel
theorem dX5_order_57 : decode cX5_order 57 = .ok (.aload 4, 2) := by decide +kernel
theorem dX5_order_59 : decode cX5_order 59 = .ok (.iload 5, 2) := by decide +kernel
theorem dX5_order_61 : decode cX5_order 61 = .ok (.invokevirtual 212, 3) := by decide +kernel
theorem dX5_order_64 : decode cX5_order 64 = .ok (.iload_n 3, 1) := by decide +kernel
theorem dX5_order_65 : decode cX5_order 65 = .ok (.if_icmp .ne 15, 3) := by decide +kernel
theorem dX5_order_68 : decode cX5_order 68 = .ok (.aload 4, 2) := by decide +kernel
theorem dX5_order_70 : decode cX5_order 70 = .ok (.getfield 161, 3) := by decide +kernel
theorem dX5_order_73 : decode cX5_order 73 = .ok (.iload 5, 2) := by decide +kernel
theorem dX5_order_75 : decode cX5_order 75 = .ok (.aaload, 1) := by decide +kernel
theorem dX5_order_76 : decode cX5_order 76 = .ok (.getfield 165, 3) := by decide +kernel
theorem dX5_order_79 : decode cX5_order 79 = .ok (.ireturn, 1) := by decide +kernel
theorem dX5_order_80 : decode cX5_order 80 = .ok (.iinc 5 1, 3) := by decide +kernel
theorem dX5_order_83 : decode cX5_order 83 = .ok (.goto (-50), 3) := by decide +kernel
theorem dX5_order_86 : decode cX5_order 86 = .ok (.iconst (-1), 1) := by decide +kernel
theorem dX5_order_87 : decode cX5_order 87 = .ok (.ireturn, 1) := by decide +kernel
theorem dX5_points_0 : decode cX5_points 0 = .ok (.aload_n 0, 1) := by decide +kernel
theorem dX5_points_1 : decode cX5_points 1 = .ok (.iload_n 1, 1) := by decide +kernel
theorem dX5_points_2 : decode cX5_points 2 = .ok (.invokevirtual 93, 3) := by decide +kernel
theorem dX5_points_5 : decode cX5_points 5 = .ok (.ifCond .eq 11, 3) := by decide +kernel
theorem dX5_points_8 : decode cX5_points 8 = .ok (.aload_n 0, 1) := by decide +kernel
theorem dX5_points_9 : decode cX5_points 9 = .ok (.iload_n 2, 1) := by decide +kernel
theorem dX5_points_10 : decode cX5_points 10 = .ok (.invokevirtual 168, 3) := by decide +kernel
theorem dX5_points_13 : decode cX5_points 13 = .ok (.ifCond .ne 5, 3) := by decide +kernel
theorem dX5_points_16 : decode cX5_points 16 = .ok (.iconst (-1), 1) := by decide +kernel
theorem dX5_points_17 : decode cX5_points 17 = .ok (.ireturn, 1) := by decide +kernel
theorem dX5_points_18 : decode cX5_points 18 = .ok (.aload_n 0, 1) := by decide +kernel
theorem dX5_points_19 : decode cX5_points 19 = .ok (.iload_n 2, 1) := by decide +kernel
theorem dX5_points_20 : decode cX5_points 20 = .ok (.invokevirtual 215, 3) := by decide +kernel
theorem dX5_points_23 : decode cX5_points 23 = .ok (.aload_n 0, 1) := by decide +kernel
theorem dX5_points_24 : decode cX5_points 24 = .ok (.getfield 33, 3) := by decide +kernel
theorem dX5_points_27 : decode cX5_points 27 = .ok (.iload_n 1, 1) := by decide +kernel
theorem dX5_points_28 : decode cX5_points 28 = .ok (.iaload, 1) := by decide +kernel
theorem dX5_points_29 : decode cX5_points 29 = .ok (.ireturn, 1) := by decide +kernel
theorem dX5_standing_0 : decode cX5_standing 0 = .ok (.aload_n 0, 1) := by decide +kernel
theorem dX5_standing_1 : decode cX5_standing 1 = .ok (.iload_n 1, 1) := by decide +kernel
theorem dX5_standing_2 : decode cX5_standing 2 = .ok (.invokevirtual 93, 3) := by decide +kernel
theorem dX5_standing_5 : decode cX5_standing 5 = .ok (.ifCond .eq 11, 3) := by decide +kernel
theorem dX5_standing_8 : decode cX5_standing 8 = .ok (.aload_n 0, 1) := by decide +kernel
theorem dX5_standing_9 : decode cX5_standing 9 = .ok (.iload_n 2, 1) := by decide +kernel
theorem dX5_standing_10 : decode cX5_standing 10 = .ok (.invokevirtual 168, 3) := by decide +kernel
theorem dX5_standing_13 : decode cX5_standing 13 = .ok (.ifCond .ne 5, 3) := by decide +kernel
theorem dX5_standing_16 : decode cX5_standing 16 = .ok (.iconst (-1), 1) := by decide +kernel
theorem dX5_standing_17 : decode cX5_standing 17 = .ok (.ireturn, 1) := by decide +kernel
theorem dX5_standing_18 : decode cX5_standing 18 = .ok (.aload_n 0, 1) := by decide +kernel
theorem dX5_standing_19 : decode cX5_standing 19 = .ok (.iload_n 2, 1) := by decide +kernel
theorem dX5_standing_20 : decode cX5_standing 20 = .ok (.invokevirtual 215, 3) := by decide +kernel
theorem dX5_standing_23 : decode cX5_standing 23 = .ok (.aload_n 0, 1) := by decide +kernel
theorem dX5_standing_24 : decode cX5_standing 24 = .ok (.iload_n 1, 1) := by decide +kernel
theorem dX5_standing_25 : decode cX5_standing 25 = .ok (.invokevirtual 218, 3) := by decide +kernel
theorem dX5_standing_28 : decode cX5_standing 28 = .ok (.ireturn, 1) := by decide +kernel
theorem dX5_starters_0 : decode cX5_starters 0 = .ok (.iload_n 1, 1) := by decide +kernel
theorem dX5_starters_1 : decode cX5_starters 1 = .ok (.invokestatic 73, 3) := by decide +kernel
theorem dX5_starters_4 : decode cX5_starters 4 = .ok (.ifCond .eq 11, 3) := by decide +kernel
theorem dX5_starters_7 : decode cX5_starters 7 = .ok (.aload_n 0, 1) := by decide +kernel
theorem dX5_starters_8 : decode cX5_starters 8 = .ok (.iload_n 2, 1) := by decide +kernel
theorem dX5_starters_9 : decode cX5_starters 9 = .ok (.invokevirtual 168, 3) := by decide +kernel
theorem dX5_starters_12 : decode cX5_starters 12 = .ok (.ifCond .ne 5, 3) := by decide +kernel
theorem dX5_starters_15 : decode cX5_starters 15 = .ok (.iconst (-1), 1) := by decide +kernel
theorem dX5_starters_16 : decode cX5_starters 16 = .ok (.ireturn, 1) := by decide +kernel
theorem dX5_starters_17 : decode cX5_starters 17 = .ok (.aload_n 0, 1) := by decide +kernel
theorem dX5_starters_18 : decode cX5_starters 18 = .ok (.iload_n 2, 1) := by decide +kernel
theorem dX5_starters_19 : decode cX5_starters 19 = .ok (.invokevirtual 215, 3) := by decide +kernel
theorem dX5_starters_22 : decode cX5_starters 22 = .ok (.iconst 2, 1) := by decide +kernel
theorem dX5_starters_23 : decode cX5_starters 23 = .ok (.istore_n 3, 1) := by decide +kernel
theorem dX5_starters_24 : decode cX5_starters 24 = .ok (.iconst 0, 1) := by decide +kernel
theorem dX5_starters_25 : decode cX5_starters 25 = .ok (.istore 4, 2) := by decide +kernel
theorem dX5_starters_27 : decode cX5_starters 27 = .ok (.iload 4, 2) := by decide +kernel
theorem dX5_starters_29 : decode cX5_starters 29 = .ok (.aload_n 0, 1) := by decide +kernel
theorem dX5_starters_30 : decode cX5_starters 30 = .ok (.getfield 77, 3) := by decide +kernel
theorem dX5_starters_33 : decode cX5_starters 33 = .ok (.if_icmp .ge 43, 3) := by decide +kernel
theorem dX5_starters_36 : decode cX5_starters 36 = .ok (.aload_n 0, 1) := by decide +kernel
theorem dX5_starters_37 : decode cX5_starters 37 = .ok (.getfield 23, 3) := by decide +kernel
theorem dX5_starters_40 : decode cX5_starters 40 = .ok (.iload 4, 2) := by decide +kernel
theorem dX5_starters_42 : decode cX5_starters 42 = .ok (.iaload, 1) := by decide +kernel
theorem dX5_starters_43 : decode cX5_starters 43 = .ok (.iload_n 1, 1) := by decide +kernel
theorem dX5_starters_44 : decode cX5_starters 44 = .ok (.if_icmp .ne 26, 3) := by decide +kernel
theorem dX5_starters_47 : decode cX5_starters 47 = .ok (.aload_n 0, 1) := by decide +kernel
theorem dX5_starters_48 : decode cX5_starters 48 = .ok (.getfield 33, 3) := by decide +kernel
theorem dX5_starters_51 : decode cX5_starters 51 = .ok (.iload 4, 2) := by decide +kernel
theorem dX5_starters_53 : decode cX5_starters 53 = .ok (.iaload, 1) := by decide +kernel
theorem dX5_starters_54 : decode cX5_starters 54 = .ok (.ifCond .le 16, 3) := by decide +kernel
theorem dX5_starters_57 : decode cX5_starters 57 = .ok (.aload_n 0, 1) := by decide +kernel
theorem dX5_starters_58 : decode cX5_starters 58 = .ok (.iload 4, 2) := by decide +kernel
theorem dX5_starters_60 : decode cX5_starters 60 = .ok (.invokevirtual 218, 3) := by decide +kernel
theorem dX5_starters_63 : decode cX5_starters 63 = .ok (.iconst 5, 1) := by decide +kernel
theorem dX5_starters_64 : decode cX5_starters 64 = .ok (.if_icmp .gt 6, 3) := by decide +kernel
theorem dX5_starters_67 : decode cX5_starters 67 = .ok (.iinc 3 1, 3) := by decide +kernel
theorem dX5_starters_70 : decode cX5_starters 70 = .ok (.iinc 4 1, 3) := by decide +kernel
theorem dX5_starters_73 : decode cX5_starters 73 = .ok (.goto (-46), 3) := by decide +kernel
theorem dX5_starters_76 : decode cX5_starters 76 = .ok (.iload_n 3, 1) := by decide +kernel
theorem dX5_starters_77 : decode cX5_starters 77 = .ok (.iconst 4, 1) := by decide +kernel
theorem dX5_starters_78 : decode cX5_starters 78 = .ok (.invokestatic 221, 3) := by decide +kernel
theorem dX5_starters_81 : decode cX5_starters 81 = .ok (.ireturn, 1) := by decide +kernel
theorem dX5_count_0 : decode cX5_count 0 = .ok (.iload_n 1, 1) := by decide +kernel
theorem dX5_count_1 : decode cX5_count 1 = .ok (.tableswitch 60 0 4 #[35, 40, 45, 50, 55], 35) := by decide +kernel
theorem dX5_count_36 : decode cX5_count 36 = .ok (.aload_n 0, 1) := by decide +kernel
theorem dX5_count_37 : decode cX5_count 37 = .ok (.getfield 70, 3) := by decide +kernel
theorem dX5_count_40 : decode cX5_count 40 = .ok (.ireturn, 1) := by decide +kernel
theorem dX5_count_41 : decode cX5_count 41 = .ok (.aload_n 0, 1) := by decide +kernel
theorem dX5_count_42 : decode cX5_count 42 = .ok (.getfield 67, 3) := by decide +kernel
theorem dX5_count_45 : decode cX5_count 45 = .ok (.ireturn, 1) := by decide +kernel
theorem dX5_count_46 : decode cX5_count 46 = .ok (.aload_n 0, 1) := by decide +kernel
theorem dX5_count_47 : decode cX5_count 47 = .ok (.getfield 77, 3) := by decide +kernel
theorem dX5_count_50 : decode cX5_count 50 = .ok (.ireturn, 1) := by decide +kernel
theorem dX5_count_51 : decode cX5_count 51 = .ok (.aload_n 0, 1) := by decide +kernel
theorem dX5_count_52 : decode cX5_count 52 = .ok (.getfield 80, 3) := by decide +kernel
theorem dX5_count_55 : decode cX5_count 55 = .ok (.ireturn, 1) := by decide +kernel
theorem dX5_count_56 : decode cX5_count 56 = .ok (.aload_n 0, 1) := by decide +kernel
theorem dX5_count_57 : decode cX5_count 57 = .ok (.getfield 109, 3) := by decide +kernel
theorem dX5_count_60 : decode cX5_count 60 = .ok (.ireturn, 1) := by decide +kernel
theorem dX5_count_61 : decode cX5_count 61 = .ok (.iconst (-1), 1) := by decide +kernel
theorem dX5_count_62 : decode cX5_count 62 = .ok (.ireturn, 1) := by decide +kernel
theorem dX5_raceAt_0 : decode cX5_raceAt 0 = .ok (.iload_n 1, 1) := by decide +kernel
theorem dX5_raceAt_1 : decode cX5_raceAt 1 = .ok (.ifCond .lt 20, 3) := by decide +kernel
theorem dX5_raceAt_4 : decode cX5_raceAt 4 = .ok (.iload_n 1, 1) := by decide +kernel
theorem dX5_raceAt_5 : decode cX5_raceAt 5 = .ok (.aload_n 0, 1) := by decide +kernel
theorem dX5_raceAt_6 : decode cX5_raceAt 6 = .ok (.getfield 80, 3) := by decide +kernel
theorem dX5_raceAt_9 : decode cX5_raceAt 9 = .ok (.if_icmp .ge 12, 3) := by decide +kernel
theorem dX5_raceAt_12 : decode cX5_raceAt 12 = .ok (.aload_n 0, 1) := by decide +kernel
theorem dX5_raceAt_13 : decode cX5_raceAt 13 = .ok (.getfield 29, 3) := by decide +kernel
theorem dX5_raceAt_16 : decode cX5_raceAt 16 = .ok (.iload_n 1, 1) := by decide +kernel
theorem dX5_raceAt_17 : decode cX5_raceAt 17 = .ok (.aaload, 1) := by decide +kernel
theorem dX5_raceAt_18 : decode cX5_raceAt 18 = .ok (.goto 4, 3) := by decide +kernel
theorem dX5_raceAt_21 : decode cX5_raceAt 21 = .ok (.aconst_null, 1) := by decide +kernel
theorem dX5_raceAt_22 : decode cX5_raceAt 22 = .ok (.areturn, 1) := by decide +kernel
theorem dX5_isRacer_0 : decode cX5_isRacer 0 = .ok (.iload_n 1, 1) := by decide +kernel
theorem dX5_isRacer_1 : decode cX5_isRacer 1 = .ok (.ifCond .lt 15, 3) := by decide +kernel
theorem dX5_isRacer_4 : decode cX5_isRacer 4 = .ok (.iload_n 1, 1) := by decide +kernel
theorem dX5_isRacer_5 : decode cX5_isRacer 5 = .ok (.aload_n 0, 1) := by decide +kernel
theorem dX5_isRacer_6 : decode cX5_isRacer 6 = .ok (.getfield 77, 3) := by decide +kernel
theorem dX5_isRacer_9 : decode cX5_isRacer 9 = .ok (.if_icmp .ge 7, 3) := by decide +kernel
theorem dX5_isRacer_12 : decode cX5_isRacer 12 = .ok (.iconst 1, 1) := by decide +kernel
theorem dX5_isRacer_13 : decode cX5_isRacer 13 = .ok (.goto 4, 3) := by decide +kernel
theorem dX5_isRacer_16 : decode cX5_isRacer 16 = .ok (.iconst 0, 1) := by decide +kernel
theorem dX5_isRacer_17 : decode cX5_isRacer 17 = .ok (.ireturn, 1) := by decide +kernel
theorem dX5_isDay_0 : decode cX5_isDay 0 = .ok (.iload_n 1, 1) := by decide +kernel
theorem dX5_isDay_1 : decode cX5_isDay 1 = .ok (.ifCond .lt 15, 3) := by decide +kernel
theorem dX5_isDay_4 : decode cX5_isDay 4 = .ok (.iload_n 1, 1) := by decide +kernel
theorem dX5_isDay_5 : decode cX5_isDay 5 = .ok (.aload_n 0, 1) := by decide +kernel
theorem dX5_isDay_6 : decode cX5_isDay 6 = .ok (.getfield 70, 3) := by decide +kernel
theorem dX5_isDay_9 : decode cX5_isDay 9 = .ok (.if_icmp .gt 7, 3) := by decide +kernel
theorem dX5_isDay_12 : decode cX5_isDay 12 = .ok (.iconst 1, 1) := by decide +kernel
theorem dX5_isDay_13 : decode cX5_isDay 13 = .ok (.goto 4, 3) := by decide +kernel
theorem dX5_isDay_16 : decode cX5_isDay 16 = .ok (.iconst 0, 1) := by decide +kernel
theorem dX5_isDay_17 : decode cX5_isDay 17 = .ok (.ireturn, 1) := by decide +kernel
theorem dX5_isNation_0 : decode cX5_isNation 0 = .ok (.iload_n 0, 1) := by decide +kernel
theorem dX5_isNation_1 : decode cX5_isNation 1 = .ok (.ifCond .lt 13, 3) := by decide +kernel
theorem dX5_isNation_4 : decode cX5_isNation 4 = .ok (.iload_n 0, 1) := by decide +kernel
theorem dX5_isNation_5 : decode cX5_isNation 5 = .ok (.bipush 8, 2) := by decide +kernel
theorem dX5_isNation_7 : decode cX5_isNation 7 = .ok (.if_icmp .ge 7, 3) := by decide +kernel
theorem dX5_isNation_10 : decode cX5_isNation 10 = .ok (.iconst 1, 1) := by decide +kernel
theorem dX5_isNation_11 : decode cX5_isNation 11 = .ok (.goto 4, 3) := by decide +kernel
theorem dX5_isNation_14 : decode cX5_isNation 14 = .ok (.iconst 0, 1) := by decide +kernel
theorem dX5_isNation_15 : decode cX5_isNation 15 = .ok (.ireturn, 1) := by decide +kernel
theorem dX5_isValue_0 : decode cX5_isValue 0 = .ok (.iload_n 0, 1) := by decide +kernel
theorem dX5_isValue_1 : decode cX5_isValue 1 = .ok (.tableswitch 98 0 3 #[31, 48, 65, 82], 31) := by decide +kernel
theorem dX5_isValue_32 : decode cX5_isValue 32 = .ok (.iload_n 1, 1) := by decide +kernel
theorem dX5_isValue_33 : decode cX5_isValue 33 = .ok (.iconst (-1), 1) := by decide +kernel
theorem dX5_isValue_34 : decode cX5_isValue 34 = .ok (.if_icmp .lt 13, 3) := by decide +kernel
theorem dX5_isValue_37 : decode cX5_isValue 37 = .ok (.iload_n 1, 1) := by decide +kernel
theorem dX5_isValue_38 : decode cX5_isValue 38 = .ok (.ldc 227, 2) := by decide +kernel
theorem dX5_isValue_40 : decode cX5_isValue 40 = .ok (.if_icmp .gt 7, 3) := by decide +kernel
theorem dX5_isValue_43 : decode cX5_isValue 43 = .ok (.iconst 1, 1) := by decide +kernel
theorem dX5_isValue_44 : decode cX5_isValue 44 = .ok (.goto 4, 3) := by decide +kernel
theorem dX5_isValue_47 : decode cX5_isValue 47 = .ok (.iconst 0, 1) := by decide +kernel
theorem dX5_isValue_48 : decode cX5_isValue 48 = .ok (.ireturn, 1) := by decide +kernel
theorem dX5_isValue_49 : decode cX5_isValue 49 = .ok (.iload_n 1, 1) := by decide +kernel
theorem dX5_isValue_50 : decode cX5_isValue 50 = .ok (.iconst (-1), 1) := by decide +kernel
theorem dX5_isValue_51 : decode cX5_isValue 51 = .ok (.if_icmp .lt 13, 3) := by decide +kernel
theorem dX5_isValue_54 : decode cX5_isValue 54 = .ok (.iload_n 1, 1) := by decide +kernel
theorem dX5_isValue_55 : decode cX5_isValue 55 = .ok (.bipush 31, 2) := by decide +kernel
theorem dX5_isValue_57 : decode cX5_isValue 57 = .ok (.if_icmp .gt 7, 3) := by decide +kernel
theorem dX5_isValue_60 : decode cX5_isValue 60 = .ok (.iconst 1, 1) := by decide +kernel
theorem dX5_isValue_61 : decode cX5_isValue 61 = .ok (.goto 4, 3) := by decide +kernel
theorem dX5_isValue_64 : decode cX5_isValue 64 = .ok (.iconst 0, 1) := by decide +kernel
theorem dX5_isValue_65 : decode cX5_isValue 65 = .ok (.ireturn, 1) := by decide +kernel
theorem dX5_isValue_66 : decode cX5_isValue 66 = .ok (.iload_n 1, 1) := by decide +kernel
theorem dX5_isValue_67 : decode cX5_isValue 67 = .ok (.iconst (-1), 1) := by decide +kernel
theorem dX5_isValue_68 : decode cX5_isValue 68 = .ok (.if_icmp .lt 13, 3) := by decide +kernel
theorem dX5_isValue_71 : decode cX5_isValue 71 = .ok (.iload_n 1, 1) := by decide +kernel
theorem dX5_isValue_72 : decode cX5_isValue 72 = .ok (.bipush 9, 2) := by decide +kernel
theorem dX5_isValue_74 : decode cX5_isValue 74 = .ok (.if_icmp .gt 7, 3) := by decide +kernel
theorem dX5_isValue_77 : decode cX5_isValue 77 = .ok (.iconst 1, 1) := by decide +kernel
theorem dX5_isValue_78 : decode cX5_isValue 78 = .ok (.goto 4, 3) := by decide +kernel
theorem dX5_isValue_81 : decode cX5_isValue 81 = .ok (.iconst 0, 1) := by decide +kernel
theorem dX5_isValue_82 : decode cX5_isValue 82 = .ok (.ireturn, 1) := by decide +kernel
theorem dX5_isValue_83 : decode cX5_isValue 83 = .ok (.iload_n 1, 1) := by decide +kernel
theorem dX5_isValue_84 : decode cX5_isValue 84 = .ok (.iconst (-1), 1) := by decide +kernel
theorem dX5_isValue_85 : decode cX5_isValue 85 = .ok (.if_icmp .lt 12, 3) := by decide +kernel
theorem dX5_isValue_88 : decode cX5_isValue 88 = .ok (.iload_n 1, 1) := by decide +kernel
theorem dX5_isValue_89 : decode cX5_isValue 89 = .ok (.iconst 1, 1) := by decide +kernel
theorem dX5_isValue_90 : decode cX5_isValue 90 = .ok (.if_icmp .gt 7, 3) := by decide +kernel
theorem dX5_isValue_93 : decode cX5_isValue 93 = .ok (.iconst 1, 1) := by decide +kernel
theorem dX5_isValue_94 : decode cX5_isValue 94 = .ok (.goto 4, 3) := by decide +kernel
theorem dX5_isValue_97 : decode cX5_isValue 97 = .ok (.iconst 0, 1) := by decide +kernel
theorem dX5_isValue_98 : decode cX5_isValue 98 = .ok (.ireturn, 1) := by decide +kernel
theorem dX5_isValue_99 : decode cX5_isValue 99 = .ok (.iconst 0, 1) := by decide +kernel
theorem dX5_isValue_100 : decode cX5_isValue 100 = .ok (.ireturn, 1) := by decide +kernel
theorem dX5_workOut_0 : decode cX5_workOut 0 = .ok (.iconst 0, 1) := by decide +kernel
theorem dX5_workOut_1 : decode cX5_workOut 1 = .ok (.istore_n 3, 1) := by decide +kernel
theorem dX5_workOut_2 : decode cX5_workOut 2 = .ok (.iload_n 3, 1) := by decide +kernel
theorem dX5_workOut_3 : decode cX5_workOut 3 = .ok (.iload_n 1, 1) := by decide +kernel
theorem dX5_workOut_4 : decode cX5_workOut 4 = .ok (.if_icmp .ge 27, 3) := by decide +kernel
theorem dX5_workOut_7 : decode cX5_workOut 7 = .ok (.iload_n 3, 1) := by decide +kernel
theorem dX5_workOut_8 : decode cX5_workOut 8 = .ok (.aload_n 0, 1) := by decide +kernel
theorem dX5_workOut_9 : decode cX5_workOut 9 = .ok (.getfield 80, 3) := by decide +kernel
theorem dX5_workOut_12 : decode cX5_workOut 12 = .ok (.if_icmp .ge 19, 3) := by decide +kernel
theorem dX5_workOut_15 : decode cX5_workOut 15 = .ok (.aload_n 0, 1) := by decide +kernel
theorem dX5_workOut_16 : decode cX5_workOut 16 = .ok (.getfield 29, 3) := by decide +kernel
theorem dX5_workOut_19 : decode cX5_workOut 19 = .ok (.iload_n 3, 1) := by decide +kernel
theorem dX5_workOut_20 : decode cX5_workOut 20 = .ok (.aaload, 1) := by decide +kernel
theorem dX5_workOut_21 : decode cX5_workOut 21 = .ok (.iload_n 2, 1) := by decide +kernel
theorem dX5_workOut_22 : decode cX5_workOut 22 = .ok (.invokevirtual 228, 3) := by decide +kernel
theorem dX5_workOut_25 : decode cX5_workOut 25 = .ok (.iinc 3 1, 3) := by decide +kernel
theorem dX5_workOut_28 : decode cX5_workOut 28 = .ok (.goto (-26), 3) := by decide +kernel
theorem dX5_workOut_31 : decode cX5_workOut 31 = .ok (.return_, 1) := by decide +kernel
theorem dX5_addUpCup_0 : decode cX5_addUpCup 0 = .ok (.aload_n 0, 1) := by decide +kernel
theorem dX5_addUpCup_1 : decode cX5_addUpCup 1 = .ok (.aload_n 0, 1) := by decide +kernel
theorem dX5_addUpCup_2 : decode cX5_addUpCup 2 = .ok (.getfield 80, 3) := by decide +kernel
theorem dX5_addUpCup_5 : decode cX5_addUpCup 5 = .ok (.iload_n 1, 1) := by decide +kernel
theorem dX5_addUpCup_6 : decode cX5_addUpCup 6 = .ok (.invokevirtual 171, 3) := by decide +kernel
theorem dX5_addUpCup_9 : decode cX5_addUpCup 9 = .ok (.iconst 0, 1) := by decide +kernel
theorem dX5_addUpCup_10 : decode cX5_addUpCup 10 = .ok (.istore_n 2, 1) := by decide +kernel
theorem dX5_addUpCup_11 : decode cX5_addUpCup 11 = .ok (.iload_n 2, 1) := by decide +kernel
theorem dX5_addUpCup_12 : decode cX5_addUpCup 12 = .ok (.aload_n 0, 1) := by decide +kernel
theorem dX5_addUpCup_13 : decode cX5_addUpCup 13 = .ok (.getfield 77, 3) := by decide +kernel
theorem dX5_addUpCup_16 : decode cX5_addUpCup 16 = .ok (.if_icmp .ge 16, 3) := by decide +kernel
theorem dX5_addUpCup_19 : decode cX5_addUpCup 19 = .ok (.aload_n 0, 1) := by decide +kernel
theorem dX5_addUpCup_20 : decode cX5_addUpCup 20 = .ok (.getfield 33, 3) := by decide +kernel
theorem dX5_addUpCup_23 : decode cX5_addUpCup 23 = .ok (.iload_n 2, 1) := by decide +kernel
theorem dX5_addUpCup_24 : decode cX5_addUpCup 24 = .ok (.iconst 0, 1) := by decide +kernel
theorem dX5_addUpCup_25 : decode cX5_addUpCup 25 = .ok (.iastore, 1) := by decide +kernel
theorem dX5_addUpCup_26 : decode cX5_addUpCup 26 = .ok (.iinc 2 1, 3) := by decide +kernel
theorem dX5_addUpCup_29 : decode cX5_addUpCup 29 = .ok (.goto (-18), 3) := by decide +kernel
theorem dX5_addUpCup_32 : decode cX5_addUpCup 32 = .ok (.iconst 0, 1) := by decide +kernel
theorem dX5_addUpCup_33 : decode cX5_addUpCup 33 = .ok (.istore_n 2, 1) := by decide +kernel
theorem dX5_addUpCup_34 : decode cX5_addUpCup 34 = .ok (.iload_n 2, 1) := by decide +kernel
theorem dX5_addUpCup_35 : decode cX5_addUpCup 35 = .ok (.aload_n 0, 1) := by decide +kernel
theorem dX5_addUpCup_36 : decode cX5_addUpCup 36 = .ok (.getfield 80, 3) := by decide +kernel
theorem dX5_addUpCup_39 : decode cX5_addUpCup 39 = .ok (.if_icmp .ge 19, 3) := by decide +kernel
theorem dX5_addUpCup_42 : decode cX5_addUpCup 42 = .ok (.aload_n 0, 1) := by decide +kernel
theorem dX5_addUpCup_43 : decode cX5_addUpCup 43 = .ok (.aload_n 0, 1) := by decide +kernel
theorem dX5_addUpCup_44 : decode cX5_addUpCup 44 = .ok (.getfield 29, 3) := by decide +kernel
theorem dX5_addUpCup_47 : decode cX5_addUpCup 47 = .ok (.iload_n 2, 1) := by decide +kernel
theorem dX5_addUpCup_48 : decode cX5_addUpCup 48 = .ok (.aaload, 1) := by decide +kernel
theorem dX5_addUpCup_49 : decode cX5_addUpCup 49 = .ok (.invokevirtual 230, 3) := by decide +kernel
theorem dX5_addUpCup_52 : decode cX5_addUpCup 52 = .ok (.iinc 2 1, 3) := by decide +kernel
theorem dX5_addUpCup_55 : decode cX5_addUpCup 55 = .ok (.goto (-21), 3) := by decide +kernel
theorem dX5_addUpCup_58 : decode cX5_addUpCup 58 = .ok (.return_, 1) := by decide +kernel
theorem dX5_addToCup_0 : decode cX5_addToCup 0 = .ok (.iconst 0, 1) := by decide +kernel
theorem dX5_addToCup_1 : decode cX5_addToCup 1 = .ok (.istore_n 2, 1) := by decide +kernel
theorem dX5_addToCup_2 : decode cX5_addToCup 2 = .ok (.iload_n 2, 1) := by decide +kernel
theorem dX5_addToCup_3 : decode cX5_addToCup 3 = .ok (.aload_n 1, 1) := by decide +kernel
theorem dX5_addToCup_4 : decode cX5_addToCup 4 = .ok (.getfield 106, 3) := by decide +kernel
theorem dX5_addToCup_7 : decode cX5_addToCup 7 = .ok (.if_icmp .ge 47, 3) := by decide +kernel
theorem dX5_addToCup_10 : decode cX5_addToCup 10 = .ok (.aload_n 1, 1) := by decide +kernel
theorem dX5_addToCup_11 : decode cX5_addToCup 11 = .ok (.getfield 161, 3) := by decide +kernel
theorem dX5_addToCup_14 : decode cX5_addToCup 14 = .ok (.iload_n 2, 1) := by decide +kernel
theorem dX5_addToCup_15 : decode cX5_addToCup 15 = .ok (.aaload, 1) := by decide +kernel
theorem dX5_addToCup_16 : decode cX5_addToCup 16 = .ok (.astore_n 3, 1) := by decide +kernel
theorem dX5_addToCup_17 : decode cX5_addToCup 17 = .ok (.aload_n 3, 1) := by decide +kernel
theorem dX5_addToCup_18 : decode cX5_addToCup 18 = .ok (.invokevirtual 209, 3) := by decide +kernel
theorem dX5_addToCup_21 : decode cX5_addToCup 21 = .ok (.ifCond .eq 27, 3) := by decide +kernel
theorem dX5_addToCup_24 : decode cX5_addToCup 24 = .ok (.aload_n 0, 1) := by decide +kernel
theorem dX5_addToCup_25 : decode cX5_addToCup 25 = .ok (.getfield 33, 3) := by decide +kernel
theorem dX5_addToCup_28 : decode cX5_addToCup 28 = .ok (.aload_n 3, 1) := by decide +kernel
theorem dX5_addToCup_29 : decode cX5_addToCup 29 = .ok (.getfield 165, 3) := by decide +kernel
theorem dX5_addToCup_32 : decode cX5_addToCup 32 = .ok (.dup2, 1) := by decide +kernel
theorem dX5_addToCup_33 : decode cX5_addToCup 33 = .ok (.iaload, 1) := by decide +kernel
theorem dX5_addToCup_34 : decode cX5_addToCup 34 = .ok (.iconst 0, 1) := by decide +kernel
theorem dX5_addToCup_35 : decode cX5_addToCup 35 = .ok (.bipush 21, 2) := by decide +kernel
theorem dX5_addToCup_37 : decode cX5_addToCup 37 = .ok (.aload_n 1, 1) := by decide +kernel
theorem dX5_addToCup_38 : decode cX5_addToCup 38 = .ok (.aload_n 3, 1) := by decide +kernel
theorem dX5_addToCup_39 : decode cX5_addToCup 39 = .ok (.invokevirtual 188, 3) := by decide +kernel
theorem dX5_addToCup_42 : decode cX5_addToCup 42 = .ok (.isub, 1) := by decide +kernel
theorem dX5_addToCup_43 : decode cX5_addToCup 43 = .ok (.invokestatic 234, 3) := by decide +kernel
theorem dX5_addToCup_46 : decode cX5_addToCup 46 = .ok (.iadd, 1) := by decide +kernel
theorem dX5_addToCup_47 : decode cX5_addToCup 47 = .ok (.iastore, 1) := by decide +kernel
theorem dX5_addToCup_48 : decode cX5_addToCup 48 = .ok (.iinc 2 1, 3) := by decide +kernel
theorem dX5_addToCup_51 : decode cX5_addToCup 51 = .ok (.goto (-49), 3) := by decide +kernel
theorem dX5_addToCup_54 : decode cX5_addToCup 54 = .ok (.return_, 1) := by decide +kernel
theorem dX5_standingInCup_0 : decode cX5_standingInCup 0 = .ok (.iconst 1, 1) := by decide +kernel
theorem dX5_standingInCup_1 : decode cX5_standingInCup 1 = .ok (.istore_n 2, 1) := by decide +kernel
theorem dX5_standingInCup_2 : decode cX5_standingInCup 2 = .ok (.iconst 0, 1) := by decide +kernel
theorem dX5_standingInCup_3 : decode cX5_standingInCup 3 = .ok (.istore_n 3, 1) := by decide +kernel
theorem dX5_standingInCup_4 : decode cX5_standingInCup 4 = .ok (.iload_n 3, 1) := by decide +kernel
theorem dX5_standingInCup_5 : decode cX5_standingInCup 5 = .ok (.aload_n 0, 1) := by decide +kernel
theorem dX5_standingInCup_6 : decode cX5_standingInCup 6 = .ok (.getfield 77, 3) := by decide +kernel
theorem dX5_standingInCup_9 : decode cX5_standingInCup 9 = .ok (.if_icmp .ge 27, 3) := by decide +kernel
theorem dX5_standingInCup_12 : decode cX5_standingInCup 12 = .ok (.aload_n 0, 1) := by decide +kernel
theorem dX5_standingInCup_13 : decode cX5_standingInCup 13 = .ok (.getfield 33, 3) := by decide +kernel
theorem dX5_standingInCup_16 : decode cX5_standingInCup 16 = .ok (.iload_n 3, 1) := by decide +kernel
theorem dX5_standingInCup_17 : decode cX5_standingInCup 17 = .ok (.iaload, 1) := by decide +kernel
theorem dX5_standingInCup_18 : decode cX5_standingInCup 18 = .ok (.aload_n 0, 1) := by decide +kernel
theorem dX5_standingInCup_19 : decode cX5_standingInCup 19 = .ok (.getfield 33, 3) := by decide +kernel
theorem dX5_standingInCup_22 : decode cX5_standingInCup 22 = .ok (.iload_n 1, 1) := by decide +kernel
theorem dX5_standingInCup_23 : decode cX5_standingInCup 23 = .ok (.iaload, 1) := by decide +kernel
theorem dX5_standingInCup_24 : decode cX5_standingInCup 24 = .ok (.if_icmp .le 6, 3) := by decide +kernel
theorem dX5_standingInCup_27 : decode cX5_standingInCup 27 = .ok (.iinc 2 1, 3) := by decide +kernel
theorem dX5_standingInCup_30 : decode cX5_standingInCup 30 = .ok (.iinc 3 1, 3) := by decide +kernel
theorem dX5_standingInCup_33 : decode cX5_standingInCup 33 = .ok (.goto (-29), 3) := by decide +kernel
theorem dX5_standingInCup_36 : decode cX5_standingInCup 36 = .ok (.iload_n 2, 1) := by decide +kernel
theorem dX5_standingInCup_37 : decode cX5_standingInCup 37 = .ok (.ireturn, 1) := by decide +kernel
theorem dX6_init_0 : decode cX6_init 0 = .ok (.aload_n 0, 1) := by decide +kernel
theorem dX6_init_1 : decode cX6_init 1 = .ok (.invokespecial 1, 3) := by decide +kernel
theorem dX6_init_4 : decode cX6_init 4 = .ok (.aload_n 0, 1) := by decide +kernel
theorem dX6_init_5 : decode cX6_init 5 = .ok (.sipush 1000, 3) := by decide +kernel
theorem dX6_init_8 : decode cX6_init 8 = .ok (.newarray .int, 2) := by decide +kernel
theorem dX6_init_10 : decode cX6_init 10 = .ok (.putfield 7, 3) := by decide +kernel
theorem dX6_init_13 : decode cX6_init 13 = .ok (.aload_n 0, 1) := by decide +kernel
theorem dX6_init_14 : decode cX6_init 14 = .ok (.bipush 16, 2) := by decide +kernel
theorem dX6_init_16 : decode cX6_init 16 = .ok (.newarray .int, 2) := by decide +kernel
theorem dX6_init_18 : decode cX6_init 18 = .ok (.putfield 13, 3) := by decide +kernel
theorem dX6_init_21 : decode cX6_init 21 = .ok (.aload_n 0, 1) := by decide +kernel
theorem dX6_init_22 : decode cX6_init 22 = .ok (.bipush 16, 2) := by decide +kernel
theorem dX6_init_24 : decode cX6_init 24 = .ok (.newarray .int, 2) := by decide +kernel
theorem dX6_init_26 : decode cX6_init 26 = .ok (.putfield 16, 3) := by decide +kernel
theorem dX6_init_29 : decode cX6_init 29 = .ok (.aload_n 0, 1) := by decide +kernel
theorem dX6_init_30 : decode cX6_init 30 = .ok (.bipush 64, 2) := by decide +kernel
theorem dX6_init_32 : decode cX6_init 32 = .ok (.newarray .int, 2) := by decide +kernel
theorem dX6_init_34 : decode cX6_init 34 = .ok (.putfield 19, 3) := by decide +kernel
theorem dX6_init_37 : decode cX6_init 37 = .ok (.aload_n 0, 1) := by decide +kernel
theorem dX6_init_38 : decode cX6_init 38 = .ok (.bipush 16, 2) := by decide +kernel
theorem dX6_init_40 : decode cX6_init 40 = .ok (.newarray .int, 2) := by decide +kernel
theorem dX6_init_42 : decode cX6_init 42 = .ok (.putfield 22, 3) := by decide +kernel
theorem dX6_init_45 : decode cX6_init 45 = .ok (.aload_n 0, 1) := by decide +kernel
theorem dX6_init_46 : decode cX6_init 46 = .ok (.bipush 16, 2) := by decide +kernel
theorem dX6_init_48 : decode cX6_init 48 = .ok (.newarray .boolean, 2) := by decide +kernel
theorem dX6_init_50 : decode cX6_init 50 = .ok (.putfield 25, 3) := by decide +kernel
theorem dX6_init_53 : decode cX6_init 53 = .ok (.aload_n 0, 1) := by decide +kernel
theorem dX6_init_54 : decode cX6_init 54 = .ok (.bipush 16, 2) := by decide +kernel
theorem dX6_init_56 : decode cX6_init 56 = .ok (.newarray .int, 2) := by decide +kernel
theorem dX6_init_58 : decode cX6_init 58 = .ok (.putfield 29, 3) := by decide +kernel
theorem dX6_init_61 : decode cX6_init 61 = .ok (.aload_n 0, 1) := by decide +kernel
theorem dX6_init_62 : decode cX6_init 62 = .ok (.bipush 16, 2) := by decide +kernel
theorem dX6_init_64 : decode cX6_init 64 = .ok (.newarray .int, 2) := by decide +kernel
theorem dX6_init_66 : decode cX6_init 66 = .ok (.putfield 32, 3) := by decide +kernel
theorem dX6_init_69 : decode cX6_init 69 = .ok (.aload_n 0, 1) := by decide +kernel
theorem dX6_init_70 : decode cX6_init 70 = .ok (.bipush 16, 2) := by decide +kernel
theorem dX6_init_72 : decode cX6_init 72 = .ok (.newarray .int, 2) := by decide +kernel
theorem dX6_init_74 : decode cX6_init 74 = .ok (.putfield 35, 3) := by decide +kernel
theorem dX6_init_77 : decode cX6_init 77 = .ok (.aload_n 0, 1) := by decide +kernel
theorem dX6_init_78 : decode cX6_init 78 = .ok (.iconst (-1), 1) := by decide +kernel
theorem dX6_init_79 : decode cX6_init 79 = .ok (.putfield 38, 3) := by decide +kernel
theorem dX6_init_82 : decode cX6_init 82 = .ok (.aload_n 0, 1) := by decide +kernel
theorem dX6_init_83 : decode cX6_init 83 = .ok (.bipush 16, 2) := by decide +kernel
theorem dX6_init_85 : decode cX6_init 85 = .ok (.newarray .int, 2) := by decide +kernel
theorem dX6_init_87 : decode cX6_init 87 = .ok (.putfield 42, 3) := by decide +kernel
theorem dX6_init_90 : decode cX6_init 90 = .ok (.aload_n 0, 1) := by decide +kernel
theorem dX6_init_91 : decode cX6_init 91 = .ok (.bipush 8, 2) := by decide +kernel
theorem dX6_init_93 : decode cX6_init 93 = .ok (.newarray .int, 2) := by decide +kernel
theorem dX6_init_95 : decode cX6_init 95 = .ok (.putfield 45, 3) := by decide +kernel
theorem dX6_init_98 : decode cX6_init 98 = .ok (.aload_n 0, 1) := by decide +kernel
theorem dX6_init_99 : decode cX6_init 99 = .ok (.bipush 8, 2) := by decide +kernel
theorem dX6_init_101 : decode cX6_init 101 = .ok (.newarray .int, 2) := by decide +kernel
theorem dX6_init_103 : decode cX6_init 103 = .ok (.putfield 48, 3) := by decide +kernel
theorem dX6_init_106 : decode cX6_init 106 = .ok (.aload_n 0, 1) := by decide +kernel
theorem dX6_init_107 : decode cX6_init 107 = .ok (.bipush 8, 2) := by decide +kernel
theorem dX6_init_109 : decode cX6_init 109 = .ok (.newarray .int, 2) := by decide +kernel
theorem dX6_init_111 : decode cX6_init 111 = .ok (.putfield 51, 3) := by decide +kernel
theorem dX6_init_114 : decode cX6_init 114 = .ok (.aload_n 0, 1) := by decide +kernel
theorem dX6_init_115 : decode cX6_init 115 = .ok (.bipush 8, 2) := by decide +kernel
theorem dX6_init_117 : decode cX6_init 117 = .ok (.newarray .int, 2) := by decide +kernel
theorem dX6_init_119 : decode cX6_init 119 = .ok (.putfield 54, 3) := by decide +kernel
theorem dX6_init_122 : decode cX6_init 122 = .ok (.aload_n 0, 1) := by decide +kernel
theorem dX6_init_123 : decode cX6_init 123 = .ok (.bipush 8, 2) := by decide +kernel
theorem dX6_init_125 : decode cX6_init 125 = .ok (.newarray .boolean, 2) := by decide +kernel
theorem dX6_init_127 : decode cX6_init 127 = .ok (.putfield 57, 3) := by decide +kernel
theorem dX6_init_130 : decode cX6_init 130 = .ok (.aload_n 0, 1) := by decide +kernel
theorem dX6_init_131 : decode cX6_init 131 = .ok (.bipush 8, 2) := by decide +kernel
theorem dX6_init_133 : decode cX6_init 133 = .ok (.newarray .int, 2) := by decide +kernel
theorem dX6_init_135 : decode cX6_init 135 = .ok (.putfield 60, 3) := by decide +kernel
theorem dX6_init_138 : decode cX6_init 138 = .ok (.aload_n 0, 1) := by decide +kernel
theorem dX6_init_139 : decode cX6_init 139 = .ok (.bipush 8, 2) := by decide +kernel
theorem dX6_init_141 : decode cX6_init 141 = .ok (.newarray .int, 2) := by decide +kernel
theorem dX6_init_143 : decode cX6_init 143 = .ok (.putfield 63, 3) := by decide +kernel
theorem dX6_init_146 : decode cX6_init 146 = .ok (.aload_n 0, 1) := by decide +kernel
theorem dX6_init_147 : decode cX6_init 147 = .ok (.bipush 8, 2) := by decide +kernel
theorem dX6_init_149 : decode cX6_init 149 = .ok (.newarray .int, 2) := by decide +kernel
theorem dX6_init_151 : decode cX6_init 151 = .ok (.putfield 66, 3) := by decide +kernel
theorem dX6_init_154 : decode cX6_init 154 = .ok (.aload_n 0, 1) := by decide +kernel
theorem dX6_init_155 : decode cX6_init 155 = .ok (.bipush 8, 2) := by decide +kernel
theorem dX6_init_157 : decode cX6_init 157 = .ok (.newarray .int, 2) := by decide +kernel
theorem dX6_init_159 : decode cX6_init 159 = .ok (.putfield 69, 3) := by decide +kernel
theorem dX6_init_162 : decode cX6_init 162 = .ok (.aload_n 0, 1) := by decide +kernel
theorem dX6_init_163 : decode cX6_init 163 = .ok (.bipush 8, 2) := by decide +kernel
theorem dX6_init_165 : decode cX6_init 165 = .ok (.newarray .int, 2) := by decide +kernel
theorem dX6_init_167 : decode cX6_init 167 = .ok (.putfield 72, 3) := by decide +kernel
theorem dX6_init_170 : decode cX6_init 170 = .ok (.aload_n 0, 1) := by decide +kernel
theorem dX6_init_171 : decode cX6_init 171 = .ok (.bipush 8, 2) := by decide +kernel
theorem dX6_init_173 : decode cX6_init 173 = .ok (.newarray .int, 2) := by decide +kernel
theorem dX6_init_175 : decode cX6_init 175 = .ok (.putfield 75, 3) := by decide +kernel
theorem dX6_init_178 : decode cX6_init 178 = .ok (.aload_n 0, 1) := by decide +kernel
theorem dX6_init_179 : decode cX6_init 179 = .ok (.sipush 128, 3) := by decide +kernel
theorem dX6_init_182 : decode cX6_init 182 = .ok (.newarray .int, 2) := by decide +kernel
theorem dX6_init_184 : decode cX6_init 184 = .ok (.putfield 78, 3) := by decide +kernel
theorem dX6_init_187 : decode cX6_init 187 = .ok (.aload_n 0, 1) := by decide +kernel
theorem dX6_init_188 : decode cX6_init 188 = .ok (.sipush 128, 3) := by decide +kernel
theorem dX6_init_191 : decode cX6_init 191 = .ok (.newarray .int, 2) := by decide +kernel
theorem dX6_init_193 : decode cX6_init 193 = .ok (.putfield 81, 3) := by decide +kernel
theorem dX6_init_196 : decode cX6_init 196 = .ok (.aload_n 0, 1) := by decide +kernel
theorem dX6_init_197 : decode cX6_init 197 = .ok (.sipush 400, 3) := by decide +kernel
theorem dX6_init_200 : decode cX6_init 200 = .ok (.newarray .int, 2) := by decide +kernel
theorem dX6_init_202 : decode cX6_init 202 = .ok (.putfield 84, 3) := by decide +kernel
theorem dX6_init_205 : decode cX6_init 205 = .ok (.aload_n 0, 1) := by decide +kernel
theorem dX6_init_206 : decode cX6_init 206 = .ok (.sipush 400, 3) := by decide +kernel
theorem dX6_init_209 : decode cX6_init 209 = .ok (.newarray .int, 2) := by decide +kernel
theorem dX6_init_211 : decode cX6_init 211 = .ok (.putfield 87, 3) := by decide +kernel
theorem dX6_init_214 : decode cX6_init 214 = .ok (.aload_n 0, 1) := by decide +kernel
theorem dX6_init_215 : decode cX6_init 215 = .ok (.sipush 400, 3) := by decide +kernel
theorem dX6_init_218 : decode cX6_init 218 = .ok (.newarray .int, 2) := by decide +kernel
theorem dX6_init_220 : decode cX6_init 220 = .ok (.putfield 90, 3) := by decide +kernel
theorem dX6_init_223 : decode cX6_init 223 = .ok (.aload_n 0, 1) := by decide +kernel
theorem dX6_init_224 : decode cX6_init 224 = .ok (.sipush 400, 3) := by decide +kernel
theorem dX6_init_227 : decode cX6_init 227 = .ok (.newarray .int, 2) := by decide +kernel
theorem dX6_init_229 : decode cX6_init 229 = .ok (.putfield 93, 3) := by decide +kernel
theorem dX6_init_232 : decode cX6_init 232 = .ok (.aload_n 0, 1) := by decide +kernel
theorem dX6_init_233 : decode cX6_init 233 = .ok (.sipush 400, 3) := by decide +kernel
theorem dX6_init_236 : decode cX6_init 236 = .ok (.newarray .int, 2) := by decide +kernel
theorem dX6_init_238 : decode cX6_init 238 = .ok (.putfield 96, 3) := by decide +kernel
theorem dX6_init_241 : decode cX6_init 241 = .ok (.aload_n 0, 1) := by decide +kernel
theorem dX6_init_242 : decode cX6_init 242 = .ok (.sipush 400, 3) := by decide +kernel
theorem dX6_init_245 : decode cX6_init 245 = .ok (.newarray .int, 2) := by decide +kernel
theorem dX6_init_247 : decode cX6_init 247 = .ok (.putfield 99, 3) := by decide +kernel
theorem dX6_init_250 : decode cX6_init 250 = .ok (.aload_n 0, 1) := by decide +kernel
theorem dX6_init_251 : decode cX6_init 251 = .ok (.bipush 62, 2) := by decide +kernel
theorem dX6_init_253 : decode cX6_init 253 = .ok (.newarray .int, 2) := by decide +kernel
theorem dX6_init_255 : decode cX6_init 255 = .ok (.dup, 1) := by decide +kernel
theorem dX6_init_256 : decode cX6_init 256 = .ok (.iconst 0, 1) := by decide +kernel
theorem dX6_init_257 : decode cX6_init 257 = .ok (.bipush 102, 2) := by decide +kernel
theorem dX6_init_259 : decode cX6_init 259 = .ok (.iastore, 1) := by decide +kernel
theorem dX6_init_260 : decode cX6_init 260 = .ok (.dup, 1) := by decide +kernel
theorem dX6_init_261 : decode cX6_init 261 = .ok (.iconst 1, 1) := by decide +kernel
theorem dX6_init_262 : decode cX6_init 262 = .ok (.bipush 111, 2) := by decide +kernel
theorem dX6_init_264 : decode cX6_init 264 = .ok (.iastore, 1) := by decide +kernel
theorem dX6_init_265 : decode cX6_init 265 = .ok (.dup, 1) := by decide +kernel
theorem dX6_init_266 : decode cX6_init 266 = .ok (.iconst 2, 1) := by decide +kernel
theorem dX6_init_267 : decode cX6_init 267 = .ok (.bipush 114, 2) := by decide +kernel
theorem dX6_init_269 : decode cX6_init 269 = .ok (.iastore, 1) := by decide +kernel
theorem dX6_init_270 : decode cX6_init 270 = .ok (.dup, 1) := by decide +kernel
theorem dX6_init_271 : decode cX6_init 271 = .ok (.iconst 3, 1) := by decide +kernel
theorem dX6_init_272 : decode cX6_init 272 = .ok (.bipush 109, 2) := by decide +kernel
theorem dX6_init_274 : decode cX6_init 274 = .ok (.iastore, 1) := by decide +kernel
theorem dX6_init_275 : decode cX6_init 275 = .ok (.dup, 1) := by decide +kernel
theorem dX6_init_276 : decode cX6_init 276 = .ok (.iconst 4, 1) := by decide +kernel
theorem dX6_init_277 : decode cX6_init 277 = .ok (.bipush 97, 2) := by decide +kernel
theorem dX6_init_279 : decode cX6_init 279 = .ok (.iastore, 1) := by decide +kernel
theorem dX6_init_280 : decode cX6_init 280 = .ok (.dup, 1) := by decide +kernel
theorem dX6_init_281 : decode cX6_init 281 = .ok (.iconst 5, 1) := by decide +kernel
theorem dX6_init_282 : decode cX6_init 282 = .ok (.bipush 116, 2) := by decide +kernel
theorem dX6_init_284 : decode cX6_init 284 = .ok (.iastore, 1) := by decide +kernel
theorem dX6_init_285 : decode cX6_init 285 = .ok (.dup, 1) := by decide +kernel
theorem dX6_init_286 : decode cX6_init 286 = .ok (.bipush 6, 2) := by decide +kernel
theorem dX6_init_288 : decode cX6_init 288 = .ok (.bipush 32, 2) := by decide +kernel
theorem dX6_init_290 : decode cX6_init 290 = .ok (.iastore, 1) := by decide +kernel
theorem dX6_init_291 : decode cX6_init 291 = .ok (.dup, 1) := by decide +kernel
theorem dX6_init_292 : decode cX6_init 292 = .ok (.bipush 7, 2) := by decide +kernel
theorem dX6_init_294 : decode cX6_init 294 = .ok (.bipush 108, 2) := by decide +kernel
theorem dX6_init_296 : decode cX6_init 296 = .ok (.iastore, 1) := by decide +kernel
theorem dX6_init_297 : decode cX6_init 297 = .ok (.dup, 1) := by decide +kernel
theorem dX6_init_298 : decode cX6_init 298 = .ok (.bipush 8, 2) := by decide +kernel
theorem dX6_init_300 : decode cX6_init 300 = .ok (.bipush 97, 2) := by decide +kernel
theorem dX6_init_302 : decode cX6_init 302 = .ok (.iastore, 1) := by decide +kernel
theorem dX6_init_303 : decode cX6_init 303 = .ok (.dup, 1) := by decide +kernel
theorem dX6_init_304 : decode cX6_init 304 = .ok (.bipush 9, 2) := by decide +kernel
theorem dX6_init_306 : decode cX6_init 306 = .ok (.bipush 112, 2) := by decide +kernel
end
section
theorem dX6_init_308 : decode cX6_init 308 = .ok (.iastore, 1) := by decide +kernel
theorem dX6_init_309 : decode cX6_init 309 = .ok (.dup, 1) := by decide +kernel
theorem dX6_init_310 : decode cX6_init 310 = .ok (.bipush 10, 2) := by decide +kernel
theorem dX6_init_312 : decode cX6_init 312 = .ok (.bipush 115, 2) := by decide +kernel
theorem dX6_init_314 : decode cX6_init 314 = .ok (.iastore, 1) := by decide +kernel
theorem dX6_init_315 : decode cX6_init 315 = .ok (.dup, 1) := by decide +kernel
theorem dX6_init_316 : decode cX6_init 316 = .ok (.bipush 11, 2) := by decide +kernel
theorem dX6_init_318 : decode cX6_init 318 = .ok (.bipush 32, 2) := by decide +kernel
theorem dX6_init_320 : decode cX6_init 320 = .ok (.iastore, 1) := by decide +kernel
theorem dX6_init_321 : decode cX6_init 321 = .ok (.dup, 1) := by decide +kernel
theorem dX6_init_322 : decode cX6_init 322 = .ok (.bipush 12, 2) := by decide +kernel
theorem dX6_init_324 : decode cX6_init 324 = .ok (.bipush 115, 2) := by decide +kernel
theorem dX6_init_326 : decode cX6_init 326 = .ok (.iastore, 1) := by decide +kernel
theorem dX6_init_327 : decode cX6_init 327 = .ok (.dup, 1) := by decide +kernel
theorem dX6_init_328 : decode cX6_init 328 = .ok (.bipush 13, 2) := by decide +kernel
theorem dX6_init_330 : decode cX6_init 330 = .ok (.bipush 104, 2) := by decide +kernel
theorem dX6_init_332 : decode cX6_init 332 = .ok (.iastore, 1) := by decide +kernel
theorem dX6_init_333 : decode cX6_init 333 = .ok (.dup, 1) := by decide +kernel
theorem dX6_init_334 : decode cX6_init 334 = .ok (.bipush 14, 2) := by decide +kernel
theorem dX6_init_336 : decode cX6_init 336 = .ok (.bipush 111, 2) := by decide +kernel
theorem dX6_init_338 : decode cX6_init 338 = .ok (.iastore, 1) := by decide +kernel
theorem dX6_init_339 : decode cX6_init 339 = .ok (.dup, 1) := by decide +kernel
theorem dX6_init_340 : decode cX6_init 340 = .ok (.bipush 15, 2) := by decide +kernel
theorem dX6_init_342 : decode cX6_init 342 = .ok (.bipush 111, 2) := by decide +kernel
theorem dX6_init_344 : decode cX6_init 344 = .ok (.iastore, 1) := by decide +kernel
theorem dX6_init_345 : decode cX6_init 345 = .ok (.dup, 1) := by decide +kernel
theorem dX6_init_346 : decode cX6_init 346 = .ok (.bipush 16, 2) := by decide +kernel
theorem dX6_init_348 : decode cX6_init 348 = .ok (.bipush 116, 2) := by decide +kernel
theorem dX6_init_350 : decode cX6_init 350 = .ok (.iastore, 1) := by decide +kernel
theorem dX6_init_351 : decode cX6_init 351 = .ok (.dup, 1) := by decide +kernel
theorem dX6_init_352 : decode cX6_init 352 = .ok (.bipush 17, 2) := by decide +kernel
theorem dX6_init_354 : decode cX6_init 354 = .ok (.bipush 32, 2) := by decide +kernel
theorem dX6_init_356 : decode cX6_init 356 = .ok (.iastore, 1) := by decide +kernel
theorem dX6_init_357 : decode cX6_init 357 = .ok (.dup, 1) := by decide +kernel
theorem dX6_init_358 : decode cX6_init 358 = .ok (.bipush 18, 2) := by decide +kernel
theorem dX6_init_360 : decode cX6_init 360 = .ok (.bipush 115, 2) := by decide +kernel
theorem dX6_init_362 : decode cX6_init 362 = .ok (.iastore, 1) := by decide +kernel
theorem dX6_init_363 : decode cX6_init 363 = .ok (.dup, 1) := by decide +kernel
theorem dX6_init_364 : decode cX6_init 364 = .ok (.bipush 19, 2) := by decide +kernel
theorem dX6_init_366 : decode cX6_init 366 = .ok (.bipush 112, 2) := by decide +kernel
theorem dX6_init_368 : decode cX6_init 368 = .ok (.iastore, 1) := by decide +kernel
theorem dX6_init_369 : decode cX6_init 369 = .ok (.dup, 1) := by decide +kernel
theorem dX6_init_370 : decode cX6_init 370 = .ok (.bipush 20, 2) := by decide +kernel
theorem dX6_init_372 : decode cX6_init 372 = .ok (.bipush 97, 2) := by decide +kernel
theorem dX6_init_374 : decode cX6_init 374 = .ok (.iastore, 1) := by decide +kernel
theorem dX6_init_375 : decode cX6_init 375 = .ok (.dup, 1) := by decide +kernel
theorem dX6_init_376 : decode cX6_init 376 = .ok (.bipush 21, 2) := by decide +kernel
theorem dX6_init_378 : decode cX6_init 378 = .ok (.bipush 114, 2) := by decide +kernel
theorem dX6_init_380 : decode cX6_init 380 = .ok (.iastore, 1) := by decide +kernel
theorem dX6_init_381 : decode cX6_init 381 = .ok (.dup, 1) := by decide +kernel
theorem dX6_init_382 : decode cX6_init 382 = .ok (.bipush 22, 2) := by decide +kernel
theorem dX6_init_384 : decode cX6_init 384 = .ok (.bipush 101, 2) := by decide +kernel
theorem dX6_init_386 : decode cX6_init 386 = .ok (.iastore, 1) := by decide +kernel
theorem dX6_init_387 : decode cX6_init 387 = .ok (.dup, 1) := by decide +kernel
theorem dX6_init_388 : decode cX6_init 388 = .ok (.bipush 23, 2) := by decide +kernel
theorem dX6_init_390 : decode cX6_init 390 = .ok (.bipush 115, 2) := by decide +kernel
theorem dX6_init_392 : decode cX6_init 392 = .ok (.iastore, 1) := by decide +kernel
theorem dX6_init_393 : decode cX6_init 393 = .ok (.dup, 1) := by decide +kernel
theorem dX6_init_394 : decode cX6_init 394 = .ok (.bipush 24, 2) := by decide +kernel
theorem dX6_init_396 : decode cX6_init 396 = .ok (.bipush 32, 2) := by decide +kernel
theorem dX6_init_398 : decode cX6_init 398 = .ok (.iastore, 1) := by decide +kernel
theorem dX6_init_399 : decode cX6_init 399 = .ok (.dup, 1) := by decide +kernel
theorem dX6_init_400 : decode cX6_init 400 = .ok (.bipush 25, 2) := by decide +kernel
theorem dX6_init_402 : decode cX6_init 402 = .ok (.bipush 109, 2) := by decide +kernel
theorem dX6_init_404 : decode cX6_init 404 = .ok (.iastore, 1) := by decide +kernel
theorem dX6_init_405 : decode cX6_init 405 = .ok (.dup, 1) := by decide +kernel
theorem dX6_init_406 : decode cX6_init 406 = .ok (.bipush 26, 2) := by decide +kernel
theorem dX6_init_408 : decode cX6_init 408 = .ok (.bipush 105, 2) := by decide +kernel
theorem dX6_init_410 : decode cX6_init 410 = .ok (.iastore, 1) := by decide +kernel
theorem dX6_init_411 : decode cX6_init 411 = .ok (.dup, 1) := by decide +kernel
theorem dX6_init_412 : decode cX6_init 412 = .ok (.bipush 27, 2) := by decide +kernel
theorem dX6_init_414 : decode cX6_init 414 = .ok (.bipush 115, 2) := by decide +kernel
theorem dX6_init_416 : decode cX6_init 416 = .ok (.iastore, 1) := by decide +kernel
theorem dX6_init_417 : decode cX6_init 417 = .ok (.dup, 1) := by decide +kernel
theorem dX6_init_418 : decode cX6_init 418 = .ok (.bipush 28, 2) := by decide +kernel
theorem dX6_init_420 : decode cX6_init 420 = .ok (.bipush 115, 2) := by decide +kernel
theorem dX6_init_422 : decode cX6_init 422 = .ok (.iastore, 1) := by decide +kernel
theorem dX6_init_423 : decode cX6_init 423 = .ok (.dup, 1) := by decide +kernel
theorem dX6_init_424 : decode cX6_init 424 = .ok (.bipush 29, 2) := by decide +kernel
theorem dX6_init_426 : decode cX6_init 426 = .ok (.bipush 32, 2) := by decide +kernel
theorem dX6_init_428 : decode cX6_init 428 = .ok (.iastore, 1) := by decide +kernel
theorem dX6_init_429 : decode cX6_init 429 = .ok (.dup, 1) := by decide +kernel
theorem dX6_init_430 : decode cX6_init 430 = .ok (.bipush 30, 2) := by decide +kernel
theorem dX6_init_432 : decode cX6_init 432 = .ok (.bipush 108, 2) := by decide +kernel
theorem dX6_init_434 : decode cX6_init 434 = .ok (.iastore, 1) := by decide +kernel
theorem dX6_init_435 : decode cX6_init 435 = .ok (.dup, 1) := by decide +kernel
theorem dX6_init_436 : decode cX6_init 436 = .ok (.bipush 31, 2) := by decide +kernel
theorem dX6_init_438 : decode cX6_init 438 = .ok (.bipush 111, 2) := by decide +kernel
theorem dX6_init_440 : decode cX6_init 440 = .ok (.iastore, 1) := by decide +kernel
theorem dX6_init_441 : decode cX6_init 441 = .ok (.dup, 1) := by decide +kernel
theorem dX6_init_442 : decode cX6_init 442 = .ok (.bipush 32, 2) := by decide +kernel
theorem dX6_init_444 : decode cX6_init 444 = .ok (.bipush 111, 2) := by decide +kernel
theorem dX6_init_446 : decode cX6_init 446 = .ok (.iastore, 1) := by decide +kernel
theorem dX6_init_447 : decode cX6_init 447 = .ok (.dup, 1) := by decide +kernel
theorem dX6_init_448 : decode cX6_init 448 = .ok (.bipush 33, 2) := by decide +kernel
theorem dX6_init_450 : decode cX6_init 450 = .ok (.bipush 112, 2) := by decide +kernel
theorem dX6_init_452 : decode cX6_init 452 = .ok (.iastore, 1) := by decide +kernel
theorem dX6_init_453 : decode cX6_init 453 = .ok (.dup, 1) := by decide +kernel
theorem dX6_init_454 : decode cX6_init 454 = .ok (.bipush 34, 2) := by decide +kernel
theorem dX6_init_456 : decode cX6_init 456 = .ok (.bipush 32, 2) := by decide +kernel
theorem dX6_init_458 : decode cX6_init 458 = .ok (.iastore, 1) := by decide +kernel
theorem dX6_init_459 : decode cX6_init 459 = .ok (.dup, 1) := by decide +kernel
theorem dX6_init_460 : decode cX6_init 460 = .ok (.bipush 35, 2) := by decide +kernel
theorem dX6_init_462 : decode cX6_init 462 = .ok (.bipush 97, 2) := by decide +kernel
theorem dX6_init_464 : decode cX6_init 464 = .ok (.iastore, 1) := by decide +kernel
theorem dX6_init_465 : decode cX6_init 465 = .ok (.dup, 1) := by decide +kernel
theorem dX6_init_466 : decode cX6_init 466 = .ok (.bipush 36, 2) := by decide +kernel
theorem dX6_init_468 : decode cX6_init 468 = .ok (.bipush 100, 2) := by decide +kernel
theorem dX6_init_470 : decode cX6_init 470 = .ok (.iastore, 1) := by decide +kernel
theorem dX6_init_471 : decode cX6_init 471 = .ok (.dup, 1) := by decide +kernel
theorem dX6_init_472 : decode cX6_init 472 = .ok (.bipush 37, 2) := by decide +kernel
theorem dX6_init_474 : decode cX6_init 474 = .ok (.bipush 100, 2) := by decide +kernel
theorem dX6_init_476 : decode cX6_init 476 = .ok (.iastore, 1) := by decide +kernel
theorem dX6_init_477 : decode cX6_init 477 = .ok (.dup, 1) := by decide +kernel
theorem dX6_init_478 : decode cX6_init 478 = .ok (.bipush 38, 2) := by decide +kernel
theorem dX6_init_480 : decode cX6_init 480 = .ok (.bipush 32, 2) := by decide +kernel
theorem dX6_init_482 : decode cX6_init 482 = .ok (.iastore, 1) := by decide +kernel
theorem dX6_init_483 : decode cX6_init 483 = .ok (.dup, 1) := by decide +kernel
theorem dX6_init_484 : decode cX6_init 484 = .ok (.bipush 39, 2) := by decide +kernel
theorem dX6_init_486 : decode cX6_init 486 = .ok (.bipush 115, 2) := by decide +kernel
theorem dX6_init_488 : decode cX6_init 488 = .ok (.iastore, 1) := by decide +kernel
theorem dX6_init_489 : decode cX6_init 489 = .ok (.dup, 1) := by decide +kernel
theorem dX6_init_490 : decode cX6_init 490 = .ok (.bipush 40, 2) := by decide +kernel
theorem dX6_init_492 : decode cX6_init 492 = .ok (.bipush 116, 2) := by decide +kernel
theorem dX6_init_494 : decode cX6_init 494 = .ok (.iastore, 1) := by decide +kernel
theorem dX6_init_495 : decode cX6_init 495 = .ok (.dup, 1) := by decide +kernel
theorem dX6_init_496 : decode cX6_init 496 = .ok (.bipush 41, 2) := by decide +kernel
theorem dX6_init_498 : decode cX6_init 498 = .ok (.bipush 97, 2) := by decide +kernel
theorem dX6_init_500 : decode cX6_init 500 = .ok (.iastore, 1) := by decide +kernel
theorem dX6_init_501 : decode cX6_init 501 = .ok (.dup, 1) := by decide +kernel
theorem dX6_init_502 : decode cX6_init 502 = .ok (.bipush 42, 2) := by decide +kernel
theorem dX6_init_504 : decode cX6_init 504 = .ok (.bipush 114, 2) := by decide +kernel
theorem dX6_init_506 : decode cX6_init 506 = .ok (.iastore, 1) := by decide +kernel
theorem dX6_init_507 : decode cX6_init 507 = .ok (.dup, 1) := by decide +kernel
theorem dX6_init_508 : decode cX6_init 508 = .ok (.bipush 43, 2) := by decide +kernel
theorem dX6_init_510 : decode cX6_init 510 = .ok (.bipush 116, 2) := by decide +kernel
theorem dX6_init_512 : decode cX6_init 512 = .ok (.iastore, 1) := by decide +kernel
theorem dX6_init_513 : decode cX6_init 513 = .ok (.dup, 1) := by decide +kernel
theorem dX6_init_514 : decode cX6_init 514 = .ok (.bipush 44, 2) := by decide +kernel
theorem dX6_init_516 : decode cX6_init 516 = .ok (.bipush 32, 2) := by decide +kernel
theorem dX6_init_518 : decode cX6_init 518 = .ok (.iastore, 1) := by decide +kernel
theorem dX6_init_519 : decode cX6_init 519 = .ok (.dup, 1) := by decide +kernel
theorem dX6_init_520 : decode cX6_init 520 = .ok (.bipush 45, 2) := by decide +kernel
theorem dX6_init_522 : decode cX6_init 522 = .ok (.bipush 109, 2) := by decide +kernel
theorem dX6_init_524 : decode cX6_init 524 = .ok (.iastore, 1) := by decide +kernel
theorem dX6_init_525 : decode cX6_init 525 = .ok (.dup, 1) := by decide +kernel
theorem dX6_init_526 : decode cX6_init 526 = .ok (.bipush 46, 2) := by decide +kernel
theorem dX6_init_528 : decode cX6_init 528 = .ok (.bipush 97, 2) := by decide +kernel
theorem dX6_init_530 : decode cX6_init 530 = .ok (.iastore, 1) := by decide +kernel
theorem dX6_init_531 : decode cX6_init 531 = .ok (.dup, 1) := by decide +kernel
theorem dX6_init_532 : decode cX6_init 532 = .ok (.bipush 47, 2) := by decide +kernel
theorem dX6_init_534 : decode cX6_init 534 = .ok (.bipush 115, 2) := by decide +kernel
theorem dX6_init_536 : decode cX6_init 536 = .ok (.iastore, 1) := by decide +kernel
theorem dX6_init_537 : decode cX6_init 537 = .ok (.dup, 1) := by decide +kernel
theorem dX6_init_538 : decode cX6_init 538 = .ok (.bipush 48, 2) := by decide +kernel
theorem dX6_init_540 : decode cX6_init 540 = .ok (.bipush 115, 2) := by decide +kernel
theorem dX6_init_542 : decode cX6_init 542 = .ok (.iastore, 1) := by decide +kernel
theorem dX6_init_543 : decode cX6_init 543 = .ok (.dup, 1) := by decide +kernel
theorem dX6_init_544 : decode cX6_init 544 = .ok (.bipush 49, 2) := by decide +kernel
theorem dX6_init_546 : decode cX6_init 546 = .ok (.bipush 32, 2) := by decide +kernel
theorem dX6_init_548 : decode cX6_init 548 = .ok (.iastore, 1) := by decide +kernel
theorem dX6_init_549 : decode cX6_init 549 = .ok (.dup, 1) := by decide +kernel
theorem dX6_init_550 : decode cX6_init 550 = .ok (.bipush 50, 2) := by decide +kernel
theorem dX6_init_552 : decode cX6_init 552 = .ok (.bipush 101, 2) := by decide +kernel
theorem dX6_init_554 : decode cX6_init 554 = .ok (.iastore, 1) := by decide +kernel
theorem dX6_init_555 : decode cX6_init 555 = .ok (.dup, 1) := by decide +kernel
theorem dX6_init_556 : decode cX6_init 556 = .ok (.bipush 51, 2) := by decide +kernel
theorem dX6_init_558 : decode cX6_init 558 = .ok (.bipush 118, 2) := by decide +kernel
theorem dX6_init_560 : decode cX6_init 560 = .ok (.iastore, 1) := by decide +kernel
theorem dX6_init_561 : decode cX6_init 561 = .ok (.dup, 1) := by decide +kernel
theorem dX6_init_562 : decode cX6_init 562 = .ok (.bipush 52, 2) := by decide +kernel
theorem dX6_init_564 : decode cX6_init 564 = .ok (.bipush 101, 2) := by decide +kernel
theorem dX6_init_566 : decode cX6_init 566 = .ok (.iastore, 1) := by decide +kernel
theorem dX6_init_567 : decode cX6_init 567 = .ok (.dup, 1) := by decide +kernel
theorem dX6_init_568 : decode cX6_init 568 = .ok (.bipush 53, 2) := by decide +kernel
theorem dX6_init_570 : decode cX6_init 570 = .ok (.bipush 114, 2) := by decide +kernel
theorem dX6_init_572 : decode cX6_init 572 = .ok (.iastore, 1) := by decide +kernel
theorem dX6_init_573 : decode cX6_init 573 = .ok (.dup, 1) := by decide +kernel
theorem dX6_init_574 : decode cX6_init 574 = .ok (.bipush 54, 2) := by decide +kernel
theorem dX6_init_576 : decode cX6_init 576 = .ok (.bipush 121, 2) := by decide +kernel
theorem dX6_init_578 : decode cX6_init 578 = .ok (.iastore, 1) := by decide +kernel
theorem dX6_init_579 : decode cX6_init 579 = .ok (.dup, 1) := by decide +kernel
theorem dX6_init_580 : decode cX6_init 580 = .ok (.bipush 55, 2) := by decide +kernel
theorem dX6_init_582 : decode cX6_init 582 = .ok (.bipush 32, 2) := by decide +kernel
theorem dX6_init_584 : decode cX6_init 584 = .ok (.iastore, 1) := by decide +kernel
theorem dX6_init_585 : decode cX6_init 585 = .ok (.dup, 1) := by decide +kernel
theorem dX6_init_586 : decode cX6_init 586 = .ok (.bipush 56, 2) := by decide +kernel
theorem dX6_init_588 : decode cX6_init 588 = .ok (.bipush 99, 2) := by decide +kernel
theorem dX6_init_590 : decode cX6_init 590 = .ok (.iastore, 1) := by decide +kernel
theorem dX6_init_591 : decode cX6_init 591 = .ok (.dup, 1) := by decide +kernel
theorem dX6_init_592 : decode cX6_init 592 = .ok (.bipush 57, 2) := by decide +kernel
theorem dX6_init_594 : decode cX6_init 594 = .ok (.bipush 104, 2) := by decide +kernel
theorem dX6_init_596 : decode cX6_init 596 = .ok (.iastore, 1) := by decide +kernel
theorem dX6_init_597 : decode cX6_init 597 = .ok (.dup, 1) := by decide +kernel
theorem dX6_init_598 : decode cX6_init 598 = .ok (.bipush 58, 2) := by decide +kernel
theorem dX6_init_600 : decode cX6_init 600 = .ok (.bipush 97, 2) := by decide +kernel
theorem dX6_init_602 : decode cX6_init 602 = .ok (.iastore, 1) := by decide +kernel
theorem dX6_init_603 : decode cX6_init 603 = .ok (.dup, 1) := by decide +kernel
theorem dX6_init_604 : decode cX6_init 604 = .ok (.bipush 59, 2) := by decide +kernel
theorem dX6_init_606 : decode cX6_init 606 = .ok (.bipush 115, 2) := by decide +kernel
theorem dX6_init_608 : decode cX6_init 608 = .ok (.iastore, 1) := by decide +kernel
theorem dX6_init_609 : decode cX6_init 609 = .ok (.dup, 1) := by decide +kernel
theorem dX6_init_610 : decode cX6_init 610 = .ok (.bipush 60, 2) := by decide +kernel
theorem dX6_init_612 : decode cX6_init 612 = .ok (.bipush 101, 2) := by decide +kernel
theorem dX6_init_614 : decode cX6_init 614 = .ok (.iastore, 1) := by decide +kernel
theorem dX6_init_615 : decode cX6_init 615 = .ok (.dup, 1) := by decide +kernel
theorem dX6_init_616 : decode cX6_init 616 = .ok (.bipush 61, 2) := by decide +kernel
theorem dX6_init_618 : decode cX6_init 618 = .ok (.bipush 32, 2) := by decide +kernel
theorem dX6_init_620 : decode cX6_init 620 = .ok (.iastore, 1) := by decide +kernel
theorem dX6_init_621 : decode cX6_init 621 = .ok (.putfield 102, 3) := by decide +kernel
theorem dX6_init_624 : decode cX6_init 624 = .ok (.aload_n 0, 1) := by decide +kernel
theorem dX6_init_625 : decode cX6_init 625 = .ok (.sipush 128, 3) := by decide +kernel
theorem dX6_init_628 : decode cX6_init 628 = .ok (.newarray .int, 2) := by decide +kernel
theorem dX6_init_630 : decode cX6_init 630 = .ok (.putfield 105, 3) := by decide +kernel
theorem dX6_init_633 : decode cX6_init 633 = .ok (.aload_n 0, 1) := by decide +kernel
theorem dX6_init_634 : decode cX6_init 634 = .ok (.sipush 128, 3) := by decide +kernel
theorem dX6_init_637 : decode cX6_init 637 = .ok (.newarray .int, 2) := by decide +kernel
theorem dX6_init_639 : decode cX6_init 639 = .ok (.putfield 108, 3) := by decide +kernel
theorem dX6_init_642 : decode cX6_init 642 = .ok (.aload_n 0, 1) := by decide +kernel
theorem dX6_init_643 : decode cX6_init 643 = .ok (.sipush 128, 3) := by decide +kernel
theorem dX6_init_646 : decode cX6_init 646 = .ok (.newarray .int, 2) := by decide +kernel
theorem dX6_init_648 : decode cX6_init 648 = .ok (.putfield 111, 3) := by decide +kernel
theorem dX6_init_651 : decode cX6_init 651 = .ok (.aload_n 0, 1) := by decide +kernel
theorem dX6_init_652 : decode cX6_init 652 = .ok (.sipush 128, 3) := by decide +kernel
theorem dX6_init_655 : decode cX6_init 655 = .ok (.newarray .int, 2) := by decide +kernel
theorem dX6_init_657 : decode cX6_init 657 = .ok (.putfield 114, 3) := by decide +kernel
theorem dX6_init_660 : decode cX6_init 660 = .ok (.aload_n 0, 1) := by decide +kernel
theorem dX6_init_661 : decode cX6_init 661 = .ok (.sipush 128, 3) := by decide +kernel
theorem dX6_init_664 : decode cX6_init 664 = .ok (.newarray .int, 2) := by decide +kernel
theorem dX6_init_666 : decode cX6_init 666 = .ok (.putfield 117, 3) := by decide +kernel
theorem dX6_init_669 : decode cX6_init 669 = .ok (.aload_n 0, 1) := by decide +kernel
theorem dX6_init_670 : decode cX6_init 670 = .ok (.bipush 16, 2) := by decide +kernel
theorem dX6_init_672 : decode cX6_init 672 = .ok (.newarray .int, 2) := by decide +kernel
theorem dX6_init_674 : decode cX6_init 674 = .ok (.putfield 120, 3) := by decide +kernel
theorem dX6_init_677 : decode cX6_init 677 = .ok (.aload_n 0, 1) := by decide +kernel
theorem dX6_init_678 : decode cX6_init 678 = .ok (.bipush 16, 2) := by decide +kernel
theorem dX6_init_680 : decode cX6_init 680 = .ok (.newarray .int, 2) := by decide +kernel
theorem dX6_init_682 : decode cX6_init 682 = .ok (.putfield 123, 3) := by decide +kernel
theorem dX6_init_685 : decode cX6_init 685 = .ok (.iconst 0, 1) := by decide +kernel
theorem dX6_init_686 : decode cX6_init 686 = .ok (.istore_n 1, 1) := by decide +kernel
theorem dX6_init_687 : decode cX6_init 687 = .ok (.iload_n 1, 1) := by decide +kernel
theorem dX6_init_688 : decode cX6_init 688 = .ok (.sipush 128, 3) := by decide +kernel
theorem dX6_init_691 : decode cX6_init 691 = .ok (.if_icmp .ge 16, 3) := by decide +kernel
theorem dX6_init_694 : decode cX6_init 694 = .ok (.aload_n 0, 1) := by decide +kernel
theorem dX6_init_695 : decode cX6_init 695 = .ok (.getfield 81, 3) := by decide +kernel
theorem dX6_init_698 : decode cX6_init 698 = .ok (.iload_n 1, 1) := by decide +kernel
theorem dX6_init_699 : decode cX6_init 699 = .ok (.iconst (-1), 1) := by decide +kernel
theorem dX6_init_700 : decode cX6_init 700 = .ok (.iastore, 1) := by decide +kernel
theorem dX6_init_701 : decode cX6_init 701 = .ok (.iinc 1 1, 3) := by decide +kernel
theorem dX6_init_704 : decode cX6_init 704 = .ok (.goto (-17), 3) := by decide +kernel
theorem dX6_init_707 : decode cX6_init 707 = .ok (.return_, 1) := by decide +kernel
theorem dX6_feed_0 : decode cX6_feed 0 = .ok (.aload_n 0, 1) := by decide +kernel
theorem dX6_feed_1 : decode cX6_feed 1 = .ok (.iconst 0, 1) := by decide +kernel
theorem dX6_feed_2 : decode cX6_feed 2 = .ok (.putfield 126, 3) := by decide +kernel
theorem dX6_feed_5 : decode cX6_feed 5 = .ok (.aload_n 0, 1) := by decide +kernel
theorem dX6_feed_6 : decode cX6_feed 6 = .ok (.getfield 129, 3) := by decide +kernel
theorem dX6_feed_9 : decode cX6_feed 9 = .ok (.bipush 20, 2) := by decide +kernel
theorem dX6_feed_11 : decode cX6_feed 11 = .ok (.iadd, 1) := by decide +kernel
theorem dX6_feed_12 : decode cX6_feed 12 = .ok (.sipush 1000, 3) := by decide +kernel
theorem dX6_feed_15 : decode cX6_feed 15 = .ok (.if_icmp .le 5, 3) := by decide +kernel
theorem dX6_feed_18 : decode cX6_feed 18 = .ok (.iconst (-1), 1) := by decide +kernel
theorem dX6_feed_19 : decode cX6_feed 19 = .ok (.ireturn, 1) := by decide +kernel
theorem dX6_feed_20 : decode cX6_feed 20 = .ok (.iconst 0, 1) := by decide +kernel
theorem dX6_feed_21 : decode cX6_feed 21 = .ok (.istore 6, 2) := by decide +kernel
theorem dX6_feed_23 : decode cX6_feed 23 = .ok (.iload 6, 2) := by decide +kernel
theorem dX6_feed_25 : decode cX6_feed 25 = .ok (.bipush 20, 2) := by decide +kernel
theorem dX6_feed_27 : decode cX6_feed 27 = .ok (.if_icmp .ge 86, 3) := by decide +kernel
theorem dX6_feed_30 : decode cX6_feed 30 = .ok (.iload 6, 2) := by decide +kernel
theorem dX6_feed_32 : decode cX6_feed 32 = .ok (.iconst 4, 1) := by decide +kernel
theorem dX6_feed_33 : decode cX6_feed 33 = .ok (.if_icmp .ge 7, 3) := by decide +kernel
theorem dX6_feed_36 : decode cX6_feed 36 = .ok (.iload_n 1, 1) := by decide +kernel
theorem dX6_feed_37 : decode cX6_feed 37 = .ok (.goto 39, 3) := by decide +kernel
theorem dX6_feed_40 : decode cX6_feed 40 = .ok (.iload 6, 2) := by decide +kernel
theorem dX6_feed_42 : decode cX6_feed 42 = .ok (.bipush 8, 2) := by decide +kernel
theorem dX6_feed_44 : decode cX6_feed 44 = .ok (.if_icmp .ge 7, 3) := by decide +kernel
theorem dX6_feed_47 : decode cX6_feed 47 = .ok (.iload_n 2, 1) := by decide +kernel
theorem dX6_feed_48 : decode cX6_feed 48 = .ok (.goto 28, 3) := by decide +kernel
theorem dX6_feed_51 : decode cX6_feed 51 = .ok (.iload 6, 2) := by decide +kernel
theorem dX6_feed_53 : decode cX6_feed 53 = .ok (.bipush 12, 2) := by decide +kernel
theorem dX6_feed_55 : decode cX6_feed 55 = .ok (.if_icmp .ge 7, 3) := by decide +kernel
theorem dX6_feed_58 : decode cX6_feed 58 = .ok (.iload_n 3, 1) := by decide +kernel
theorem dX6_feed_59 : decode cX6_feed 59 = .ok (.goto 17, 3) := by decide +kernel
theorem dX6_feed_62 : decode cX6_feed 62 = .ok (.iload 6, 2) := by decide +kernel
theorem dX6_feed_64 : decode cX6_feed 64 = .ok (.bipush 16, 2) := by decide +kernel
theorem dX6_feed_66 : decode cX6_feed 66 = .ok (.if_icmp .ge 8, 3) := by decide +kernel
theorem dX6_feed_69 : decode cX6_feed 69 = .ok (.iload 4, 2) := by decide +kernel
theorem dX6_feed_71 : decode cX6_feed 71 = .ok (.goto 5, 3) := by decide +kernel
theorem dX6_feed_74 : decode cX6_feed 74 = .ok (.iload 5, 2) := by decide +kernel
theorem dX6_feed_76 : decode cX6_feed 76 = .ok (.istore 7, 2) := by decide +kernel
theorem dX6_feed_78 : decode cX6_feed 78 = .ok (.aload_n 0, 1) := by decide +kernel
theorem dX6_feed_79 : decode cX6_feed 79 = .ok (.getfield 7, 3) := by decide +kernel
theorem dX6_feed_82 : decode cX6_feed 82 = .ok (.aload_n 0, 1) := by decide +kernel
theorem dX6_feed_83 : decode cX6_feed 83 = .ok (.getfield 129, 3) := by decide +kernel
theorem dX6_feed_86 : decode cX6_feed 86 = .ok (.iload 6, 2) := by decide +kernel
theorem dX6_feed_88 : decode cX6_feed 88 = .ok (.iadd, 1) := by decide +kernel
theorem dX6_feed_89 : decode cX6_feed 89 = .ok (.iload 7, 2) := by decide +kernel
theorem dX6_feed_91 : decode cX6_feed 91 = .ok (.bipush 24, 2) := by decide +kernel
theorem dX6_feed_93 : decode cX6_feed 93 = .ok (.bipush 8, 2) := by decide +kernel
theorem dX6_feed_95 : decode cX6_feed 95 = .ok (.iload 6, 2) := by decide +kernel
theorem dX6_feed_97 : decode cX6_feed 97 = .ok (.iconst 4, 1) := by decide +kernel
theorem dX6_feed_98 : decode cX6_feed 98 = .ok (.irem, 1) := by decide +kernel
theorem dX6_feed_99 : decode cX6_feed 99 = .ok (.imul, 1) := by decide +kernel
theorem dX6_feed_100 : decode cX6_feed 100 = .ok (.isub, 1) := by decide +kernel
theorem dX6_feed_101 : decode cX6_feed 101 = .ok (.ishr, 1) := by decide +kernel
theorem dX6_feed_102 : decode cX6_feed 102 = .ok (.sipush 255, 3) := by decide +kernel
theorem dX6_feed_105 : decode cX6_feed 105 = .ok (.iand, 1) := by decide +kernel
theorem dX6_feed_106 : decode cX6_feed 106 = .ok (.iastore, 1) := by decide +kernel
theorem dX6_feed_107 : decode cX6_feed 107 = .ok (.iinc 6 1, 3) := by decide +kernel
theorem dX6_feed_110 : decode cX6_feed 110 = .ok (.goto (-87), 3) := by decide +kernel
theorem dX6_feed_113 : decode cX6_feed 113 = .ok (.aload_n 0, 1) := by decide +kernel
theorem dX6_feed_114 : decode cX6_feed 114 = .ok (.dup, 1) := by decide +kernel
theorem dX6_feed_115 : decode cX6_feed 115 = .ok (.getfield 129, 3) := by decide +kernel
theorem dX6_feed_118 : decode cX6_feed 118 = .ok (.bipush 20, 2) := by decide +kernel
theorem dX6_feed_120 : decode cX6_feed 120 = .ok (.iadd, 1) := by decide +kernel
theorem dX6_feed_121 : decode cX6_feed 121 = .ok (.putfield 129, 3) := by decide +kernel
theorem dX6_feed_124 : decode cX6_feed 124 = .ok (.aload_n 0, 1) := by decide +kernel
theorem dX6_feed_125 : decode cX6_feed 125 = .ok (.getfield 129, 3) := by decide +kernel
theorem dX6_feed_128 : decode cX6_feed 128 = .ok (.ireturn, 1) := by decide +kernel
theorem dX6_wrong_0 : decode cX6_wrong 0 = .ok (.aload_n 0, 1) := by decide +kernel
theorem dX6_wrong_1 : decode cX6_wrong 1 = .ok (.iload_n 1, 1) := by decide +kernel
theorem dX6_wrong_2 : decode cX6_wrong 2 = .ok (.putfield 132, 3) := by decide +kernel
theorem dX6_wrong_5 : decode cX6_wrong 5 = .ok (.aload_n 0, 1) := by decide +kernel
theorem dX6_wrong_6 : decode cX6_wrong 6 = .ok (.iload_n 2, 1) := by decide +kernel
theorem dX6_wrong_7 : decode cX6_wrong 7 = .ok (.putfield 38, 3) := by decide +kernel
theorem dX6_wrong_10 : decode cX6_wrong 10 = .ok (.iconst 0, 1) := by decide +kernel
theorem dX6_wrong_11 : decode cX6_wrong 11 = .ok (.ireturn, 1) := by decide +kernel
theorem dX6_wordAt_0 : decode cX6_wordAt 0 = .ok (.iconst 1, 1) := by decide +kernel
theorem dX6_wordAt_1 : decode cX6_wordAt 1 = .ok (.istore_n 3, 1) := by decide +kernel
theorem dX6_wordAt_2 : decode cX6_wordAt 2 = .ok (.iconst 0, 1) := by decide +kernel
theorem dX6_wordAt_3 : decode cX6_wordAt 3 = .ok (.istore 4, 2) := by decide +kernel
theorem dX6_wordAt_5 : decode cX6_wordAt 5 = .ok (.iload 4, 2) := by decide +kernel
theorem dX6_wordAt_7 : decode cX6_wordAt 7 = .ok (.aload_n 0, 1) := by decide +kernel
theorem dX6_wordAt_8 : decode cX6_wordAt 8 = .ok (.getfield 102, 3) := by decide +kernel
theorem dX6_wordAt_11 : decode cX6_wordAt 11 = .ok (.arraylength, 1) := by decide +kernel
theorem dX6_wordAt_12 : decode cX6_wordAt 12 = .ok (.if_icmp .ge 114, 3) := by decide +kernel
theorem dX6_wordAt_15 : decode cX6_wordAt 15 = .ok (.iconst 0, 1) := by decide +kernel
theorem dX6_wordAt_16 : decode cX6_wordAt 16 = .ok (.istore 5, 2) := by decide +kernel
theorem dX6_wordAt_18 : decode cX6_wordAt 18 = .ok (.aload_n 0, 1) := by decide +kernel
theorem dX6_wordAt_19 : decode cX6_wordAt 19 = .ok (.getfield 102, 3) := by decide +kernel
theorem dX6_wordAt_22 : decode cX6_wordAt 22 = .ok (.iload 4, 2) := by decide +kernel
theorem dX6_wordAt_24 : decode cX6_wordAt 24 = .ok (.iload 5, 2) := by decide +kernel
theorem dX6_wordAt_26 : decode cX6_wordAt 26 = .ok (.iadd, 1) := by decide +kernel
theorem dX6_wordAt_27 : decode cX6_wordAt 27 = .ok (.iaload, 1) := by decide +kernel
theorem dX6_wordAt_28 : decode cX6_wordAt 28 = .ok (.bipush 32, 2) := by decide +kernel
theorem dX6_wordAt_30 : decode cX6_wordAt 30 = .ok (.if_icmp .eq 9, 3) := by decide +kernel
theorem dX6_wordAt_33 : decode cX6_wordAt 33 = .ok (.iinc 5 1, 3) := by decide +kernel
theorem dX6_wordAt_36 : decode cX6_wordAt 36 = .ok (.goto (-18), 3) := by decide +kernel
theorem dX6_wordAt_39 : decode cX6_wordAt 39 = .ok (.iload 5, 2) := by decide +kernel
theorem dX6_wordAt_41 : decode cX6_wordAt 41 = .ok (.iload_n 2, 1) := by decide +kernel
theorem dX6_wordAt_42 : decode cX6_wordAt 42 = .ok (.iload_n 1, 1) := by decide +kernel
theorem dX6_wordAt_43 : decode cX6_wordAt 43 = .ok (.isub, 1) := by decide +kernel
theorem dX6_wordAt_44 : decode cX6_wordAt 44 = .ok (.if_icmp .ne 7, 3) := by decide +kernel
theorem dX6_wordAt_47 : decode cX6_wordAt 47 = .ok (.iconst 1, 1) := by decide +kernel
theorem dX6_wordAt_48 : decode cX6_wordAt 48 = .ok (.goto 4, 3) := by decide +kernel
theorem dX6_wordAt_51 : decode cX6_wordAt 51 = .ok (.iconst 0, 1) := by decide +kernel
theorem dX6_wordAt_52 : decode cX6_wordAt 52 = .ok (.istore 6, 2) := by decide +kernel
theorem dX6_wordAt_54 : decode cX6_wordAt 54 = .ok (.iconst 0, 1) := by decide +kernel
theorem dX6_wordAt_55 : decode cX6_wordAt 55 = .ok (.istore 7, 2) := by decide +kernel
theorem dX6_wordAt_57 : decode cX6_wordAt 57 = .ok (.iload 7, 2) := by decide +kernel
theorem dX6_wordAt_59 : decode cX6_wordAt 59 = .ok (.iload 5, 2) := by decide +kernel
theorem dX6_wordAt_61 : decode cX6_wordAt 61 = .ok (.if_icmp .ge 43, 3) := by decide +kernel
theorem dX6_wordAt_64 : decode cX6_wordAt 64 = .ok (.iload 6, 2) := by decide +kernel
theorem dX6_wordAt_66 : decode cX6_wordAt 66 = .ok (.ifCond .eq 38, 3) := by decide +kernel
theorem dX6_wordAt_69 : decode cX6_wordAt 69 = .ok (.aload_n 0, 1) := by decide +kernel
theorem dX6_wordAt_70 : decode cX6_wordAt 70 = .ok (.getfield 102, 3) := by decide +kernel
theorem dX6_wordAt_73 : decode cX6_wordAt 73 = .ok (.iload 4, 2) := by decide +kernel
theorem dX6_wordAt_75 : decode cX6_wordAt 75 = .ok (.iload 7, 2) := by decide +kernel
theorem dX6_wordAt_77 : decode cX6_wordAt 77 = .ok (.iadd, 1) := by decide +kernel
theorem dX6_wordAt_78 : decode cX6_wordAt 78 = .ok (.iaload, 1) := by decide +kernel
theorem dX6_wordAt_79 : decode cX6_wordAt 79 = .ok (.aload_n 0, 1) := by decide +kernel
theorem dX6_wordAt_80 : decode cX6_wordAt 80 = .ok (.getfield 7, 3) := by decide +kernel
theorem dX6_wordAt_83 : decode cX6_wordAt 83 = .ok (.iload_n 1, 1) := by decide +kernel
theorem dX6_wordAt_84 : decode cX6_wordAt 84 = .ok (.iload 7, 2) := by decide +kernel
theorem dX6_wordAt_86 : decode cX6_wordAt 86 = .ok (.iadd, 1) := by decide +kernel
theorem dX6_wordAt_87 : decode cX6_wordAt 87 = .ok (.iaload, 1) := by decide +kernel
theorem dX6_wordAt_88 : decode cX6_wordAt 88 = .ok (.if_icmp .ne 7, 3) := by decide +kernel
theorem dX6_wordAt_91 : decode cX6_wordAt 91 = .ok (.iconst 1, 1) := by decide +kernel
theorem dX6_wordAt_92 : decode cX6_wordAt 92 = .ok (.goto 4, 3) := by decide +kernel
theorem dX6_wordAt_95 : decode cX6_wordAt 95 = .ok (.iconst 0, 1) := by decide +kernel
theorem dX6_wordAt_96 : decode cX6_wordAt 96 = .ok (.istore 6, 2) := by decide +kernel
theorem dX6_wordAt_98 : decode cX6_wordAt 98 = .ok (.iinc 7 1, 3) := by decide +kernel
theorem dX6_wordAt_101 : decode cX6_wordAt 101 = .ok (.goto (-44), 3) := by decide +kernel
theorem dX6_wordAt_104 : decode cX6_wordAt 104 = .ok (.iload 6, 2) := by decide +kernel
theorem dX6_wordAt_106 : decode cX6_wordAt 106 = .ok (.ifCond .eq 5, 3) := by decide +kernel
theorem dX6_wordAt_109 : decode cX6_wordAt 109 = .ok (.iload_n 3, 1) := by decide +kernel
theorem dX6_wordAt_110 : decode cX6_wordAt 110 = .ok (.ireturn, 1) := by decide +kernel
theorem dX6_wordAt_111 : decode cX6_wordAt 111 = .ok (.iload 4, 2) := by decide +kernel
theorem dX6_wordAt_113 : decode cX6_wordAt 113 = .ok (.iload 5, 2) := by decide +kernel
theorem dX6_wordAt_115 : decode cX6_wordAt 115 = .ok (.iconst 1, 1) := by decide +kernel
theorem dX6_wordAt_116 : decode cX6_wordAt 116 = .ok (.iadd, 1) := by decide +kernel
theorem dX6_wordAt_117 : decode cX6_wordAt 117 = .ok (.iadd, 1) := by decide +kernel
theorem dX6_wordAt_118 : decode cX6_wordAt 118 = .ok (.istore 4, 2) := by decide +kernel
theorem dX6_wordAt_120 : decode cX6_wordAt 120 = .ok (.iinc 3 1, 3) := by decide +kernel
theorem dX6_wordAt_123 : decode cX6_wordAt 123 = .ok (.goto (-118), 3) := by decide +kernel
theorem dX6_wordAt_126 : decode cX6_wordAt 126 = .ok (.iconst (-1), 1) := by decide +kernel
theorem dX6_wordAt_127 : decode cX6_wordAt 127 = .ok (.ireturn, 1) := by decide +kernel
theorem dX6_isSmall_0 : decode cX6_isSmall 0 = .ok (.iload_n 1, 1) := by decide +kernel
theorem dX6_isSmall_1 : decode cX6_isSmall 1 = .ok (.aload_n 0, 1) := by decide +kernel
theorem dX6_isSmall_2 : decode cX6_isSmall 2 = .ok (.getfield 135, 3) := by decide +kernel
theorem dX6_isSmall_5 : decode cX6_isSmall 5 = .ok (.if_icmp .ge 29, 3) := by decide +kernel
theorem dX6_isSmall_8 : decode cX6_isSmall 8 = .ok (.aload_n 0, 1) := by decide +kernel
theorem dX6_isSmall_9 : decode cX6_isSmall 9 = .ok (.getfield 7, 3) := by decide +kernel
theorem dX6_isSmall_12 : decode cX6_isSmall 12 = .ok (.iload_n 1, 1) := by decide +kernel
theorem dX6_isSmall_13 : decode cX6_isSmall 13 = .ok (.iaload, 1) := by decide +kernel
theorem dX6_isSmall_14 : decode cX6_isSmall 14 = .ok (.bipush 97, 2) := by decide +kernel
theorem dX6_isSmall_16 : decode cX6_isSmall 16 = .ok (.if_icmp .lt 18, 3) := by decide +kernel
theorem dX6_isSmall_19 : decode cX6_isSmall 19 = .ok (.aload_n 0, 1) := by decide +kernel
theorem dX6_isSmall_20 : decode cX6_isSmall 20 = .ok (.getfield 7, 3) := by decide +kernel
theorem dX6_isSmall_23 : decode cX6_isSmall 23 = .ok (.iload_n 1, 1) := by decide +kernel
theorem dX6_isSmall_24 : decode cX6_isSmall 24 = .ok (.iaload, 1) := by decide +kernel
theorem dX6_isSmall_25 : decode cX6_isSmall 25 = .ok (.bipush 122, 2) := by decide +kernel
theorem dX6_isSmall_27 : decode cX6_isSmall 27 = .ok (.if_icmp .gt 7, 3) := by decide +kernel
theorem dX6_isSmall_30 : decode cX6_isSmall 30 = .ok (.iconst 1, 1) := by decide +kernel
theorem dX6_isSmall_31 : decode cX6_isSmall 31 = .ok (.goto 4, 3) := by decide +kernel
theorem dX6_isSmall_34 : decode cX6_isSmall 34 = .ok (.iconst 0, 1) := by decide +kernel
theorem dX6_isSmall_35 : decode cX6_isSmall 35 = .ok (.ireturn, 1) := by decide +kernel
theorem dX6_isDigit_0 : decode cX6_isDigit 0 = .ok (.iload_n 1, 1) := by decide +kernel
theorem dX6_isDigit_1 : decode cX6_isDigit 1 = .ok (.aload_n 0, 1) := by decide +kernel
theorem dX6_isDigit_2 : decode cX6_isDigit 2 = .ok (.getfield 135, 3) := by decide +kernel
theorem dX6_isDigit_5 : decode cX6_isDigit 5 = .ok (.if_icmp .ge 29, 3) := by decide +kernel
theorem dX6_isDigit_8 : decode cX6_isDigit 8 = .ok (.aload_n 0, 1) := by decide +kernel
theorem dX6_isDigit_9 : decode cX6_isDigit 9 = .ok (.getfield 7, 3) := by decide +kernel
theorem dX6_isDigit_12 : decode cX6_isDigit 12 = .ok (.iload_n 1, 1) := by decide +kernel
theorem dX6_isDigit_13 : decode cX6_isDigit 13 = .ok (.iaload, 1) := by decide +kernel
theorem dX6_isDigit_14 : decode cX6_isDigit 14 = .ok (.bipush 48, 2) := by decide +kernel
theorem dX6_isDigit_16 : decode cX6_isDigit 16 = .ok (.if_icmp .lt 18, 3) := by decide +kernel
theorem dX6_isDigit_19 : decode cX6_isDigit 19 = .ok (.aload_n 0, 1) := by decide +kernel
theorem dX6_isDigit_20 : decode cX6_isDigit 20 = .ok (.getfield 7, 3) := by decide +kernel
theorem dX6_isDigit_23 : decode cX6_isDigit 23 = .ok (.iload_n 1, 1) := by decide +kernel
theorem dX6_isDigit_24 : decode cX6_isDigit 24 = .ok (.iaload, 1) := by decide +kernel
theorem dX6_isDigit_25 : decode cX6_isDigit 25 = .ok (.bipush 57, 2) := by decide +kernel
theorem dX6_isDigit_27 : decode cX6_isDigit 27 = .ok (.if_icmp .gt 7, 3) := by decide +kernel
theorem dX6_isDigit_30 : decode cX6_isDigit 30 = .ok (.iconst 1, 1) := by decide +kernel
theorem dX6_isDigit_31 : decode cX6_isDigit 31 = .ok (.goto 4, 3) := by decide +kernel
theorem dX6_isDigit_34 : decode cX6_isDigit 34 = .ok (.iconst 0, 1) := by decide +kernel
theorem dX6_isDigit_35 : decode cX6_isDigit 35 = .ok (.ireturn, 1) := by decide +kernel
theorem dX6_take_0 : decode cX6_take 0 = .ok (.aload_n 0, 1) := by decide +kernel
theorem dX6_take_1 : decode cX6_take 1 = .ok (.getfield 138, 3) := by decide +kernel
theorem dX6_take_4 : decode cX6_take 4 = .ok (.aload_n 0, 1) := by decide +kernel
theorem dX6_take_5 : decode cX6_take 5 = .ok (.getfield 135, 3) := by decide +kernel
theorem dX6_take_8 : decode cX6_take 8 = .ok (.if_icmp .ge 44, 3) := by decide +kernel
theorem dX6_take_11 : decode cX6_take 11 = .ok (.aload_n 0, 1) := by decide +kernel
theorem dX6_take_12 : decode cX6_take 12 = .ok (.getfield 7, 3) := by decide +kernel
theorem dX6_take_15 : decode cX6_take 15 = .ok (.aload_n 0, 1) := by decide +kernel
theorem dX6_take_16 : decode cX6_take 16 = .ok (.getfield 138, 3) := by decide +kernel
theorem dX6_take_19 : decode cX6_take 19 = .ok (.iaload, 1) := by decide +kernel
theorem dX6_take_20 : decode cX6_take 20 = .ok (.bipush 10, 2) := by decide +kernel
theorem dX6_take_22 : decode cX6_take 22 = .ok (.if_icmp .eq 17, 3) := by decide +kernel
theorem dX6_take_25 : decode cX6_take 25 = .ok (.aload_n 0, 1) := by decide +kernel
theorem dX6_take_26 : decode cX6_take 26 = .ok (.getfield 7, 3) := by decide +kernel
theorem dX6_take_29 : decode cX6_take 29 = .ok (.aload_n 0, 1) := by decide +kernel
theorem dX6_take_30 : decode cX6_take 30 = .ok (.getfield 138, 3) := by decide +kernel
theorem dX6_take_33 : decode cX6_take 33 = .ok (.iaload, 1) := by decide +kernel
theorem dX6_take_34 : decode cX6_take 34 = .ok (.bipush 32, 2) := by decide +kernel
theorem dX6_take_36 : decode cX6_take 36 = .ok (.if_icmp .ne 16, 3) := by decide +kernel
theorem dX6_take_39 : decode cX6_take 39 = .ok (.aload_n 0, 1) := by decide +kernel
theorem dX6_take_40 : decode cX6_take 40 = .ok (.dup, 1) := by decide +kernel
theorem dX6_take_41 : decode cX6_take 41 = .ok (.getfield 138, 3) := by decide +kernel
theorem dX6_take_44 : decode cX6_take 44 = .ok (.iconst 1, 1) := by decide +kernel
theorem dX6_take_45 : decode cX6_take 45 = .ok (.iadd, 1) := by decide +kernel
theorem dX6_take_46 : decode cX6_take 46 = .ok (.putfield 138, 3) := by decide +kernel
theorem dX6_take_49 : decode cX6_take 49 = .ok (.goto (-49), 3) := by decide +kernel
theorem dX6_take_52 : decode cX6_take 52 = .ok (.aload_n 0, 1) := by decide +kernel
theorem dX6_take_53 : decode cX6_take 53 = .ok (.aload_n 0, 1) := by decide +kernel
theorem dX6_take_54 : decode cX6_take 54 = .ok (.getfield 138, 3) := by decide +kernel
theorem dX6_take_57 : decode cX6_take 57 = .ok (.putfield 141, 3) := by decide +kernel
theorem dX6_take_60 : decode cX6_take 60 = .ok (.aload_n 0, 1) := by decide +kernel
theorem dX6_take_61 : decode cX6_take 61 = .ok (.getfield 138, 3) := by decide +kernel
theorem dX6_take_64 : decode cX6_take 64 = .ok (.aload_n 0, 1) := by decide +kernel
theorem dX6_take_65 : decode cX6_take 65 = .ok (.getfield 135, 3) := by decide +kernel
theorem dX6_take_68 : decode cX6_take 68 = .ok (.if_icmp .ne 11, 3) := by decide +kernel
theorem dX6_take_71 : decode cX6_take 71 = .ok (.aload_n 0, 1) := by decide +kernel
theorem dX6_take_72 : decode cX6_take 72 = .ok (.iconst 0, 1) := by decide +kernel
theorem dX6_take_73 : decode cX6_take 73 = .ok (.putfield 144, 3) := by decide +kernel
theorem dX6_take_76 : decode cX6_take 76 = .ok (.goto 239, 3) := by decide +kernel
theorem dX6_take_79 : decode cX6_take 79 = .ok (.aload_n 0, 1) := by decide +kernel
theorem dX6_take_80 : decode cX6_take 80 = .ok (.aload_n 0, 1) := by decide +kernel
theorem dX6_take_81 : decode cX6_take 81 = .ok (.getfield 138, 3) := by decide +kernel
theorem dX6_take_84 : decode cX6_take 84 = .ok (.invokevirtual 147, 3) := by decide +kernel
theorem dX6_take_87 : decode cX6_take 87 = .ok (.ifCond .eq 62, 3) := by decide +kernel
theorem dX6_take_90 : decode cX6_take 90 = .ok (.aload_n 0, 1) := by decide +kernel
theorem dX6_take_91 : decode cX6_take 91 = .ok (.aload_n 0, 1) := by decide +kernel
theorem dX6_take_92 : decode cX6_take 92 = .ok (.getfield 138, 3) := by decide +kernel
theorem dX6_take_95 : decode cX6_take 95 = .ok (.invokevirtual 147, 3) := by decide +kernel
theorem dX6_take_98 : decode cX6_take 98 = .ok (.ifCond .eq 16, 3) := by decide +kernel
theorem dX6_take_101 : decode cX6_take 101 = .ok (.aload_n 0, 1) := by decide +kernel
theorem dX6_take_102 : decode cX6_take 102 = .ok (.dup, 1) := by decide +kernel
theorem dX6_take_103 : decode cX6_take 103 = .ok (.getfield 138, 3) := by decide +kernel
theorem dX6_take_106 : decode cX6_take 106 = .ok (.iconst 1, 1) := by decide +kernel
theorem dX6_take_107 : decode cX6_take 107 = .ok (.iadd, 1) := by decide +kernel
theorem dX6_take_108 : decode cX6_take 108 = .ok (.putfield 138, 3) := by decide +kernel
theorem dX6_take_111 : decode cX6_take 111 = .ok (.goto (-21), 3) := by decide +kernel
theorem dX6_take_114 : decode cX6_take 114 = .ok (.aload_n 0, 1) := by decide +kernel
theorem dX6_take_115 : decode cX6_take 115 = .ok (.aload_n 0, 1) := by decide +kernel
theorem dX6_take_116 : decode cX6_take 116 = .ok (.aload_n 0, 1) := by decide +kernel
theorem dX6_take_117 : decode cX6_take 117 = .ok (.getfield 141, 3) := by decide +kernel
theorem dX6_take_120 : decode cX6_take 120 = .ok (.aload_n 0, 1) := by decide +kernel
theorem dX6_take_121 : decode cX6_take 121 = .ok (.getfield 138, 3) := by decide +kernel
theorem dX6_take_124 : decode cX6_take 124 = .ok (.invokevirtual 151, 3) := by decide +kernel
theorem dX6_take_127 : decode cX6_take 127 = .ok (.putfield 155, 3) := by decide +kernel
theorem dX6_take_130 : decode cX6_take 130 = .ok (.aload_n 0, 1) := by decide +kernel
theorem dX6_take_131 : decode cX6_take 131 = .ok (.aload_n 0, 1) := by decide +kernel
theorem dX6_take_132 : decode cX6_take 132 = .ok (.getfield 155, 3) := by decide +kernel
theorem dX6_take_135 : decode cX6_take 135 = .ok (.ifCond .ge 7, 3) := by decide +kernel
theorem dX6_take_138 : decode cX6_take 138 = .ok (.iconst 5, 1) := by decide +kernel
theorem dX6_take_139 : decode cX6_take 139 = .ok (.goto 4, 3) := by decide +kernel
theorem dX6_take_142 : decode cX6_take 142 = .ok (.iconst 1, 1) := by decide +kernel
theorem dX6_take_143 : decode cX6_take 143 = .ok (.putfield 144, 3) := by decide +kernel
theorem dX6_take_146 : decode cX6_take 146 = .ok (.goto 169, 3) := by decide +kernel
theorem dX6_take_149 : decode cX6_take 149 = .ok (.aload_n 0, 1) := by decide +kernel
theorem dX6_take_150 : decode cX6_take 150 = .ok (.aload_n 0, 1) := by decide +kernel
theorem dX6_take_151 : decode cX6_take 151 = .ok (.getfield 138, 3) := by decide +kernel
theorem dX6_take_154 : decode cX6_take 154 = .ok (.invokevirtual 158, 3) := by decide +kernel
theorem dX6_take_157 : decode cX6_take 157 = .ok (.ifCond .eq 77, 3) := by decide +kernel
theorem dX6_take_160 : decode cX6_take 160 = .ok (.aload_n 0, 1) := by decide +kernel
theorem dX6_take_161 : decode cX6_take 161 = .ok (.iconst 3, 1) := by decide +kernel
theorem dX6_take_162 : decode cX6_take 162 = .ok (.putfield 144, 3) := by decide +kernel
theorem dX6_take_165 : decode cX6_take 165 = .ok (.aload_n 0, 1) := by decide +kernel
theorem dX6_take_166 : decode cX6_take 166 = .ok (.iconst 0, 1) := by decide +kernel
theorem dX6_take_167 : decode cX6_take 167 = .ok (.putfield 155, 3) := by decide +kernel
theorem dX6_take_170 : decode cX6_take 170 = .ok (.aload_n 0, 1) := by decide +kernel
theorem dX6_take_171 : decode cX6_take 171 = .ok (.aload_n 0, 1) := by decide +kernel
theorem dX6_take_172 : decode cX6_take 172 = .ok (.getfield 138, 3) := by decide +kernel
theorem dX6_take_175 : decode cX6_take 175 = .ok (.invokevirtual 158, 3) := by decide +kernel
theorem dX6_take_178 : decode cX6_take 178 = .ok (.ifCond .eq 137, 3) := by decide +kernel
theorem dX6_take_181 : decode cX6_take 181 = .ok (.aload_n 0, 1) := by decide +kernel
theorem dX6_take_182 : decode cX6_take 182 = .ok (.aload_n 0, 1) := by decide +kernel
theorem dX6_take_183 : decode cX6_take 183 = .ok (.getfield 155, 3) := by decide +kernel
theorem dX6_take_186 : decode cX6_take 186 = .ok (.ldc 161, 2) := by decide +kernel
theorem dX6_take_188 : decode cX6_take 188 = .ok (.if_icmp .le 10, 3) := by decide +kernel
theorem dX6_take_191 : decode cX6_take 191 = .ok (.aload_n 0, 1) := by decide +kernel
theorem dX6_take_192 : decode cX6_take 192 = .ok (.getfield 155, 3) := by decide +kernel
theorem dX6_take_195 : decode cX6_take 195 = .ok (.goto 23, 3) := by decide +kernel
theorem dX6_take_198 : decode cX6_take 198 = .ok (.bipush 10, 2) := by decide +kernel
theorem dX6_take_200 : decode cX6_take 200 = .ok (.aload_n 0, 1) := by decide +kernel
theorem dX6_take_201 : decode cX6_take 201 = .ok (.getfield 155, 3) := by decide +kernel
theorem dX6_take_204 : decode cX6_take 204 = .ok (.imul, 1) := by decide +kernel
theorem dX6_take_205 : decode cX6_take 205 = .ok (.aload_n 0, 1) := by decide +kernel
theorem dX6_take_206 : decode cX6_take 206 = .ok (.getfield 7, 3) := by decide +kernel
theorem dX6_take_209 : decode cX6_take 209 = .ok (.aload_n 0, 1) := by decide +kernel
theorem dX6_take_210 : decode cX6_take 210 = .ok (.getfield 138, 3) := by decide +kernel
theorem dX6_take_213 : decode cX6_take 213 = .ok (.iaload, 1) := by decide +kernel
theorem dX6_take_214 : decode cX6_take 214 = .ok (.iadd, 1) := by decide +kernel
theorem dX6_take_215 : decode cX6_take 215 = .ok (.bipush 48, 2) := by decide +kernel
theorem dX6_take_217 : decode cX6_take 217 = .ok (.isub, 1) := by decide +kernel
theorem dX6_take_218 : decode cX6_take 218 = .ok (.putfield 155, 3) := by decide +kernel
theorem dX6_take_221 : decode cX6_take 221 = .ok (.aload_n 0, 1) := by decide +kernel
theorem dX6_take_222 : decode cX6_take 222 = .ok (.dup, 1) := by decide +kernel
theorem dX6_take_223 : decode cX6_take 223 = .ok (.getfield 138, 3) := by decide +kernel
theorem dX6_take_226 : decode cX6_take 226 = .ok (.iconst 1, 1) := by decide +kernel
theorem dX6_take_227 : decode cX6_take 227 = .ok (.iadd, 1) := by decide +kernel
theorem dX6_take_228 : decode cX6_take 228 = .ok (.putfield 138, 3) := by decide +kernel
theorem dX6_take_231 : decode cX6_take 231 = .ok (.goto (-61), 3) := by decide +kernel
theorem dX6_take_234 : decode cX6_take 234 = .ok (.aload_n 0, 1) := by decide +kernel
theorem dX6_take_235 : decode cX6_take 235 = .ok (.aload_n 0, 1) := by decide +kernel
theorem dX6_take_236 : decode cX6_take 236 = .ok (.getfield 7, 3) := by decide +kernel
theorem dX6_take_239 : decode cX6_take 239 = .ok (.aload_n 0, 1) := by decide +kernel
theorem dX6_take_240 : decode cX6_take 240 = .ok (.getfield 138, 3) := by decide +kernel
theorem dX6_take_243 : decode cX6_take 243 = .ok (.iaload, 1) := by decide +kernel
theorem dX6_take_244 : decode cX6_take 244 = .ok (.putfield 155, 3) := by decide +kernel
theorem dX6_take_247 : decode cX6_take 247 = .ok (.aload_n 0, 1) := by decide +kernel
theorem dX6_take_248 : decode cX6_take 248 = .ok (.dup, 1) := by decide +kernel
theorem dX6_take_249 : decode cX6_take 249 = .ok (.getfield 138, 3) := by decide +kernel
theorem dX6_take_252 : decode cX6_take 252 = .ok (.iconst 1, 1) := by decide +kernel
theorem dX6_take_253 : decode cX6_take 253 = .ok (.iadd, 1) := by decide +kernel
theorem dX6_take_254 : decode cX6_take 254 = .ok (.putfield 138, 3) := by decide +kernel
theorem dX6_take_257 : decode cX6_take 257 = .ok (.aload_n 0, 1) := by decide +kernel
theorem dX6_take_258 : decode cX6_take 258 = .ok (.aload_n 0, 1) := by decide +kernel
theorem dX6_take_259 : decode cX6_take 259 = .ok (.getfield 155, 3) := by decide +kernel
theorem dX6_take_262 : decode cX6_take 262 = .ok (.bipush 65, 2) := by decide +kernel
theorem dX6_take_264 : decode cX6_take 264 = .ok (.if_icmp .lt 16, 3) := by decide +kernel
theorem dX6_take_267 : decode cX6_take 267 = .ok (.aload_n 0, 1) := by decide +kernel
theorem dX6_take_268 : decode cX6_take 268 = .ok (.getfield 155, 3) := by decide +kernel
theorem dX6_take_271 : decode cX6_take 271 = .ok (.bipush 72, 2) := by decide +kernel
theorem dX6_take_273 : decode cX6_take 273 = .ok (.if_icmp .gt 7, 3) := by decide +kernel
theorem dX6_take_276 : decode cX6_take 276 = .ok (.iconst 2, 1) := by decide +kernel
theorem dX6_take_277 : decode cX6_take 277 = .ok (.goto 35, 3) := by decide +kernel
theorem dX6_take_280 : decode cX6_take 280 = .ok (.aload_n 0, 1) := by decide +kernel
theorem dX6_take_281 : decode cX6_take 281 = .ok (.getfield 155, 3) := by decide +kernel
theorem dX6_take_284 : decode cX6_take 284 = .ok (.bipush 123, 2) := by decide +kernel
theorem dX6_take_286 : decode cX6_take 286 = .ok (.if_icmp .eq 21, 3) := by decide +kernel
theorem dX6_take_289 : decode cX6_take 289 = .ok (.aload_n 0, 1) := by decide +kernel
theorem dX6_take_290 : decode cX6_take 290 = .ok (.getfield 155, 3) := by decide +kernel
theorem dX6_take_293 : decode cX6_take 293 = .ok (.bipush 125, 2) := by decide +kernel
theorem dX6_take_295 : decode cX6_take 295 = .ok (.if_icmp .eq 12, 3) := by decide +kernel
theorem dX6_take_298 : decode cX6_take 298 = .ok (.aload_n 0, 1) := by decide +kernel
theorem dX6_take_299 : decode cX6_take 299 = .ok (.getfield 155, 3) := by decide +kernel
theorem dX6_take_302 : decode cX6_take 302 = .ok (.bipush 59, 2) := by decide +kernel
theorem dX6_take_304 : decode cX6_take 304 = .ok (.if_icmp .ne 7, 3) := by decide +kernel
theorem dX6_take_307 : decode cX6_take 307 = .ok (.iconst 4, 1) := by decide +kernel
theorem dX6_take_308 : decode cX6_take 308 = .ok (.goto 4, 3) := by decide +kernel
theorem dX6_take_311 : decode cX6_take 311 = .ok (.iconst 5, 1) := by decide +kernel
theorem dX6_take_312 : decode cX6_take 312 = .ok (.putfield 144, 3) := by decide +kernel
theorem dX6_take_315 : decode cX6_take 315 = .ok (.return_, 1) := by decide +kernel
theorem dX6_word_0 : decode cX6_word 0 = .ok (.aload_n 0, 1) := by decide +kernel
theorem dX6_word_1 : decode cX6_word 1 = .ok (.getfield 144, 3) := by decide +kernel
theorem dX6_word_4 : decode cX6_word 4 = .ok (.iconst 1, 1) := by decide +kernel
theorem dX6_word_5 : decode cX6_word 5 = .ok (.if_icmp .ne 11, 3) := by decide +kernel
theorem dX6_word_8 : decode cX6_word 8 = .ok (.aload_n 0, 1) := by decide +kernel
theorem dX6_word_9 : decode cX6_word 9 = .ok (.getfield 155, 3) := by decide +kernel
theorem dX6_word_12 : decode cX6_word 12 = .ok (.iload_n 1, 1) := by decide +kernel
theorem dX6_word_13 : decode cX6_word 13 = .ok (.if_icmp .eq 13, 3) := by decide +kernel
theorem dX6_word_16 : decode cX6_word 16 = .ok (.aload_n 0, 1) := by decide +kernel
theorem dX6_word_17 : decode cX6_word 17 = .ok (.iconst 1, 1) := by decide +kernel
theorem dX6_word_18 : decode cX6_word 18 = .ok (.aload_n 0, 1) := by decide +kernel
theorem dX6_word_19 : decode cX6_word 19 = .ok (.getfield 141, 3) := by decide +kernel
theorem dX6_word_22 : decode cX6_word 22 = .ok (.invokevirtual 162, 3) := by decide +kernel
theorem dX6_word_25 : decode cX6_word 25 = .ok (.ireturn, 1) := by decide +kernel
theorem dX6_word_26 : decode cX6_word 26 = .ok (.aload_n 0, 1) := by decide +kernel
theorem dX6_word_27 : decode cX6_word 27 = .ok (.invokevirtual 166, 3) := by decide +kernel
theorem dX6_word_30 : decode cX6_word 30 = .ok (.iconst 1, 1) := by decide +kernel
theorem dX6_word_31 : decode cX6_word 31 = .ok (.ireturn, 1) := by decide +kernel
theorem dX6_sign_0 : decode cX6_sign 0 = .ok (.aload_n 0, 1) := by decide +kernel
theorem dX6_sign_1 : decode cX6_sign 1 = .ok (.getfield 144, 3) := by decide +kernel
theorem dX6_sign_4 : decode cX6_sign 4 = .ok (.iconst 4, 1) := by decide +kernel
theorem dX6_sign_5 : decode cX6_sign 5 = .ok (.if_icmp .ne 11, 3) := by decide +kernel
theorem dX6_sign_8 : decode cX6_sign 8 = .ok (.aload_n 0, 1) := by decide +kernel
theorem dX6_sign_9 : decode cX6_sign 9 = .ok (.getfield 155, 3) := by decide +kernel
theorem dX6_sign_12 : decode cX6_sign 12 = .ok (.iload_n 1, 1) := by decide +kernel
theorem dX6_sign_13 : decode cX6_sign 13 = .ok (.if_icmp .eq 13, 3) := by decide +kernel
theorem dX6_sign_16 : decode cX6_sign 16 = .ok (.aload_n 0, 1) := by decide +kernel
theorem dX6_sign_17 : decode cX6_sign 17 = .ok (.iconst 1, 1) := by decide +kernel
theorem dX6_sign_18 : decode cX6_sign 18 = .ok (.aload_n 0, 1) := by decide +kernel
theorem dX6_sign_19 : decode cX6_sign 19 = .ok (.getfield 141, 3) := by decide +kernel
theorem dX6_sign_22 : decode cX6_sign 22 = .ok (.invokevirtual 162, 3) := by decide +kernel
theorem dX6_sign_25 : decode cX6_sign 25 = .ok (.ireturn, 1) := by decide +kernel
theorem dX6_sign_26 : decode cX6_sign 26 = .ok (.aload_n 0, 1) := by decide +kernel
theorem dX6_sign_27 : decode cX6_sign 27 = .ok (.invokevirtual 166, 3) := by decide +kernel
theorem dX6_sign_30 : decode cX6_sign 30 = .ok (.iconst 1, 1) := by decide +kernel
theorem dX6_sign_31 : decode cX6_sign 31 = .ok (.ireturn, 1) := by decide +kernel
theorem dX6_number_0 : decode cX6_number 0 = .ok (.aload_n 0, 1) := by decide +kernel
theorem dX6_number_1 : decode cX6_number 1 = .ok (.getfield 144, 3) := by decide +kernel
theorem dX6_number_4 : decode cX6_number 4 = .ok (.iconst 3, 1) := by decide +kernel
theorem dX6_number_5 : decode cX6_number 5 = .ok (.if_icmp .eq 13, 3) := by decide +kernel
theorem dX6_number_8 : decode cX6_number 8 = .ok (.aload_n 0, 1) := by decide +kernel
theorem dX6_number_9 : decode cX6_number 9 = .ok (.iconst 1, 1) := by decide +kernel
theorem dX6_number_10 : decode cX6_number 10 = .ok (.aload_n 0, 1) := by decide +kernel
theorem dX6_number_11 : decode cX6_number 11 = .ok (.getfield 141, 3) := by decide +kernel
theorem dX6_number_14 : decode cX6_number 14 = .ok (.invokevirtual 162, 3) := by decide +kernel
theorem dX6_number_17 : decode cX6_number 17 = .ok (.ireturn, 1) := by decide +kernel
theorem dX6_number_18 : decode cX6_number 18 = .ok (.aload_n 0, 1) := by decide +kernel
theorem dX6_number_19 : decode cX6_number 19 = .ok (.getfield 155, 3) := by decide +kernel
theorem dX6_number_22 : decode cX6_number 22 = .ok (.iload_n 1, 1) := by decide +kernel
theorem dX6_number_23 : decode cX6_number 23 = .ok (.if_icmp .lt 11, 3) := by decide +kernel
theorem dX6_number_26 : decode cX6_number 26 = .ok (.aload_n 0, 1) := by decide +kernel
theorem dX6_number_27 : decode cX6_number 27 = .ok (.getfield 155, 3) := by decide +kernel
theorem dX6_number_30 : decode cX6_number 30 = .ok (.iload_n 2, 1) := by decide +kernel
theorem dX6_number_31 : decode cX6_number 31 = .ok (.if_icmp .le 13, 3) := by decide +kernel
theorem dX6_number_34 : decode cX6_number 34 = .ok (.aload_n 0, 1) := by decide +kernel
theorem dX6_number_35 : decode cX6_number 35 = .ok (.iconst 2, 1) := by decide +kernel
theorem dX6_number_36 : decode cX6_number 36 = .ok (.aload_n 0, 1) := by decide +kernel
theorem dX6_number_37 : decode cX6_number 37 = .ok (.getfield 141, 3) := by decide +kernel
theorem dX6_number_40 : decode cX6_number 40 = .ok (.invokevirtual 162, 3) := by decide +kernel
theorem dX6_number_43 : decode cX6_number 43 = .ok (.ireturn, 1) := by decide +kernel
theorem dX6_number_44 : decode cX6_number 44 = .ok (.aload_n 0, 1) := by decide +kernel
theorem dX6_number_45 : decode cX6_number 45 = .ok (.aload_n 0, 1) := by decide +kernel
theorem dX6_number_46 : decode cX6_number 46 = .ok (.getfield 155, 3) := by decide +kernel
theorem dX6_number_49 : decode cX6_number 49 = .ok (.putfield 169, 3) := by decide +kernel
theorem dX6_number_52 : decode cX6_number 52 = .ok (.aload_n 0, 1) := by decide +kernel
theorem dX6_number_53 : decode cX6_number 53 = .ok (.invokevirtual 166, 3) := by decide +kernel
theorem dX6_number_56 : decode cX6_number 56 = .ok (.iconst 1, 1) := by decide +kernel
theorem dX6_number_57 : decode cX6_number 57 = .ok (.ireturn, 1) := by decide +kernel
theorem dX6_shots_0 : decode cX6_shots 0 = .ok (.aload_n 0, 1) := by decide +kernel
theorem dX6_shots_1 : decode cX6_shots 1 = .ok (.getfield 16, 3) := by decide +kernel
theorem dX6_shots_4 : decode cX6_shots 4 = .ok (.iload_n 1, 1) := by decide +kernel
theorem dX6_shots_5 : decode cX6_shots 5 = .ok (.iconst 0, 1) := by decide +kernel
theorem dX6_shots_6 : decode cX6_shots 6 = .ok (.iastore, 1) := by decide +kernel
theorem dX6_shots_7 : decode cX6_shots 7 = .ok (.iconst 0, 1) := by decide +kernel
theorem dX6_shots_8 : decode cX6_shots 8 = .ok (.istore_n 2, 1) := by decide +kernel
theorem dX6_shots_9 : decode cX6_shots 9 = .ok (.iconst 1, 1) := by decide +kernel
theorem dX6_shots_10 : decode cX6_shots 10 = .ok (.istore_n 3, 1) := by decide +kernel
theorem dX6_shots_11 : decode cX6_shots 11 = .ok (.iload_n 3, 1) := by decide +kernel
theorem dX6_shots_12 : decode cX6_shots 12 = .ok (.ifCond .eq 117, 3) := by decide +kernel
theorem dX6_shots_15 : decode cX6_shots 15 = .ok (.aload_n 0, 1) := by decide +kernel
theorem dX6_shots_16 : decode cX6_shots 16 = .ok (.getfield 144, 3) := by decide +kernel
theorem dX6_shots_19 : decode cX6_shots 19 = .ok (.iconst 3, 1) := by decide +kernel
theorem dX6_shots_20 : decode cX6_shots 20 = .ok (.if_icmp .eq 13, 3) := by decide +kernel
theorem dX6_shots_23 : decode cX6_shots 23 = .ok (.aload_n 0, 1) := by decide +kernel
theorem dX6_shots_24 : decode cX6_shots 24 = .ok (.iconst 1, 1) := by decide +kernel
theorem dX6_shots_25 : decode cX6_shots 25 = .ok (.aload_n 0, 1) := by decide +kernel
theorem dX6_shots_26 : decode cX6_shots 26 = .ok (.getfield 141, 3) := by decide +kernel
theorem dX6_shots_29 : decode cX6_shots 29 = .ok (.invokevirtual 162, 3) := by decide +kernel
theorem dX6_shots_32 : decode cX6_shots 32 = .ok (.ireturn, 1) := by decide +kernel
theorem dX6_shots_33 : decode cX6_shots 33 = .ok (.aload_n 0, 1) := by decide +kernel
theorem dX6_shots_34 : decode cX6_shots 34 = .ok (.getfield 16, 3) := by decide +kernel
theorem dX6_shots_37 : decode cX6_shots 37 = .ok (.iload_n 1, 1) := by decide +kernel
theorem dX6_shots_38 : decode cX6_shots 38 = .ok (.iaload, 1) := by decide +kernel
theorem dX6_shots_39 : decode cX6_shots 39 = .ok (.iconst 4, 1) := by decide +kernel
theorem dX6_shots_40 : decode cX6_shots 40 = .ok (.if_icmp .eq 24, 3) := by decide +kernel
theorem dX6_shots_43 : decode cX6_shots 43 = .ok (.aload_n 0, 1) := by decide +kernel
theorem dX6_shots_44 : decode cX6_shots 44 = .ok (.getfield 155, 3) := by decide +kernel
theorem dX6_shots_47 : decode cX6_shots 47 = .ok (.iload_n 2, 1) := by decide +kernel
theorem dX6_shots_48 : decode cX6_shots 48 = .ok (.if_icmp .le 16, 3) := by decide +kernel
theorem dX6_shots_51 : decode cX6_shots 51 = .ok (.aload_n 0, 1) := by decide +kernel
theorem dX6_shots_52 : decode cX6_shots 52 = .ok (.getfield 155, 3) := by decide +kernel
theorem dX6_shots_55 : decode cX6_shots 55 = .ok (.aload_n 0, 1) := by decide +kernel
theorem dX6_shots_56 : decode cX6_shots 56 = .ok (.getfield 13, 3) := by decide +kernel
theorem dX6_shots_59 : decode cX6_shots 59 = .ok (.iload_n 1, 1) := by decide +kernel
theorem dX6_shots_60 : decode cX6_shots 60 = .ok (.iaload, 1) := by decide +kernel
theorem dX6_shots_61 : decode cX6_shots 61 = .ok (.if_icmp .lt 13, 3) := by decide +kernel
end
section
theorem dX6_shots_64 : decode cX6_shots 64 = .ok (.aload_n 0, 1) := by decide +kernel
theorem dX6_shots_65 : decode cX6_shots 65 = .ok (.iconst 2, 1) := by decide +kernel
theorem dX6_shots_66 : decode cX6_shots 66 = .ok (.aload_n 0, 1) := by decide +kernel
theorem dX6_shots_67 : decode cX6_shots 67 = .ok (.getfield 141, 3) := by decide +kernel
theorem dX6_shots_70 : decode cX6_shots 70 = .ok (.invokevirtual 162, 3) := by decide +kernel
theorem dX6_shots_73 : decode cX6_shots 73 = .ok (.ireturn, 1) := by decide +kernel
theorem dX6_shots_74 : decode cX6_shots 74 = .ok (.aload_n 0, 1) := by decide +kernel
theorem dX6_shots_75 : decode cX6_shots 75 = .ok (.getfield 155, 3) := by decide +kernel
theorem dX6_shots_78 : decode cX6_shots 78 = .ok (.istore_n 2, 1) := by decide +kernel
theorem dX6_shots_79 : decode cX6_shots 79 = .ok (.aload_n 0, 1) := by decide +kernel
theorem dX6_shots_80 : decode cX6_shots 80 = .ok (.getfield 19, 3) := by decide +kernel
theorem dX6_shots_83 : decode cX6_shots 83 = .ok (.iconst 4, 1) := by decide +kernel
theorem dX6_shots_84 : decode cX6_shots 84 = .ok (.iload_n 1, 1) := by decide +kernel
theorem dX6_shots_85 : decode cX6_shots 85 = .ok (.imul, 1) := by decide +kernel
theorem dX6_shots_86 : decode cX6_shots 86 = .ok (.aload_n 0, 1) := by decide +kernel
theorem dX6_shots_87 : decode cX6_shots 87 = .ok (.getfield 16, 3) := by decide +kernel
theorem dX6_shots_90 : decode cX6_shots 90 = .ok (.iload_n 1, 1) := by decide +kernel
theorem dX6_shots_91 : decode cX6_shots 91 = .ok (.iaload, 1) := by decide +kernel
theorem dX6_shots_92 : decode cX6_shots 92 = .ok (.iadd, 1) := by decide +kernel
theorem dX6_shots_93 : decode cX6_shots 93 = .ok (.aload_n 0, 1) := by decide +kernel
theorem dX6_shots_94 : decode cX6_shots 94 = .ok (.getfield 155, 3) := by decide +kernel
theorem dX6_shots_97 : decode cX6_shots 97 = .ok (.iastore, 1) := by decide +kernel
theorem dX6_shots_98 : decode cX6_shots 98 = .ok (.aload_n 0, 1) := by decide +kernel
theorem dX6_shots_99 : decode cX6_shots 99 = .ok (.getfield 16, 3) := by decide +kernel
theorem dX6_shots_102 : decode cX6_shots 102 = .ok (.iload_n 1, 1) := by decide +kernel
theorem dX6_shots_103 : decode cX6_shots 103 = .ok (.dup2, 1) := by decide +kernel
theorem dX6_shots_104 : decode cX6_shots 104 = .ok (.iaload, 1) := by decide +kernel
theorem dX6_shots_105 : decode cX6_shots 105 = .ok (.iconst 1, 1) := by decide +kernel
theorem dX6_shots_106 : decode cX6_shots 106 = .ok (.iadd, 1) := by decide +kernel
theorem dX6_shots_107 : decode cX6_shots 107 = .ok (.iastore, 1) := by decide +kernel
theorem dX6_shots_108 : decode cX6_shots 108 = .ok (.aload_n 0, 1) := by decide +kernel
theorem dX6_shots_109 : decode cX6_shots 109 = .ok (.invokevirtual 166, 3) := by decide +kernel
theorem dX6_shots_112 : decode cX6_shots 112 = .ok (.aload_n 0, 1) := by decide +kernel
theorem dX6_shots_113 : decode cX6_shots 113 = .ok (.getfield 144, 3) := by decide +kernel
theorem dX6_shots_116 : decode cX6_shots 116 = .ok (.iconst 3, 1) := by decide +kernel
theorem dX6_shots_117 : decode cX6_shots 117 = .ok (.if_icmp .ne 7, 3) := by decide +kernel
theorem dX6_shots_120 : decode cX6_shots 120 = .ok (.iconst 1, 1) := by decide +kernel
theorem dX6_shots_121 : decode cX6_shots 121 = .ok (.goto 4, 3) := by decide +kernel
theorem dX6_shots_124 : decode cX6_shots 124 = .ok (.iconst 0, 1) := by decide +kernel
theorem dX6_shots_125 : decode cX6_shots 125 = .ok (.istore_n 3, 1) := by decide +kernel
theorem dX6_shots_126 : decode cX6_shots 126 = .ok (.goto (-115), 3) := by decide +kernel
theorem dX6_shots_129 : decode cX6_shots 129 = .ok (.iconst 1, 1) := by decide +kernel
theorem dX6_shots_130 : decode cX6_shots 130 = .ok (.ireturn, 1) := by decide +kernel
theorem dX6_starts_0 : decode cX6_starts 0 = .ok (.aload_n 0, 1) := by decide +kernel
theorem dX6_starts_1 : decode cX6_starts 1 = .ok (.getfield 144, 3) := by decide +kernel
theorem dX6_starts_4 : decode cX6_starts 4 = .ok (.iconst 1, 1) := by decide +kernel
theorem dX6_starts_5 : decode cX6_starts 5 = .ok (.if_icmp .ne 34, 3) := by decide +kernel
theorem dX6_starts_8 : decode cX6_starts 8 = .ok (.aload_n 0, 1) := by decide +kernel
theorem dX6_starts_9 : decode cX6_starts 9 = .ok (.getfield 155, 3) := by decide +kernel
theorem dX6_starts_12 : decode cX6_starts 12 = .ok (.bipush 9, 2) := by decide +kernel
theorem dX6_starts_14 : decode cX6_starts 14 = .ok (.if_icmp .eq 21, 3) := by decide +kernel
theorem dX6_starts_17 : decode cX6_starts 17 = .ok (.aload_n 0, 1) := by decide +kernel
theorem dX6_starts_18 : decode cX6_starts 18 = .ok (.getfield 155, 3) := by decide +kernel
theorem dX6_starts_21 : decode cX6_starts 21 = .ok (.bipush 10, 2) := by decide +kernel
theorem dX6_starts_23 : decode cX6_starts 23 = .ok (.if_icmp .eq 12, 3) := by decide +kernel
theorem dX6_starts_26 : decode cX6_starts 26 = .ok (.aload_n 0, 1) := by decide +kernel
theorem dX6_starts_27 : decode cX6_starts 27 = .ok (.getfield 155, 3) := by decide +kernel
theorem dX6_starts_30 : decode cX6_starts 30 = .ok (.bipush 11, 2) := by decide +kernel
theorem dX6_starts_32 : decode cX6_starts 32 = .ok (.if_icmp .ne 7, 3) := by decide +kernel
theorem dX6_starts_35 : decode cX6_starts 35 = .ok (.iconst 1, 1) := by decide +kernel
theorem dX6_starts_36 : decode cX6_starts 36 = .ok (.goto 4, 3) := by decide +kernel
theorem dX6_starts_39 : decode cX6_starts 39 = .ok (.iconst 0, 1) := by decide +kernel
theorem dX6_starts_40 : decode cX6_starts 40 = .ok (.istore_n 2, 1) := by decide +kernel
theorem dX6_starts_41 : decode cX6_starts 41 = .ok (.iload_n 2, 1) := by decide +kernel
theorem dX6_starts_42 : decode cX6_starts 42 = .ok (.ifCond .ne 13, 3) := by decide +kernel
theorem dX6_starts_45 : decode cX6_starts 45 = .ok (.aload_n 0, 1) := by decide +kernel
theorem dX6_starts_46 : decode cX6_starts 46 = .ok (.iconst 1, 1) := by decide +kernel
theorem dX6_starts_47 : decode cX6_starts 47 = .ok (.aload_n 0, 1) := by decide +kernel
theorem dX6_starts_48 : decode cX6_starts 48 = .ok (.getfield 141, 3) := by decide +kernel
theorem dX6_starts_51 : decode cX6_starts 51 = .ok (.invokevirtual 162, 3) := by decide +kernel
theorem dX6_starts_54 : decode cX6_starts 54 = .ok (.ireturn, 1) := by decide +kernel
theorem dX6_starts_55 : decode cX6_starts 55 = .ok (.aload_n 0, 1) := by decide +kernel
theorem dX6_starts_56 : decode cX6_starts 56 = .ok (.getfield 32, 3) := by decide +kernel
theorem dX6_starts_59 : decode cX6_starts 59 = .ok (.iload_n 1, 1) := by decide +kernel
theorem dX6_starts_60 : decode cX6_starts 60 = .ok (.aload_n 0, 1) := by decide +kernel
theorem dX6_starts_61 : decode cX6_starts 61 = .ok (.getfield 155, 3) := by decide +kernel
theorem dX6_starts_64 : decode cX6_starts 64 = .ok (.iastore, 1) := by decide +kernel
theorem dX6_starts_65 : decode cX6_starts 65 = .ok (.aload_n 0, 1) := by decide +kernel
theorem dX6_starts_66 : decode cX6_starts 66 = .ok (.getfield 35, 3) := by decide +kernel
theorem dX6_starts_69 : decode cX6_starts 69 = .ok (.iload_n 1, 1) := by decide +kernel
theorem dX6_starts_70 : decode cX6_starts 70 = .ok (.iconst 0, 1) := by decide +kernel
theorem dX6_starts_71 : decode cX6_starts 71 = .ok (.iastore, 1) := by decide +kernel
theorem dX6_starts_72 : decode cX6_starts 72 = .ok (.aload_n 0, 1) := by decide +kernel
theorem dX6_starts_73 : decode cX6_starts 73 = .ok (.invokevirtual 166, 3) := by decide +kernel
theorem dX6_starts_76 : decode cX6_starts 76 = .ok (.aload_n 0, 1) := by decide +kernel
theorem dX6_starts_77 : decode cX6_starts 77 = .ok (.getfield 32, 3) := by decide +kernel
theorem dX6_starts_80 : decode cX6_starts 80 = .ok (.iload_n 1, 1) := by decide +kernel
theorem dX6_starts_81 : decode cX6_starts 81 = .ok (.iaload, 1) := by decide +kernel
theorem dX6_starts_82 : decode cX6_starts 82 = .ok (.bipush 9, 2) := by decide +kernel
theorem dX6_starts_84 : decode cX6_starts 84 = .ok (.if_icmp .ne 5, 3) := by decide +kernel
theorem dX6_starts_87 : decode cX6_starts 87 = .ok (.iconst 1, 1) := by decide +kernel
theorem dX6_starts_88 : decode cX6_starts 88 = .ok (.ireturn, 1) := by decide +kernel
theorem dX6_starts_89 : decode cX6_starts 89 = .ok (.aload_n 0, 1) := by decide +kernel
theorem dX6_starts_90 : decode cX6_starts 90 = .ok (.aload_n 0, 1) := by decide +kernel
theorem dX6_starts_91 : decode cX6_starts 91 = .ok (.getfield 32, 3) := by decide +kernel
theorem dX6_starts_94 : decode cX6_starts 94 = .ok (.iload_n 1, 1) := by decide +kernel
theorem dX6_starts_95 : decode cX6_starts 95 = .ok (.iaload, 1) := by decide +kernel
theorem dX6_starts_96 : decode cX6_starts 96 = .ok (.bipush 10, 2) := by decide +kernel
theorem dX6_starts_98 : decode cX6_starts 98 = .ok (.if_icmp .ne 7, 3) := by decide +kernel
theorem dX6_starts_101 : decode cX6_starts 101 = .ok (.iconst 1, 1) := by decide +kernel
theorem dX6_starts_102 : decode cX6_starts 102 = .ok (.goto 4, 3) := by decide +kernel
theorem dX6_starts_105 : decode cX6_starts 105 = .ok (.iconst 0, 1) := by decide +kernel
theorem dX6_starts_106 : decode cX6_starts 106 = .ok (.aload_n 0, 1) := by decide +kernel
theorem dX6_starts_107 : decode cX6_starts 107 = .ok (.getfield 32, 3) := by decide +kernel
theorem dX6_starts_110 : decode cX6_starts 110 = .ok (.iload_n 1, 1) := by decide +kernel
theorem dX6_starts_111 : decode cX6_starts 111 = .ok (.iaload, 1) := by decide +kernel
theorem dX6_starts_112 : decode cX6_starts 112 = .ok (.bipush 10, 2) := by decide +kernel
theorem dX6_starts_114 : decode cX6_starts 114 = .ok (.if_icmp .ne 9, 3) := by decide +kernel
theorem dX6_starts_117 : decode cX6_starts 117 = .ok (.sipush 600, 3) := by decide +kernel
theorem dX6_starts_120 : decode cX6_starts 120 = .ok (.goto 6, 3) := by decide +kernel
theorem dX6_starts_123 : decode cX6_starts 123 = .ok (.sipush 3600, 3) := by decide +kernel
theorem dX6_starts_126 : decode cX6_starts 126 = .ok (.invokevirtual 172, 3) := by decide +kernel
theorem dX6_starts_129 : decode cX6_starts 129 = .ok (.ifCond .ne 5, 3) := by decide +kernel
theorem dX6_starts_132 : decode cX6_starts 132 = .ok (.iconst 0, 1) := by decide +kernel
theorem dX6_starts_133 : decode cX6_starts 133 = .ok (.ireturn, 1) := by decide +kernel
theorem dX6_starts_134 : decode cX6_starts 134 = .ok (.aload_n 0, 1) := by decide +kernel
theorem dX6_starts_135 : decode cX6_starts 135 = .ok (.getfield 35, 3) := by decide +kernel
theorem dX6_starts_138 : decode cX6_starts 138 = .ok (.iload_n 1, 1) := by decide +kernel
theorem dX6_starts_139 : decode cX6_starts 139 = .ok (.aload_n 0, 1) := by decide +kernel
theorem dX6_starts_140 : decode cX6_starts 140 = .ok (.getfield 169, 3) := by decide +kernel
theorem dX6_starts_143 : decode cX6_starts 143 = .ok (.iastore, 1) := by decide +kernel
theorem dX6_starts_144 : decode cX6_starts 144 = .ok (.iconst 1, 1) := by decide +kernel
theorem dX6_starts_145 : decode cX6_starts 145 = .ok (.ireturn, 1) := by decide +kernel
theorem dX6_format_0 : decode cX6_format 0 = .ok (.aload_n 0, 1) := by decide +kernel
theorem dX6_format_1 : decode cX6_format 1 = .ok (.iconst 1, 1) := by decide +kernel
theorem dX6_format_2 : decode cX6_format 2 = .ok (.invokevirtual 175, 3) := by decide +kernel
theorem dX6_format_5 : decode cX6_format 5 = .ok (.ifCond .ne 5, 3) := by decide +kernel
theorem dX6_format_8 : decode cX6_format 8 = .ok (.iconst 0, 1) := by decide +kernel
theorem dX6_format_9 : decode cX6_format 9 = .ok (.ireturn, 1) := by decide +kernel
theorem dX6_format_10 : decode cX6_format 10 = .ok (.aload_n 0, 1) := by decide +kernel
theorem dX6_format_11 : decode cX6_format 11 = .ok (.getfield 144, 3) := by decide +kernel
theorem dX6_format_14 : decode cX6_format 14 = .ok (.iconst 2, 1) := by decide +kernel
theorem dX6_format_15 : decode cX6_format 15 = .ok (.if_icmp .eq 13, 3) := by decide +kernel
theorem dX6_format_18 : decode cX6_format 18 = .ok (.aload_n 0, 1) := by decide +kernel
theorem dX6_format_19 : decode cX6_format 19 = .ok (.iconst 1, 1) := by decide +kernel
theorem dX6_format_20 : decode cX6_format 20 = .ok (.aload_n 0, 1) := by decide +kernel
theorem dX6_format_21 : decode cX6_format 21 = .ok (.getfield 141, 3) := by decide +kernel
theorem dX6_format_24 : decode cX6_format 24 = .ok (.invokevirtual 162, 3) := by decide +kernel
theorem dX6_format_27 : decode cX6_format 27 = .ok (.ireturn, 1) := by decide +kernel
theorem dX6_format_28 : decode cX6_format 28 = .ok (.bipush 8, 2) := by decide +kernel
theorem dX6_format_30 : decode cX6_format 30 = .ok (.aload_n 0, 1) := by decide +kernel
theorem dX6_format_31 : decode cX6_format 31 = .ok (.getfield 155, 3) := by decide +kernel
theorem dX6_format_34 : decode cX6_format 34 = .ok (.iadd, 1) := by decide +kernel
theorem dX6_format_35 : decode cX6_format 35 = .ok (.bipush 65, 2) := by decide +kernel
theorem dX6_format_37 : decode cX6_format 37 = .ok (.isub, 1) := by decide +kernel
theorem dX6_format_38 : decode cX6_format 38 = .ok (.istore_n 1, 1) := by decide +kernel
theorem dX6_format_39 : decode cX6_format 39 = .ok (.aload_n 0, 1) := by decide +kernel
theorem dX6_format_40 : decode cX6_format 40 = .ok (.getfield 13, 3) := by decide +kernel
theorem dX6_format_43 : decode cX6_format 43 = .ok (.iload_n 1, 1) := by decide +kernel
theorem dX6_format_44 : decode cX6_format 44 = .ok (.iaload, 1) := by decide +kernel
theorem dX6_format_45 : decode cX6_format 45 = .ok (.ifCond .le 13, 3) := by decide +kernel
theorem dX6_format_48 : decode cX6_format 48 = .ok (.aload_n 0, 1) := by decide +kernel
theorem dX6_format_49 : decode cX6_format 49 = .ok (.iconst 3, 1) := by decide +kernel
theorem dX6_format_50 : decode cX6_format 50 = .ok (.aload_n 0, 1) := by decide +kernel
theorem dX6_format_51 : decode cX6_format 51 = .ok (.getfield 141, 3) := by decide +kernel
theorem dX6_format_54 : decode cX6_format 54 = .ok (.invokevirtual 162, 3) := by decide +kernel
theorem dX6_format_57 : decode cX6_format 57 = .ok (.ireturn, 1) := by decide +kernel
theorem dX6_format_58 : decode cX6_format 58 = .ok (.aload_n 0, 1) := by decide +kernel
theorem dX6_format_59 : decode cX6_format 59 = .ok (.invokevirtual 166, 3) := by decide +kernel
theorem dX6_format_62 : decode cX6_format 62 = .ok (.aload_n 0, 1) := by decide +kernel
theorem dX6_format_63 : decode cX6_format 63 = .ok (.bipush 123, 2) := by decide +kernel
theorem dX6_format_65 : decode cX6_format 65 = .ok (.invokevirtual 178, 3) := by decide +kernel
theorem dX6_format_68 : decode cX6_format 68 = .ok (.ifCond .eq 21, 3) := by decide +kernel
theorem dX6_format_71 : decode cX6_format 71 = .ok (.aload_n 0, 1) := by decide +kernel
theorem dX6_format_72 : decode cX6_format 72 = .ok (.iconst 2, 1) := by decide +kernel
theorem dX6_format_73 : decode cX6_format 73 = .ok (.invokevirtual 175, 3) := by decide +kernel
theorem dX6_format_76 : decode cX6_format 76 = .ok (.ifCond .eq 13, 3) := by decide +kernel
theorem dX6_format_79 : decode cX6_format 79 = .ok (.aload_n 0, 1) := by decide +kernel
theorem dX6_format_80 : decode cX6_format 80 = .ok (.iconst 1, 1) := by decide +kernel
theorem dX6_format_81 : decode cX6_format 81 = .ok (.bipush 6, 2) := by decide +kernel
theorem dX6_format_83 : decode cX6_format 83 = .ok (.invokevirtual 172, 3) := by decide +kernel
theorem dX6_format_86 : decode cX6_format 86 = .ok (.ifCond .ne 5, 3) := by decide +kernel
theorem dX6_format_89 : decode cX6_format 89 = .ok (.iconst 0, 1) := by decide +kernel
theorem dX6_format_90 : decode cX6_format 90 = .ok (.ireturn, 1) := by decide +kernel
theorem dX6_format_91 : decode cX6_format 91 = .ok (.aload_n 0, 1) := by decide +kernel
theorem dX6_format_92 : decode cX6_format 92 = .ok (.getfield 13, 3) := by decide +kernel
theorem dX6_format_95 : decode cX6_format 95 = .ok (.iload_n 1, 1) := by decide +kernel
theorem dX6_format_96 : decode cX6_format 96 = .ok (.aload_n 0, 1) := by decide +kernel
theorem dX6_format_97 : decode cX6_format 97 = .ok (.getfield 169, 3) := by decide +kernel
theorem dX6_format_100 : decode cX6_format 100 = .ok (.iastore, 1) := by decide +kernel
theorem dX6_format_101 : decode cX6_format 101 = .ok (.aload_n 0, 1) := by decide +kernel
theorem dX6_format_102 : decode cX6_format 102 = .ok (.bipush 59, 2) := by decide +kernel
theorem dX6_format_104 : decode cX6_format 104 = .ok (.invokevirtual 178, 3) := by decide +kernel
theorem dX6_format_107 : decode cX6_format 107 = .ok (.ifCond .eq 45, 3) := by decide +kernel
theorem dX6_format_110 : decode cX6_format 110 = .ok (.aload_n 0, 1) := by decide +kernel
theorem dX6_format_111 : decode cX6_format 111 = .ok (.iconst 3, 1) := by decide +kernel
theorem dX6_format_112 : decode cX6_format 112 = .ok (.invokevirtual 175, 3) := by decide +kernel
theorem dX6_format_115 : decode cX6_format 115 = .ok (.ifCond .eq 37, 3) := by decide +kernel
theorem dX6_format_118 : decode cX6_format 118 = .ok (.aload_n 0, 1) := by decide +kernel
theorem dX6_format_119 : decode cX6_format 119 = .ok (.iload_n 1, 1) := by decide +kernel
theorem dX6_format_120 : decode cX6_format 120 = .ok (.invokevirtual 181, 3) := by decide +kernel
theorem dX6_format_123 : decode cX6_format 123 = .ok (.ifCond .eq 29, 3) := by decide +kernel
theorem dX6_format_126 : decode cX6_format 126 = .ok (.aload_n 0, 1) := by decide +kernel
theorem dX6_format_127 : decode cX6_format 127 = .ok (.bipush 59, 2) := by decide +kernel
theorem dX6_format_129 : decode cX6_format 129 = .ok (.invokevirtual 178, 3) := by decide +kernel
theorem dX6_format_132 : decode cX6_format 132 = .ok (.ifCond .eq 20, 3) := by decide +kernel
theorem dX6_format_135 : decode cX6_format 135 = .ok (.aload_n 0, 1) := by decide +kernel
theorem dX6_format_136 : decode cX6_format 136 = .ok (.iconst 4, 1) := by decide +kernel
theorem dX6_format_137 : decode cX6_format 137 = .ok (.invokevirtual 175, 3) := by decide +kernel
theorem dX6_format_140 : decode cX6_format 140 = .ok (.ifCond .eq 12, 3) := by decide +kernel
theorem dX6_format_143 : decode cX6_format 143 = .ok (.aload_n 0, 1) := by decide +kernel
theorem dX6_format_144 : decode cX6_format 144 = .ok (.iconst 0, 1) := by decide +kernel
theorem dX6_format_145 : decode cX6_format 145 = .ok (.iconst 3, 1) := by decide +kernel
theorem dX6_format_146 : decode cX6_format 146 = .ok (.invokevirtual 172, 3) := by decide +kernel
theorem dX6_format_149 : decode cX6_format 149 = .ok (.ifCond .ne 5, 3) := by decide +kernel
theorem dX6_format_152 : decode cX6_format 152 = .ok (.iconst 0, 1) := by decide +kernel
theorem dX6_format_153 : decode cX6_format 153 = .ok (.ireturn, 1) := by decide +kernel
theorem dX6_format_154 : decode cX6_format 154 = .ok (.aload_n 0, 1) := by decide +kernel
theorem dX6_format_155 : decode cX6_format 155 = .ok (.getfield 22, 3) := by decide +kernel
theorem dX6_format_158 : decode cX6_format 158 = .ok (.iload_n 1, 1) := by decide +kernel
theorem dX6_format_159 : decode cX6_format 159 = .ok (.aload_n 0, 1) := by decide +kernel
theorem dX6_format_160 : decode cX6_format 160 = .ok (.getfield 169, 3) := by decide +kernel
theorem dX6_format_163 : decode cX6_format 163 = .ok (.iastore, 1) := by decide +kernel
theorem dX6_format_164 : decode cX6_format 164 = .ok (.aload_n 0, 1) := by decide +kernel
theorem dX6_format_165 : decode cX6_format 165 = .ok (.bipush 59, 2) := by decide +kernel
theorem dX6_format_167 : decode cX6_format 167 = .ok (.invokevirtual 178, 3) := by decide +kernel
theorem dX6_format_170 : decode cX6_format 170 = .ok (.ifCond .eq 11, 3) := by decide +kernel
theorem dX6_format_173 : decode cX6_format 173 = .ok (.aload_n 0, 1) := by decide +kernel
theorem dX6_format_174 : decode cX6_format 174 = .ok (.iconst 5, 1) := by decide +kernel
theorem dX6_format_175 : decode cX6_format 175 = .ok (.invokevirtual 175, 3) := by decide +kernel
theorem dX6_format_178 : decode cX6_format 178 = .ok (.ifCond .ne 5, 3) := by decide +kernel
theorem dX6_format_181 : decode cX6_format 181 = .ok (.iconst 0, 1) := by decide +kernel
theorem dX6_format_182 : decode cX6_format 182 = .ok (.ireturn, 1) := by decide +kernel
theorem dX6_format_183 : decode cX6_format 183 = .ok (.aload_n 0, 1) := by decide +kernel
theorem dX6_format_184 : decode cX6_format 184 = .ok (.getfield 144, 3) := by decide +kernel
theorem dX6_format_187 : decode cX6_format 187 = .ok (.iconst 1, 1) := by decide +kernel
theorem dX6_format_188 : decode cX6_format 188 = .ok (.if_icmp .ne 21, 3) := by decide +kernel
theorem dX6_format_191 : decode cX6_format 191 = .ok (.aload_n 0, 1) := by decide +kernel
theorem dX6_format_192 : decode cX6_format 192 = .ok (.getfield 155, 3) := by decide +kernel
theorem dX6_format_195 : decode cX6_format 195 = .ok (.bipush 6, 2) := by decide +kernel
theorem dX6_format_197 : decode cX6_format 197 = .ok (.if_icmp .eq 22, 3) := by decide +kernel
theorem dX6_format_200 : decode cX6_format 200 = .ok (.aload_n 0, 1) := by decide +kernel
theorem dX6_format_201 : decode cX6_format 201 = .ok (.getfield 155, 3) := by decide +kernel
theorem dX6_format_204 : decode cX6_format 204 = .ok (.bipush 7, 2) := by decide +kernel
theorem dX6_format_206 : decode cX6_format 206 = .ok (.if_icmp .eq 13, 3) := by decide +kernel
theorem dX6_format_209 : decode cX6_format 209 = .ok (.aload_n 0, 1) := by decide +kernel
theorem dX6_format_210 : decode cX6_format 210 = .ok (.iconst 1, 1) := by decide +kernel
theorem dX6_format_211 : decode cX6_format 211 = .ok (.aload_n 0, 1) := by decide +kernel
theorem dX6_format_212 : decode cX6_format 212 = .ok (.getfield 141, 3) := by decide +kernel
theorem dX6_format_215 : decode cX6_format 215 = .ok (.invokevirtual 162, 3) := by decide +kernel
theorem dX6_format_218 : decode cX6_format 218 = .ok (.ireturn, 1) := by decide +kernel
theorem dX6_format_219 : decode cX6_format 219 = .ok (.aload_n 0, 1) := by decide +kernel
theorem dX6_format_220 : decode cX6_format 220 = .ok (.getfield 25, 3) := by decide +kernel
theorem dX6_format_223 : decode cX6_format 223 = .ok (.iload_n 1, 1) := by decide +kernel
theorem dX6_format_224 : decode cX6_format 224 = .ok (.aload_n 0, 1) := by decide +kernel
theorem dX6_format_225 : decode cX6_format 225 = .ok (.getfield 155, 3) := by decide +kernel
theorem dX6_format_228 : decode cX6_format 228 = .ok (.bipush 6, 2) := by decide +kernel
theorem dX6_format_230 : decode cX6_format 230 = .ok (.if_icmp .ne 7, 3) := by decide +kernel
theorem dX6_format_233 : decode cX6_format 233 = .ok (.iconst 1, 1) := by decide +kernel
theorem dX6_format_234 : decode cX6_format 234 = .ok (.goto 4, 3) := by decide +kernel
theorem dX6_format_237 : decode cX6_format 237 = .ok (.iconst 0, 1) := by decide +kernel
theorem dX6_format_238 : decode cX6_format 238 = .ok (.bastore, 1) := by decide +kernel
theorem dX6_format_239 : decode cX6_format 239 = .ok (.aload_n 0, 1) := by decide +kernel
theorem dX6_format_240 : decode cX6_format 240 = .ok (.invokevirtual 166, 3) := by decide +kernel
theorem dX6_format_243 : decode cX6_format 243 = .ok (.aload_n 0, 1) := by decide +kernel
theorem dX6_format_244 : decode cX6_format 244 = .ok (.iconst 0, 1) := by decide +kernel
theorem dX6_format_245 : decode cX6_format 245 = .ok (.sipush 600, 3) := by decide +kernel
theorem dX6_format_248 : decode cX6_format 248 = .ok (.invokevirtual 172, 3) := by decide +kernel
theorem dX6_format_251 : decode cX6_format 251 = .ok (.ifCond .ne 5, 3) := by decide +kernel
theorem dX6_format_254 : decode cX6_format 254 = .ok (.iconst 0, 1) := by decide +kernel
theorem dX6_format_255 : decode cX6_format 255 = .ok (.ireturn, 1) := by decide +kernel
theorem dX6_format_256 : decode cX6_format 256 = .ok (.aload_n 0, 1) := by decide +kernel
theorem dX6_format_257 : decode cX6_format 257 = .ok (.getfield 29, 3) := by decide +kernel
theorem dX6_format_260 : decode cX6_format 260 = .ok (.iload_n 1, 1) := by decide +kernel
theorem dX6_format_261 : decode cX6_format 261 = .ok (.aload_n 0, 1) := by decide +kernel
theorem dX6_format_262 : decode cX6_format 262 = .ok (.getfield 169, 3) := by decide +kernel
theorem dX6_format_265 : decode cX6_format 265 = .ok (.iastore, 1) := by decide +kernel
theorem dX6_format_266 : decode cX6_format 266 = .ok (.aload_n 0, 1) := by decide +kernel
theorem dX6_format_267 : decode cX6_format 267 = .ok (.bipush 59, 2) := by decide +kernel
theorem dX6_format_269 : decode cX6_format 269 = .ok (.invokevirtual 178, 3) := by decide +kernel
theorem dX6_format_272 : decode cX6_format 272 = .ok (.ifCond .eq 42, 3) := by decide +kernel
theorem dX6_format_275 : decode cX6_format 275 = .ok (.aload_n 0, 1) := by decide +kernel
theorem dX6_format_276 : decode cX6_format 276 = .ok (.bipush 8, 2) := by decide +kernel
theorem dX6_format_278 : decode cX6_format 278 = .ok (.invokevirtual 175, 3) := by decide +kernel
theorem dX6_format_281 : decode cX6_format 281 = .ok (.ifCond .eq 33, 3) := by decide +kernel
theorem dX6_format_284 : decode cX6_format 284 = .ok (.aload_n 0, 1) := by decide +kernel
theorem dX6_format_285 : decode cX6_format 285 = .ok (.iload_n 1, 1) := by decide +kernel
theorem dX6_format_286 : decode cX6_format 286 = .ok (.invokevirtual 184, 3) := by decide +kernel
theorem dX6_format_289 : decode cX6_format 289 = .ok (.ifCond .eq 25, 3) := by decide +kernel
theorem dX6_format_292 : decode cX6_format 292 = .ok (.aload_n 0, 1) := by decide +kernel
theorem dX6_format_293 : decode cX6_format 293 = .ok (.bipush 59, 2) := by decide +kernel
theorem dX6_format_295 : decode cX6_format 295 = .ok (.invokevirtual 178, 3) := by decide +kernel
theorem dX6_format_298 : decode cX6_format 298 = .ok (.ifCond .eq 16, 3) := by decide +kernel
theorem dX6_format_301 : decode cX6_format 301 = .ok (.aload_n 0, 1) := by decide +kernel
theorem dX6_format_302 : decode cX6_format 302 = .ok (.bipush 125, 2) := by decide +kernel
theorem dX6_format_304 : decode cX6_format 304 = .ok (.invokevirtual 178, 3) := by decide +kernel
theorem dX6_format_307 : decode cX6_format 307 = .ok (.ifCond .eq 7, 3) := by decide +kernel
theorem dX6_format_310 : decode cX6_format 310 = .ok (.iconst 1, 1) := by decide +kernel
theorem dX6_format_311 : decode cX6_format 311 = .ok (.goto 4, 3) := by decide +kernel
theorem dX6_format_314 : decode cX6_format 314 = .ok (.iconst 0, 1) := by decide +kernel
theorem dX6_format_315 : decode cX6_format 315 = .ok (.ireturn, 1) := by decide +kernel
theorem dX6_formats_0 : decode cX6_formats 0 = .ok (.aload_n 0, 1) := by decide +kernel
theorem dX6_formats_1 : decode cX6_formats 1 = .ok (.iconst 0, 1) := by decide +kernel
theorem dX6_formats_2 : decode cX6_formats 2 = .ok (.putfield 126, 3) := by decide +kernel
theorem dX6_formats_5 : decode cX6_formats 5 = .ok (.iload_n 1, 1) := by decide +kernel
theorem dX6_formats_6 : decode cX6_formats 6 = .ok (.ifCond .lt 11, 3) := by decide +kernel
theorem dX6_formats_9 : decode cX6_formats 9 = .ok (.iload_n 1, 1) := by decide +kernel
theorem dX6_formats_10 : decode cX6_formats 10 = .ok (.aload_n 0, 1) := by decide +kernel
theorem dX6_formats_11 : decode cX6_formats 11 = .ok (.getfield 129, 3) := by decide +kernel
theorem dX6_formats_14 : decode cX6_formats 14 = .ok (.if_icmp .le 6, 3) := by decide +kernel
theorem dX6_formats_17 : decode cX6_formats 17 = .ok (.bipush (-2), 2) := by decide +kernel
theorem dX6_formats_19 : decode cX6_formats 19 = .ok (.ireturn, 1) := by decide +kernel
theorem dX6_formats_20 : decode cX6_formats 20 = .ok (.aload_n 0, 1) := by decide +kernel
theorem dX6_formats_21 : decode cX6_formats 21 = .ok (.iload_n 1, 1) := by decide +kernel
theorem dX6_formats_22 : decode cX6_formats 22 = .ok (.putfield 135, 3) := by decide +kernel
theorem dX6_formats_25 : decode cX6_formats 25 = .ok (.aload_n 0, 1) := by decide +kernel
theorem dX6_formats_26 : decode cX6_formats 26 = .ok (.iconst 0, 1) := by decide +kernel
theorem dX6_formats_27 : decode cX6_formats 27 = .ok (.putfield 129, 3) := by decide +kernel
theorem dX6_formats_30 : decode cX6_formats 30 = .ok (.aload_n 0, 1) := by decide +kernel
theorem dX6_formats_31 : decode cX6_formats 31 = .ok (.iconst 0, 1) := by decide +kernel
theorem dX6_formats_32 : decode cX6_formats 32 = .ok (.putfield 132, 3) := by decide +kernel
theorem dX6_formats_35 : decode cX6_formats 35 = .ok (.aload_n 0, 1) := by decide +kernel
theorem dX6_formats_36 : decode cX6_formats 36 = .ok (.iconst (-1), 1) := by decide +kernel
theorem dX6_formats_37 : decode cX6_formats 37 = .ok (.putfield 38, 3) := by decide +kernel
theorem dX6_formats_40 : decode cX6_formats 40 = .ok (.bipush 8, 2) := by decide +kernel
theorem dX6_formats_42 : decode cX6_formats 42 = .ok (.istore_n 2, 1) := by decide +kernel
theorem dX6_formats_43 : decode cX6_formats 43 = .ok (.iload_n 2, 1) := by decide +kernel
theorem dX6_formats_44 : decode cX6_formats 44 = .ok (.bipush 16, 2) := by decide +kernel
theorem dX6_formats_46 : decode cX6_formats 46 = .ok (.if_icmp .ge 16, 3) := by decide +kernel
theorem dX6_formats_49 : decode cX6_formats 49 = .ok (.aload_n 0, 1) := by decide +kernel
theorem dX6_formats_50 : decode cX6_formats 50 = .ok (.getfield 13, 3) := by decide +kernel
theorem dX6_formats_53 : decode cX6_formats 53 = .ok (.iload_n 2, 1) := by decide +kernel
theorem dX6_formats_54 : decode cX6_formats 54 = .ok (.iconst 0, 1) := by decide +kernel
theorem dX6_formats_55 : decode cX6_formats 55 = .ok (.iastore, 1) := by decide +kernel
theorem dX6_formats_56 : decode cX6_formats 56 = .ok (.iinc 2 1, 3) := by decide +kernel
theorem dX6_formats_59 : decode cX6_formats 59 = .ok (.goto (-16), 3) := by decide +kernel
theorem dX6_formats_62 : decode cX6_formats 62 = .ok (.aload_n 0, 1) := by decide +kernel
theorem dX6_formats_63 : decode cX6_formats 63 = .ok (.iconst 0, 1) := by decide +kernel
theorem dX6_formats_64 : decode cX6_formats 64 = .ok (.putfield 138, 3) := by decide +kernel
theorem dX6_formats_67 : decode cX6_formats 67 = .ok (.iconst 0, 1) := by decide +kernel
theorem dX6_formats_68 : decode cX6_formats 68 = .ok (.istore_n 2, 1) := by decide +kernel
theorem dX6_formats_69 : decode cX6_formats 69 = .ok (.aload_n 0, 1) := by decide +kernel
theorem dX6_formats_70 : decode cX6_formats 70 = .ok (.invokevirtual 166, 3) := by decide +kernel
theorem dX6_formats_73 : decode cX6_formats 73 = .ok (.aload_n 0, 1) := by decide +kernel
theorem dX6_formats_74 : decode cX6_formats 74 = .ok (.getfield 144, 3) := by decide +kernel
theorem dX6_formats_77 : decode cX6_formats 77 = .ok (.ifCond .eq 18, 3) := by decide +kernel
theorem dX6_formats_80 : decode cX6_formats 80 = .ok (.aload_n 0, 1) := by decide +kernel
theorem dX6_formats_81 : decode cX6_formats 81 = .ok (.invokevirtual 187, 3) := by decide +kernel
theorem dX6_formats_84 : decode cX6_formats 84 = .ok (.ifCond .ne 5, 3) := by decide +kernel
theorem dX6_formats_87 : decode cX6_formats 87 = .ok (.iconst (-1), 1) := by decide +kernel
theorem dX6_formats_88 : decode cX6_formats 88 = .ok (.ireturn, 1) := by decide +kernel
theorem dX6_formats_89 : decode cX6_formats 89 = .ok (.iinc 2 1, 3) := by decide +kernel
theorem dX6_formats_92 : decode cX6_formats 92 = .ok (.goto (-19), 3) := by decide +kernel
theorem dX6_formats_95 : decode cX6_formats 95 = .ok (.aload_n 0, 1) := by decide +kernel
theorem dX6_formats_96 : decode cX6_formats 96 = .ok (.iload_n 2, 1) := by decide +kernel
theorem dX6_formats_97 : decode cX6_formats 97 = .ok (.putfield 191, 3) := by decide +kernel
theorem dX6_formats_100 : decode cX6_formats 100 = .ok (.iconst 0, 1) := by decide +kernel
theorem dX6_formats_101 : decode cX6_formats 101 = .ok (.istore_n 3, 1) := by decide +kernel
theorem dX6_formats_102 : decode cX6_formats 102 = .ok (.iload_n 3, 1) := by decide +kernel
theorem dX6_formats_103 : decode cX6_formats 103 = .ok (.bipush 8, 2) := by decide +kernel
theorem dX6_formats_105 : decode cX6_formats 105 = .ok (.if_icmp .ge 114, 3) := by decide +kernel
theorem dX6_formats_108 : decode cX6_formats 108 = .ok (.aload_n 0, 1) := by decide +kernel
theorem dX6_formats_109 : decode cX6_formats 109 = .ok (.getfield 13, 3) := by decide +kernel
theorem dX6_formats_112 : decode cX6_formats 112 = .ok (.iload_n 3, 1) := by decide +kernel
theorem dX6_formats_113 : decode cX6_formats 113 = .ok (.aload_n 0, 1) := by decide +kernel
theorem dX6_formats_114 : decode cX6_formats 114 = .ok (.getfield 13, 3) := by decide +kernel
theorem dX6_formats_117 : decode cX6_formats 117 = .ok (.bipush 8, 2) := by decide +kernel
theorem dX6_formats_119 : decode cX6_formats 119 = .ok (.iload_n 3, 1) := by decide +kernel
theorem dX6_formats_120 : decode cX6_formats 120 = .ok (.iadd, 1) := by decide +kernel
theorem dX6_formats_121 : decode cX6_formats 121 = .ok (.iaload, 1) := by decide +kernel
theorem dX6_formats_122 : decode cX6_formats 122 = .ok (.iastore, 1) := by decide +kernel
theorem dX6_formats_123 : decode cX6_formats 123 = .ok (.aload_n 0, 1) := by decide +kernel
theorem dX6_formats_124 : decode cX6_formats 124 = .ok (.getfield 16, 3) := by decide +kernel
theorem dX6_formats_127 : decode cX6_formats 127 = .ok (.iload_n 3, 1) := by decide +kernel
theorem dX6_formats_128 : decode cX6_formats 128 = .ok (.aload_n 0, 1) := by decide +kernel
theorem dX6_formats_129 : decode cX6_formats 129 = .ok (.getfield 16, 3) := by decide +kernel
theorem dX6_formats_132 : decode cX6_formats 132 = .ok (.bipush 8, 2) := by decide +kernel
theorem dX6_formats_134 : decode cX6_formats 134 = .ok (.iload_n 3, 1) := by decide +kernel
theorem dX6_formats_135 : decode cX6_formats 135 = .ok (.iadd, 1) := by decide +kernel
theorem dX6_formats_136 : decode cX6_formats 136 = .ok (.iaload, 1) := by decide +kernel
theorem dX6_formats_137 : decode cX6_formats 137 = .ok (.iastore, 1) := by decide +kernel
theorem dX6_formats_138 : decode cX6_formats 138 = .ok (.aload_n 0, 1) := by decide +kernel
theorem dX6_formats_139 : decode cX6_formats 139 = .ok (.getfield 22, 3) := by decide +kernel
theorem dX6_formats_142 : decode cX6_formats 142 = .ok (.iload_n 3, 1) := by decide +kernel
theorem dX6_formats_143 : decode cX6_formats 143 = .ok (.aload_n 0, 1) := by decide +kernel
theorem dX6_formats_144 : decode cX6_formats 144 = .ok (.getfield 22, 3) := by decide +kernel
theorem dX6_formats_147 : decode cX6_formats 147 = .ok (.bipush 8, 2) := by decide +kernel
theorem dX6_formats_149 : decode cX6_formats 149 = .ok (.iload_n 3, 1) := by decide +kernel
theorem dX6_formats_150 : decode cX6_formats 150 = .ok (.iadd, 1) := by decide +kernel
theorem dX6_formats_151 : decode cX6_formats 151 = .ok (.iaload, 1) := by decide +kernel
theorem dX6_formats_152 : decode cX6_formats 152 = .ok (.iastore, 1) := by decide +kernel
theorem dX6_formats_153 : decode cX6_formats 153 = .ok (.aload_n 0, 1) := by decide +kernel
theorem dX6_formats_154 : decode cX6_formats 154 = .ok (.getfield 25, 3) := by decide +kernel
theorem dX6_formats_157 : decode cX6_formats 157 = .ok (.iload_n 3, 1) := by decide +kernel
theorem dX6_formats_158 : decode cX6_formats 158 = .ok (.aload_n 0, 1) := by decide +kernel
theorem dX6_formats_159 : decode cX6_formats 159 = .ok (.getfield 25, 3) := by decide +kernel
theorem dX6_formats_162 : decode cX6_formats 162 = .ok (.bipush 8, 2) := by decide +kernel
theorem dX6_formats_164 : decode cX6_formats 164 = .ok (.iload_n 3, 1) := by decide +kernel
theorem dX6_formats_165 : decode cX6_formats 165 = .ok (.iadd, 1) := by decide +kernel
theorem dX6_formats_166 : decode cX6_formats 166 = .ok (.baload, 1) := by decide +kernel
theorem dX6_formats_167 : decode cX6_formats 167 = .ok (.bastore, 1) := by decide +kernel
theorem dX6_formats_168 : decode cX6_formats 168 = .ok (.aload_n 0, 1) := by decide +kernel
theorem dX6_formats_169 : decode cX6_formats 169 = .ok (.getfield 29, 3) := by decide +kernel
theorem dX6_formats_172 : decode cX6_formats 172 = .ok (.iload_n 3, 1) := by decide +kernel
theorem dX6_formats_173 : decode cX6_formats 173 = .ok (.aload_n 0, 1) := by decide +kernel
theorem dX6_formats_174 : decode cX6_formats 174 = .ok (.getfield 29, 3) := by decide +kernel
theorem dX6_formats_177 : decode cX6_formats 177 = .ok (.bipush 8, 2) := by decide +kernel
theorem dX6_formats_179 : decode cX6_formats 179 = .ok (.iload_n 3, 1) := by decide +kernel
theorem dX6_formats_180 : decode cX6_formats 180 = .ok (.iadd, 1) := by decide +kernel
theorem dX6_formats_181 : decode cX6_formats 181 = .ok (.iaload, 1) := by decide +kernel
theorem dX6_formats_182 : decode cX6_formats 182 = .ok (.iastore, 1) := by decide +kernel
theorem dX6_formats_183 : decode cX6_formats 183 = .ok (.aload_n 0, 1) := by decide +kernel
theorem dX6_formats_184 : decode cX6_formats 184 = .ok (.getfield 32, 3) := by decide +kernel
theorem dX6_formats_187 : decode cX6_formats 187 = .ok (.iload_n 3, 1) := by decide +kernel
theorem dX6_formats_188 : decode cX6_formats 188 = .ok (.aload_n 0, 1) := by decide +kernel
theorem dX6_formats_189 : decode cX6_formats 189 = .ok (.getfield 32, 3) := by decide +kernel
theorem dX6_formats_192 : decode cX6_formats 192 = .ok (.bipush 8, 2) := by decide +kernel
theorem dX6_formats_194 : decode cX6_formats 194 = .ok (.iload_n 3, 1) := by decide +kernel
theorem dX6_formats_195 : decode cX6_formats 195 = .ok (.iadd, 1) := by decide +kernel
theorem dX6_formats_196 : decode cX6_formats 196 = .ok (.iaload, 1) := by decide +kernel
theorem dX6_formats_197 : decode cX6_formats 197 = .ok (.iastore, 1) := by decide +kernel
theorem dX6_formats_198 : decode cX6_formats 198 = .ok (.aload_n 0, 1) := by decide +kernel
theorem dX6_formats_199 : decode cX6_formats 199 = .ok (.getfield 35, 3) := by decide +kernel
theorem dX6_formats_202 : decode cX6_formats 202 = .ok (.iload_n 3, 1) := by decide +kernel
theorem dX6_formats_203 : decode cX6_formats 203 = .ok (.aload_n 0, 1) := by decide +kernel
theorem dX6_formats_204 : decode cX6_formats 204 = .ok (.getfield 35, 3) := by decide +kernel
theorem dX6_formats_207 : decode cX6_formats 207 = .ok (.bipush 8, 2) := by decide +kernel
theorem dX6_formats_209 : decode cX6_formats 209 = .ok (.iload_n 3, 1) := by decide +kernel
theorem dX6_formats_210 : decode cX6_formats 210 = .ok (.iadd, 1) := by decide +kernel
theorem dX6_formats_211 : decode cX6_formats 211 = .ok (.iaload, 1) := by decide +kernel
theorem dX6_formats_212 : decode cX6_formats 212 = .ok (.iastore, 1) := by decide +kernel
theorem dX6_formats_213 : decode cX6_formats 213 = .ok (.iinc 3 1, 3) := by decide +kernel
theorem dX6_formats_216 : decode cX6_formats 216 = .ok (.goto (-114), 3) := by decide +kernel
theorem dX6_formats_219 : decode cX6_formats 219 = .ok (.iload_n 2, 1) := by decide +kernel
theorem dX6_formats_220 : decode cX6_formats 220 = .ok (.ireturn, 1) := by decide +kernel
theorem dX6_fault_0 : decode cX6_fault 0 = .ok (.aload_n 0, 1) := by decide +kernel
theorem dX6_fault_1 : decode cX6_fault 1 = .ok (.iconst 0, 1) := by decide +kernel
theorem dX6_fault_2 : decode cX6_fault 2 = .ok (.putfield 126, 3) := by decide +kernel
theorem dX6_fault_5 : decode cX6_fault 5 = .ok (.iload_n 1, 1) := by decide +kernel
theorem dX6_fault_6 : decode cX6_fault 6 = .ok (.ifCond .ne 10, 3) := by decide +kernel
theorem dX6_fault_9 : decode cX6_fault 9 = .ok (.aload_n 0, 1) := by decide +kernel
theorem dX6_fault_10 : decode cX6_fault 10 = .ok (.getfield 132, 3) := by decide +kernel
theorem dX6_fault_13 : decode cX6_fault 13 = .ok (.goto 16, 3) := by decide +kernel
theorem dX6_fault_16 : decode cX6_fault 16 = .ok (.iload_n 1, 1) := by decide +kernel
theorem dX6_fault_17 : decode cX6_fault 17 = .ok (.iconst 1, 1) := by decide +kernel
theorem dX6_fault_18 : decode cX6_fault 18 = .ok (.if_icmp .ne 10, 3) := by decide +kernel
theorem dX6_fault_21 : decode cX6_fault 21 = .ok (.aload_n 0, 1) := by decide +kernel
theorem dX6_fault_22 : decode cX6_fault 22 = .ok (.getfield 38, 3) := by decide +kernel
theorem dX6_fault_25 : decode cX6_fault 25 = .ok (.goto 4, 3) := by decide +kernel
theorem dX6_fault_28 : decode cX6_fault 28 = .ok (.iconst (-1), 1) := by decide +kernel
theorem dX6_fault_29 : decode cX6_fault 29 = .ok (.ireturn, 1) := by decide +kernel
theorem dX6_pass_0 : decode cX6_pass 0 = .ok (.aload_n 0, 1) := by decide +kernel
theorem dX6_pass_1 : decode cX6_pass 1 = .ok (.iconst 0, 1) := by decide +kernel
theorem dX6_pass_2 : decode cX6_pass 2 = .ok (.putfield 126, 3) := by decide +kernel
theorem dX6_pass_5 : decode cX6_pass 5 = .ok (.iload_n 1, 1) := by decide +kernel
theorem dX6_pass_6 : decode cX6_pass 6 = .ok (.ifCond .lt 22, 3) := by decide +kernel
theorem dX6_pass_9 : decode cX6_pass 9 = .ok (.iload_n 1, 1) := by decide +kernel
theorem dX6_pass_10 : decode cX6_pass 10 = .ok (.sipush 200, 3) := by decide +kernel
theorem dX6_pass_13 : decode cX6_pass 13 = .ok (.if_icmp .gt 15, 3) := by decide +kernel
theorem dX6_pass_16 : decode cX6_pass 16 = .ok (.aload_n 0, 1) := by decide +kernel
theorem dX6_pass_17 : decode cX6_pass 17 = .ok (.getfield 194, 3) := by decide +kernel
theorem dX6_pass_20 : decode cX6_pass 20 = .ok (.iload_n 1, 1) := by decide +kernel
theorem dX6_pass_21 : decode cX6_pass 21 = .ok (.iadd, 1) := by decide +kernel
theorem dX6_pass_22 : decode cX6_pass 22 = .ok (.sipush 200, 3) := by decide +kernel
theorem dX6_pass_25 : decode cX6_pass 25 = .ok (.if_icmp .le 5, 3) := by decide +kernel
theorem dX6_pass_28 : decode cX6_pass 28 = .ok (.iconst (-1), 1) := by decide +kernel
theorem dX6_pass_29 : decode cX6_pass 29 = .ok (.ireturn, 1) := by decide +kernel
theorem dX6_pass_30 : decode cX6_pass 30 = .ok (.aload_n 0, 1) := by decide +kernel
theorem dX6_pass_31 : decode cX6_pass 31 = .ok (.dup, 1) := by decide +kernel
theorem dX6_pass_32 : decode cX6_pass 32 = .ok (.getfield 194, 3) := by decide +kernel
theorem dX6_pass_35 : decode cX6_pass 35 = .ok (.iload_n 1, 1) := by decide +kernel
theorem dX6_pass_36 : decode cX6_pass 36 = .ok (.iadd, 1) := by decide +kernel
theorem dX6_pass_37 : decode cX6_pass 37 = .ok (.putfield 194, 3) := by decide +kernel
theorem dX6_pass_40 : decode cX6_pass 40 = .ok (.aload_n 0, 1) := by decide +kernel
theorem dX6_pass_41 : decode cX6_pass 41 = .ok (.getfield 194, 3) := by decide +kernel
theorem dX6_pass_44 : decode cX6_pass 44 = .ok (.ireturn, 1) := by decide +kernel
theorem dX6_racer_0 : decode cX6_racer 0 = .ok (.aload_n 0, 1) := by decide +kernel
theorem dX6_racer_1 : decode cX6_racer 1 = .ok (.iconst 0, 1) := by decide +kernel
theorem dX6_racer_2 : decode cX6_racer 2 = .ok (.putfield 126, 3) := by decide +kernel
theorem dX6_racer_5 : decode cX6_racer 5 = .ok (.iload_n 1, 1) := by decide +kernel
theorem dX6_racer_6 : decode cX6_racer 6 = .ok (.ifCond .lt 18, 3) := by decide +kernel
theorem dX6_racer_9 : decode cX6_racer 9 = .ok (.iload_n 1, 1) := by decide +kernel
theorem dX6_racer_10 : decode cX6_racer 10 = .ok (.bipush 7, 2) := by decide +kernel
theorem dX6_racer_12 : decode cX6_racer 12 = .ok (.if_icmp .gt 12, 3) := by decide +kernel
theorem dX6_racer_15 : decode cX6_racer 15 = .ok (.aload_n 0, 1) := by decide +kernel
theorem dX6_racer_16 : decode cX6_racer 16 = .ok (.getfield 197, 3) := by decide +kernel
theorem dX6_racer_19 : decode cX6_racer 19 = .ok (.bipush 16, 2) := by decide +kernel
theorem dX6_racer_21 : decode cX6_racer 21 = .ok (.if_icmp .ne 5, 3) := by decide +kernel
theorem dX6_racer_24 : decode cX6_racer 24 = .ok (.iconst (-1), 1) := by decide +kernel
theorem dX6_racer_25 : decode cX6_racer 25 = .ok (.ireturn, 1) := by decide +kernel
theorem dX6_racer_26 : decode cX6_racer 26 = .ok (.aload_n 0, 1) := by decide +kernel
theorem dX6_racer_27 : decode cX6_racer 27 = .ok (.getfield 42, 3) := by decide +kernel
theorem dX6_racer_30 : decode cX6_racer 30 = .ok (.aload_n 0, 1) := by decide +kernel
theorem dX6_racer_31 : decode cX6_racer 31 = .ok (.getfield 197, 3) := by decide +kernel
theorem dX6_racer_34 : decode cX6_racer 34 = .ok (.iload_n 1, 1) := by decide +kernel
theorem dX6_racer_35 : decode cX6_racer 35 = .ok (.iastore, 1) := by decide +kernel
theorem dX6_racer_36 : decode cX6_racer 36 = .ok (.aload_n 0, 1) := by decide +kernel
theorem dX6_racer_37 : decode cX6_racer 37 = .ok (.dup, 1) := by decide +kernel
theorem dX6_racer_38 : decode cX6_racer 38 = .ok (.getfield 197, 3) := by decide +kernel
theorem dX6_racer_41 : decode cX6_racer 41 = .ok (.iconst 1, 1) := by decide +kernel
theorem dX6_racer_42 : decode cX6_racer 42 = .ok (.iadd, 1) := by decide +kernel
theorem dX6_racer_43 : decode cX6_racer 43 = .ok (.putfield 197, 3) := by decide +kernel
theorem dX6_racer_46 : decode cX6_racer 46 = .ok (.aload_n 0, 1) := by decide +kernel
theorem dX6_racer_47 : decode cX6_racer 47 = .ok (.getfield 197, 3) := by decide +kernel
theorem dX6_racer_50 : decode cX6_racer 50 = .ok (.iconst 1, 1) := by decide +kernel
theorem dX6_racer_51 : decode cX6_racer 51 = .ok (.isub, 1) := by decide +kernel
theorem dX6_racer_52 : decode cX6_racer 52 = .ok (.ireturn, 1) := by decide +kernel
theorem dX6_isRace_0 : decode cX6_isRace 0 = .ok (.iload_n 1, 1) := by decide +kernel
theorem dX6_isRace_1 : decode cX6_isRace 1 = .ok (.ifCond .lt 15, 3) := by decide +kernel
theorem dX6_isRace_4 : decode cX6_isRace 4 = .ok (.iload_n 1, 1) := by decide +kernel
theorem dX6_isRace_5 : decode cX6_isRace 5 = .ok (.aload_n 0, 1) := by decide +kernel
theorem dX6_isRace_6 : decode cX6_isRace 6 = .ok (.getfield 200, 3) := by decide +kernel
theorem dX6_isRace_9 : decode cX6_isRace 9 = .ok (.if_icmp .ge 7, 3) := by decide +kernel
theorem dX6_isRace_12 : decode cX6_isRace 12 = .ok (.iconst 1, 1) := by decide +kernel
theorem dX6_isRace_13 : decode cX6_isRace 13 = .ok (.goto 4, 3) := by decide +kernel
theorem dX6_isRace_16 : decode cX6_isRace 16 = .ok (.iconst 0, 1) := by decide +kernel
theorem dX6_isRace_17 : decode cX6_isRace 17 = .ok (.ireturn, 1) := by decide +kernel
theorem dX6_isRacer_0 : decode cX6_isRacer 0 = .ok (.iload_n 1, 1) := by decide +kernel
theorem dX6_isRacer_1 : decode cX6_isRacer 1 = .ok (.ifCond .lt 15, 3) := by decide +kernel
theorem dX6_isRacer_4 : decode cX6_isRacer 4 = .ok (.iload_n 1, 1) := by decide +kernel
theorem dX6_isRacer_5 : decode cX6_isRacer 5 = .ok (.aload_n 0, 1) := by decide +kernel
theorem dX6_isRacer_6 : decode cX6_isRacer 6 = .ok (.getfield 197, 3) := by decide +kernel
theorem dX6_isRacer_9 : decode cX6_isRacer 9 = .ok (.if_icmp .ge 7, 3) := by decide +kernel
theorem dX6_isRacer_12 : decode cX6_isRacer 12 = .ok (.iconst 1, 1) := by decide +kernel
theorem dX6_isRacer_13 : decode cX6_isRacer 13 = .ok (.goto 4, 3) := by decide +kernel
theorem dX6_isRacer_16 : decode cX6_isRacer 16 = .ok (.iconst 0, 1) := by decide +kernel
theorem dX6_isRacer_17 : decode cX6_isRacer 17 = .ok (.ireturn, 1) := by decide +kernel
theorem dX6_race_0 : decode cX6_race 0 = .ok (.aload_n 0, 1) := by decide +kernel
theorem dX6_race_1 : decode cX6_race 1 = .ok (.iconst 0, 1) := by decide +kernel
theorem dX6_race_2 : decode cX6_race 2 = .ok (.putfield 126, 3) := by decide +kernel
theorem dX6_race_5 : decode cX6_race 5 = .ok (.iload_n 1, 1) := by decide +kernel
theorem dX6_race_6 : decode cX6_race 6 = .ok (.ifCond .lt 27, 3) := by decide +kernel
theorem dX6_race_9 : decode cX6_race 9 = .ok (.iload_n 1, 1) := by decide +kernel
theorem dX6_race_10 : decode cX6_race 10 = .ok (.bipush 7, 2) := by decide +kernel
theorem dX6_race_12 : decode cX6_race 12 = .ok (.if_icmp .gt 21, 3) := by decide +kernel
theorem dX6_race_15 : decode cX6_race 15 = .ok (.aload_n 0, 1) := by decide +kernel
theorem dX6_race_16 : decode cX6_race 16 = .ok (.getfield 13, 3) := by decide +kernel
theorem dX6_race_19 : decode cX6_race 19 = .ok (.iload_n 1, 1) := by decide +kernel
theorem dX6_race_20 : decode cX6_race 20 = .ok (.iaload, 1) := by decide +kernel
theorem dX6_race_21 : decode cX6_race 21 = .ok (.ifCond .eq 12, 3) := by decide +kernel
theorem dX6_race_24 : decode cX6_race 24 = .ok (.aload_n 0, 1) := by decide +kernel
theorem dX6_race_25 : decode cX6_race 25 = .ok (.getfield 200, 3) := by decide +kernel
theorem dX6_race_28 : decode cX6_race 28 = .ok (.bipush 8, 2) := by decide +kernel
theorem dX6_race_30 : decode cX6_race 30 = .ok (.if_icmp .ne 5, 3) := by decide +kernel
theorem dX6_race_33 : decode cX6_race 33 = .ok (.iconst (-1), 1) := by decide +kernel
theorem dX6_race_34 : decode cX6_race 34 = .ok (.ireturn, 1) := by decide +kernel
theorem dX6_race_35 : decode cX6_race 35 = .ok (.aload_n 0, 1) := by decide +kernel
theorem dX6_race_36 : decode cX6_race 36 = .ok (.getfield 32, 3) := by decide +kernel
theorem dX6_race_39 : decode cX6_race 39 = .ok (.iload_n 1, 1) := by decide +kernel
theorem dX6_race_40 : decode cX6_race 40 = .ok (.iaload, 1) := by decide +kernel
theorem dX6_race_41 : decode cX6_race 41 = .ok (.bipush 11, 2) := by decide +kernel
theorem dX6_race_43 : decode cX6_race 43 = .ok (.if_icmp .ne 14, 3) := by decide +kernel
theorem dX6_race_46 : decode cX6_race 46 = .ok (.aload_n 0, 1) := by decide +kernel
theorem dX6_race_47 : decode cX6_race 47 = .ok (.iload_n 2, 1) := by decide +kernel
theorem dX6_race_48 : decode cX6_race 48 = .ok (.invokevirtual 203, 3) := by decide +kernel
theorem dX6_race_51 : decode cX6_race 51 = .ok (.ifCond .ne 13, 3) := by decide +kernel
theorem dX6_race_54 : decode cX6_race 54 = .ok (.goto 8, 3) := by decide +kernel
theorem dX6_race_57 : decode cX6_race 57 = .ok (.iload_n 2, 1) := by decide +kernel
theorem dX6_race_58 : decode cX6_race 58 = .ok (.iconst (-1), 1) := by decide +kernel
theorem dX6_race_59 : decode cX6_race 59 = .ok (.if_icmp .eq 5, 3) := by decide +kernel
theorem dX6_race_62 : decode cX6_race 62 = .ok (.iconst (-1), 1) := by decide +kernel
theorem dX6_race_63 : decode cX6_race 63 = .ok (.ireturn, 1) := by decide +kernel
theorem dX6_race_64 : decode cX6_race 64 = .ok (.aload_n 0, 1) := by decide +kernel
theorem dX6_race_65 : decode cX6_race 65 = .ok (.getfield 45, 3) := by decide +kernel
theorem dX6_race_68 : decode cX6_race 68 = .ok (.aload_n 0, 1) := by decide +kernel
theorem dX6_race_69 : decode cX6_race 69 = .ok (.getfield 200, 3) := by decide +kernel
theorem dX6_race_72 : decode cX6_race 72 = .ok (.iload_n 1, 1) := by decide +kernel
theorem dX6_race_73 : decode cX6_race 73 = .ok (.iastore, 1) := by decide +kernel
theorem dX6_race_74 : decode cX6_race 74 = .ok (.aload_n 0, 1) := by decide +kernel
theorem dX6_race_75 : decode cX6_race 75 = .ok (.getfield 48, 3) := by decide +kernel
theorem dX6_race_78 : decode cX6_race 78 = .ok (.aload_n 0, 1) := by decide +kernel
theorem dX6_race_79 : decode cX6_race 79 = .ok (.getfield 200, 3) := by decide +kernel
theorem dX6_race_82 : decode cX6_race 82 = .ok (.aload_n 0, 1) := by decide +kernel
theorem dX6_race_83 : decode cX6_race 83 = .ok (.getfield 13, 3) := by decide +kernel
theorem dX6_race_86 : decode cX6_race 86 = .ok (.iload_n 1, 1) := by decide +kernel
theorem dX6_race_87 : decode cX6_race 87 = .ok (.iaload, 1) := by decide +kernel
theorem dX6_race_88 : decode cX6_race 88 = .ok (.iastore, 1) := by decide +kernel
theorem dX6_race_89 : decode cX6_race 89 = .ok (.aload_n 0, 1) := by decide +kernel
theorem dX6_race_90 : decode cX6_race 90 = .ok (.getfield 51, 3) := by decide +kernel
theorem dX6_race_93 : decode cX6_race 93 = .ok (.aload_n 0, 1) := by decide +kernel
theorem dX6_race_94 : decode cX6_race 94 = .ok (.getfield 200, 3) := by decide +kernel
theorem dX6_race_97 : decode cX6_race 97 = .ok (.aload_n 0, 1) := by decide +kernel
theorem dX6_race_98 : decode cX6_race 98 = .ok (.getfield 16, 3) := by decide +kernel
theorem dX6_race_101 : decode cX6_race 101 = .ok (.iload_n 1, 1) := by decide +kernel
theorem dX6_race_102 : decode cX6_race 102 = .ok (.iaload, 1) := by decide +kernel
theorem dX6_race_103 : decode cX6_race 103 = .ok (.iastore, 1) := by decide +kernel
theorem dX6_race_104 : decode cX6_race 104 = .ok (.aload_n 0, 1) := by decide +kernel
theorem dX6_race_105 : decode cX6_race 105 = .ok (.getfield 54, 3) := by decide +kernel
theorem dX6_race_108 : decode cX6_race 108 = .ok (.aload_n 0, 1) := by decide +kernel
theorem dX6_race_109 : decode cX6_race 109 = .ok (.getfield 200, 3) := by decide +kernel
theorem dX6_race_112 : decode cX6_race 112 = .ok (.aload_n 0, 1) := by decide +kernel
theorem dX6_race_113 : decode cX6_race 113 = .ok (.getfield 22, 3) := by decide +kernel
theorem dX6_race_116 : decode cX6_race 116 = .ok (.iload_n 1, 1) := by decide +kernel
theorem dX6_race_117 : decode cX6_race 117 = .ok (.iaload, 1) := by decide +kernel
theorem dX6_race_118 : decode cX6_race 118 = .ok (.iastore, 1) := by decide +kernel
theorem dX6_race_119 : decode cX6_race 119 = .ok (.aload_n 0, 1) := by decide +kernel
theorem dX6_race_120 : decode cX6_race 120 = .ok (.getfield 57, 3) := by decide +kernel
theorem dX6_race_123 : decode cX6_race 123 = .ok (.aload_n 0, 1) := by decide +kernel
theorem dX6_race_124 : decode cX6_race 124 = .ok (.getfield 200, 3) := by decide +kernel
theorem dX6_race_127 : decode cX6_race 127 = .ok (.aload_n 0, 1) := by decide +kernel
theorem dX6_race_128 : decode cX6_race 128 = .ok (.getfield 25, 3) := by decide +kernel
theorem dX6_race_131 : decode cX6_race 131 = .ok (.iload_n 1, 1) := by decide +kernel
theorem dX6_race_132 : decode cX6_race 132 = .ok (.baload, 1) := by decide +kernel
theorem dX6_race_133 : decode cX6_race 133 = .ok (.bastore, 1) := by decide +kernel
theorem dX6_race_134 : decode cX6_race 134 = .ok (.aload_n 0, 1) := by decide +kernel
theorem dX6_race_135 : decode cX6_race 135 = .ok (.getfield 60, 3) := by decide +kernel
theorem dX6_race_138 : decode cX6_race 138 = .ok (.aload_n 0, 1) := by decide +kernel
theorem dX6_race_139 : decode cX6_race 139 = .ok (.getfield 200, 3) := by decide +kernel
theorem dX6_race_142 : decode cX6_race 142 = .ok (.aload_n 0, 1) := by decide +kernel
theorem dX6_race_143 : decode cX6_race 143 = .ok (.getfield 29, 3) := by decide +kernel
theorem dX6_race_146 : decode cX6_race 146 = .ok (.iload_n 1, 1) := by decide +kernel
theorem dX6_race_147 : decode cX6_race 147 = .ok (.iaload, 1) := by decide +kernel
theorem dX6_race_148 : decode cX6_race 148 = .ok (.iastore, 1) := by decide +kernel
theorem dX6_race_149 : decode cX6_race 149 = .ok (.aload_n 0, 1) := by decide +kernel
theorem dX6_race_150 : decode cX6_race 150 = .ok (.getfield 63, 3) := by decide +kernel
theorem dX6_race_153 : decode cX6_race 153 = .ok (.aload_n 0, 1) := by decide +kernel
theorem dX6_race_154 : decode cX6_race 154 = .ok (.getfield 200, 3) := by decide +kernel
theorem dX6_race_157 : decode cX6_race 157 = .ok (.aload_n 0, 1) := by decide +kernel
theorem dX6_race_158 : decode cX6_race 158 = .ok (.getfield 32, 3) := by decide +kernel
theorem dX6_race_161 : decode cX6_race 161 = .ok (.iload_n 1, 1) := by decide +kernel
theorem dX6_race_162 : decode cX6_race 162 = .ok (.iaload, 1) := by decide +kernel
theorem dX6_race_163 : decode cX6_race 163 = .ok (.iastore, 1) := by decide +kernel
theorem dX6_race_164 : decode cX6_race 164 = .ok (.aload_n 0, 1) := by decide +kernel
theorem dX6_race_165 : decode cX6_race 165 = .ok (.getfield 66, 3) := by decide +kernel
theorem dX6_race_168 : decode cX6_race 168 = .ok (.aload_n 0, 1) := by decide +kernel
theorem dX6_race_169 : decode cX6_race 169 = .ok (.getfield 200, 3) := by decide +kernel
theorem dX6_race_172 : decode cX6_race 172 = .ok (.aload_n 0, 1) := by decide +kernel
theorem dX6_race_173 : decode cX6_race 173 = .ok (.getfield 35, 3) := by decide +kernel
theorem dX6_race_176 : decode cX6_race 176 = .ok (.iload_n 1, 1) := by decide +kernel
theorem dX6_race_177 : decode cX6_race 177 = .ok (.iaload, 1) := by decide +kernel
theorem dX6_race_178 : decode cX6_race 178 = .ok (.iastore, 1) := by decide +kernel
theorem dX6_race_179 : decode cX6_race 179 = .ok (.aload_n 0, 1) := by decide +kernel
theorem dX6_race_180 : decode cX6_race 180 = .ok (.getfield 69, 3) := by decide +kernel
theorem dX6_race_183 : decode cX6_race 183 = .ok (.aload_n 0, 1) := by decide +kernel
theorem dX6_race_184 : decode cX6_race 184 = .ok (.getfield 200, 3) := by decide +kernel
theorem dX6_race_187 : decode cX6_race 187 = .ok (.iload_n 2, 1) := by decide +kernel
theorem dX6_race_188 : decode cX6_race 188 = .ok (.iastore, 1) := by decide +kernel
theorem dX6_race_189 : decode cX6_race 189 = .ok (.aload_n 0, 1) := by decide +kernel
theorem dX6_race_190 : decode cX6_race 190 = .ok (.dup, 1) := by decide +kernel
theorem dX6_race_191 : decode cX6_race 191 = .ok (.getfield 200, 3) := by decide +kernel
theorem dX6_race_194 : decode cX6_race 194 = .ok (.iconst 1, 1) := by decide +kernel
theorem dX6_race_195 : decode cX6_race 195 = .ok (.iadd, 1) := by decide +kernel
theorem dX6_race_196 : decode cX6_race 196 = .ok (.putfield 200, 3) := by decide +kernel
theorem dX6_race_199 : decode cX6_race 199 = .ok (.aload_n 0, 1) := by decide +kernel
theorem dX6_race_200 : decode cX6_race 200 = .ok (.getfield 200, 3) := by decide +kernel
theorem dX6_race_203 : decode cX6_race 203 = .ok (.iconst 1, 1) := by decide +kernel
theorem dX6_race_204 : decode cX6_race 204 = .ok (.isub, 1) := by decide +kernel
theorem dX6_race_205 : decode cX6_race 205 = .ok (.ireturn, 1) := by decide +kernel
theorem dX6_enter_0 : decode cX6_enter 0 = .ok (.aload_n 0, 1) := by decide +kernel
theorem dX6_enter_1 : decode cX6_enter 1 = .ok (.iconst 0, 1) := by decide +kernel
theorem dX6_enter_2 : decode cX6_enter 2 = .ok (.putfield 126, 3) := by decide +kernel
theorem dX6_enter_5 : decode cX6_enter 5 = .ok (.aload_n 0, 1) := by decide +kernel
theorem dX6_enter_6 : decode cX6_enter 6 = .ok (.iload_n 1, 1) := by decide +kernel
theorem dX6_enter_7 : decode cX6_enter 7 = .ok (.invokevirtual 203, 3) := by decide +kernel
theorem dX6_enter_10 : decode cX6_enter 10 = .ok (.ifCond .eq 34, 3) := by decide +kernel
theorem dX6_enter_13 : decode cX6_enter 13 = .ok (.aload_n 0, 1) := by decide +kernel
theorem dX6_enter_14 : decode cX6_enter 14 = .ok (.iload_n 2, 1) := by decide +kernel
theorem dX6_enter_15 : decode cX6_enter 15 = .ok (.invokevirtual 206, 3) := by decide +kernel
theorem dX6_enter_18 : decode cX6_enter 18 = .ok (.ifCond .eq 26, 3) := by decide +kernel
theorem dX6_enter_21 : decode cX6_enter 21 = .ok (.aload_n 0, 1) := by decide +kernel
theorem dX6_enter_22 : decode cX6_enter 22 = .ok (.getfield 81, 3) := by decide +kernel
theorem dX6_enter_25 : decode cX6_enter 25 = .ok (.bipush 16, 2) := by decide +kernel
theorem dX6_enter_27 : decode cX6_enter 27 = .ok (.iload_n 1, 1) := by decide +kernel
theorem dX6_enter_28 : decode cX6_enter 28 = .ok (.imul, 1) := by decide +kernel
theorem dX6_enter_29 : decode cX6_enter 29 = .ok (.iload_n 2, 1) := by decide +kernel
theorem dX6_enter_30 : decode cX6_enter 30 = .ok (.iadd, 1) := by decide +kernel
theorem dX6_enter_31 : decode cX6_enter 31 = .ok (.iaload, 1) := by decide +kernel
theorem dX6_enter_32 : decode cX6_enter 32 = .ok (.ifCond .ge 12, 3) := by decide +kernel
theorem dX6_enter_35 : decode cX6_enter 35 = .ok (.aload_n 0, 1) := by decide +kernel
theorem dX6_enter_36 : decode cX6_enter 36 = .ok (.getfield 75, 3) := by decide +kernel
theorem dX6_enter_39 : decode cX6_enter 39 = .ok (.iload_n 1, 1) := by decide +kernel
theorem dX6_enter_40 : decode cX6_enter 40 = .ok (.iaload, 1) := by decide +kernel
theorem dX6_enter_41 : decode cX6_enter 41 = .ok (.ifCond .le 5, 3) := by decide +kernel
theorem dX6_enter_44 : decode cX6_enter 44 = .ok (.iconst (-1), 1) := by decide +kernel
theorem dX6_enter_45 : decode cX6_enter 45 = .ok (.ireturn, 1) := by decide +kernel
theorem dX6_enter_46 : decode cX6_enter 46 = .ok (.aload_n 0, 1) := by decide +kernel
theorem dX6_enter_47 : decode cX6_enter 47 = .ok (.getfield 81, 3) := by decide +kernel
theorem dX6_enter_50 : decode cX6_enter 50 = .ok (.bipush 16, 2) := by decide +kernel
theorem dX6_enter_52 : decode cX6_enter 52 = .ok (.iload_n 1, 1) := by decide +kernel
theorem dX6_enter_53 : decode cX6_enter 53 = .ok (.imul, 1) := by decide +kernel
theorem dX6_enter_54 : decode cX6_enter 54 = .ok (.iload_n 2, 1) := by decide +kernel
theorem dX6_enter_55 : decode cX6_enter 55 = .ok (.iadd, 1) := by decide +kernel
theorem dX6_enter_56 : decode cX6_enter 56 = .ok (.aload_n 0, 1) := by decide +kernel
theorem dX6_enter_57 : decode cX6_enter 57 = .ok (.getfield 72, 3) := by decide +kernel
theorem dX6_enter_60 : decode cX6_enter 60 = .ok (.iload_n 1, 1) := by decide +kernel
theorem dX6_enter_61 : decode cX6_enter 61 = .ok (.iaload, 1) := by decide +kernel
theorem dX6_enter_62 : decode cX6_enter 62 = .ok (.iastore, 1) := by decide +kernel
theorem dX6_enter_63 : decode cX6_enter 63 = .ok (.aload_n 0, 1) := by decide +kernel
theorem dX6_enter_64 : decode cX6_enter 64 = .ok (.getfield 78, 3) := by decide +kernel
theorem dX6_enter_67 : decode cX6_enter 67 = .ok (.bipush 16, 2) := by decide +kernel
theorem dX6_enter_69 : decode cX6_enter 69 = .ok (.iload_n 1, 1) := by decide +kernel
theorem dX6_enter_70 : decode cX6_enter 70 = .ok (.imul, 1) := by decide +kernel
theorem dX6_enter_71 : decode cX6_enter 71 = .ok (.aload_n 0, 1) := by decide +kernel
theorem dX6_enter_72 : decode cX6_enter 72 = .ok (.getfield 72, 3) := by decide +kernel
theorem dX6_enter_75 : decode cX6_enter 75 = .ok (.iload_n 1, 1) := by decide +kernel
theorem dX6_enter_76 : decode cX6_enter 76 = .ok (.iaload, 1) := by decide +kernel
theorem dX6_enter_77 : decode cX6_enter 77 = .ok (.iadd, 1) := by decide +kernel
theorem dX6_enter_78 : decode cX6_enter 78 = .ok (.iload_n 2, 1) := by decide +kernel
theorem dX6_enter_79 : decode cX6_enter 79 = .ok (.iastore, 1) := by decide +kernel
theorem dX6_enter_80 : decode cX6_enter 80 = .ok (.aload_n 0, 1) := by decide +kernel
theorem dX6_enter_81 : decode cX6_enter 81 = .ok (.getfield 72, 3) := by decide +kernel
theorem dX6_enter_84 : decode cX6_enter 84 = .ok (.iload_n 1, 1) := by decide +kernel
theorem dX6_enter_85 : decode cX6_enter 85 = .ok (.dup2, 1) := by decide +kernel
theorem dX6_enter_86 : decode cX6_enter 86 = .ok (.iaload, 1) := by decide +kernel
theorem dX6_enter_87 : decode cX6_enter 87 = .ok (.iconst 1, 1) := by decide +kernel
theorem dX6_enter_88 : decode cX6_enter 88 = .ok (.iadd, 1) := by decide +kernel
theorem dX6_enter_89 : decode cX6_enter 89 = .ok (.iastore, 1) := by decide +kernel
theorem dX6_enter_90 : decode cX6_enter 90 = .ok (.aload_n 0, 1) := by decide +kernel
theorem dX6_enter_91 : decode cX6_enter 91 = .ok (.getfield 72, 3) := by decide +kernel
theorem dX6_enter_94 : decode cX6_enter 94 = .ok (.iload_n 1, 1) := by decide +kernel
end
section
theorem dX6_enter_95 : decode cX6_enter 95 = .ok (.iaload, 1) := by decide +kernel
theorem dX6_enter_96 : decode cX6_enter 96 = .ok (.ireturn, 1) := by decide +kernel
theorem dX6_isIn_0 : decode cX6_isIn 0 = .ok (.aload_n 0, 1) := by decide +kernel
theorem dX6_isIn_1 : decode cX6_isIn 1 = .ok (.iload_n 1, 1) := by decide +kernel
theorem dX6_isIn_2 : decode cX6_isIn 2 = .ok (.invokevirtual 203, 3) := by decide +kernel
theorem dX6_isIn_5 : decode cX6_isIn 5 = .ok (.ifCond .eq 29, 3) := by decide +kernel
theorem dX6_isIn_8 : decode cX6_isIn 8 = .ok (.aload_n 0, 1) := by decide +kernel
theorem dX6_isIn_9 : decode cX6_isIn 9 = .ok (.iload_n 2, 1) := by decide +kernel
theorem dX6_isIn_10 : decode cX6_isIn 10 = .ok (.invokevirtual 206, 3) := by decide +kernel
theorem dX6_isIn_13 : decode cX6_isIn 13 = .ok (.ifCond .eq 21, 3) := by decide +kernel
theorem dX6_isIn_16 : decode cX6_isIn 16 = .ok (.aload_n 0, 1) := by decide +kernel
theorem dX6_isIn_17 : decode cX6_isIn 17 = .ok (.getfield 81, 3) := by decide +kernel
theorem dX6_isIn_20 : decode cX6_isIn 20 = .ok (.bipush 16, 2) := by decide +kernel
theorem dX6_isIn_22 : decode cX6_isIn 22 = .ok (.iload_n 1, 1) := by decide +kernel
theorem dX6_isIn_23 : decode cX6_isIn 23 = .ok (.imul, 1) := by decide +kernel
theorem dX6_isIn_24 : decode cX6_isIn 24 = .ok (.iload_n 2, 1) := by decide +kernel
theorem dX6_isIn_25 : decode cX6_isIn 25 = .ok (.iadd, 1) := by decide +kernel
theorem dX6_isIn_26 : decode cX6_isIn 26 = .ok (.iaload, 1) := by decide +kernel
theorem dX6_isIn_27 : decode cX6_isIn 27 = .ok (.ifCond .lt 7, 3) := by decide +kernel
theorem dX6_isIn_30 : decode cX6_isIn 30 = .ok (.iconst 1, 1) := by decide +kernel
theorem dX6_isIn_31 : decode cX6_isIn 31 = .ok (.goto 4, 3) := by decide +kernel
theorem dX6_isIn_34 : decode cX6_isIn 34 = .ok (.iconst 0, 1) := by decide +kernel
theorem dX6_isIn_35 : decode cX6_isIn 35 = .ok (.ireturn, 1) := by decide +kernel
theorem dX6_can_0 : decode cX6_can 0 = .ok (.iload_n 2, 1) := by decide +kernel
theorem dX6_can_1 : decode cX6_can 1 = .ok (.tableswitch 153 0 3 #[31, 65, 98, 131], 31) := by decide +kernel
theorem dX6_can_32 : decode cX6_can 32 = .ok (.iload_n 3, 1) := by decide +kernel
theorem dX6_can_33 : decode cX6_can 33 = .ok (.iconst 1, 1) := by decide +kernel
theorem dX6_can_34 : decode cX6_can 34 = .ok (.if_icmp .lt 30, 3) := by decide +kernel
theorem dX6_can_37 : decode cX6_can 37 = .ok (.iload_n 3, 1) := by decide +kernel
theorem dX6_can_38 : decode cX6_can 38 = .ok (.aload_n 0, 1) := by decide +kernel
theorem dX6_can_39 : decode cX6_can 39 = .ok (.getfield 48, 3) := by decide +kernel
theorem dX6_can_42 : decode cX6_can 42 = .ok (.iload_n 1, 1) := by decide +kernel
theorem dX6_can_43 : decode cX6_can 43 = .ok (.iaload, 1) := by decide +kernel
theorem dX6_can_44 : decode cX6_can 44 = .ok (.if_icmp .gt 20, 3) := by decide +kernel
theorem dX6_can_47 : decode cX6_can 47 = .ok (.iload 4, 2) := by decide +kernel
theorem dX6_can_49 : decode cX6_can 49 = .ok (.iconst (-1), 1) := by decide +kernel
theorem dX6_can_50 : decode cX6_can 50 = .ok (.if_icmp .lt 14, 3) := by decide +kernel
theorem dX6_can_53 : decode cX6_can 53 = .ok (.iload 4, 2) := by decide +kernel
theorem dX6_can_55 : decode cX6_can 55 = .ok (.ldc 209, 2) := by decide +kernel
theorem dX6_can_57 : decode cX6_can 57 = .ok (.if_icmp .gt 7, 3) := by decide +kernel
theorem dX6_can_60 : decode cX6_can 60 = .ok (.iconst 1, 1) := by decide +kernel
theorem dX6_can_61 : decode cX6_can 61 = .ok (.goto 4, 3) := by decide +kernel
theorem dX6_can_64 : decode cX6_can 64 = .ok (.iconst 0, 1) := by decide +kernel
theorem dX6_can_65 : decode cX6_can 65 = .ok (.ireturn, 1) := by decide +kernel
theorem dX6_can_66 : decode cX6_can 66 = .ok (.iload_n 3, 1) := by decide +kernel
theorem dX6_can_67 : decode cX6_can 67 = .ok (.ifCond .lt 30, 3) := by decide +kernel
theorem dX6_can_70 : decode cX6_can 70 = .ok (.iload_n 3, 1) := by decide +kernel
theorem dX6_can_71 : decode cX6_can 71 = .ok (.aload_n 0, 1) := by decide +kernel
theorem dX6_can_72 : decode cX6_can 72 = .ok (.getfield 51, 3) := by decide +kernel
theorem dX6_can_75 : decode cX6_can 75 = .ok (.iload_n 1, 1) := by decide +kernel
theorem dX6_can_76 : decode cX6_can 76 = .ok (.iaload, 1) := by decide +kernel
theorem dX6_can_77 : decode cX6_can 77 = .ok (.if_icmp .ge 20, 3) := by decide +kernel
theorem dX6_can_80 : decode cX6_can 80 = .ok (.iload 4, 2) := by decide +kernel
theorem dX6_can_82 : decode cX6_can 82 = .ok (.iconst (-1), 1) := by decide +kernel
theorem dX6_can_83 : decode cX6_can 83 = .ok (.if_icmp .lt 14, 3) := by decide +kernel
theorem dX6_can_86 : decode cX6_can 86 = .ok (.iload 4, 2) := by decide +kernel
theorem dX6_can_88 : decode cX6_can 88 = .ok (.bipush 31, 2) := by decide +kernel
theorem dX6_can_90 : decode cX6_can 90 = .ok (.if_icmp .gt 7, 3) := by decide +kernel
theorem dX6_can_93 : decode cX6_can 93 = .ok (.iconst 1, 1) := by decide +kernel
theorem dX6_can_94 : decode cX6_can 94 = .ok (.goto 4, 3) := by decide +kernel
theorem dX6_can_97 : decode cX6_can 97 = .ok (.iconst 0, 1) := by decide +kernel
theorem dX6_can_98 : decode cX6_can 98 = .ok (.ireturn, 1) := by decide +kernel
theorem dX6_can_99 : decode cX6_can 99 = .ok (.iload_n 3, 1) := by decide +kernel
theorem dX6_can_100 : decode cX6_can 100 = .ok (.ifCond .lt 30, 3) := by decide +kernel
theorem dX6_can_103 : decode cX6_can 103 = .ok (.iload_n 3, 1) := by decide +kernel
theorem dX6_can_104 : decode cX6_can 104 = .ok (.aload_n 0, 1) := by decide +kernel
theorem dX6_can_105 : decode cX6_can 105 = .ok (.getfield 51, 3) := by decide +kernel
theorem dX6_can_108 : decode cX6_can 108 = .ok (.iload_n 1, 1) := by decide +kernel
theorem dX6_can_109 : decode cX6_can 109 = .ok (.iaload, 1) := by decide +kernel
theorem dX6_can_110 : decode cX6_can 110 = .ok (.if_icmp .ge 20, 3) := by decide +kernel
theorem dX6_can_113 : decode cX6_can 113 = .ok (.iload 4, 2) := by decide +kernel
theorem dX6_can_115 : decode cX6_can 115 = .ok (.iconst (-1), 1) := by decide +kernel
theorem dX6_can_116 : decode cX6_can 116 = .ok (.if_icmp .lt 14, 3) := by decide +kernel
theorem dX6_can_119 : decode cX6_can 119 = .ok (.iload 4, 2) := by decide +kernel
theorem dX6_can_121 : decode cX6_can 121 = .ok (.bipush 9, 2) := by decide +kernel
theorem dX6_can_123 : decode cX6_can 123 = .ok (.if_icmp .gt 7, 3) := by decide +kernel
theorem dX6_can_126 : decode cX6_can 126 = .ok (.iconst 1, 1) := by decide +kernel
theorem dX6_can_127 : decode cX6_can 127 = .ok (.goto 4, 3) := by decide +kernel
theorem dX6_can_130 : decode cX6_can 130 = .ok (.iconst 0, 1) := by decide +kernel
theorem dX6_can_131 : decode cX6_can 131 = .ok (.ireturn, 1) := by decide +kernel
theorem dX6_can_132 : decode cX6_can 132 = .ok (.iload_n 3, 1) := by decide +kernel
theorem dX6_can_133 : decode cX6_can 133 = .ok (.ifCond .ne 19, 3) := by decide +kernel
theorem dX6_can_136 : decode cX6_can 136 = .ok (.iload 4, 2) := by decide +kernel
theorem dX6_can_138 : decode cX6_can 138 = .ok (.iconst (-1), 1) := by decide +kernel
theorem dX6_can_139 : decode cX6_can 139 = .ok (.if_icmp .lt 13, 3) := by decide +kernel
theorem dX6_can_142 : decode cX6_can 142 = .ok (.iload 4, 2) := by decide +kernel
theorem dX6_can_144 : decode cX6_can 144 = .ok (.iconst 1, 1) := by decide +kernel
theorem dX6_can_145 : decode cX6_can 145 = .ok (.if_icmp .gt 7, 3) := by decide +kernel
theorem dX6_can_148 : decode cX6_can 148 = .ok (.iconst 1, 1) := by decide +kernel
theorem dX6_can_149 : decode cX6_can 149 = .ok (.goto 4, 3) := by decide +kernel
theorem dX6_can_152 : decode cX6_can 152 = .ok (.iconst 0, 1) := by decide +kernel
theorem dX6_can_153 : decode cX6_can 153 = .ok (.ireturn, 1) := by decide +kernel
theorem dX6_can_154 : decode cX6_can 154 = .ok (.iconst 0, 1) := by decide +kernel
theorem dX6_can_155 : decode cX6_can 155 = .ok (.ireturn, 1) := by decide +kernel
theorem dX6_tell_0 : decode cX6_tell 0 = .ok (.aload_n 0, 1) := by decide +kernel
theorem dX6_tell_1 : decode cX6_tell 1 = .ok (.iconst 0, 1) := by decide +kernel
theorem dX6_tell_2 : decode cX6_tell 2 = .ok (.putfield 126, 3) := by decide +kernel
theorem dX6_tell_5 : decode cX6_tell 5 = .ok (.aload_n 0, 1) := by decide +kernel
theorem dX6_tell_6 : decode cX6_tell 6 = .ok (.iload_n 1, 1) := by decide +kernel
theorem dX6_tell_7 : decode cX6_tell 7 = .ok (.iload_n 2, 1) := by decide +kernel
theorem dX6_tell_8 : decode cX6_tell 8 = .ok (.invokevirtual 210, 3) := by decide +kernel
theorem dX6_tell_11 : decode cX6_tell 11 = .ok (.ifCond .eq 26, 3) := by decide +kernel
theorem dX6_tell_14 : decode cX6_tell 14 = .ok (.aload_n 0, 1) := by decide +kernel
theorem dX6_tell_15 : decode cX6_tell 15 = .ok (.iload_n 1, 1) := by decide +kernel
theorem dX6_tell_16 : decode cX6_tell 16 = .ok (.iload_n 3, 1) := by decide +kernel
theorem dX6_tell_17 : decode cX6_tell 17 = .ok (.iload 4, 2) := by decide +kernel
theorem dX6_tell_19 : decode cX6_tell 19 = .ok (.iload 5, 2) := by decide +kernel
theorem dX6_tell_21 : decode cX6_tell 21 = .ok (.invokevirtual 213, 3) := by decide +kernel
theorem dX6_tell_24 : decode cX6_tell 24 = .ok (.ifCond .eq 13, 3) := by decide +kernel
theorem dX6_tell_27 : decode cX6_tell 27 = .ok (.aload_n 0, 1) := by decide +kernel
theorem dX6_tell_28 : decode cX6_tell 28 = .ok (.getfield 217, 3) := by decide +kernel
theorem dX6_tell_31 : decode cX6_tell 31 = .ok (.sipush 400, 3) := by decide +kernel
theorem dX6_tell_34 : decode cX6_tell 34 = .ok (.if_icmp .ne 5, 3) := by decide +kernel
theorem dX6_tell_37 : decode cX6_tell 37 = .ok (.iconst (-1), 1) := by decide +kernel
theorem dX6_tell_38 : decode cX6_tell 38 = .ok (.ireturn, 1) := by decide +kernel
theorem dX6_tell_39 : decode cX6_tell 39 = .ok (.aload_n 0, 1) := by decide +kernel
theorem dX6_tell_40 : decode cX6_tell 40 = .ok (.getfield 84, 3) := by decide +kernel
theorem dX6_tell_43 : decode cX6_tell 43 = .ok (.aload_n 0, 1) := by decide +kernel
theorem dX6_tell_44 : decode cX6_tell 44 = .ok (.getfield 217, 3) := by decide +kernel
theorem dX6_tell_47 : decode cX6_tell 47 = .ok (.iload_n 1, 1) := by decide +kernel
theorem dX6_tell_48 : decode cX6_tell 48 = .ok (.iastore, 1) := by decide +kernel
theorem dX6_tell_49 : decode cX6_tell 49 = .ok (.aload_n 0, 1) := by decide +kernel
theorem dX6_tell_50 : decode cX6_tell 50 = .ok (.getfield 87, 3) := by decide +kernel
theorem dX6_tell_53 : decode cX6_tell 53 = .ok (.aload_n 0, 1) := by decide +kernel
theorem dX6_tell_54 : decode cX6_tell 54 = .ok (.getfield 217, 3) := by decide +kernel
theorem dX6_tell_57 : decode cX6_tell 57 = .ok (.iload_n 2, 1) := by decide +kernel
theorem dX6_tell_58 : decode cX6_tell 58 = .ok (.iastore, 1) := by decide +kernel
theorem dX6_tell_59 : decode cX6_tell 59 = .ok (.aload_n 0, 1) := by decide +kernel
theorem dX6_tell_60 : decode cX6_tell 60 = .ok (.getfield 90, 3) := by decide +kernel
theorem dX6_tell_63 : decode cX6_tell 63 = .ok (.aload_n 0, 1) := by decide +kernel
theorem dX6_tell_64 : decode cX6_tell 64 = .ok (.getfield 217, 3) := by decide +kernel
theorem dX6_tell_67 : decode cX6_tell 67 = .ok (.iload_n 3, 1) := by decide +kernel
theorem dX6_tell_68 : decode cX6_tell 68 = .ok (.iastore, 1) := by decide +kernel
theorem dX6_tell_69 : decode cX6_tell 69 = .ok (.aload_n 0, 1) := by decide +kernel
theorem dX6_tell_70 : decode cX6_tell 70 = .ok (.getfield 93, 3) := by decide +kernel
theorem dX6_tell_73 : decode cX6_tell 73 = .ok (.aload_n 0, 1) := by decide +kernel
theorem dX6_tell_74 : decode cX6_tell 74 = .ok (.getfield 217, 3) := by decide +kernel
theorem dX6_tell_77 : decode cX6_tell 77 = .ok (.iload 4, 2) := by decide +kernel
theorem dX6_tell_79 : decode cX6_tell 79 = .ok (.iastore, 1) := by decide +kernel
theorem dX6_tell_80 : decode cX6_tell 80 = .ok (.aload_n 0, 1) := by decide +kernel
theorem dX6_tell_81 : decode cX6_tell 81 = .ok (.getfield 96, 3) := by decide +kernel
theorem dX6_tell_84 : decode cX6_tell 84 = .ok (.aload_n 0, 1) := by decide +kernel
theorem dX6_tell_85 : decode cX6_tell 85 = .ok (.getfield 217, 3) := by decide +kernel
theorem dX6_tell_88 : decode cX6_tell 88 = .ok (.iload 5, 2) := by decide +kernel
theorem dX6_tell_90 : decode cX6_tell 90 = .ok (.iastore, 1) := by decide +kernel
theorem dX6_tell_91 : decode cX6_tell 91 = .ok (.aload_n 0, 1) := by decide +kernel
theorem dX6_tell_92 : decode cX6_tell 92 = .ok (.getfield 99, 3) := by decide +kernel
theorem dX6_tell_95 : decode cX6_tell 95 = .ok (.aload_n 0, 1) := by decide +kernel
theorem dX6_tell_96 : decode cX6_tell 96 = .ok (.getfield 217, 3) := by decide +kernel
theorem dX6_tell_99 : decode cX6_tell 99 = .ok (.aload_n 0, 1) := by decide +kernel
theorem dX6_tell_100 : decode cX6_tell 100 = .ok (.getfield 194, 3) := by decide +kernel
theorem dX6_tell_103 : decode cX6_tell 103 = .ok (.iastore, 1) := by decide +kernel
theorem dX6_tell_104 : decode cX6_tell 104 = .ok (.aload_n 0, 1) := by decide +kernel
theorem dX6_tell_105 : decode cX6_tell 105 = .ok (.dup, 1) := by decide +kernel
theorem dX6_tell_106 : decode cX6_tell 106 = .ok (.getfield 217, 3) := by decide +kernel
theorem dX6_tell_109 : decode cX6_tell 109 = .ok (.iconst 1, 1) := by decide +kernel
theorem dX6_tell_110 : decode cX6_tell 110 = .ok (.iadd, 1) := by decide +kernel
theorem dX6_tell_111 : decode cX6_tell 111 = .ok (.putfield 217, 3) := by decide +kernel
theorem dX6_tell_114 : decode cX6_tell 114 = .ok (.aload_n 0, 1) := by decide +kernel
theorem dX6_tell_115 : decode cX6_tell 115 = .ok (.getfield 75, 3) := by decide +kernel
theorem dX6_tell_118 : decode cX6_tell 118 = .ok (.iload_n 1, 1) := by decide +kernel
theorem dX6_tell_119 : decode cX6_tell 119 = .ok (.dup2, 1) := by decide +kernel
theorem dX6_tell_120 : decode cX6_tell 120 = .ok (.iaload, 1) := by decide +kernel
theorem dX6_tell_121 : decode cX6_tell 121 = .ok (.iconst 1, 1) := by decide +kernel
theorem dX6_tell_122 : decode cX6_tell 122 = .ok (.iadd, 1) := by decide +kernel
theorem dX6_tell_123 : decode cX6_tell 123 = .ok (.iastore, 1) := by decide +kernel
theorem dX6_tell_124 : decode cX6_tell 124 = .ok (.aload_n 0, 1) := by decide +kernel
theorem dX6_tell_125 : decode cX6_tell 125 = .ok (.getfield 217, 3) := by decide +kernel
theorem dX6_tell_128 : decode cX6_tell 128 = .ok (.ireturn, 1) := by decide +kernel
theorem dX6_fails_0 : decode cX6_fails 0 = .ok (.aload_n 0, 1) := by decide +kernel
theorem dX6_fails_1 : decode cX6_fails 1 = .ok (.iload_n 1, 1) := by decide +kernel
theorem dX6_fails_2 : decode cX6_fails 2 = .ok (.putfield 126, 3) := by decide +kernel
theorem dX6_fails_5 : decode cX6_fails 5 = .ok (.iconst 0, 1) := by decide +kernel
theorem dX6_fails_6 : decode cX6_fails 6 = .ok (.ireturn, 1) := by decide +kernel
theorem dX6_look_0 : decode cX6_look 0 = .ok (.aload_n 0, 1) := by decide +kernel
theorem dX6_look_1 : decode cX6_look 1 = .ok (.iconst 0, 1) := by decide +kernel
theorem dX6_look_2 : decode cX6_look 2 = .ok (.putfield 126, 3) := by decide +kernel
theorem dX6_look_5 : decode cX6_look 5 = .ok (.aload_n 0, 1) := by decide +kernel
theorem dX6_look_6 : decode cX6_look 6 = .ok (.iload_n 1, 1) := by decide +kernel
theorem dX6_look_7 : decode cX6_look 7 = .ok (.invokevirtual 203, 3) := by decide +kernel
theorem dX6_look_10 : decode cX6_look 10 = .ok (.ifCond .ne 9, 3) := by decide +kernel
theorem dX6_look_13 : decode cX6_look 13 = .ok (.aload_n 0, 1) := by decide +kernel
theorem dX6_look_14 : decode cX6_look 14 = .ok (.iconst 1, 1) := by decide +kernel
theorem dX6_look_15 : decode cX6_look 15 = .ok (.invokevirtual 220, 3) := by decide +kernel
theorem dX6_look_18 : decode cX6_look 18 = .ok (.ireturn, 1) := by decide +kernel
theorem dX6_look_19 : decode cX6_look 19 = .ok (.iload_n 2, 1) := by decide +kernel
theorem dX6_look_20 : decode cX6_look 20 = .ok (.tableswitch 93 0 6 #[44, 51, 58, 65, 72, 79, 86], 44) := by decide +kernel
theorem dX6_look_64 : decode cX6_look 64 = .ok (.aload_n 0, 1) := by decide +kernel
theorem dX6_look_65 : decode cX6_look 65 = .ok (.getfield 45, 3) := by decide +kernel
theorem dX6_look_68 : decode cX6_look 68 = .ok (.iload_n 1, 1) := by decide +kernel
theorem dX6_look_69 : decode cX6_look 69 = .ok (.iaload, 1) := by decide +kernel
theorem dX6_look_70 : decode cX6_look 70 = .ok (.ireturn, 1) := by decide +kernel
theorem dX6_look_71 : decode cX6_look 71 = .ok (.aload_n 0, 1) := by decide +kernel
theorem dX6_look_72 : decode cX6_look 72 = .ok (.getfield 48, 3) := by decide +kernel
theorem dX6_look_75 : decode cX6_look 75 = .ok (.iload_n 1, 1) := by decide +kernel
theorem dX6_look_76 : decode cX6_look 76 = .ok (.iaload, 1) := by decide +kernel
theorem dX6_look_77 : decode cX6_look 77 = .ok (.ireturn, 1) := by decide +kernel
theorem dX6_look_78 : decode cX6_look 78 = .ok (.aload_n 0, 1) := by decide +kernel
theorem dX6_look_79 : decode cX6_look 79 = .ok (.getfield 51, 3) := by decide +kernel
theorem dX6_look_82 : decode cX6_look 82 = .ok (.iload_n 1, 1) := by decide +kernel
theorem dX6_look_83 : decode cX6_look 83 = .ok (.iaload, 1) := by decide +kernel
theorem dX6_look_84 : decode cX6_look 84 = .ok (.ireturn, 1) := by decide +kernel
theorem dX6_look_85 : decode cX6_look 85 = .ok (.aload_n 0, 1) := by decide +kernel
theorem dX6_look_86 : decode cX6_look 86 = .ok (.getfield 54, 3) := by decide +kernel
theorem dX6_look_89 : decode cX6_look 89 = .ok (.iload_n 1, 1) := by decide +kernel
theorem dX6_look_90 : decode cX6_look 90 = .ok (.iaload, 1) := by decide +kernel
theorem dX6_look_91 : decode cX6_look 91 = .ok (.ireturn, 1) := by decide +kernel
theorem dX6_look_92 : decode cX6_look 92 = .ok (.aload_n 0, 1) := by decide +kernel
theorem dX6_look_93 : decode cX6_look 93 = .ok (.getfield 69, 3) := by decide +kernel
theorem dX6_look_96 : decode cX6_look 96 = .ok (.iload_n 1, 1) := by decide +kernel
theorem dX6_look_97 : decode cX6_look 97 = .ok (.iaload, 1) := by decide +kernel
theorem dX6_look_98 : decode cX6_look 98 = .ok (.ireturn, 1) := by decide +kernel
theorem dX6_look_99 : decode cX6_look 99 = .ok (.aload_n 0, 1) := by decide +kernel
theorem dX6_look_100 : decode cX6_look 100 = .ok (.getfield 72, 3) := by decide +kernel
theorem dX6_look_103 : decode cX6_look 103 = .ok (.iload_n 1, 1) := by decide +kernel
theorem dX6_look_104 : decode cX6_look 104 = .ok (.iaload, 1) := by decide +kernel
theorem dX6_look_105 : decode cX6_look 105 = .ok (.ireturn, 1) := by decide +kernel
theorem dX6_look_106 : decode cX6_look 106 = .ok (.aload_n 0, 1) := by decide +kernel
theorem dX6_look_107 : decode cX6_look 107 = .ok (.getfield 75, 3) := by decide +kernel
theorem dX6_look_110 : decode cX6_look 110 = .ok (.iload_n 1, 1) := by decide +kernel
theorem dX6_look_111 : decode cX6_look 111 = .ok (.iaload, 1) := by decide +kernel
theorem dX6_look_112 : decode cX6_look 112 = .ok (.ireturn, 1) := by decide +kernel
theorem dX6_look_113 : decode cX6_look 113 = .ok (.aload_n 0, 1) := by decide +kernel
theorem dX6_look_114 : decode cX6_look 114 = .ok (.iconst 2, 1) := by decide +kernel
theorem dX6_look_115 : decode cX6_look 115 = .ok (.invokevirtual 220, 3) := by decide +kernel
theorem dX6_look_118 : decode cX6_look 118 = .ok (.ireturn, 1) := by decide +kernel
theorem dX6_entry_0 : decode cX6_entry 0 = .ok (.aload_n 0, 1) := by decide +kernel
theorem dX6_entry_1 : decode cX6_entry 1 = .ok (.iconst 0, 1) := by decide +kernel
theorem dX6_entry_2 : decode cX6_entry 2 = .ok (.putfield 126, 3) := by decide +kernel
theorem dX6_entry_5 : decode cX6_entry 5 = .ok (.aload_n 0, 1) := by decide +kernel
theorem dX6_entry_6 : decode cX6_entry 6 = .ok (.iload_n 1, 1) := by decide +kernel
theorem dX6_entry_7 : decode cX6_entry 7 = .ok (.invokevirtual 203, 3) := by decide +kernel
theorem dX6_entry_10 : decode cX6_entry 10 = .ok (.ifCond .eq 17, 3) := by decide +kernel
theorem dX6_entry_13 : decode cX6_entry 13 = .ok (.iload_n 2, 1) := by decide +kernel
theorem dX6_entry_14 : decode cX6_entry 14 = .ok (.ifCond .lt 13, 3) := by decide +kernel
theorem dX6_entry_17 : decode cX6_entry 17 = .ok (.iload_n 2, 1) := by decide +kernel
theorem dX6_entry_18 : decode cX6_entry 18 = .ok (.aload_n 0, 1) := by decide +kernel
theorem dX6_entry_19 : decode cX6_entry 19 = .ok (.getfield 72, 3) := by decide +kernel
theorem dX6_entry_22 : decode cX6_entry 22 = .ok (.iload_n 1, 1) := by decide +kernel
theorem dX6_entry_23 : decode cX6_entry 23 = .ok (.iaload, 1) := by decide +kernel
theorem dX6_entry_24 : decode cX6_entry 24 = .ok (.if_icmp .lt 7, 3) := by decide +kernel
theorem dX6_entry_27 : decode cX6_entry 27 = .ok (.iconst (-1), 1) := by decide +kernel
theorem dX6_entry_28 : decode cX6_entry 28 = .ok (.goto 14, 3) := by decide +kernel
theorem dX6_entry_31 : decode cX6_entry 31 = .ok (.aload_n 0, 1) := by decide +kernel
theorem dX6_entry_32 : decode cX6_entry 32 = .ok (.getfield 78, 3) := by decide +kernel
theorem dX6_entry_35 : decode cX6_entry 35 = .ok (.bipush 16, 2) := by decide +kernel
theorem dX6_entry_37 : decode cX6_entry 37 = .ok (.iload_n 1, 1) := by decide +kernel
theorem dX6_entry_38 : decode cX6_entry 38 = .ok (.imul, 1) := by decide +kernel
theorem dX6_entry_39 : decode cX6_entry 39 = .ok (.iload_n 2, 1) := by decide +kernel
theorem dX6_entry_40 : decode cX6_entry 40 = .ok (.iadd, 1) := by decide +kernel
theorem dX6_entry_41 : decode cX6_entry 41 = .ok (.iaload, 1) := by decide +kernel
theorem dX6_entry_42 : decode cX6_entry 42 = .ok (.ireturn, 1) := by decide +kernel
theorem dX6_known_0 : decode cX6_known 0 = .ok (.aload_n 0, 1) := by decide +kernel
theorem dX6_known_1 : decode cX6_known 1 = .ok (.getfield 217, 3) := by decide +kernel
theorem dX6_known_4 : decode cX6_known 4 = .ok (.iconst 1, 1) := by decide +kernel
theorem dX6_known_5 : decode cX6_known 5 = .ok (.isub, 1) := by decide +kernel
theorem dX6_known_6 : decode cX6_known 6 = .ok (.istore 6, 2) := by decide +kernel
theorem dX6_known_8 : decode cX6_known 8 = .ok (.iload 6, 2) := by decide +kernel
theorem dX6_known_10 : decode cX6_known 10 = .ok (.ifCond .lt 74, 3) := by decide +kernel
theorem dX6_known_13 : decode cX6_known 13 = .ok (.aload_n 0, 1) := by decide +kernel
theorem dX6_known_14 : decode cX6_known 14 = .ok (.getfield 99, 3) := by decide +kernel
theorem dX6_known_17 : decode cX6_known 17 = .ok (.iload 6, 2) := by decide +kernel
theorem dX6_known_19 : decode cX6_known 19 = .ok (.iaload, 1) := by decide +kernel
theorem dX6_known_20 : decode cX6_known 20 = .ok (.iload 5, 2) := by decide +kernel
theorem dX6_known_22 : decode cX6_known 22 = .ok (.if_icmp .gt 56, 3) := by decide +kernel
theorem dX6_known_25 : decode cX6_known 25 = .ok (.aload_n 0, 1) := by decide +kernel
theorem dX6_known_26 : decode cX6_known 26 = .ok (.getfield 84, 3) := by decide +kernel
theorem dX6_known_29 : decode cX6_known 29 = .ok (.iload 6, 2) := by decide +kernel
theorem dX6_known_31 : decode cX6_known 31 = .ok (.iaload, 1) := by decide +kernel
theorem dX6_known_32 : decode cX6_known 32 = .ok (.iload_n 1, 1) := by decide +kernel
theorem dX6_known_33 : decode cX6_known 33 = .ok (.if_icmp .ne 45, 3) := by decide +kernel
theorem dX6_known_36 : decode cX6_known 36 = .ok (.aload_n 0, 1) := by decide +kernel
theorem dX6_known_37 : decode cX6_known 37 = .ok (.getfield 87, 3) := by decide +kernel
theorem dX6_known_40 : decode cX6_known 40 = .ok (.iload 6, 2) := by decide +kernel
theorem dX6_known_42 : decode cX6_known 42 = .ok (.iaload, 1) := by decide +kernel
theorem dX6_known_43 : decode cX6_known 43 = .ok (.iload_n 2, 1) := by decide +kernel
theorem dX6_known_44 : decode cX6_known 44 = .ok (.if_icmp .ne 34, 3) := by decide +kernel
theorem dX6_known_47 : decode cX6_known 47 = .ok (.aload_n 0, 1) := by decide +kernel
theorem dX6_known_48 : decode cX6_known 48 = .ok (.getfield 90, 3) := by decide +kernel
theorem dX6_known_51 : decode cX6_known 51 = .ok (.iload 6, 2) := by decide +kernel
theorem dX6_known_53 : decode cX6_known 53 = .ok (.iaload, 1) := by decide +kernel
theorem dX6_known_54 : decode cX6_known 54 = .ok (.iload_n 3, 1) := by decide +kernel
theorem dX6_known_55 : decode cX6_known 55 = .ok (.if_icmp .ne 23, 3) := by decide +kernel
theorem dX6_known_58 : decode cX6_known 58 = .ok (.aload_n 0, 1) := by decide +kernel
theorem dX6_known_59 : decode cX6_known 59 = .ok (.getfield 93, 3) := by decide +kernel
theorem dX6_known_62 : decode cX6_known 62 = .ok (.iload 6, 2) := by decide +kernel
theorem dX6_known_64 : decode cX6_known 64 = .ok (.iaload, 1) := by decide +kernel
theorem dX6_known_65 : decode cX6_known 65 = .ok (.iload 4, 2) := by decide +kernel
theorem dX6_known_67 : decode cX6_known 67 = .ok (.if_icmp .ne 11, 3) := by decide +kernel
theorem dX6_known_70 : decode cX6_known 70 = .ok (.aload_n 0, 1) := by decide +kernel
theorem dX6_known_71 : decode cX6_known 71 = .ok (.getfield 96, 3) := by decide +kernel
theorem dX6_known_74 : decode cX6_known 74 = .ok (.iload 6, 2) := by decide +kernel
theorem dX6_known_76 : decode cX6_known 76 = .ok (.iaload, 1) := by decide +kernel
theorem dX6_known_77 : decode cX6_known 77 = .ok (.ireturn, 1) := by decide +kernel
theorem dX6_known_78 : decode cX6_known 78 = .ok (.iinc 6 (-1), 3) := by decide +kernel
theorem dX6_known_81 : decode cX6_known 81 = .ok (.goto (-73), 3) := by decide +kernel
theorem dX6_known_84 : decode cX6_known 84 = .ok (.iconst (-1), 1) := by decide +kernel
theorem dX6_known_85 : decode cX6_known 85 = .ok (.ireturn, 1) := by decide +kernel
theorem dX6_hits_0 : decode cX6_hits 0 = .ok (.iconst 0, 1) := by decide +kernel
theorem dX6_hits_1 : decode cX6_hits 1 = .ok (.istore_n 1, 1) := by decide +kernel
theorem dX6_hits_2 : decode cX6_hits 2 = .ok (.iconst 0, 1) := by decide +kernel
theorem dX6_hits_3 : decode cX6_hits 3 = .ok (.istore_n 2, 1) := by decide +kernel
theorem dX6_hits_4 : decode cX6_hits 4 = .ok (.iload_n 2, 1) := by decide +kernel
theorem dX6_hits_5 : decode cX6_hits 5 = .ok (.iconst 5, 1) := by decide +kernel
theorem dX6_hits_6 : decode cX6_hits 6 = .ok (.if_icmp .ge 17, 3) := by decide +kernel
theorem dX6_hits_9 : decode cX6_hits 9 = .ok (.iload_n 1, 1) := by decide +kernel
theorem dX6_hits_10 : decode cX6_hits 10 = .ok (.iload_n 0, 1) := by decide +kernel
theorem dX6_hits_11 : decode cX6_hits 11 = .ok (.iload_n 2, 1) := by decide +kernel
theorem dX6_hits_12 : decode cX6_hits 12 = .ok (.ishr, 1) := by decide +kernel
theorem dX6_hits_13 : decode cX6_hits 13 = .ok (.iconst 1, 1) := by decide +kernel
theorem dX6_hits_14 : decode cX6_hits 14 = .ok (.iand, 1) := by decide +kernel
theorem dX6_hits_15 : decode cX6_hits 15 = .ok (.iadd, 1) := by decide +kernel
theorem dX6_hits_16 : decode cX6_hits 16 = .ok (.istore_n 1, 1) := by decide +kernel
theorem dX6_hits_17 : decode cX6_hits 17 = .ok (.iinc 2 1, 3) := by decide +kernel
theorem dX6_hits_20 : decode cX6_hits 20 = .ok (.goto (-16), 3) := by decide +kernel
theorem dX6_hits_23 : decode cX6_hits 23 = .ok (.iload_n 1, 1) := by decide +kernel
theorem dX6_hits_24 : decode cX6_hits 24 = .ok (.ireturn, 1) := by decide +kernel
theorem dX6_least_0 : decode cX6_least 0 = .ok (.iconst (-1), 1) := by decide +kernel
theorem dX6_least_1 : decode cX6_least 1 = .ok (.istore_n 2, 1) := by decide +kernel
theorem dX6_least_2 : decode cX6_least 2 = .ok (.iconst 0, 1) := by decide +kernel
theorem dX6_least_3 : decode cX6_least 3 = .ok (.istore_n 3, 1) := by decide +kernel
theorem dX6_least_4 : decode cX6_least 4 = .ok (.iload_n 3, 1) := by decide +kernel
theorem dX6_least_5 : decode cX6_least 5 = .ok (.aload_n 0, 1) := by decide +kernel
theorem dX6_least_6 : decode cX6_least 6 = .ok (.getfield 197, 3) := by decide +kernel
theorem dX6_least_9 : decode cX6_least 9 = .ok (.if_icmp .ge 68, 3) := by decide +kernel
theorem dX6_least_12 : decode cX6_least 12 = .ok (.aload_n 0, 1) := by decide +kernel
theorem dX6_least_13 : decode cX6_least 13 = .ok (.getfield 81, 3) := by decide +kernel
theorem dX6_least_16 : decode cX6_least 16 = .ok (.bipush 16, 2) := by decide +kernel
theorem dX6_least_18 : decode cX6_least 18 = .ok (.iload_n 1, 1) := by decide +kernel
theorem dX6_least_19 : decode cX6_least 19 = .ok (.imul, 1) := by decide +kernel
theorem dX6_least_20 : decode cX6_least 20 = .ok (.iload_n 3, 1) := by decide +kernel
theorem dX6_least_21 : decode cX6_least 21 = .ok (.iadd, 1) := by decide +kernel
theorem dX6_least_22 : decode cX6_least 22 = .ok (.iaload, 1) := by decide +kernel
theorem dX6_least_23 : decode cX6_least 23 = .ok (.ifCond .lt 48, 3) := by decide +kernel
theorem dX6_least_26 : decode cX6_least 26 = .ok (.aload_n 0, 1) := by decide +kernel
theorem dX6_least_27 : decode cX6_least 27 = .ok (.getfield 108, 3) := by decide +kernel
theorem dX6_least_30 : decode cX6_least 30 = .ok (.bipush 16, 2) := by decide +kernel
theorem dX6_least_32 : decode cX6_least 32 = .ok (.iload_n 1, 1) := by decide +kernel
theorem dX6_least_33 : decode cX6_least 33 = .ok (.imul, 1) := by decide +kernel
theorem dX6_least_34 : decode cX6_least 34 = .ok (.iload_n 3, 1) := by decide +kernel
theorem dX6_least_35 : decode cX6_least 35 = .ok (.iadd, 1) := by decide +kernel
theorem dX6_least_36 : decode cX6_least 36 = .ok (.iaload, 1) := by decide +kernel
theorem dX6_least_37 : decode cX6_least 37 = .ok (.ifCond .lt 34, 3) := by decide +kernel
theorem dX6_least_40 : decode cX6_least 40 = .ok (.iload_n 2, 1) := by decide +kernel
theorem dX6_least_41 : decode cX6_least 41 = .ok (.ifCond .lt 18, 3) := by decide +kernel
theorem dX6_least_44 : decode cX6_least 44 = .ok (.aload_n 0, 1) := by decide +kernel
theorem dX6_least_45 : decode cX6_least 45 = .ok (.getfield 108, 3) := by decide +kernel
theorem dX6_least_48 : decode cX6_least 48 = .ok (.bipush 16, 2) := by decide +kernel
theorem dX6_least_50 : decode cX6_least 50 = .ok (.iload_n 1, 1) := by decide +kernel
theorem dX6_least_51 : decode cX6_least 51 = .ok (.imul, 1) := by decide +kernel
theorem dX6_least_52 : decode cX6_least 52 = .ok (.iload_n 3, 1) := by decide +kernel
theorem dX6_least_53 : decode cX6_least 53 = .ok (.iadd, 1) := by decide +kernel
theorem dX6_least_54 : decode cX6_least 54 = .ok (.iaload, 1) := by decide +kernel
theorem dX6_least_55 : decode cX6_least 55 = .ok (.iload_n 2, 1) := by decide +kernel
theorem dX6_least_56 : decode cX6_least 56 = .ok (.if_icmp .ge 15, 3) := by decide +kernel
theorem dX6_least_59 : decode cX6_least 59 = .ok (.aload_n 0, 1) := by decide +kernel
theorem dX6_least_60 : decode cX6_least 60 = .ok (.getfield 108, 3) := by decide +kernel
theorem dX6_least_63 : decode cX6_least 63 = .ok (.bipush 16, 2) := by decide +kernel
theorem dX6_least_65 : decode cX6_least 65 = .ok (.iload_n 1, 1) := by decide +kernel
theorem dX6_least_66 : decode cX6_least 66 = .ok (.imul, 1) := by decide +kernel
theorem dX6_least_67 : decode cX6_least 67 = .ok (.iload_n 3, 1) := by decide +kernel
theorem dX6_least_68 : decode cX6_least 68 = .ok (.iadd, 1) := by decide +kernel
theorem dX6_least_69 : decode cX6_least 69 = .ok (.iaload, 1) := by decide +kernel
theorem dX6_least_70 : decode cX6_least 70 = .ok (.istore_n 2, 1) := by decide +kernel
theorem dX6_least_71 : decode cX6_least 71 = .ok (.iinc 3 1, 3) := by decide +kernel
theorem dX6_least_74 : decode cX6_least 74 = .ok (.goto (-70), 3) := by decide +kernel
theorem dX6_least_77 : decode cX6_least 77 = .ok (.iload_n 2, 1) := by decide +kernel
theorem dX6_least_78 : decode cX6_least 78 = .ok (.ireturn, 1) := by decide +kernel
theorem dX6_startOf_0 : decode cX6_startOf 0 = .ok (.aload_n 0, 1) := by decide +kernel
theorem dX6_startOf_1 : decode cX6_startOf 1 = .ok (.getfield 63, 3) := by decide +kernel
theorem dX6_startOf_4 : decode cX6_startOf 4 = .ok (.iload_n 1, 1) := by decide +kernel
theorem dX6_startOf_5 : decode cX6_startOf 5 = .ok (.iaload, 1) := by decide +kernel
theorem dX6_startOf_6 : decode cX6_startOf 6 = .ok (.bipush 9, 2) := by decide +kernel
theorem dX6_startOf_8 : decode cX6_startOf 8 = .ok (.if_icmp .ne 5, 3) := by decide +kernel
theorem dX6_startOf_11 : decode cX6_startOf 11 = .ok (.iconst 0, 1) := by decide +kernel
theorem dX6_startOf_12 : decode cX6_startOf 12 = .ok (.ireturn, 1) := by decide +kernel
theorem dX6_startOf_13 : decode cX6_startOf 13 = .ok (.aload_n 0, 1) := by decide +kernel
theorem dX6_startOf_14 : decode cX6_startOf 14 = .ok (.getfield 63, 3) := by decide +kernel
theorem dX6_startOf_17 : decode cX6_startOf 17 = .ok (.iload_n 1, 1) := by decide +kernel
theorem dX6_startOf_18 : decode cX6_startOf 18 = .ok (.iaload, 1) := by decide +kernel
theorem dX6_startOf_19 : decode cX6_startOf 19 = .ok (.bipush 10, 2) := by decide +kernel
theorem dX6_startOf_21 : decode cX6_startOf 21 = .ok (.if_icmp .ne 25, 3) := by decide +kernel
theorem dX6_startOf_24 : decode cX6_startOf 24 = .ok (.bipush 10, 2) := by decide +kernel
theorem dX6_startOf_26 : decode cX6_startOf 26 = .ok (.aload_n 0, 1) := by decide +kernel
theorem dX6_startOf_27 : decode cX6_startOf 27 = .ok (.getfield 66, 3) := by decide +kernel
theorem dX6_startOf_30 : decode cX6_startOf 30 = .ok (.iload_n 1, 1) := by decide +kernel
theorem dX6_startOf_31 : decode cX6_startOf 31 = .ok (.iaload, 1) := by decide +kernel
theorem dX6_startOf_32 : decode cX6_startOf 32 = .ok (.imul, 1) := by decide +kernel
theorem dX6_startOf_33 : decode cX6_startOf 33 = .ok (.aload_n 0, 1) := by decide +kernel
theorem dX6_startOf_34 : decode cX6_startOf 34 = .ok (.getfield 81, 3) := by decide +kernel
theorem dX6_startOf_37 : decode cX6_startOf 37 = .ok (.bipush 16, 2) := by decide +kernel
theorem dX6_startOf_39 : decode cX6_startOf 39 = .ok (.iload_n 1, 1) := by decide +kernel
theorem dX6_startOf_40 : decode cX6_startOf 40 = .ok (.imul, 1) := by decide +kernel
theorem dX6_startOf_41 : decode cX6_startOf 41 = .ok (.iload_n 2, 1) := by decide +kernel
theorem dX6_startOf_42 : decode cX6_startOf 42 = .ok (.iadd, 1) := by decide +kernel
theorem dX6_startOf_43 : decode cX6_startOf 43 = .ok (.iaload, 1) := by decide +kernel
theorem dX6_startOf_44 : decode cX6_startOf 44 = .ok (.imul, 1) := by decide +kernel
theorem dX6_startOf_45 : decode cX6_startOf 45 = .ok (.ireturn, 1) := by decide +kernel
theorem dX6_startOf_46 : decode cX6_startOf 46 = .ok (.bipush 16, 2) := by decide +kernel
theorem dX6_startOf_48 : decode cX6_startOf 48 = .ok (.aload_n 0, 1) := by decide +kernel
theorem dX6_startOf_49 : decode cX6_startOf 49 = .ok (.getfield 69, 3) := by decide +kernel
theorem dX6_startOf_52 : decode cX6_startOf 52 = .ok (.iload_n 1, 1) := by decide +kernel
theorem dX6_startOf_53 : decode cX6_startOf 53 = .ok (.iaload, 1) := by decide +kernel
theorem dX6_startOf_54 : decode cX6_startOf 54 = .ok (.imul, 1) := by decide +kernel
theorem dX6_startOf_55 : decode cX6_startOf 55 = .ok (.iload_n 2, 1) := by decide +kernel
theorem dX6_startOf_56 : decode cX6_startOf 56 = .ok (.iadd, 1) := by decide +kernel
theorem dX6_startOf_57 : decode cX6_startOf 57 = .ok (.istore_n 3, 1) := by decide +kernel
theorem dX6_startOf_58 : decode cX6_startOf 58 = .ok (.aload_n 0, 1) := by decide +kernel
theorem dX6_startOf_59 : decode cX6_startOf 59 = .ok (.getfield 81, 3) := by decide +kernel
theorem dX6_startOf_62 : decode cX6_startOf 62 = .ok (.iload_n 3, 1) := by decide +kernel
theorem dX6_startOf_63 : decode cX6_startOf 63 = .ok (.iaload, 1) := by decide +kernel
theorem dX6_startOf_64 : decode cX6_startOf 64 = .ok (.ifCond .lt 12, 3) := by decide +kernel
theorem dX6_startOf_67 : decode cX6_startOf 67 = .ok (.aload_n 0, 1) := by decide +kernel
theorem dX6_startOf_68 : decode cX6_startOf 68 = .ok (.getfield 108, 3) := by decide +kernel
theorem dX6_startOf_71 : decode cX6_startOf 71 = .ok (.iload_n 3, 1) := by decide +kernel
theorem dX6_startOf_72 : decode cX6_startOf 72 = .ok (.iaload, 1) := by decide +kernel
theorem dX6_startOf_73 : decode cX6_startOf 73 = .ok (.ifCond .ge 5, 3) := by decide +kernel
theorem dX6_startOf_76 : decode cX6_startOf 76 = .ok (.iconst (-1), 1) := by decide +kernel
theorem dX6_startOf_77 : decode cX6_startOf 77 = .ok (.ireturn, 1) := by decide +kernel
theorem dX6_startOf_78 : decode cX6_startOf 78 = .ok (.aload_n 0, 1) := by decide +kernel
theorem dX6_startOf_79 : decode cX6_startOf 79 = .ok (.getfield 108, 3) := by decide +kernel
theorem dX6_startOf_82 : decode cX6_startOf 82 = .ok (.iload_n 3, 1) := by decide +kernel
theorem dX6_startOf_83 : decode cX6_startOf 83 = .ok (.iaload, 1) := by decide +kernel
theorem dX6_startOf_84 : decode cX6_startOf 84 = .ok (.aload_n 0, 1) := by decide +kernel
theorem dX6_startOf_85 : decode cX6_startOf 85 = .ok (.aload_n 0, 1) := by decide +kernel
theorem dX6_startOf_86 : decode cX6_startOf 86 = .ok (.getfield 69, 3) := by decide +kernel
theorem dX6_startOf_89 : decode cX6_startOf 89 = .ok (.iload_n 1, 1) := by decide +kernel
theorem dX6_startOf_90 : decode cX6_startOf 90 = .ok (.iaload, 1) := by decide +kernel
theorem dX6_startOf_91 : decode cX6_startOf 91 = .ok (.invokevirtual 224, 3) := by decide +kernel
theorem dX6_startOf_94 : decode cX6_startOf 94 = .ok (.isub, 1) := by decide +kernel
theorem dX6_startOf_95 : decode cX6_startOf 95 = .ok (.bipush 10, 2) := by decide +kernel
theorem dX6_startOf_97 : decode cX6_startOf 97 = .ok (.idiv, 1) := by decide +kernel
theorem dX6_startOf_98 : decode cX6_startOf 98 = .ok (.bipush 10, 2) := by decide +kernel
theorem dX6_startOf_100 : decode cX6_startOf 100 = .ok (.imul, 1) := by decide +kernel
theorem dX6_startOf_101 : decode cX6_startOf 101 = .ok (.istore 4, 2) := by decide +kernel
theorem dX6_startOf_103 : decode cX6_startOf 103 = .ok (.iload 4, 2) := by decide +kernel
theorem dX6_startOf_105 : decode cX6_startOf 105 = .ok (.bipush 10, 2) := by decide +kernel
theorem dX6_startOf_107 : decode cX6_startOf 107 = .ok (.aload_n 0, 1) := by decide +kernel
theorem dX6_startOf_108 : decode cX6_startOf 108 = .ok (.getfield 66, 3) := by decide +kernel
theorem dX6_startOf_111 : decode cX6_startOf 111 = .ok (.iload_n 1, 1) := by decide +kernel
theorem dX6_startOf_112 : decode cX6_startOf 112 = .ok (.iaload, 1) := by decide +kernel
theorem dX6_startOf_113 : decode cX6_startOf 113 = .ok (.imul, 1) := by decide +kernel
theorem dX6_startOf_114 : decode cX6_startOf 114 = .ok (.if_icmp .ge 8, 3) := by decide +kernel
theorem dX6_startOf_117 : decode cX6_startOf 117 = .ok (.iload 4, 2) := by decide +kernel
theorem dX6_startOf_119 : decode cX6_startOf 119 = .ok (.goto 12, 3) := by decide +kernel
theorem dX6_startOf_122 : decode cX6_startOf 122 = .ok (.bipush 10, 2) := by decide +kernel
theorem dX6_startOf_124 : decode cX6_startOf 124 = .ok (.aload_n 0, 1) := by decide +kernel
theorem dX6_startOf_125 : decode cX6_startOf 125 = .ok (.getfield 66, 3) := by decide +kernel
theorem dX6_startOf_128 : decode cX6_startOf 128 = .ok (.iload_n 1, 1) := by decide +kernel
theorem dX6_startOf_129 : decode cX6_startOf 129 = .ok (.iaload, 1) := by decide +kernel
theorem dX6_startOf_130 : decode cX6_startOf 130 = .ok (.imul, 1) := by decide +kernel
theorem dX6_startOf_131 : decode cX6_startOf 131 = .ok (.ireturn, 1) := by decide +kernel
theorem dX6_work_0 : decode cX6_work 0 = .ok (.bipush 16, 2) := by decide +kernel
theorem dX6_work_2 : decode cX6_work 2 = .ok (.iload_n 1, 1) := by decide +kernel
theorem dX6_work_3 : decode cX6_work 3 = .ok (.imul, 1) := by decide +kernel
theorem dX6_work_4 : decode cX6_work 4 = .ok (.iload_n 2, 1) := by decide +kernel
theorem dX6_work_5 : decode cX6_work 5 = .ok (.iadd, 1) := by decide +kernel
theorem dX6_work_6 : decode cX6_work 6 = .ok (.istore 4, 2) := by decide +kernel
theorem dX6_work_8 : decode cX6_work 8 = .ok (.aload_n 0, 1) := by decide +kernel
theorem dX6_work_9 : decode cX6_work 9 = .ok (.getfield 105, 3) := by decide +kernel
theorem dX6_work_12 : decode cX6_work 12 = .ok (.iload 4, 2) := by decide +kernel
theorem dX6_work_14 : decode cX6_work 14 = .ok (.aload_n 0, 1) := by decide +kernel
theorem dX6_work_15 : decode cX6_work 15 = .ok (.iload_n 1, 1) := by decide +kernel
theorem dX6_work_16 : decode cX6_work 16 = .ok (.iload_n 2, 1) := by decide +kernel
theorem dX6_work_17 : decode cX6_work 17 = .ok (.invokevirtual 227, 3) := by decide +kernel
theorem dX6_work_20 : decode cX6_work 20 = .ok (.iastore, 1) := by decide +kernel
theorem dX6_work_21 : decode cX6_work 21 = .ok (.aload_n 0, 1) := by decide +kernel
theorem dX6_work_22 : decode cX6_work 22 = .ok (.getfield 114, 3) := by decide +kernel
theorem dX6_work_25 : decode cX6_work 25 = .ok (.iload 4, 2) := by decide +kernel
theorem dX6_work_27 : decode cX6_work 27 = .ok (.iconst 0, 1) := by decide +kernel
theorem dX6_work_28 : decode cX6_work 28 = .ok (.iastore, 1) := by decide +kernel
theorem dX6_work_29 : decode cX6_work 29 = .ok (.aload_n 0, 1) := by decide +kernel
theorem dX6_work_30 : decode cX6_work 30 = .ok (.getfield 117, 3) := by decide +kernel
theorem dX6_work_33 : decode cX6_work 33 = .ok (.iload 4, 2) := by decide +kernel
theorem dX6_work_35 : decode cX6_work 35 = .ok (.iconst 0, 1) := by decide +kernel
theorem dX6_work_36 : decode cX6_work 36 = .ok (.iastore, 1) := by decide +kernel
theorem dX6_work_37 : decode cX6_work 37 = .ok (.iconst 0, 1) := by decide +kernel
theorem dX6_work_38 : decode cX6_work 38 = .ok (.istore 5, 2) := by decide +kernel
theorem dX6_work_40 : decode cX6_work 40 = .ok (.iconst 0, 1) := by decide +kernel
theorem dX6_work_41 : decode cX6_work 41 = .ok (.istore 6, 2) := by decide +kernel
theorem dX6_work_43 : decode cX6_work 43 = .ok (.iconst 0, 1) := by decide +kernel
theorem dX6_work_44 : decode cX6_work 44 = .ok (.istore 7, 2) := by decide +kernel
theorem dX6_work_46 : decode cX6_work 46 = .ok (.iload 7, 2) := by decide +kernel
theorem dX6_work_48 : decode cX6_work 48 = .ok (.aload_n 0, 1) := by decide +kernel
theorem dX6_work_49 : decode cX6_work 49 = .ok (.getfield 51, 3) := by decide +kernel
theorem dX6_work_52 : decode cX6_work 52 = .ok (.iload_n 1, 1) := by decide +kernel
theorem dX6_work_53 : decode cX6_work 53 = .ok (.iaload, 1) := by decide +kernel
theorem dX6_work_54 : decode cX6_work 54 = .ok (.if_icmp .ge 182, 3) := by decide +kernel
theorem dX6_work_57 : decode cX6_work 57 = .ok (.aload_n 0, 1) := by decide +kernel
theorem dX6_work_58 : decode cX6_work 58 = .ok (.iload_n 1, 1) := by decide +kernel
theorem dX6_work_59 : decode cX6_work 59 = .ok (.iload_n 2, 1) := by decide +kernel
theorem dX6_work_60 : decode cX6_work 60 = .ok (.iconst 1, 1) := by decide +kernel
theorem dX6_work_61 : decode cX6_work 61 = .ok (.iload 7, 2) := by decide +kernel
theorem dX6_work_63 : decode cX6_work 63 = .ok (.iload_n 3, 1) := by decide +kernel
theorem dX6_work_64 : decode cX6_work 64 = .ok (.invokevirtual 230, 3) := by decide +kernel
theorem dX6_work_67 : decode cX6_work 67 = .ok (.istore 8, 2) := by decide +kernel
theorem dX6_work_69 : decode cX6_work 69 = .ok (.iload 8, 2) := by decide +kernel
theorem dX6_work_71 : decode cX6_work 71 = .ok (.ifCond .ge 7, 3) := by decide +kernel
theorem dX6_work_74 : decode cX6_work 74 = .ok (.iconst 0, 1) := by decide +kernel
theorem dX6_work_75 : decode cX6_work 75 = .ok (.goto 10, 3) := by decide +kernel
theorem dX6_work_78 : decode cX6_work 78 = .ok (.iconst 5, 1) := by decide +kernel
theorem dX6_work_79 : decode cX6_work 79 = .ok (.iload 8, 2) := by decide +kernel
theorem dX6_work_81 : decode cX6_work 81 = .ok (.invokestatic 234, 3) := by decide +kernel
theorem dX6_work_84 : decode cX6_work 84 = .ok (.isub, 1) := by decide +kernel
theorem dX6_work_85 : decode cX6_work 85 = .ok (.istore 9, 2) := by decide +kernel
theorem dX6_work_87 : decode cX6_work 87 = .ok (.iload 8, 2) := by decide +kernel
theorem dX6_work_89 : decode cX6_work 89 = .ok (.ifCond .ge 7, 3) := by decide +kernel
theorem dX6_work_92 : decode cX6_work 92 = .ok (.iconst 5, 1) := by decide +kernel
theorem dX6_work_93 : decode cX6_work 93 = .ok (.goto 5, 3) := by decide +kernel
theorem dX6_work_96 : decode cX6_work 96 = .ok (.iload 9, 2) := by decide +kernel
theorem dX6_work_98 : decode cX6_work 98 = .ok (.istore 10, 2) := by decide +kernel
theorem dX6_work_100 : decode cX6_work 100 = .ok (.aload_n 0, 1) := by decide +kernel
theorem dX6_work_101 : decode cX6_work 101 = .ok (.getfield 114, 3) := by decide +kernel
theorem dX6_work_104 : decode cX6_work 104 = .ok (.iload 4, 2) := by decide +kernel
theorem dX6_work_106 : decode cX6_work 106 = .ok (.dup2, 1) := by decide +kernel
theorem dX6_work_107 : decode cX6_work 107 = .ok (.iaload, 1) := by decide +kernel
theorem dX6_work_108 : decode cX6_work 108 = .ok (.iload 9, 2) := by decide +kernel
theorem dX6_work_110 : decode cX6_work 110 = .ok (.iadd, 1) := by decide +kernel
theorem dX6_work_111 : decode cX6_work 111 = .ok (.iastore, 1) := by decide +kernel
theorem dX6_work_112 : decode cX6_work 112 = .ok (.aload_n 0, 1) := by decide +kernel
theorem dX6_work_113 : decode cX6_work 113 = .ok (.getfield 117, 3) := by decide +kernel
theorem dX6_work_116 : decode cX6_work 116 = .ok (.iload 4, 2) := by decide +kernel
theorem dX6_work_118 : decode cX6_work 118 = .ok (.dup2, 1) := by decide +kernel
theorem dX6_work_119 : decode cX6_work 119 = .ok (.iaload, 1) := by decide +kernel
theorem dX6_work_120 : decode cX6_work 120 = .ok (.iload 10, 2) := by decide +kernel
theorem dX6_work_122 : decode cX6_work 122 = .ok (.iadd, 1) := by decide +kernel
theorem dX6_work_123 : decode cX6_work 123 = .ok (.iastore, 1) := by decide +kernel
theorem dX6_work_124 : decode cX6_work 124 = .ok (.aload_n 0, 1) := by decide +kernel
theorem dX6_work_125 : decode cX6_work 125 = .ok (.getfield 57, 3) := by decide +kernel
theorem dX6_work_128 : decode cX6_work 128 = .ok (.iload_n 1, 1) := by decide +kernel
theorem dX6_work_129 : decode cX6_work 129 = .ok (.baload, 1) := by decide +kernel
theorem dX6_work_130 : decode cX6_work 130 = .ok (.ifCond .eq 48, 3) := by decide +kernel
theorem dX6_work_133 : decode cX6_work 133 = .ok (.aload_n 0, 1) := by decide +kernel
theorem dX6_work_134 : decode cX6_work 134 = .ok (.iload_n 1, 1) := by decide +kernel
theorem dX6_work_135 : decode cX6_work 135 = .ok (.iload_n 2, 1) := by decide +kernel
theorem dX6_work_136 : decode cX6_work 136 = .ok (.iconst 2, 1) := by decide +kernel
theorem dX6_work_137 : decode cX6_work 137 = .ok (.iload 7, 2) := by decide +kernel
theorem dX6_work_139 : decode cX6_work 139 = .ok (.iload_n 3, 1) := by decide +kernel
theorem dX6_work_140 : decode cX6_work 140 = .ok (.invokevirtual 230, 3) := by decide +kernel
theorem dX6_work_143 : decode cX6_work 143 = .ok (.istore 11, 2) := by decide +kernel
theorem dX6_work_145 : decode cX6_work 145 = .ok (.iload 9, 2) := by decide +kernel
theorem dX6_work_147 : decode cX6_work 147 = .ok (.iload 11, 2) := by decide +kernel
theorem dX6_work_149 : decode cX6_work 149 = .ok (.ifCond .ge 8, 3) := by decide +kernel
theorem dX6_work_152 : decode cX6_work 152 = .ok (.bipush 9, 2) := by decide +kernel
theorem dX6_work_154 : decode cX6_work 154 = .ok (.goto 5, 3) := by decide +kernel
theorem dX6_work_157 : decode cX6_work 157 = .ok (.iload 11, 2) := by decide +kernel
theorem dX6_work_159 : decode cX6_work 159 = .ok (.isub, 1) := by decide +kernel
theorem dX6_work_160 : decode cX6_work 160 = .ok (.istore 9, 2) := by decide +kernel
theorem dX6_work_162 : decode cX6_work 162 = .ok (.iload 10, 2) := by decide +kernel
theorem dX6_work_164 : decode cX6_work 164 = .ok (.iload 11, 2) := by decide +kernel
theorem dX6_work_166 : decode cX6_work 166 = .ok (.ifCond .ge 7, 3) := by decide +kernel
theorem dX6_work_169 : decode cX6_work 169 = .ok (.iconst 0, 1) := by decide +kernel
theorem dX6_work_170 : decode cX6_work 170 = .ok (.goto 5, 3) := by decide +kernel
theorem dX6_work_173 : decode cX6_work 173 = .ok (.iload 11, 2) := by decide +kernel
theorem dX6_work_175 : decode cX6_work 175 = .ok (.isub, 1) := by decide +kernel
theorem dX6_work_176 : decode cX6_work 176 = .ok (.istore 10, 2) := by decide +kernel
theorem dX6_work_178 : decode cX6_work 178 = .ok (.iload 5, 2) := by decide +kernel
theorem dX6_work_180 : decode cX6_work 180 = .ok (.iload 9, 2) := by decide +kernel
theorem dX6_work_182 : decode cX6_work 182 = .ok (.ifCond .le 18, 3) := by decide +kernel
theorem dX6_work_185 : decode cX6_work 185 = .ok (.bipush 10, 2) := by decide +kernel
theorem dX6_work_187 : decode cX6_work 187 = .ok (.aload_n 0, 1) := by decide +kernel
theorem dX6_work_188 : decode cX6_work 188 = .ok (.getfield 60, 3) := by decide +kernel
theorem dX6_work_191 : decode cX6_work 191 = .ok (.iload_n 1, 1) := by decide +kernel
theorem dX6_work_192 : decode cX6_work 192 = .ok (.iaload, 1) := by decide +kernel
theorem dX6_work_193 : decode cX6_work 193 = .ok (.imul, 1) := by decide +kernel
theorem dX6_work_194 : decode cX6_work 194 = .ok (.iload 9, 2) := by decide +kernel
theorem dX6_work_196 : decode cX6_work 196 = .ok (.imul, 1) := by decide +kernel
theorem dX6_work_197 : decode cX6_work 197 = .ok (.goto 4, 3) := by decide +kernel
theorem dX6_work_200 : decode cX6_work 200 = .ok (.iconst 0, 1) := by decide +kernel
theorem dX6_work_201 : decode cX6_work 201 = .ok (.iadd, 1) := by decide +kernel
theorem dX6_work_202 : decode cX6_work 202 = .ok (.istore 5, 2) := by decide +kernel
theorem dX6_work_204 : decode cX6_work 204 = .ok (.iload 6, 2) := by decide +kernel
theorem dX6_work_206 : decode cX6_work 206 = .ok (.iload 10, 2) := by decide +kernel
theorem dX6_work_208 : decode cX6_work 208 = .ok (.ifCond .le 18, 3) := by decide +kernel
theorem dX6_work_211 : decode cX6_work 211 = .ok (.bipush 10, 2) := by decide +kernel
theorem dX6_work_213 : decode cX6_work 213 = .ok (.aload_n 0, 1) := by decide +kernel
theorem dX6_work_214 : decode cX6_work 214 = .ok (.getfield 60, 3) := by decide +kernel
theorem dX6_work_217 : decode cX6_work 217 = .ok (.iload_n 1, 1) := by decide +kernel
theorem dX6_work_218 : decode cX6_work 218 = .ok (.iaload, 1) := by decide +kernel
theorem dX6_work_219 : decode cX6_work 219 = .ok (.imul, 1) := by decide +kernel
theorem dX6_work_220 : decode cX6_work 220 = .ok (.iload 10, 2) := by decide +kernel
theorem dX6_work_222 : decode cX6_work 222 = .ok (.imul, 1) := by decide +kernel
theorem dX6_work_223 : decode cX6_work 223 = .ok (.goto 4, 3) := by decide +kernel
theorem dX6_work_226 : decode cX6_work 226 = .ok (.iconst 0, 1) := by decide +kernel
theorem dX6_work_227 : decode cX6_work 227 = .ok (.iadd, 1) := by decide +kernel
theorem dX6_work_228 : decode cX6_work 228 = .ok (.istore 6, 2) := by decide +kernel
theorem dX6_work_230 : decode cX6_work 230 = .ok (.iinc 7 1, 3) := by decide +kernel
theorem dX6_work_233 : decode cX6_work 233 = .ok (.goto (-187), 3) := by decide +kernel
theorem dX6_work_236 : decode cX6_work 236 = .ok (.aload_n 0, 1) := by decide +kernel
theorem dX6_work_237 : decode cX6_work 237 = .ok (.iload_n 1, 1) := by decide +kernel
theorem dX6_work_238 : decode cX6_work 238 = .ok (.iload_n 2, 1) := by decide +kernel
theorem dX6_work_239 : decode cX6_work 239 = .ok (.iconst 0, 1) := by decide +kernel
theorem dX6_work_240 : decode cX6_work 240 = .ok (.aload_n 0, 1) := by decide +kernel
theorem dX6_work_241 : decode cX6_work 241 = .ok (.getfield 48, 3) := by decide +kernel
theorem dX6_work_244 : decode cX6_work 244 = .ok (.iload_n 1, 1) := by decide +kernel
theorem dX6_work_245 : decode cX6_work 245 = .ok (.iaload, 1) := by decide +kernel
theorem dX6_work_246 : decode cX6_work 246 = .ok (.iload_n 3, 1) := by decide +kernel
theorem dX6_work_247 : decode cX6_work 247 = .ok (.invokevirtual 230, 3) := by decide +kernel
theorem dX6_work_250 : decode cX6_work 250 = .ok (.istore 7, 2) := by decide +kernel
theorem dX6_work_252 : decode cX6_work 252 = .ok (.aload_n 0, 1) := by decide +kernel
theorem dX6_work_253 : decode cX6_work 253 = .ok (.iload_n 1, 1) := by decide +kernel
theorem dX6_work_254 : decode cX6_work 254 = .ok (.iload_n 2, 1) := by decide +kernel
theorem dX6_work_255 : decode cX6_work 255 = .ok (.iconst 3, 1) := by decide +kernel
theorem dX6_work_256 : decode cX6_work 256 = .ok (.iconst 0, 1) := by decide +kernel
theorem dX6_work_257 : decode cX6_work 257 = .ok (.iload_n 3, 1) := by decide +kernel
theorem dX6_work_258 : decode cX6_work 258 = .ok (.invokevirtual 230, 3) := by decide +kernel
theorem dX6_work_261 : decode cX6_work 261 = .ok (.iconst 1, 1) := by decide +kernel
theorem dX6_work_262 : decode cX6_work 262 = .ok (.if_icmp .eq 29, 3) := by decide +kernel
theorem dX6_work_265 : decode cX6_work 265 = .ok (.aload_n 0, 1) := by decide +kernel
theorem dX6_work_266 : decode cX6_work 266 = .ok (.getfield 105, 3) := by decide +kernel
theorem dX6_work_269 : decode cX6_work 269 = .ok (.iload 4, 2) := by decide +kernel
theorem dX6_work_271 : decode cX6_work 271 = .ok (.iaload, 1) := by decide +kernel
theorem dX6_work_272 : decode cX6_work 272 = .ok (.ifCond .lt 19, 3) := by decide +kernel
theorem dX6_work_275 : decode cX6_work 275 = .ok (.iload 7, 2) := by decide +kernel
theorem dX6_work_277 : decode cX6_work 277 = .ok (.aload_n 0, 1) := by decide +kernel
theorem dX6_work_278 : decode cX6_work 278 = .ok (.getfield 105, 3) := by decide +kernel
theorem dX6_work_281 : decode cX6_work 281 = .ok (.iload 4, 2) := by decide +kernel
theorem dX6_work_283 : decode cX6_work 283 = .ok (.iaload, 1) := by decide +kernel
theorem dX6_work_284 : decode cX6_work 284 = .ok (.if_icmp .lt 7, 3) := by decide +kernel
theorem dX6_work_287 : decode cX6_work 287 = .ok (.iconst 1, 1) := by decide +kernel
theorem dX6_work_288 : decode cX6_work 288 = .ok (.goto 4, 3) := by decide +kernel
theorem dX6_work_291 : decode cX6_work 291 = .ok (.iconst 0, 1) := by decide +kernel
theorem dX6_work_292 : decode cX6_work 292 = .ok (.istore 8, 2) := by decide +kernel
theorem dX6_work_294 : decode cX6_work 294 = .ok (.aload_n 0, 1) := by decide +kernel
theorem dX6_work_295 : decode cX6_work 295 = .ok (.getfield 108, 3) := by decide +kernel
theorem dX6_work_298 : decode cX6_work 298 = .ok (.iload 4, 2) := by decide +kernel
theorem dX6_work_300 : decode cX6_work 300 = .ok (.iload 8, 2) := by decide +kernel
theorem dX6_work_302 : decode cX6_work 302 = .ok (.ifCond .eq 19, 3) := by decide +kernel
theorem dX6_work_305 : decode cX6_work 305 = .ok (.iload 7, 2) := by decide +kernel
theorem dX6_work_307 : decode cX6_work 307 = .ok (.aload_n 0, 1) := by decide +kernel
theorem dX6_work_308 : decode cX6_work 308 = .ok (.getfield 105, 3) := by decide +kernel
theorem dX6_work_311 : decode cX6_work 311 = .ok (.iload 4, 2) := by decide +kernel
theorem dX6_work_313 : decode cX6_work 313 = .ok (.iaload, 1) := by decide +kernel
theorem dX6_work_314 : decode cX6_work 314 = .ok (.isub, 1) := by decide +kernel
theorem dX6_work_315 : decode cX6_work 315 = .ok (.iload 5, 2) := by decide +kernel
theorem dX6_work_317 : decode cX6_work 317 = .ok (.iadd, 1) := by decide +kernel
theorem dX6_work_318 : decode cX6_work 318 = .ok (.goto 4, 3) := by decide +kernel
theorem dX6_work_321 : decode cX6_work 321 = .ok (.iconst (-1), 1) := by decide +kernel
theorem dX6_work_322 : decode cX6_work 322 = .ok (.iastore, 1) := by decide +kernel
theorem dX6_work_323 : decode cX6_work 323 = .ok (.aload_n 0, 1) := by decide +kernel
theorem dX6_work_324 : decode cX6_work 324 = .ok (.getfield 111, 3) := by decide +kernel
theorem dX6_work_327 : decode cX6_work 327 = .ok (.iload 4, 2) := by decide +kernel
theorem dX6_work_329 : decode cX6_work 329 = .ok (.iload 8, 2) := by decide +kernel
theorem dX6_work_331 : decode cX6_work 331 = .ok (.ifCond .eq 19, 3) := by decide +kernel
theorem dX6_work_334 : decode cX6_work 334 = .ok (.iload 7, 2) := by decide +kernel
theorem dX6_work_336 : decode cX6_work 336 = .ok (.aload_n 0, 1) := by decide +kernel
theorem dX6_work_337 : decode cX6_work 337 = .ok (.getfield 105, 3) := by decide +kernel
theorem dX6_work_340 : decode cX6_work 340 = .ok (.iload 4, 2) := by decide +kernel
theorem dX6_work_342 : decode cX6_work 342 = .ok (.iaload, 1) := by decide +kernel
theorem dX6_work_343 : decode cX6_work 343 = .ok (.isub, 1) := by decide +kernel
theorem dX6_work_344 : decode cX6_work 344 = .ok (.iload 6, 2) := by decide +kernel
theorem dX6_work_346 : decode cX6_work 346 = .ok (.iadd, 1) := by decide +kernel
theorem dX6_work_347 : decode cX6_work 347 = .ok (.goto 4, 3) := by decide +kernel
theorem dX6_work_350 : decode cX6_work 350 = .ok (.iconst (-1), 1) := by decide +kernel
theorem dX6_work_351 : decode cX6_work 351 = .ok (.iastore, 1) := by decide +kernel
theorem dX6_work_352 : decode cX6_work 352 = .ok (.return_, 1) := by decide +kernel
theorem dX6_workAll_0 : decode cX6_workAll 0 = .ok (.iconst 0, 1) := by decide +kernel
theorem dX6_workAll_1 : decode cX6_workAll 1 = .ok (.istore_n 3, 1) := by decide +kernel
theorem dX6_workAll_2 : decode cX6_workAll 2 = .ok (.iload_n 3, 1) := by decide +kernel
theorem dX6_workAll_3 : decode cX6_workAll 3 = .ok (.iload_n 1, 1) := by decide +kernel
theorem dX6_workAll_4 : decode cX6_workAll 4 = .ok (.if_icmp .gt 47, 3) := by decide +kernel
theorem dX6_workAll_7 : decode cX6_workAll 7 = .ok (.iconst 0, 1) := by decide +kernel
theorem dX6_workAll_8 : decode cX6_workAll 8 = .ok (.istore 4, 2) := by decide +kernel
theorem dX6_workAll_10 : decode cX6_workAll 10 = .ok (.iload 4, 2) := by decide +kernel
theorem dX6_workAll_12 : decode cX6_workAll 12 = .ok (.aload_n 0, 1) := by decide +kernel
theorem dX6_workAll_13 : decode cX6_workAll 13 = .ok (.getfield 72, 3) := by decide +kernel
theorem dX6_workAll_16 : decode cX6_workAll 16 = .ok (.iload_n 3, 1) := by decide +kernel
theorem dX6_workAll_17 : decode cX6_workAll 17 = .ok (.iaload, 1) := by decide +kernel
theorem dX6_workAll_18 : decode cX6_workAll 18 = .ok (.if_icmp .ge 27, 3) := by decide +kernel
theorem dX6_workAll_21 : decode cX6_workAll 21 = .ok (.aload_n 0, 1) := by decide +kernel
theorem dX6_workAll_22 : decode cX6_workAll 22 = .ok (.iload_n 3, 1) := by decide +kernel
theorem dX6_workAll_23 : decode cX6_workAll 23 = .ok (.aload_n 0, 1) := by decide +kernel
theorem dX6_workAll_24 : decode cX6_workAll 24 = .ok (.getfield 78, 3) := by decide +kernel
theorem dX6_workAll_27 : decode cX6_workAll 27 = .ok (.bipush 16, 2) := by decide +kernel
theorem dX6_workAll_29 : decode cX6_workAll 29 = .ok (.iload_n 3, 1) := by decide +kernel
theorem dX6_workAll_30 : decode cX6_workAll 30 = .ok (.imul, 1) := by decide +kernel
theorem dX6_workAll_31 : decode cX6_workAll 31 = .ok (.iload 4, 2) := by decide +kernel
theorem dX6_workAll_33 : decode cX6_workAll 33 = .ok (.iadd, 1) := by decide +kernel
theorem dX6_workAll_34 : decode cX6_workAll 34 = .ok (.iaload, 1) := by decide +kernel
theorem dX6_workAll_35 : decode cX6_workAll 35 = .ok (.iload_n 2, 1) := by decide +kernel
theorem dX6_workAll_36 : decode cX6_workAll 36 = .ok (.invokevirtual 237, 3) := by decide +kernel
theorem dX6_workAll_39 : decode cX6_workAll 39 = .ok (.iinc 4 1, 3) := by decide +kernel
theorem dX6_workAll_42 : decode cX6_workAll 42 = .ok (.goto (-32), 3) := by decide +kernel
theorem dX6_workAll_45 : decode cX6_workAll 45 = .ok (.iinc 3 1, 3) := by decide +kernel
theorem dX6_workAll_48 : decode cX6_workAll 48 = .ok (.goto (-46), 3) := by decide +kernel
theorem dX6_workAll_51 : decode cX6_workAll 51 = .ok (.return_, 1) := by decide +kernel
theorem dX6_placed_0 : decode cX6_placed 0 = .ok (.bipush 16, 2) := by decide +kernel
theorem dX6_placed_2 : decode cX6_placed 2 = .ok (.iload_n 1, 1) := by decide +kernel
theorem dX6_placed_3 : decode cX6_placed 3 = .ok (.imul, 1) := by decide +kernel
theorem dX6_placed_4 : decode cX6_placed 4 = .ok (.istore 4, 2) := by decide +kernel
theorem dX6_placed_6 : decode cX6_placed 6 = .ok (.iconst 1, 1) := by decide +kernel
theorem dX6_placed_7 : decode cX6_placed 7 = .ok (.istore 5, 2) := by decide +kernel
theorem dX6_placed_9 : decode cX6_placed 9 = .ok (.iconst 0, 1) := by decide +kernel
theorem dX6_placed_10 : decode cX6_placed 10 = .ok (.istore 6, 2) := by decide +kernel
theorem dX6_placed_12 : decode cX6_placed 12 = .ok (.iload 6, 2) := by decide +kernel
theorem dX6_placed_14 : decode cX6_placed 14 = .ok (.aload_n 0, 1) := by decide +kernel
theorem dX6_placed_15 : decode cX6_placed 15 = .ok (.getfield 72, 3) := by decide +kernel
theorem dX6_placed_18 : decode cX6_placed 18 = .ok (.iload_n 1, 1) := by decide +kernel
theorem dX6_placed_19 : decode cX6_placed 19 = .ok (.iaload, 1) := by decide +kernel
theorem dX6_placed_20 : decode cX6_placed 20 = .ok (.if_icmp .ge 104, 3) := by decide +kernel
end
section
theorem dX6_placed_23 : decode cX6_placed 23 = .ok (.aload_n 0, 1) := by decide +kernel
theorem dX6_placed_24 : decode cX6_placed 24 = .ok (.getfield 78, 3) := by decide +kernel
theorem dX6_placed_27 : decode cX6_placed 27 = .ok (.iload 4, 2) := by decide +kernel
theorem dX6_placed_29 : decode cX6_placed 29 = .ok (.iload 6, 2) := by decide +kernel
theorem dX6_placed_31 : decode cX6_placed 31 = .ok (.iadd, 1) := by decide +kernel
theorem dX6_placed_32 : decode cX6_placed 32 = .ok (.iaload, 1) := by decide +kernel
theorem dX6_placed_33 : decode cX6_placed 33 = .ok (.istore 7, 2) := by decide +kernel
theorem dX6_placed_35 : decode cX6_placed 35 = .ok (.iload 7, 2) := by decide +kernel
theorem dX6_placed_37 : decode cX6_placed 37 = .ok (.iload_n 2, 1) := by decide +kernel
theorem dX6_placed_38 : decode cX6_placed 38 = .ok (.if_icmp .eq 80, 3) := by decide +kernel
theorem dX6_placed_41 : decode cX6_placed 41 = .ok (.aload_n 0, 1) := by decide +kernel
theorem dX6_placed_42 : decode cX6_placed 42 = .ok (.getfield 108, 3) := by decide +kernel
theorem dX6_placed_45 : decode cX6_placed 45 = .ok (.iload 4, 2) := by decide +kernel
theorem dX6_placed_47 : decode cX6_placed 47 = .ok (.iload 7, 2) := by decide +kernel
theorem dX6_placed_49 : decode cX6_placed 49 = .ok (.iadd, 1) := by decide +kernel
theorem dX6_placed_50 : decode cX6_placed 50 = .ok (.iaload, 1) := by decide +kernel
theorem dX6_placed_51 : decode cX6_placed 51 = .ok (.ifCond .ge 6, 3) := by decide +kernel
theorem dX6_placed_54 : decode cX6_placed 54 = .ok (.goto 64, 3) := by decide +kernel
theorem dX6_placed_57 : decode cX6_placed 57 = .ok (.iload 5, 2) := by decide +kernel
theorem dX6_placed_59 : decode cX6_placed 59 = .ok (.iload_n 3, 1) := by decide +kernel
theorem dX6_placed_60 : decode cX6_placed 60 = .ok (.ifCond .eq 28, 3) := by decide +kernel
theorem dX6_placed_63 : decode cX6_placed 63 = .ok (.aload_n 0, 1) := by decide +kernel
theorem dX6_placed_64 : decode cX6_placed 64 = .ok (.getfield 111, 3) := by decide +kernel
theorem dX6_placed_67 : decode cX6_placed 67 = .ok (.iload 4, 2) := by decide +kernel
theorem dX6_placed_69 : decode cX6_placed 69 = .ok (.iload 7, 2) := by decide +kernel
theorem dX6_placed_71 : decode cX6_placed 71 = .ok (.iadd, 1) := by decide +kernel
theorem dX6_placed_72 : decode cX6_placed 72 = .ok (.iaload, 1) := by decide +kernel
theorem dX6_placed_73 : decode cX6_placed 73 = .ok (.aload_n 0, 1) := by decide +kernel
theorem dX6_placed_74 : decode cX6_placed 74 = .ok (.getfield 108, 3) := by decide +kernel
theorem dX6_placed_77 : decode cX6_placed 77 = .ok (.iload 4, 2) := by decide +kernel
theorem dX6_placed_79 : decode cX6_placed 79 = .ok (.iload_n 2, 1) := by decide +kernel
theorem dX6_placed_80 : decode cX6_placed 80 = .ok (.iadd, 1) := by decide +kernel
theorem dX6_placed_81 : decode cX6_placed 81 = .ok (.iaload, 1) := by decide +kernel
theorem dX6_placed_82 : decode cX6_placed 82 = .ok (.if_icmp .ge 32, 3) := by decide +kernel
theorem dX6_placed_85 : decode cX6_placed 85 = .ok (.goto 25, 3) := by decide +kernel
theorem dX6_placed_88 : decode cX6_placed 88 = .ok (.aload_n 0, 1) := by decide +kernel
theorem dX6_placed_89 : decode cX6_placed 89 = .ok (.getfield 108, 3) := by decide +kernel
theorem dX6_placed_92 : decode cX6_placed 92 = .ok (.iload 4, 2) := by decide +kernel
theorem dX6_placed_94 : decode cX6_placed 94 = .ok (.iload 7, 2) := by decide +kernel
theorem dX6_placed_96 : decode cX6_placed 96 = .ok (.iadd, 1) := by decide +kernel
theorem dX6_placed_97 : decode cX6_placed 97 = .ok (.iaload, 1) := by decide +kernel
theorem dX6_placed_98 : decode cX6_placed 98 = .ok (.aload_n 0, 1) := by decide +kernel
theorem dX6_placed_99 : decode cX6_placed 99 = .ok (.getfield 111, 3) := by decide +kernel
theorem dX6_placed_102 : decode cX6_placed 102 = .ok (.iload 4, 2) := by decide +kernel
theorem dX6_placed_104 : decode cX6_placed 104 = .ok (.iload_n 2, 1) := by decide +kernel
theorem dX6_placed_105 : decode cX6_placed 105 = .ok (.iadd, 1) := by decide +kernel
theorem dX6_placed_106 : decode cX6_placed 106 = .ok (.iaload, 1) := by decide +kernel
theorem dX6_placed_107 : decode cX6_placed 107 = .ok (.if_icmp .ge 7, 3) := by decide +kernel
theorem dX6_placed_110 : decode cX6_placed 110 = .ok (.iconst 1, 1) := by decide +kernel
theorem dX6_placed_111 : decode cX6_placed 111 = .ok (.goto 4, 3) := by decide +kernel
theorem dX6_placed_114 : decode cX6_placed 114 = .ok (.iconst 0, 1) := by decide +kernel
theorem dX6_placed_115 : decode cX6_placed 115 = .ok (.iadd, 1) := by decide +kernel
theorem dX6_placed_116 : decode cX6_placed 116 = .ok (.istore 5, 2) := by decide +kernel
theorem dX6_placed_118 : decode cX6_placed 118 = .ok (.iinc 6 1, 3) := by decide +kernel
theorem dX6_placed_121 : decode cX6_placed 121 = .ok (.goto (-109), 3) := by decide +kernel
theorem dX6_placed_124 : decode cX6_placed 124 = .ok (.iload 5, 2) := by decide +kernel
theorem dX6_placed_126 : decode cX6_placed 126 = .ok (.ireturn, 1) := by decide +kernel
theorem dX6_isDay_0 : decode cX6_isDay 0 = .ok (.iload_n 1, 1) := by decide +kernel
theorem dX6_isDay_1 : decode cX6_isDay 1 = .ok (.ifCond .lt 15, 3) := by decide +kernel
theorem dX6_isDay_4 : decode cX6_isDay 4 = .ok (.iload_n 1, 1) := by decide +kernel
theorem dX6_isDay_5 : decode cX6_isDay 5 = .ok (.aload_n 0, 1) := by decide +kernel
theorem dX6_isDay_6 : decode cX6_isDay 6 = .ok (.getfield 194, 3) := by decide +kernel
theorem dX6_isDay_9 : decode cX6_isDay 9 = .ok (.if_icmp .gt 7, 3) := by decide +kernel
theorem dX6_isDay_12 : decode cX6_isDay 12 = .ok (.iconst 1, 1) := by decide +kernel
theorem dX6_isDay_13 : decode cX6_isDay 13 = .ok (.goto 4, 3) := by decide +kernel
theorem dX6_isDay_16 : decode cX6_isDay 16 = .ok (.iconst 0, 1) := by decide +kernel
theorem dX6_isDay_17 : decode cX6_isDay 17 = .ok (.ireturn, 1) := by decide +kernel
theorem dX6_time_0 : decode cX6_time 0 = .ok (.aload_n 0, 1) := by decide +kernel
theorem dX6_time_1 : decode cX6_time 1 = .ok (.iconst 0, 1) := by decide +kernel
theorem dX6_time_2 : decode cX6_time 2 = .ok (.putfield 126, 3) := by decide +kernel
theorem dX6_time_5 : decode cX6_time 5 = .ok (.aload_n 0, 1) := by decide +kernel
theorem dX6_time_6 : decode cX6_time 6 = .ok (.iload_n 1, 1) := by decide +kernel
theorem dX6_time_7 : decode cX6_time 7 = .ok (.iload_n 2, 1) := by decide +kernel
theorem dX6_time_8 : decode cX6_time 8 = .ok (.invokevirtual 210, 3) := by decide +kernel
theorem dX6_time_11 : decode cX6_time 11 = .ok (.ifCond .eq 23, 3) := by decide +kernel
theorem dX6_time_14 : decode cX6_time 14 = .ok (.aload_n 0, 1) := by decide +kernel
theorem dX6_time_15 : decode cX6_time 15 = .ok (.iload_n 3, 1) := by decide +kernel
theorem dX6_time_16 : decode cX6_time 16 = .ok (.invokevirtual 241, 3) := by decide +kernel
theorem dX6_time_19 : decode cX6_time 19 = .ok (.ifCond .eq 15, 3) := by decide +kernel
theorem dX6_time_22 : decode cX6_time 22 = .ok (.iload 4, 2) := by decide +kernel
theorem dX6_time_24 : decode cX6_time 24 = .ok (.ifCond .lt 10, 3) := by decide +kernel
theorem dX6_time_27 : decode cX6_time 27 = .ok (.iload 4, 2) := by decide +kernel
theorem dX6_time_29 : decode cX6_time 29 = .ok (.bipush 7, 2) := by decide +kernel
theorem dX6_time_31 : decode cX6_time 31 = .ok (.if_icmp .le 6, 3) := by decide +kernel
theorem dX6_time_34 : decode cX6_time 34 = .ok (.bipush (-2), 2) := by decide +kernel
theorem dX6_time_36 : decode cX6_time 36 = .ok (.ireturn, 1) := by decide +kernel
theorem dX6_time_37 : decode cX6_time 37 = .ok (.aload_n 0, 1) := by decide +kernel
theorem dX6_time_38 : decode cX6_time 38 = .ok (.iload_n 1, 1) := by decide +kernel
theorem dX6_time_39 : decode cX6_time 39 = .ok (.iload_n 3, 1) := by decide +kernel
theorem dX6_time_40 : decode cX6_time 40 = .ok (.invokevirtual 244, 3) := by decide +kernel
theorem dX6_time_43 : decode cX6_time 43 = .ok (.bipush 16, 2) := by decide +kernel
theorem dX6_time_45 : decode cX6_time 45 = .ok (.iload_n 1, 1) := by decide +kernel
theorem dX6_time_46 : decode cX6_time 46 = .ok (.imul, 1) := by decide +kernel
theorem dX6_time_47 : decode cX6_time 47 = .ok (.iload_n 2, 1) := by decide +kernel
theorem dX6_time_48 : decode cX6_time 48 = .ok (.iadd, 1) := by decide +kernel
theorem dX6_time_49 : decode cX6_time 49 = .ok (.istore 5, 2) := by decide +kernel
theorem dX6_time_51 : decode cX6_time 51 = .ok (.iload 4, 2) := by decide +kernel
theorem dX6_time_53 : decode cX6_time 53 = .ok (.tableswitch 138 0 6 #[43, 51, 59, 67, 89, 111, 130], 43) := by decide +kernel
theorem dX6_time_96 : decode cX6_time 96 = .ok (.aload_n 0, 1) := by decide +kernel
theorem dX6_time_97 : decode cX6_time 97 = .ok (.getfield 105, 3) := by decide +kernel
theorem dX6_time_100 : decode cX6_time 100 = .ok (.iload 5, 2) := by decide +kernel
theorem dX6_time_102 : decode cX6_time 102 = .ok (.iaload, 1) := by decide +kernel
theorem dX6_time_103 : decode cX6_time 103 = .ok (.ireturn, 1) := by decide +kernel
theorem dX6_time_104 : decode cX6_time 104 = .ok (.aload_n 0, 1) := by decide +kernel
theorem dX6_time_105 : decode cX6_time 105 = .ok (.getfield 108, 3) := by decide +kernel
theorem dX6_time_108 : decode cX6_time 108 = .ok (.iload 5, 2) := by decide +kernel
theorem dX6_time_110 : decode cX6_time 110 = .ok (.iaload, 1) := by decide +kernel
theorem dX6_time_111 : decode cX6_time 111 = .ok (.ireturn, 1) := by decide +kernel
theorem dX6_time_112 : decode cX6_time 112 = .ok (.aload_n 0, 1) := by decide +kernel
theorem dX6_time_113 : decode cX6_time 113 = .ok (.getfield 111, 3) := by decide +kernel
theorem dX6_time_116 : decode cX6_time 116 = .ok (.iload 5, 2) := by decide +kernel
theorem dX6_time_118 : decode cX6_time 118 = .ok (.iaload, 1) := by decide +kernel
theorem dX6_time_119 : decode cX6_time 119 = .ok (.ireturn, 1) := by decide +kernel
theorem dX6_time_120 : decode cX6_time 120 = .ok (.aload_n 0, 1) := by decide +kernel
theorem dX6_time_121 : decode cX6_time 121 = .ok (.getfield 108, 3) := by decide +kernel
theorem dX6_time_124 : decode cX6_time 124 = .ok (.iload 5, 2) := by decide +kernel
theorem dX6_time_126 : decode cX6_time 126 = .ok (.iaload, 1) := by decide +kernel
theorem dX6_time_127 : decode cX6_time 127 = .ok (.ifCond .ge 7, 3) := by decide +kernel
theorem dX6_time_130 : decode cX6_time 130 = .ok (.iconst (-1), 1) := by decide +kernel
theorem dX6_time_131 : decode cX6_time 131 = .ok (.goto 10, 3) := by decide +kernel
theorem dX6_time_134 : decode cX6_time 134 = .ok (.aload_n 0, 1) := by decide +kernel
theorem dX6_time_135 : decode cX6_time 135 = .ok (.iload_n 1, 1) := by decide +kernel
theorem dX6_time_136 : decode cX6_time 136 = .ok (.iload_n 2, 1) := by decide +kernel
theorem dX6_time_137 : decode cX6_time 137 = .ok (.iconst 1, 1) := by decide +kernel
theorem dX6_time_138 : decode cX6_time 138 = .ok (.invokevirtual 248, 3) := by decide +kernel
theorem dX6_time_141 : decode cX6_time 141 = .ok (.ireturn, 1) := by decide +kernel
theorem dX6_time_142 : decode cX6_time 142 = .ok (.aload_n 0, 1) := by decide +kernel
theorem dX6_time_143 : decode cX6_time 143 = .ok (.getfield 108, 3) := by decide +kernel
theorem dX6_time_146 : decode cX6_time 146 = .ok (.iload 5, 2) := by decide +kernel
theorem dX6_time_148 : decode cX6_time 148 = .ok (.iaload, 1) := by decide +kernel
theorem dX6_time_149 : decode cX6_time 149 = .ok (.ifCond .ge 7, 3) := by decide +kernel
theorem dX6_time_152 : decode cX6_time 152 = .ok (.iconst (-1), 1) := by decide +kernel
theorem dX6_time_153 : decode cX6_time 153 = .ok (.goto 10, 3) := by decide +kernel
theorem dX6_time_156 : decode cX6_time 156 = .ok (.aload_n 0, 1) := by decide +kernel
theorem dX6_time_157 : decode cX6_time 157 = .ok (.iload_n 1, 1) := by decide +kernel
theorem dX6_time_158 : decode cX6_time 158 = .ok (.iload_n 2, 1) := by decide +kernel
theorem dX6_time_159 : decode cX6_time 159 = .ok (.iconst 0, 1) := by decide +kernel
theorem dX6_time_160 : decode cX6_time 160 = .ok (.invokevirtual 248, 3) := by decide +kernel
theorem dX6_time_163 : decode cX6_time 163 = .ok (.ireturn, 1) := by decide +kernel
theorem dX6_time_164 : decode cX6_time 164 = .ok (.aload_n 0, 1) := by decide +kernel
theorem dX6_time_165 : decode cX6_time 165 = .ok (.iload_n 1, 1) := by decide +kernel
theorem dX6_time_166 : decode cX6_time 166 = .ok (.iload_n 2, 1) := by decide +kernel
theorem dX6_time_167 : decode cX6_time 167 = .ok (.iconst 3, 1) := by decide +kernel
theorem dX6_time_168 : decode cX6_time 168 = .ok (.iconst 0, 1) := by decide +kernel
theorem dX6_time_169 : decode cX6_time 169 = .ok (.iload_n 3, 1) := by decide +kernel
theorem dX6_time_170 : decode cX6_time 170 = .ok (.invokevirtual 230, 3) := by decide +kernel
theorem dX6_time_173 : decode cX6_time 173 = .ok (.iconst 1, 1) := by decide +kernel
theorem dX6_time_174 : decode cX6_time 174 = .ok (.if_icmp .ne 7, 3) := by decide +kernel
theorem dX6_time_177 : decode cX6_time 177 = .ok (.iconst 1, 1) := by decide +kernel
theorem dX6_time_178 : decode cX6_time 178 = .ok (.goto 4, 3) := by decide +kernel
theorem dX6_time_181 : decode cX6_time 181 = .ok (.iconst 0, 1) := by decide +kernel
theorem dX6_time_182 : decode cX6_time 182 = .ok (.ireturn, 1) := by decide +kernel
theorem dX6_time_183 : decode cX6_time 183 = .ok (.aload_n 0, 1) := by decide +kernel
theorem dX6_time_184 : decode cX6_time 184 = .ok (.getfield 114, 3) := by decide +kernel
theorem dX6_time_187 : decode cX6_time 187 = .ok (.iload 5, 2) := by decide +kernel
theorem dX6_time_189 : decode cX6_time 189 = .ok (.iaload, 1) := by decide +kernel
theorem dX6_time_190 : decode cX6_time 190 = .ok (.ireturn, 1) := by decide +kernel
theorem dX6_time_191 : decode cX6_time 191 = .ok (.aload_n 0, 1) := by decide +kernel
theorem dX6_time_192 : decode cX6_time 192 = .ok (.getfield 117, 3) := by decide +kernel
theorem dX6_time_195 : decode cX6_time 195 = .ok (.iload 5, 2) := by decide +kernel
theorem dX6_time_197 : decode cX6_time 197 = .ok (.iaload, 1) := by decide +kernel
theorem dX6_time_198 : decode cX6_time 198 = .ok (.ireturn, 1) := by decide +kernel
theorem dX6_split_0 : decode cX6_split 0 = .ok (.aload_n 0, 1) := by decide +kernel
theorem dX6_split_1 : decode cX6_split 1 = .ok (.iconst 0, 1) := by decide +kernel
theorem dX6_split_2 : decode cX6_split 2 = .ok (.putfield 126, 3) := by decide +kernel
theorem dX6_split_5 : decode cX6_split 5 = .ok (.aload_n 0, 1) := by decide +kernel
theorem dX6_split_6 : decode cX6_split 6 = .ok (.iload_n 1, 1) := by decide +kernel
theorem dX6_split_7 : decode cX6_split 7 = .ok (.iload_n 2, 1) := by decide +kernel
theorem dX6_split_8 : decode cX6_split 8 = .ok (.invokevirtual 210, 3) := by decide +kernel
theorem dX6_split_11 : decode cX6_split 11 = .ok (.ifCond .eq 27, 3) := by decide +kernel
theorem dX6_split_14 : decode cX6_split 14 = .ok (.aload_n 0, 1) := by decide +kernel
theorem dX6_split_15 : decode cX6_split 15 = .ok (.iload 4, 2) := by decide +kernel
theorem dX6_split_17 : decode cX6_split 17 = .ok (.invokevirtual 241, 3) := by decide +kernel
theorem dX6_split_20 : decode cX6_split 20 = .ok (.ifCond .eq 18, 3) := by decide +kernel
theorem dX6_split_23 : decode cX6_split 23 = .ok (.iload_n 3, 1) := by decide +kernel
theorem dX6_split_24 : decode cX6_split 24 = .ok (.iconst 1, 1) := by decide +kernel
theorem dX6_split_25 : decode cX6_split 25 = .ok (.if_icmp .lt 13, 3) := by decide +kernel
theorem dX6_split_28 : decode cX6_split 28 = .ok (.iload_n 3, 1) := by decide +kernel
theorem dX6_split_29 : decode cX6_split 29 = .ok (.aload_n 0, 1) := by decide +kernel
theorem dX6_split_30 : decode cX6_split 30 = .ok (.getfield 48, 3) := by decide +kernel
theorem dX6_split_33 : decode cX6_split 33 = .ok (.iload_n 1, 1) := by decide +kernel
theorem dX6_split_34 : decode cX6_split 34 = .ok (.iaload, 1) := by decide +kernel
theorem dX6_split_35 : decode cX6_split 35 = .ok (.if_icmp .le 6, 3) := by decide +kernel
theorem dX6_split_38 : decode cX6_split 38 = .ok (.bipush (-2), 2) := by decide +kernel
theorem dX6_split_40 : decode cX6_split 40 = .ok (.ireturn, 1) := by decide +kernel
theorem dX6_split_41 : decode cX6_split 41 = .ok (.aload_n 0, 1) := by decide +kernel
theorem dX6_split_42 : decode cX6_split 42 = .ok (.iload_n 1, 1) := by decide +kernel
theorem dX6_split_43 : decode cX6_split 43 = .ok (.iload 4, 2) := by decide +kernel
theorem dX6_split_45 : decode cX6_split 45 = .ok (.invokevirtual 244, 3) := by decide +kernel
theorem dX6_split_48 : decode cX6_split 48 = .ok (.aload_n 0, 1) := by decide +kernel
theorem dX6_split_49 : decode cX6_split 49 = .ok (.iload_n 1, 1) := by decide +kernel
theorem dX6_split_50 : decode cX6_split 50 = .ok (.iload_n 2, 1) := by decide +kernel
theorem dX6_split_51 : decode cX6_split 51 = .ok (.iconst 0, 1) := by decide +kernel
theorem dX6_split_52 : decode cX6_split 52 = .ok (.iload_n 3, 1) := by decide +kernel
theorem dX6_split_53 : decode cX6_split 53 = .ok (.iload 4, 2) := by decide +kernel
theorem dX6_split_55 : decode cX6_split 55 = .ok (.invokevirtual 230, 3) := by decide +kernel
theorem dX6_split_58 : decode cX6_split 58 = .ok (.istore 5, 2) := by decide +kernel
theorem dX6_split_60 : decode cX6_split 60 = .ok (.aload_n 0, 1) := by decide +kernel
theorem dX6_split_61 : decode cX6_split 61 = .ok (.getfield 105, 3) := by decide +kernel
theorem dX6_split_64 : decode cX6_split 64 = .ok (.bipush 16, 2) := by decide +kernel
theorem dX6_split_66 : decode cX6_split 66 = .ok (.iload_n 1, 1) := by decide +kernel
theorem dX6_split_67 : decode cX6_split 67 = .ok (.imul, 1) := by decide +kernel
theorem dX6_split_68 : decode cX6_split 68 = .ok (.iload_n 2, 1) := by decide +kernel
theorem dX6_split_69 : decode cX6_split 69 = .ok (.iadd, 1) := by decide +kernel
theorem dX6_split_70 : decode cX6_split 70 = .ok (.iaload, 1) := by decide +kernel
theorem dX6_split_71 : decode cX6_split 71 = .ok (.istore 6, 2) := by decide +kernel
theorem dX6_split_73 : decode cX6_split 73 = .ok (.iload 5, 2) := by decide +kernel
theorem dX6_split_75 : decode cX6_split 75 = .ok (.ifCond .lt 15, 3) := by decide +kernel
theorem dX6_split_78 : decode cX6_split 78 = .ok (.iload 6, 2) := by decide +kernel
theorem dX6_split_80 : decode cX6_split 80 = .ok (.ifCond .lt 10, 3) := by decide +kernel
theorem dX6_split_83 : decode cX6_split 83 = .ok (.iload 5, 2) := by decide +kernel
theorem dX6_split_85 : decode cX6_split 85 = .ok (.iload 6, 2) := by decide +kernel
theorem dX6_split_87 : decode cX6_split 87 = .ok (.if_icmp .ge 7, 3) := by decide +kernel
theorem dX6_split_90 : decode cX6_split 90 = .ok (.iconst (-1), 1) := by decide +kernel
theorem dX6_split_91 : decode cX6_split 91 = .ok (.goto 8, 3) := by decide +kernel
theorem dX6_split_94 : decode cX6_split 94 = .ok (.iload 5, 2) := by decide +kernel
theorem dX6_split_96 : decode cX6_split 96 = .ok (.iload 6, 2) := by decide +kernel
theorem dX6_split_98 : decode cX6_split 98 = .ok (.isub, 1) := by decide +kernel
theorem dX6_split_99 : decode cX6_split 99 = .ok (.ireturn, 1) := by decide +kernel
theorem dX6_order_0 : decode cX6_order 0 = .ok (.aload_n 0, 1) := by decide +kernel
theorem dX6_order_1 : decode cX6_order 1 = .ok (.iconst 0, 1) := by decide +kernel
theorem dX6_order_2 : decode cX6_order 2 = .ok (.putfield 126, 3) := by decide +kernel
theorem dX6_order_5 : decode cX6_order 5 = .ok (.aload_n 0, 1) := by decide +kernel
theorem dX6_order_6 : decode cX6_order 6 = .ok (.iload_n 1, 1) := by decide +kernel
theorem dX6_order_7 : decode cX6_order 7 = .ok (.invokevirtual 203, 3) := by decide +kernel
theorem dX6_order_10 : decode cX6_order 10 = .ok (.ifCond .eq 11, 3) := by decide +kernel
theorem dX6_order_13 : decode cX6_order 13 = .ok (.aload_n 0, 1) := by decide +kernel
theorem dX6_order_14 : decode cX6_order 14 = .ok (.iload_n 2, 1) := by decide +kernel
theorem dX6_order_15 : decode cX6_order 15 = .ok (.invokevirtual 241, 3) := by decide +kernel
theorem dX6_order_18 : decode cX6_order 18 = .ok (.ifCond .ne 5, 3) := by decide +kernel
theorem dX6_order_21 : decode cX6_order 21 = .ok (.iconst (-1), 1) := by decide +kernel
theorem dX6_order_22 : decode cX6_order 22 = .ok (.ireturn, 1) := by decide +kernel
theorem dX6_order_23 : decode cX6_order 23 = .ok (.aload_n 0, 1) := by decide +kernel
theorem dX6_order_24 : decode cX6_order 24 = .ok (.iload_n 1, 1) := by decide +kernel
theorem dX6_order_25 : decode cX6_order 25 = .ok (.iload_n 2, 1) := by decide +kernel
theorem dX6_order_26 : decode cX6_order 26 = .ok (.invokevirtual 244, 3) := by decide +kernel
theorem dX6_order_29 : decode cX6_order 29 = .ok (.iconst 0, 1) := by decide +kernel
theorem dX6_order_30 : decode cX6_order 30 = .ok (.istore 4, 2) := by decide +kernel
theorem dX6_order_32 : decode cX6_order 32 = .ok (.iconst 0, 1) := by decide +kernel
theorem dX6_order_33 : decode cX6_order 33 = .ok (.istore 5, 2) := by decide +kernel
theorem dX6_order_35 : decode cX6_order 35 = .ok (.iload 5, 2) := by decide +kernel
theorem dX6_order_37 : decode cX6_order 37 = .ok (.aload_n 0, 1) := by decide +kernel
theorem dX6_order_38 : decode cX6_order 38 = .ok (.getfield 72, 3) := by decide +kernel
theorem dX6_order_41 : decode cX6_order 41 = .ok (.iload_n 1, 1) := by decide +kernel
theorem dX6_order_42 : decode cX6_order 42 = .ok (.iaload, 1) := by decide +kernel
theorem dX6_order_43 : decode cX6_order 43 = .ok (.if_icmp .ge 118, 3) := by decide +kernel
theorem dX6_order_46 : decode cX6_order 46 = .ok (.aload_n 0, 1) := by decide +kernel
theorem dX6_order_47 : decode cX6_order 47 = .ok (.getfield 78, 3) := by decide +kernel
theorem dX6_order_50 : decode cX6_order 50 = .ok (.bipush 16, 2) := by decide +kernel
theorem dX6_order_52 : decode cX6_order 52 = .ok (.iload_n 1, 1) := by decide +kernel
theorem dX6_order_53 : decode cX6_order 53 = .ok (.imul, 1) := by decide +kernel
theorem dX6_order_54 : decode cX6_order 54 = .ok (.iload 5, 2) := by decide +kernel
theorem dX6_order_56 : decode cX6_order 56 = .ok (.iadd, 1) := by decide +kernel
theorem dX6_order_57 : decode cX6_order 57 = .ok (.iaload, 1) := by decide +kernel
theorem dX6_order_58 : decode cX6_order 58 = .ok (.istore 6, 2) := by decide +kernel
theorem dX6_order_60 : decode cX6_order 60 = .ok (.aload_n 0, 1) := by decide +kernel
theorem dX6_order_61 : decode cX6_order 61 = .ok (.getfield 108, 3) := by decide +kernel
theorem dX6_order_64 : decode cX6_order 64 = .ok (.bipush 16, 2) := by decide +kernel
theorem dX6_order_66 : decode cX6_order 66 = .ok (.iload_n 1, 1) := by decide +kernel
theorem dX6_order_67 : decode cX6_order 67 = .ok (.imul, 1) := by decide +kernel
theorem dX6_order_68 : decode cX6_order 68 = .ok (.iload 6, 2) := by decide +kernel
theorem dX6_order_70 : decode cX6_order 70 = .ok (.iadd, 1) := by decide +kernel
theorem dX6_order_71 : decode cX6_order 71 = .ok (.iaload, 1) := by decide +kernel
theorem dX6_order_72 : decode cX6_order 72 = .ok (.ifCond .ge 6, 3) := by decide +kernel
theorem dX6_order_75 : decode cX6_order 75 = .ok (.goto 80, 3) := by decide +kernel
theorem dX6_order_78 : decode cX6_order 78 = .ok (.iload 4, 2) := by decide +kernel
theorem dX6_order_80 : decode cX6_order 80 = .ok (.istore 7, 2) := by decide +kernel
theorem dX6_order_82 : decode cX6_order 82 = .ok (.iload 7, 2) := by decide +kernel
theorem dX6_order_84 : decode cX6_order 84 = .ok (.ifCond .le 59, 3) := by decide +kernel
theorem dX6_order_87 : decode cX6_order 87 = .ok (.aload_n 0, 1) := by decide +kernel
theorem dX6_order_88 : decode cX6_order 88 = .ok (.getfield 108, 3) := by decide +kernel
theorem dX6_order_91 : decode cX6_order 91 = .ok (.bipush 16, 2) := by decide +kernel
theorem dX6_order_93 : decode cX6_order 93 = .ok (.iload_n 1, 1) := by decide +kernel
theorem dX6_order_94 : decode cX6_order 94 = .ok (.imul, 1) := by decide +kernel
theorem dX6_order_95 : decode cX6_order 95 = .ok (.aload_n 0, 1) := by decide +kernel
theorem dX6_order_96 : decode cX6_order 96 = .ok (.getfield 120, 3) := by decide +kernel
theorem dX6_order_99 : decode cX6_order 99 = .ok (.iload 7, 2) := by decide +kernel
theorem dX6_order_101 : decode cX6_order 101 = .ok (.iconst 1, 1) := by decide +kernel
theorem dX6_order_102 : decode cX6_order 102 = .ok (.isub, 1) := by decide +kernel
theorem dX6_order_103 : decode cX6_order 103 = .ok (.iaload, 1) := by decide +kernel
theorem dX6_order_104 : decode cX6_order 104 = .ok (.iadd, 1) := by decide +kernel
theorem dX6_order_105 : decode cX6_order 105 = .ok (.iaload, 1) := by decide +kernel
theorem dX6_order_106 : decode cX6_order 106 = .ok (.aload_n 0, 1) := by decide +kernel
theorem dX6_order_107 : decode cX6_order 107 = .ok (.getfield 108, 3) := by decide +kernel
theorem dX6_order_110 : decode cX6_order 110 = .ok (.bipush 16, 2) := by decide +kernel
theorem dX6_order_112 : decode cX6_order 112 = .ok (.iload_n 1, 1) := by decide +kernel
theorem dX6_order_113 : decode cX6_order 113 = .ok (.imul, 1) := by decide +kernel
theorem dX6_order_114 : decode cX6_order 114 = .ok (.iload 6, 2) := by decide +kernel
theorem dX6_order_116 : decode cX6_order 116 = .ok (.iadd, 1) := by decide +kernel
theorem dX6_order_117 : decode cX6_order 117 = .ok (.iaload, 1) := by decide +kernel
theorem dX6_order_118 : decode cX6_order 118 = .ok (.if_icmp .le 25, 3) := by decide +kernel
theorem dX6_order_121 : decode cX6_order 121 = .ok (.aload_n 0, 1) := by decide +kernel
theorem dX6_order_122 : decode cX6_order 122 = .ok (.getfield 120, 3) := by decide +kernel
theorem dX6_order_125 : decode cX6_order 125 = .ok (.iload 7, 2) := by decide +kernel
theorem dX6_order_127 : decode cX6_order 127 = .ok (.aload_n 0, 1) := by decide +kernel
theorem dX6_order_128 : decode cX6_order 128 = .ok (.getfield 120, 3) := by decide +kernel
theorem dX6_order_131 : decode cX6_order 131 = .ok (.iload 7, 2) := by decide +kernel
theorem dX6_order_133 : decode cX6_order 133 = .ok (.iconst 1, 1) := by decide +kernel
theorem dX6_order_134 : decode cX6_order 134 = .ok (.isub, 1) := by decide +kernel
theorem dX6_order_135 : decode cX6_order 135 = .ok (.iaload, 1) := by decide +kernel
theorem dX6_order_136 : decode cX6_order 136 = .ok (.iastore, 1) := by decide +kernel
theorem dX6_order_137 : decode cX6_order 137 = .ok (.iinc 7 (-1), 3) := by decide +kernel
theorem dX6_order_140 : decode cX6_order 140 = .ok (.goto (-58), 3) := by decide +kernel
theorem dX6_order_143 : decode cX6_order 143 = .ok (.aload_n 0, 1) := by decide +kernel
theorem dX6_order_144 : decode cX6_order 144 = .ok (.getfield 120, 3) := by decide +kernel
theorem dX6_order_147 : decode cX6_order 147 = .ok (.iload 7, 2) := by decide +kernel
theorem dX6_order_149 : decode cX6_order 149 = .ok (.iload 6, 2) := by decide +kernel
theorem dX6_order_151 : decode cX6_order 151 = .ok (.iastore, 1) := by decide +kernel
theorem dX6_order_152 : decode cX6_order 152 = .ok (.iinc 4 1, 3) := by decide +kernel
theorem dX6_order_155 : decode cX6_order 155 = .ok (.iinc 5 1, 3) := by decide +kernel
theorem dX6_order_158 : decode cX6_order 158 = .ok (.goto (-123), 3) := by decide +kernel
theorem dX6_order_161 : decode cX6_order 161 = .ok (.iload_n 3, 1) := by decide +kernel
theorem dX6_order_162 : decode cX6_order 162 = .ok (.ifCond .lt 9, 3) := by decide +kernel
theorem dX6_order_165 : decode cX6_order 165 = .ok (.iload_n 3, 1) := by decide +kernel
theorem dX6_order_166 : decode cX6_order 166 = .ok (.iload 4, 2) := by decide +kernel
theorem dX6_order_168 : decode cX6_order 168 = .ok (.if_icmp .lt 7, 3) := by decide +kernel
theorem dX6_order_171 : decode cX6_order 171 = .ok (.iconst (-1), 1) := by decide +kernel
theorem dX6_order_172 : decode cX6_order 172 = .ok (.goto 9, 3) := by decide +kernel
theorem dX6_order_175 : decode cX6_order 175 = .ok (.aload_n 0, 1) := by decide +kernel
theorem dX6_order_176 : decode cX6_order 176 = .ok (.getfield 120, 3) := by decide +kernel
theorem dX6_order_179 : decode cX6_order 179 = .ok (.iload_n 3, 1) := by decide +kernel
theorem dX6_order_180 : decode cX6_order 180 = .ok (.iaload, 1) := by decide +kernel
theorem dX6_order_181 : decode cX6_order 181 = .ok (.ireturn, 1) := by decide +kernel
theorem dX6_cup_0 : decode cX6_cup 0 = .ok (.aload_n 0, 1) := by decide +kernel
theorem dX6_cup_1 : decode cX6_cup 1 = .ok (.aload_n 0, 1) := by decide +kernel
theorem dX6_cup_2 : decode cX6_cup 2 = .ok (.getfield 200, 3) := by decide +kernel
theorem dX6_cup_5 : decode cX6_cup 5 = .ok (.iconst 1, 1) := by decide +kernel
theorem dX6_cup_6 : decode cX6_cup 6 = .ok (.isub, 1) := by decide +kernel
theorem dX6_cup_7 : decode cX6_cup 7 = .ok (.iload_n 1, 1) := by decide +kernel
theorem dX6_cup_8 : decode cX6_cup 8 = .ok (.invokevirtual 244, 3) := by decide +kernel
theorem dX6_cup_11 : decode cX6_cup 11 = .ok (.iconst 0, 1) := by decide +kernel
theorem dX6_cup_12 : decode cX6_cup 12 = .ok (.istore_n 2, 1) := by decide +kernel
theorem dX6_cup_13 : decode cX6_cup 13 = .ok (.iload_n 2, 1) := by decide +kernel
theorem dX6_cup_14 : decode cX6_cup 14 = .ok (.bipush 16, 2) := by decide +kernel
theorem dX6_cup_16 : decode cX6_cup 16 = .ok (.if_icmp .ge 16, 3) := by decide +kernel
theorem dX6_cup_19 : decode cX6_cup 19 = .ok (.aload_n 0, 1) := by decide +kernel
theorem dX6_cup_20 : decode cX6_cup 20 = .ok (.getfield 123, 3) := by decide +kernel
theorem dX6_cup_23 : decode cX6_cup 23 = .ok (.iload_n 2, 1) := by decide +kernel
theorem dX6_cup_24 : decode cX6_cup 24 = .ok (.iconst 0, 1) := by decide +kernel
theorem dX6_cup_25 : decode cX6_cup 25 = .ok (.iastore, 1) := by decide +kernel
theorem dX6_cup_26 : decode cX6_cup 26 = .ok (.iinc 2 1, 3) := by decide +kernel
theorem dX6_cup_29 : decode cX6_cup 29 = .ok (.goto (-16), 3) := by decide +kernel
theorem dX6_cup_32 : decode cX6_cup 32 = .ok (.iconst 0, 1) := by decide +kernel
theorem dX6_cup_33 : decode cX6_cup 33 = .ok (.istore_n 2, 1) := by decide +kernel
theorem dX6_cup_34 : decode cX6_cup 34 = .ok (.iload_n 2, 1) := by decide +kernel
theorem dX6_cup_35 : decode cX6_cup 35 = .ok (.aload_n 0, 1) := by decide +kernel
theorem dX6_cup_36 : decode cX6_cup 36 = .ok (.getfield 200, 3) := by decide +kernel
theorem dX6_cup_39 : decode cX6_cup 39 = .ok (.if_icmp .ge 92, 3) := by decide +kernel
theorem dX6_cup_42 : decode cX6_cup 42 = .ok (.iconst 0, 1) := by decide +kernel
theorem dX6_cup_43 : decode cX6_cup 43 = .ok (.istore_n 3, 1) := by decide +kernel
theorem dX6_cup_44 : decode cX6_cup 44 = .ok (.iload_n 3, 1) := by decide +kernel
theorem dX6_cup_45 : decode cX6_cup 45 = .ok (.aload_n 0, 1) := by decide +kernel
theorem dX6_cup_46 : decode cX6_cup 46 = .ok (.getfield 72, 3) := by decide +kernel
theorem dX6_cup_49 : decode cX6_cup 49 = .ok (.iload_n 2, 1) := by decide +kernel
theorem dX6_cup_50 : decode cX6_cup 50 = .ok (.iaload, 1) := by decide +kernel
theorem dX6_cup_51 : decode cX6_cup 51 = .ok (.if_icmp .ge 74, 3) := by decide +kernel
theorem dX6_cup_54 : decode cX6_cup 54 = .ok (.aload_n 0, 1) := by decide +kernel
theorem dX6_cup_55 : decode cX6_cup 55 = .ok (.getfield 78, 3) := by decide +kernel
theorem dX6_cup_58 : decode cX6_cup 58 = .ok (.bipush 16, 2) := by decide +kernel
theorem dX6_cup_60 : decode cX6_cup 60 = .ok (.iload_n 2, 1) := by decide +kernel
theorem dX6_cup_61 : decode cX6_cup 61 = .ok (.imul, 1) := by decide +kernel
theorem dX6_cup_62 : decode cX6_cup 62 = .ok (.iload_n 3, 1) := by decide +kernel
theorem dX6_cup_63 : decode cX6_cup 63 = .ok (.iadd, 1) := by decide +kernel
theorem dX6_cup_64 : decode cX6_cup 64 = .ok (.iaload, 1) := by decide +kernel
theorem dX6_cup_65 : decode cX6_cup 65 = .ok (.istore 4, 2) := by decide +kernel
theorem dX6_cup_67 : decode cX6_cup 67 = .ok (.aload_n 0, 1) := by decide +kernel
theorem dX6_cup_68 : decode cX6_cup 68 = .ok (.getfield 108, 3) := by decide +kernel
theorem dX6_cup_71 : decode cX6_cup 71 = .ok (.bipush 16, 2) := by decide +kernel
theorem dX6_cup_73 : decode cX6_cup 73 = .ok (.iload_n 2, 1) := by decide +kernel
theorem dX6_cup_74 : decode cX6_cup 74 = .ok (.imul, 1) := by decide +kernel
theorem dX6_cup_75 : decode cX6_cup 75 = .ok (.iload 4, 2) := by decide +kernel
theorem dX6_cup_77 : decode cX6_cup 77 = .ok (.iadd, 1) := by decide +kernel
theorem dX6_cup_78 : decode cX6_cup 78 = .ok (.iaload, 1) := by decide +kernel
theorem dX6_cup_79 : decode cX6_cup 79 = .ok (.ifCond .ge 6, 3) := by decide +kernel
theorem dX6_cup_82 : decode cX6_cup 82 = .ok (.goto 37, 3) := by decide +kernel
theorem dX6_cup_85 : decode cX6_cup 85 = .ok (.bipush 21, 2) := by decide +kernel
theorem dX6_cup_87 : decode cX6_cup 87 = .ok (.aload_n 0, 1) := by decide +kernel
theorem dX6_cup_88 : decode cX6_cup 88 = .ok (.iload_n 2, 1) := by decide +kernel
theorem dX6_cup_89 : decode cX6_cup 89 = .ok (.iload 4, 2) := by decide +kernel
theorem dX6_cup_91 : decode cX6_cup 91 = .ok (.iconst 0, 1) := by decide +kernel
theorem dX6_cup_92 : decode cX6_cup 92 = .ok (.invokevirtual 248, 3) := by decide +kernel
theorem dX6_cup_95 : decode cX6_cup 95 = .ok (.isub, 1) := by decide +kernel
theorem dX6_cup_96 : decode cX6_cup 96 = .ok (.istore 5, 2) := by decide +kernel
theorem dX6_cup_98 : decode cX6_cup 98 = .ok (.aload_n 0, 1) := by decide +kernel
theorem dX6_cup_99 : decode cX6_cup 99 = .ok (.getfield 123, 3) := by decide +kernel
theorem dX6_cup_102 : decode cX6_cup 102 = .ok (.iload 4, 2) := by decide +kernel
theorem dX6_cup_104 : decode cX6_cup 104 = .ok (.dup2, 1) := by decide +kernel
theorem dX6_cup_105 : decode cX6_cup 105 = .ok (.iaload, 1) := by decide +kernel
theorem dX6_cup_106 : decode cX6_cup 106 = .ok (.iload 5, 2) := by decide +kernel
theorem dX6_cup_108 : decode cX6_cup 108 = .ok (.ifCond .le 8, 3) := by decide +kernel
theorem dX6_cup_111 : decode cX6_cup 111 = .ok (.iload 5, 2) := by decide +kernel
theorem dX6_cup_113 : decode cX6_cup 113 = .ok (.goto 4, 3) := by decide +kernel
theorem dX6_cup_116 : decode cX6_cup 116 = .ok (.iconst 0, 1) := by decide +kernel
theorem dX6_cup_117 : decode cX6_cup 117 = .ok (.iadd, 1) := by decide +kernel
theorem dX6_cup_118 : decode cX6_cup 118 = .ok (.iastore, 1) := by decide +kernel
theorem dX6_cup_119 : decode cX6_cup 119 = .ok (.iinc 3 1, 3) := by decide +kernel
theorem dX6_cup_122 : decode cX6_cup 122 = .ok (.goto (-78), 3) := by decide +kernel
theorem dX6_cup_125 : decode cX6_cup 125 = .ok (.iinc 2 1, 3) := by decide +kernel
theorem dX6_cup_128 : decode cX6_cup 128 = .ok (.goto (-94), 3) := by decide +kernel
theorem dX6_cup_131 : decode cX6_cup 131 = .ok (.return_, 1) := by decide +kernel
theorem dX6_stands_0 : decode cX6_stands 0 = .ok (.iconst 1, 1) := by decide +kernel
theorem dX6_stands_1 : decode cX6_stands 1 = .ok (.istore_n 2, 1) := by decide +kernel
theorem dX6_stands_2 : decode cX6_stands 2 = .ok (.iconst 0, 1) := by decide +kernel
theorem dX6_stands_3 : decode cX6_stands 3 = .ok (.istore_n 3, 1) := by decide +kernel
theorem dX6_stands_4 : decode cX6_stands 4 = .ok (.iload_n 3, 1) := by decide +kernel
theorem dX6_stands_5 : decode cX6_stands 5 = .ok (.aload_n 0, 1) := by decide +kernel
theorem dX6_stands_6 : decode cX6_stands 6 = .ok (.getfield 197, 3) := by decide +kernel
theorem dX6_stands_9 : decode cX6_stands 9 = .ok (.if_icmp .ge 32, 3) := by decide +kernel
theorem dX6_stands_12 : decode cX6_stands 12 = .ok (.iload_n 2, 1) := by decide +kernel
theorem dX6_stands_13 : decode cX6_stands 13 = .ok (.aload_n 0, 1) := by decide +kernel
theorem dX6_stands_14 : decode cX6_stands 14 = .ok (.getfield 123, 3) := by decide +kernel
theorem dX6_stands_17 : decode cX6_stands 17 = .ok (.iload_n 3, 1) := by decide +kernel
theorem dX6_stands_18 : decode cX6_stands 18 = .ok (.iaload, 1) := by decide +kernel
theorem dX6_stands_19 : decode cX6_stands 19 = .ok (.aload_n 0, 1) := by decide +kernel
theorem dX6_stands_20 : decode cX6_stands 20 = .ok (.getfield 123, 3) := by decide +kernel
theorem dX6_stands_23 : decode cX6_stands 23 = .ok (.iload_n 1, 1) := by decide +kernel
theorem dX6_stands_24 : decode cX6_stands 24 = .ok (.iaload, 1) := by decide +kernel
theorem dX6_stands_25 : decode cX6_stands 25 = .ok (.if_icmp .le 7, 3) := by decide +kernel
theorem dX6_stands_28 : decode cX6_stands 28 = .ok (.iconst 1, 1) := by decide +kernel
theorem dX6_stands_29 : decode cX6_stands 29 = .ok (.goto 4, 3) := by decide +kernel
theorem dX6_stands_32 : decode cX6_stands 32 = .ok (.iconst 0, 1) := by decide +kernel
theorem dX6_stands_33 : decode cX6_stands 33 = .ok (.iadd, 1) := by decide +kernel
theorem dX6_stands_34 : decode cX6_stands 34 = .ok (.istore_n 2, 1) := by decide +kernel
theorem dX6_stands_35 : decode cX6_stands 35 = .ok (.iinc 3 1, 3) := by decide +kernel
theorem dX6_stands_38 : decode cX6_stands 38 = .ok (.goto (-34), 3) := by decide +kernel
theorem dX6_stands_41 : decode cX6_stands 41 = .ok (.iload_n 2, 1) := by decide +kernel
theorem dX6_stands_42 : decode cX6_stands 42 = .ok (.ireturn, 1) := by decide +kernel
theorem dX6_points_0 : decode cX6_points 0 = .ok (.aload_n 0, 1) := by decide +kernel
theorem dX6_points_1 : decode cX6_points 1 = .ok (.iconst 0, 1) := by decide +kernel
theorem dX6_points_2 : decode cX6_points 2 = .ok (.putfield 126, 3) := by decide +kernel
theorem dX6_points_5 : decode cX6_points 5 = .ok (.aload_n 0, 1) := by decide +kernel
theorem dX6_points_6 : decode cX6_points 6 = .ok (.iload_n 1, 1) := by decide +kernel
theorem dX6_points_7 : decode cX6_points 7 = .ok (.invokevirtual 206, 3) := by decide +kernel
theorem dX6_points_10 : decode cX6_points 10 = .ok (.ifCond .eq 11, 3) := by decide +kernel
theorem dX6_points_13 : decode cX6_points 13 = .ok (.aload_n 0, 1) := by decide +kernel
theorem dX6_points_14 : decode cX6_points 14 = .ok (.iload_n 2, 1) := by decide +kernel
theorem dX6_points_15 : decode cX6_points 15 = .ok (.invokevirtual 241, 3) := by decide +kernel
theorem dX6_points_18 : decode cX6_points 18 = .ok (.ifCond .ne 5, 3) := by decide +kernel
theorem dX6_points_21 : decode cX6_points 21 = .ok (.iconst (-1), 1) := by decide +kernel
theorem dX6_points_22 : decode cX6_points 22 = .ok (.ireturn, 1) := by decide +kernel
theorem dX6_points_23 : decode cX6_points 23 = .ok (.aload_n 0, 1) := by decide +kernel
theorem dX6_points_24 : decode cX6_points 24 = .ok (.iload_n 2, 1) := by decide +kernel
theorem dX6_points_25 : decode cX6_points 25 = .ok (.invokevirtual 252, 3) := by decide +kernel
theorem dX6_points_28 : decode cX6_points 28 = .ok (.aload_n 0, 1) := by decide +kernel
theorem dX6_points_29 : decode cX6_points 29 = .ok (.getfield 123, 3) := by decide +kernel
theorem dX6_points_32 : decode cX6_points 32 = .ok (.iload_n 1, 1) := by decide +kernel
theorem dX6_points_33 : decode cX6_points 33 = .ok (.iaload, 1) := by decide +kernel
theorem dX6_points_34 : decode cX6_points 34 = .ok (.ireturn, 1) := by decide +kernel
theorem dX6_standing_0 : decode cX6_standing 0 = .ok (.aload_n 0, 1) := by decide +kernel
theorem dX6_standing_1 : decode cX6_standing 1 = .ok (.iconst 0, 1) := by decide +kernel
theorem dX6_standing_2 : decode cX6_standing 2 = .ok (.putfield 126, 3) := by decide +kernel
theorem dX6_standing_5 : decode cX6_standing 5 = .ok (.aload_n 0, 1) := by decide +kernel
theorem dX6_standing_6 : decode cX6_standing 6 = .ok (.iload_n 1, 1) := by decide +kernel
theorem dX6_standing_7 : decode cX6_standing 7 = .ok (.invokevirtual 206, 3) := by decide +kernel
theorem dX6_standing_10 : decode cX6_standing 10 = .ok (.ifCond .eq 11, 3) := by decide +kernel
theorem dX6_standing_13 : decode cX6_standing 13 = .ok (.aload_n 0, 1) := by decide +kernel
theorem dX6_standing_14 : decode cX6_standing 14 = .ok (.iload_n 2, 1) := by decide +kernel
theorem dX6_standing_15 : decode cX6_standing 15 = .ok (.invokevirtual 241, 3) := by decide +kernel
theorem dX6_standing_18 : decode cX6_standing 18 = .ok (.ifCond .ne 5, 3) := by decide +kernel
theorem dX6_standing_21 : decode cX6_standing 21 = .ok (.iconst (-1), 1) := by decide +kernel
theorem dX6_standing_22 : decode cX6_standing 22 = .ok (.ireturn, 1) := by decide +kernel
theorem dX6_standing_23 : decode cX6_standing 23 = .ok (.aload_n 0, 1) := by decide +kernel
theorem dX6_standing_24 : decode cX6_standing 24 = .ok (.iload_n 2, 1) := by decide +kernel
theorem dX6_standing_25 : decode cX6_standing 25 = .ok (.invokevirtual 252, 3) := by decide +kernel
theorem dX6_standing_28 : decode cX6_standing 28 = .ok (.aload_n 0, 1) := by decide +kernel
theorem dX6_standing_29 : decode cX6_standing 29 = .ok (.iload_n 1, 1) := by decide +kernel
theorem dX6_standing_30 : decode cX6_standing 30 = .ok (.invokevirtual 256, 3) := by decide +kernel
theorem dX6_standing_33 : decode cX6_standing 33 = .ok (.ireturn, 1) := by decide +kernel
theorem dX6_starters_0 : decode cX6_starters 0 = .ok (.aload_n 0, 1) := by decide +kernel
theorem dX6_starters_1 : decode cX6_starters 1 = .ok (.iconst 0, 1) := by decide +kernel
theorem dX6_starters_2 : decode cX6_starters 2 = .ok (.putfield 126, 3) := by decide +kernel
theorem dX6_starters_5 : decode cX6_starters 5 = .ok (.iload_n 1, 1) := by decide +kernel
theorem dX6_starters_6 : decode cX6_starters 6 = .ok (.ifCond .lt 17, 3) := by decide +kernel
theorem dX6_starters_9 : decode cX6_starters 9 = .ok (.iload_n 1, 1) := by decide +kernel
theorem dX6_starters_10 : decode cX6_starters 10 = .ok (.bipush 7, 2) := by decide +kernel
theorem dX6_starters_12 : decode cX6_starters 12 = .ok (.if_icmp .gt 11, 3) := by decide +kernel
theorem dX6_starters_15 : decode cX6_starters 15 = .ok (.aload_n 0, 1) := by decide +kernel
theorem dX6_starters_16 : decode cX6_starters 16 = .ok (.iload_n 2, 1) := by decide +kernel
theorem dX6_starters_17 : decode cX6_starters 17 = .ok (.invokevirtual 241, 3) := by decide +kernel
theorem dX6_starters_20 : decode cX6_starters 20 = .ok (.ifCond .ne 5, 3) := by decide +kernel
theorem dX6_starters_23 : decode cX6_starters 23 = .ok (.iconst (-1), 1) := by decide +kernel
theorem dX6_starters_24 : decode cX6_starters 24 = .ok (.ireturn, 1) := by decide +kernel
theorem dX6_starters_25 : decode cX6_starters 25 = .ok (.aload_n 0, 1) := by decide +kernel
theorem dX6_starters_26 : decode cX6_starters 26 = .ok (.iload_n 2, 1) := by decide +kernel
theorem dX6_starters_27 : decode cX6_starters 27 = .ok (.invokevirtual 252, 3) := by decide +kernel
theorem dX6_starters_30 : decode cX6_starters 30 = .ok (.iconst 2, 1) := by decide +kernel
theorem dX6_starters_31 : decode cX6_starters 31 = .ok (.istore_n 3, 1) := by decide +kernel
theorem dX6_starters_32 : decode cX6_starters 32 = .ok (.iconst 0, 1) := by decide +kernel
theorem dX6_starters_33 : decode cX6_starters 33 = .ok (.istore 4, 2) := by decide +kernel
theorem dX6_starters_35 : decode cX6_starters 35 = .ok (.iload 4, 2) := by decide +kernel
theorem dX6_starters_37 : decode cX6_starters 37 = .ok (.aload_n 0, 1) := by decide +kernel
theorem dX6_starters_38 : decode cX6_starters 38 = .ok (.getfield 197, 3) := by decide +kernel
theorem dX6_starters_41 : decode cX6_starters 41 = .ok (.if_icmp .ge 48, 3) := by decide +kernel
theorem dX6_starters_44 : decode cX6_starters 44 = .ok (.iload_n 3, 1) := by decide +kernel
theorem dX6_starters_45 : decode cX6_starters 45 = .ok (.aload_n 0, 1) := by decide +kernel
theorem dX6_starters_46 : decode cX6_starters 46 = .ok (.getfield 42, 3) := by decide +kernel
theorem dX6_starters_49 : decode cX6_starters 49 = .ok (.iload 4, 2) := by decide +kernel
theorem dX6_starters_51 : decode cX6_starters 51 = .ok (.iaload, 1) := by decide +kernel
theorem dX6_starters_52 : decode cX6_starters 52 = .ok (.iload_n 1, 1) := by decide +kernel
theorem dX6_starters_53 : decode cX6_starters 53 = .ok (.if_icmp .ne 27, 3) := by decide +kernel
theorem dX6_starters_56 : decode cX6_starters 56 = .ok (.aload_n 0, 1) := by decide +kernel
theorem dX6_starters_57 : decode cX6_starters 57 = .ok (.getfield 123, 3) := by decide +kernel
theorem dX6_starters_60 : decode cX6_starters 60 = .ok (.iload 4, 2) := by decide +kernel
theorem dX6_starters_62 : decode cX6_starters 62 = .ok (.iaload, 1) := by decide +kernel
theorem dX6_starters_63 : decode cX6_starters 63 = .ok (.ifCond .le 17, 3) := by decide +kernel
theorem dX6_starters_66 : decode cX6_starters 66 = .ok (.aload_n 0, 1) := by decide +kernel
theorem dX6_starters_67 : decode cX6_starters 67 = .ok (.iload 4, 2) := by decide +kernel
theorem dX6_starters_69 : decode cX6_starters 69 = .ok (.invokevirtual 256, 3) := by decide +kernel
theorem dX6_starters_72 : decode cX6_starters 72 = .ok (.iconst 5, 1) := by decide +kernel
theorem dX6_starters_73 : decode cX6_starters 73 = .ok (.if_icmp .gt 7, 3) := by decide +kernel
theorem dX6_starters_76 : decode cX6_starters 76 = .ok (.iconst 1, 1) := by decide +kernel
theorem dX6_starters_77 : decode cX6_starters 77 = .ok (.goto 4, 3) := by decide +kernel
theorem dX6_starters_80 : decode cX6_starters 80 = .ok (.iconst 0, 1) := by decide +kernel
theorem dX6_starters_81 : decode cX6_starters 81 = .ok (.iadd, 1) := by decide +kernel
theorem dX6_starters_82 : decode cX6_starters 82 = .ok (.istore_n 3, 1) := by decide +kernel
theorem dX6_starters_83 : decode cX6_starters 83 = .ok (.iinc 4 1, 3) := by decide +kernel
theorem dX6_starters_86 : decode cX6_starters 86 = .ok (.goto (-51), 3) := by decide +kernel
theorem dX6_starters_89 : decode cX6_starters 89 = .ok (.iload_n 3, 1) := by decide +kernel
theorem dX6_starters_90 : decode cX6_starters 90 = .ok (.iconst 4, 1) := by decide +kernel
theorem dX6_starters_91 : decode cX6_starters 91 = .ok (.if_icmp .le 7, 3) := by decide +kernel
theorem dX6_starters_94 : decode cX6_starters 94 = .ok (.iconst 4, 1) := by decide +kernel
theorem dX6_starters_95 : decode cX6_starters 95 = .ok (.goto 4, 3) := by decide +kernel
theorem dX6_starters_98 : decode cX6_starters 98 = .ok (.iload_n 3, 1) := by decide +kernel
theorem dX6_starters_99 : decode cX6_starters 99 = .ok (.ireturn, 1) := by decide +kernel
theorem dX6_count_0 : decode cX6_count 0 = .ok (.aload_n 0, 1) := by decide +kernel
theorem dX6_count_1 : decode cX6_count 1 = .ok (.iconst 0, 1) := by decide +kernel
theorem dX6_count_2 : decode cX6_count 2 = .ok (.putfield 126, 3) := by decide +kernel
theorem dX6_count_5 : decode cX6_count 5 = .ok (.iload_n 1, 1) := by decide +kernel
theorem dX6_count_6 : decode cX6_count 6 = .ok (.tableswitch 59 0 4 #[34, 39, 44, 49, 54], 34) := by decide +kernel
theorem dX6_count_40 : decode cX6_count 40 = .ok (.aload_n 0, 1) := by decide +kernel
theorem dX6_count_41 : decode cX6_count 41 = .ok (.getfield 194, 3) := by decide +kernel
theorem dX6_count_44 : decode cX6_count 44 = .ok (.ireturn, 1) := by decide +kernel
theorem dX6_count_45 : decode cX6_count 45 = .ok (.aload_n 0, 1) := by decide +kernel
theorem dX6_count_46 : decode cX6_count 46 = .ok (.getfield 191, 3) := by decide +kernel
theorem dX6_count_49 : decode cX6_count 49 = .ok (.ireturn, 1) := by decide +kernel
theorem dX6_count_50 : decode cX6_count 50 = .ok (.aload_n 0, 1) := by decide +kernel
theorem dX6_count_51 : decode cX6_count 51 = .ok (.getfield 197, 3) := by decide +kernel
theorem dX6_count_54 : decode cX6_count 54 = .ok (.ireturn, 1) := by decide +kernel
theorem dX6_count_55 : decode cX6_count 55 = .ok (.aload_n 0, 1) := by decide +kernel
theorem dX6_count_56 : decode cX6_count 56 = .ok (.getfield 200, 3) := by decide +kernel
theorem dX6_count_59 : decode cX6_count 59 = .ok (.ireturn, 1) := by decide +kernel
theorem dX6_count_60 : decode cX6_count 60 = .ok (.aload_n 0, 1) := by decide +kernel
theorem dX6_count_61 : decode cX6_count 61 = .ok (.getfield 217, 3) := by decide +kernel
theorem dX6_count_64 : decode cX6_count 64 = .ok (.ireturn, 1) := by decide +kernel
theorem dX6_count_65 : decode cX6_count 65 = .ok (.iconst (-1), 1) := by decide +kernel
theorem dX6_count_66 : decode cX6_count 66 = .ok (.ireturn, 1) := by decide +kernel
theorem dJ6_bitCount_0f7a4_0 : decode cJ6_bitCount_0f7a4 0 = .ok (.iload_n 0, 1) := by decide +kernel
theorem dJ6_bitCount_0f7a4_1 : decode cJ6_bitCount_0f7a4 1 = .ok (.iload_n 0, 1) := by decide +kernel
theorem dJ6_bitCount_0f7a4_2 : decode cJ6_bitCount_0f7a4 2 = .ok (.iconst 1, 1) := by decide +kernel
theorem dJ6_bitCount_0f7a4_3 : decode cJ6_bitCount_0f7a4 3 = .ok (.iushr, 1) := by decide +kernel
theorem dJ6_bitCount_0f7a4_4 : decode cJ6_bitCount_0f7a4 4 = .ok (.ldc_w 265, 3) := by decide +kernel
theorem dJ6_bitCount_0f7a4_7 : decode cJ6_bitCount_0f7a4 7 = .ok (.iand, 1) := by decide +kernel
theorem dJ6_bitCount_0f7a4_8 : decode cJ6_bitCount_0f7a4 8 = .ok (.isub, 1) := by decide +kernel
theorem dJ6_bitCount_0f7a4_9 : decode cJ6_bitCount_0f7a4 9 = .ok (.istore_n 0, 1) := by decide +kernel
theorem dJ6_bitCount_0f7a4_10 : decode cJ6_bitCount_0f7a4 10 = .ok (.iload_n 0, 1) := by decide +kernel
theorem dJ6_bitCount_0f7a4_11 : decode cJ6_bitCount_0f7a4 11 = .ok (.ldc_w 266, 3) := by decide +kernel
theorem dJ6_bitCount_0f7a4_14 : decode cJ6_bitCount_0f7a4 14 = .ok (.iand, 1) := by decide +kernel
theorem dJ6_bitCount_0f7a4_15 : decode cJ6_bitCount_0f7a4 15 = .ok (.iload_n 0, 1) := by decide +kernel
theorem dJ6_bitCount_0f7a4_16 : decode cJ6_bitCount_0f7a4 16 = .ok (.iconst 2, 1) := by decide +kernel
theorem dJ6_bitCount_0f7a4_17 : decode cJ6_bitCount_0f7a4 17 = .ok (.iushr, 1) := by decide +kernel
theorem dJ6_bitCount_0f7a4_18 : decode cJ6_bitCount_0f7a4 18 = .ok (.ldc_w 266, 3) := by decide +kernel
theorem dJ6_bitCount_0f7a4_21 : decode cJ6_bitCount_0f7a4 21 = .ok (.iand, 1) := by decide +kernel
theorem dJ6_bitCount_0f7a4_22 : decode cJ6_bitCount_0f7a4 22 = .ok (.iadd, 1) := by decide +kernel
theorem dJ6_bitCount_0f7a4_23 : decode cJ6_bitCount_0f7a4 23 = .ok (.istore_n 0, 1) := by decide +kernel
theorem dJ6_bitCount_0f7a4_24 : decode cJ6_bitCount_0f7a4 24 = .ok (.iload_n 0, 1) := by decide +kernel
theorem dJ6_bitCount_0f7a4_25 : decode cJ6_bitCount_0f7a4 25 = .ok (.iload_n 0, 1) := by decide +kernel
theorem dJ6_bitCount_0f7a4_26 : decode cJ6_bitCount_0f7a4 26 = .ok (.iconst 4, 1) := by decide +kernel
theorem dJ6_bitCount_0f7a4_27 : decode cJ6_bitCount_0f7a4 27 = .ok (.iushr, 1) := by decide +kernel
theorem dJ6_bitCount_0f7a4_28 : decode cJ6_bitCount_0f7a4 28 = .ok (.iadd, 1) := by decide +kernel
theorem dJ6_bitCount_0f7a4_29 : decode cJ6_bitCount_0f7a4 29 = .ok (.ldc_w 267, 3) := by decide +kernel
theorem dJ6_bitCount_0f7a4_32 : decode cJ6_bitCount_0f7a4 32 = .ok (.iand, 1) := by decide +kernel
theorem dJ6_bitCount_0f7a4_33 : decode cJ6_bitCount_0f7a4 33 = .ok (.istore_n 0, 1) := by decide +kernel
theorem dJ6_bitCount_0f7a4_34 : decode cJ6_bitCount_0f7a4 34 = .ok (.iload_n 0, 1) := by decide +kernel
theorem dJ6_bitCount_0f7a4_35 : decode cJ6_bitCount_0f7a4 35 = .ok (.iload_n 0, 1) := by decide +kernel
theorem dJ6_bitCount_0f7a4_36 : decode cJ6_bitCount_0f7a4 36 = .ok (.bipush 8, 2) := by decide +kernel
theorem dJ6_bitCount_0f7a4_38 : decode cJ6_bitCount_0f7a4 38 = .ok (.iushr, 1) := by decide +kernel
theorem dJ6_bitCount_0f7a4_39 : decode cJ6_bitCount_0f7a4 39 = .ok (.iadd, 1) := by decide +kernel
theorem dJ6_bitCount_0f7a4_40 : decode cJ6_bitCount_0f7a4 40 = .ok (.istore_n 0, 1) := by decide +kernel
theorem dJ6_bitCount_0f7a4_41 : decode cJ6_bitCount_0f7a4 41 = .ok (.iload_n 0, 1) := by decide +kernel
theorem dJ6_bitCount_0f7a4_42 : decode cJ6_bitCount_0f7a4 42 = .ok (.iload_n 0, 1) := by decide +kernel
theorem dJ6_bitCount_0f7a4_43 : decode cJ6_bitCount_0f7a4 43 = .ok (.bipush 16, 2) := by decide +kernel
theorem dJ6_bitCount_0f7a4_45 : decode cJ6_bitCount_0f7a4 45 = .ok (.iushr, 1) := by decide +kernel
theorem dJ6_bitCount_0f7a4_46 : decode cJ6_bitCount_0f7a4 46 = .ok (.iadd, 1) := by decide +kernel
theorem dJ6_bitCount_0f7a4_47 : decode cJ6_bitCount_0f7a4 47 = .ok (.istore_n 0, 1) := by decide +kernel
theorem dJ6_bitCount_0f7a4_48 : decode cJ6_bitCount_0f7a4 48 = .ok (.iload_n 0, 1) := by decide +kernel
theorem dJ6_bitCount_0f7a4_49 : decode cJ6_bitCount_0f7a4 49 = .ok (.bipush 63, 2) := by decide +kernel
theorem dJ6_bitCount_0f7a4_51 : decode cJ6_bitCount_0f7a4 51 = .ok (.iand, 1) := by decide +kernel
theorem dJ6_bitCount_0f7a4_52 : decode cJ6_bitCount_0f7a4 52 = .ok (.ireturn, 1) := by decide +kernel
theorem dJ9_max_7cf53_0 : decode cJ9_max_7cf53 0 = .ok (.iload_n 0, 1) := by decide +kernel
theorem dJ9_max_7cf53_1 : decode cJ9_max_7cf53 1 = .ok (.iload_n 1, 1) := by decide +kernel
theorem dJ9_max_7cf53_2 : decode cJ9_max_7cf53 2 = .ok (.if_icmp .lt 7, 3) := by decide +kernel
theorem dJ9_max_7cf53_5 : decode cJ9_max_7cf53 5 = .ok (.iload_n 0, 1) := by decide +kernel
theorem dJ9_max_7cf53_6 : decode cJ9_max_7cf53 6 = .ok (.goto 4, 3) := by decide +kernel
theorem dJ9_max_7cf53_9 : decode cJ9_max_7cf53 9 = .ok (.iload_n 1, 1) := by decide +kernel
theorem dJ9_max_7cf53_10 : decode cJ9_max_7cf53 10 = .ok (.ireturn, 1) := by decide +kernel
theorem dJ9_min_7cf53_0 : decode cJ9_min_7cf53 0 = .ok (.iload_n 0, 1) := by decide +kernel
theorem dJ9_min_7cf53_1 : decode cJ9_min_7cf53 1 = .ok (.iload_n 1, 1) := by decide +kernel
theorem dJ9_min_7cf53_2 : decode cJ9_min_7cf53 2 = .ok (.if_icmp .gt 7, 3) := by decide +kernel
theorem dJ9_min_7cf53_5 : decode cJ9_min_7cf53 5 = .ok (.iload_n 0, 1) := by decide +kernel
theorem dJ9_min_7cf53_6 : decode cJ9_min_7cf53 6 = .ok (.goto 4, 3) := by decide +kernel
theorem dJ9_min_7cf53_9 : decode cJ9_min_7cf53 9 = .ok (.iload_n 1, 1) := by decide +kernel
theorem dJ9_min_7cf53_10 : decode cJ9_min_7cf53 10 = .ok (.ireturn, 1) := by decide +kernel
theorem dJ0_length_8abf5_0 : decode cJ0_length_8abf5 0 = .ok (.aload_n 0, 1) := by decide +kernel
theorem dJ0_length_8abf5_1 : decode cJ0_length_8abf5 1 = .ok (.getfield 9, 3) := by decide +kernel
theorem dJ0_length_8abf5_4 : decode cJ0_length_8abf5 4 = .ok (.arraylength, 1) := by decide +kernel
theorem dJ0_length_8abf5_5 : decode cJ0_length_8abf5 5 = .ok (.aload_n 0, 1) := by decide +kernel
theorem dJ0_length_8abf5_6 : decode cJ0_length_8abf5 6 = .ok (.invokevirtual 335, 3) := by decide +kernel
theorem dJ0_length_8abf5_9 : decode cJ0_length_8abf5 9 = .ok (.ishr, 1) := by decide +kernel
theorem dJ0_length_8abf5_10 : decode cJ0_length_8abf5 10 = .ok (.ireturn, 1) := by decide +kernel
theorem dJ0_charAt_5068e_0 : decode cJ0_charAt_5068e 0 = .ok (.aload_n 0, 1) := by decide +kernel
theorem dJ0_charAt_5068e_1 : decode cJ0_charAt_5068e 1 = .ok (.invokevirtual 492, 3) := by decide +kernel
theorem dJ0_charAt_5068e_4 : decode cJ0_charAt_5068e 4 = .ok (.ifCond .eq 12, 3) := by decide +kernel
theorem dJ0_charAt_5068e_7 : decode cJ0_charAt_5068e 7 = .ok (.aload_n 0, 1) := by decide +kernel
theorem dJ0_charAt_5068e_8 : decode cJ0_charAt_5068e 8 = .ok (.getfield 9, 3) := by decide +kernel
theorem dJ0_charAt_5068e_11 : decode cJ0_charAt_5068e 11 = .ok (.iload_n 1, 1) := by decide +kernel
theorem dJ0_charAt_5068e_12 : decode cJ0_charAt_5068e 12 = .ok (.invokestatic 495, 3) := by decide +kernel
theorem dJ0_charAt_5068e_15 : decode cJ0_charAt_5068e 15 = .ok (.ireturn, 1) := by decide +kernel
theorem dJ0_charAt_5068e_16 : decode cJ0_charAt_5068e 16 = .ok (.aload_n 0, 1) := by decide +kernel
theorem dJ0_charAt_5068e_17 : decode cJ0_charAt_5068e 17 = .ok (.getfield 9, 3) := by decide +kernel
theorem dJ0_charAt_5068e_20 : decode cJ0_charAt_5068e 20 = .ok (.iload_n 1, 1) := by decide +kernel
theorem dJ0_charAt_5068e_21 : decode cJ0_charAt_5068e 21 = .ok (.invokestatic 498, 3) := by decide +kernel
theorem dJ0_charAt_5068e_24 : decode cJ0_charAt_5068e 24 = .ok (.ireturn, 1) := by decide +kernel
theorem dJ0_coder_7d493_0 : decode cJ0_coder_7d493 0 = .ok (.getstatic 38, 3) := by decide +kernel
theorem dJ0_coder_7d493_3 : decode cJ0_coder_7d493 3 = .ok (.ifCond .eq 10, 3) := by decide +kernel
theorem dJ0_coder_7d493_6 : decode cJ0_coder_7d493 6 = .ok (.aload_n 0, 1) := by decide +kernel
theorem dJ0_coder_7d493_7 : decode cJ0_coder_7d493 7 = .ok (.getfield 15, 3) := by decide +kernel
theorem dJ0_coder_7d493_10 : decode cJ0_coder_7d493 10 = .ok (.goto 4, 3) := by decide +kernel
theorem dJ0_coder_7d493_13 : decode cJ0_coder_7d493 13 = .ok (.iconst 1, 1) := by decide +kernel
theorem dJ0_coder_7d493_14 : decode cJ0_coder_7d493 14 = .ok (.ireturn, 1) := by decide +kernel
theorem dJ0_isLatin1_aae02_0 : decode cJ0_isLatin1_aae02 0 = .ok (.getstatic 38, 3) := by decide +kernel
theorem dJ0_isLatin1_aae02_3 : decode cJ0_isLatin1_aae02 3 = .ok (.ifCond .eq 14, 3) := by decide +kernel
theorem dJ0_isLatin1_aae02_6 : decode cJ0_isLatin1_aae02 6 = .ok (.aload_n 0, 1) := by decide +kernel
theorem dJ0_isLatin1_aae02_7 : decode cJ0_isLatin1_aae02 7 = .ok (.getfield 15, 3) := by decide +kernel
theorem dJ0_isLatin1_aae02_10 : decode cJ0_isLatin1_aae02 10 = .ok (.ifCond .ne 7, 3) := by decide +kernel
theorem dJ0_isLatin1_aae02_13 : decode cJ0_isLatin1_aae02 13 = .ok (.iconst 1, 1) := by decide +kernel
theorem dJ0_isLatin1_aae02_14 : decode cJ0_isLatin1_aae02 14 = .ok (.goto 4, 3) := by decide +kernel
theorem dJ0_isLatin1_aae02_17 : decode cJ0_isLatin1_aae02 17 = .ok (.iconst 0, 1) := by decide +kernel
theorem dJ0_isLatin1_aae02_18 : decode cJ0_isLatin1_aae02 18 = .ok (.ireturn, 1) := by decide +kernel
theorem dJ0_checkIndex_df160_0 : decode cJ0_checkIndex_df160 0 = .ok (.iload_n 0, 1) := by decide +kernel
theorem dJ0_checkIndex_df160_1 : decode cJ0_checkIndex_df160 1 = .ok (.iload_n 1, 1) := by decide +kernel
theorem dJ0_checkIndex_df160_2 : decode cJ0_checkIndex_df160 2 = .ok (.getstatic 1053, 3) := by decide +kernel
theorem dJ0_checkIndex_df160_5 : decode cJ0_checkIndex_df160 5 = .ok (.invokestatic 1059, 3) := by decide +kernel
theorem dJ0_checkIndex_df160_8 : decode cJ0_checkIndex_df160 8 = .ok (.pop, 1) := by decide +kernel
theorem dJ0_checkIndex_df160_9 : decode cJ0_checkIndex_df160 9 = .ok (.return_, 1) := by decide +kernel
theorem dJ1_charAt_3b067_0 : decode cJ1_charAt_3b067 0 = .ok (.iload_n 1, 1) := by decide +kernel
theorem dJ1_charAt_3b067_1 : decode cJ1_charAt_3b067 1 = .ok (.aload_n 0, 1) := by decide +kernel
theorem dJ1_charAt_3b067_2 : decode cJ1_charAt_3b067 2 = .ok (.arraylength, 1) := by decide +kernel
theorem dJ1_charAt_3b067_3 : decode cJ1_charAt_3b067 3 = .ok (.invokestatic 9, 3) := by decide +kernel
theorem dJ1_charAt_3b067_6 : decode cJ1_charAt_3b067 6 = .ok (.aload_n 0, 1) := by decide +kernel
theorem dJ1_charAt_3b067_7 : decode cJ1_charAt_3b067 7 = .ok (.iload_n 1, 1) := by decide +kernel
theorem dJ1_charAt_3b067_8 : decode cJ1_charAt_3b067 8 = .ok (.baload, 1) := by decide +kernel
theorem dJ1_charAt_3b067_9 : decode cJ1_charAt_3b067 9 = .ok (.sipush 255, 3) := by decide +kernel
theorem dJ1_charAt_3b067_12 : decode cJ1_charAt_3b067 12 = .ok (.iand, 1) := by decide +kernel
theorem dJ1_charAt_3b067_13 : decode cJ1_charAt_3b067 13 = .ok (.i2c, 1) := by decide +kernel
theorem dJ1_charAt_3b067_14 : decode cJ1_charAt_3b067 14 = .ok (.ireturn, 1) := by decide +kernel
theorem dJ2_getChar_3b067_0 : decode cJ2_getChar_3b067 0 = .ok (.getstatic 44, 3) := by decide +kernel
theorem dJ2_getChar_3b067_3 : decode cJ2_getChar_3b067 3 = .ok (.ifCond .ne 25, 3) := by decide +kernel
theorem dJ2_getChar_3b067_6 : decode cJ2_getChar_3b067 6 = .ok (.iload_n 1, 1) := by decide +kernel
theorem dJ2_getChar_3b067_7 : decode cJ2_getChar_3b067 7 = .ok (.ifCond .lt 11, 3) := by decide +kernel
theorem dJ2_getChar_3b067_10 : decode cJ2_getChar_3b067 10 = .ok (.iload_n 1, 1) := by decide +kernel
theorem dJ2_getChar_3b067_11 : decode cJ2_getChar_3b067 11 = .ok (.aload_n 0, 1) := by decide +kernel
theorem dJ2_getChar_3b067_12 : decode cJ2_getChar_3b067 12 = .ok (.invokestatic 48, 3) := by decide +kernel
theorem dJ2_getChar_3b067_15 : decode cJ2_getChar_3b067 15 = .ok (.if_icmp .lt 13, 3) := by decide +kernel
theorem dJ2_getChar_3b067_18 : decode cJ2_getChar_3b067 18 = .ok (.new 52, 3) := by decide +kernel
theorem dJ2_getChar_3b067_21 : decode cJ2_getChar_3b067 21 = .ok (.dup, 1) := by decide +kernel
theorem dJ2_getChar_3b067_22 : decode cJ2_getChar_3b067 22 = .ok (.ldc 54, 2) := by decide +kernel
theorem dJ2_getChar_3b067_24 : decode cJ2_getChar_3b067 24 = .ok (.invokespecial 56, 3) := by decide +kernel
theorem dJ2_getChar_3b067_27 : decode cJ2_getChar_3b067 27 = .ok (.athrow, 1) := by decide +kernel
theorem dJ2_getChar_3b067_28 : decode cJ2_getChar_3b067 28 = .ok (.iload_n 1, 1) := by decide +kernel
theorem dJ2_getChar_3b067_29 : decode cJ2_getChar_3b067 29 = .ok (.iconst 1, 1) := by decide +kernel
theorem dJ2_getChar_3b067_30 : decode cJ2_getChar_3b067 30 = .ok (.ishl, 1) := by decide +kernel
theorem dJ2_getChar_3b067_31 : decode cJ2_getChar_3b067 31 = .ok (.istore_n 1, 1) := by decide +kernel
theorem dJ2_getChar_3b067_32 : decode cJ2_getChar_3b067 32 = .ok (.aload_n 0, 1) := by decide +kernel
theorem dJ2_getChar_3b067_33 : decode cJ2_getChar_3b067 33 = .ok (.iload_n 1, 1) := by decide +kernel
theorem dJ2_getChar_3b067_34 : decode cJ2_getChar_3b067 34 = .ok (.iinc 1 1, 3) := by decide +kernel
theorem dJ2_getChar_3b067_37 : decode cJ2_getChar_3b067 37 = .ok (.baload, 1) := by decide +kernel
theorem dJ2_getChar_3b067_38 : decode cJ2_getChar_3b067 38 = .ok (.sipush 255, 3) := by decide +kernel
theorem dJ2_getChar_3b067_41 : decode cJ2_getChar_3b067 41 = .ok (.iand, 1) := by decide +kernel
theorem dJ2_getChar_3b067_42 : decode cJ2_getChar_3b067 42 = .ok (.getstatic 59, 3) := by decide +kernel
theorem dJ2_getChar_3b067_45 : decode cJ2_getChar_3b067 45 = .ok (.ishl, 1) := by decide +kernel
theorem dJ2_getChar_3b067_46 : decode cJ2_getChar_3b067 46 = .ok (.aload_n 0, 1) := by decide +kernel
theorem dJ2_getChar_3b067_47 : decode cJ2_getChar_3b067 47 = .ok (.iload_n 1, 1) := by decide +kernel
theorem dJ2_getChar_3b067_48 : decode cJ2_getChar_3b067 48 = .ok (.baload, 1) := by decide +kernel
theorem dJ2_getChar_3b067_49 : decode cJ2_getChar_3b067 49 = .ok (.sipush 255, 3) := by decide +kernel
theorem dJ2_getChar_3b067_52 : decode cJ2_getChar_3b067 52 = .ok (.iand, 1) := by decide +kernel
theorem dJ2_getChar_3b067_53 : decode cJ2_getChar_3b067 53 = .ok (.getstatic 63, 3) := by decide +kernel
theorem dJ2_getChar_3b067_56 : decode cJ2_getChar_3b067 56 = .ok (.ishl, 1) := by decide +kernel
theorem dJ2_getChar_3b067_57 : decode cJ2_getChar_3b067 57 = .ok (.ior, 1) := by decide +kernel
theorem dJ2_getChar_3b067_58 : decode cJ2_getChar_3b067 58 = .ok (.i2c, 1) := by decide +kernel
theorem dJ2_getChar_3b067_59 : decode cJ2_getChar_3b067 59 = .ok (.ireturn, 1) := by decide +kernel
theorem dJ2_length_9d52b_0 : decode cJ2_length_9d52b 0 = .ok (.aload_n 0, 1) := by decide +kernel
theorem dJ2_length_9d52b_1 : decode cJ2_length_9d52b 1 = .ok (.arraylength, 1) := by decide +kernel
theorem dJ2_length_9d52b_2 : decode cJ2_length_9d52b 2 = .ok (.iconst 1, 1) := by decide +kernel
theorem dJ2_length_9d52b_3 : decode cJ2_length_9d52b 3 = .ok (.ishr, 1) := by decide +kernel
theorem dJ2_length_9d52b_4 : decode cJ2_length_9d52b 4 = .ok (.ireturn, 1) := by decide +kernel
theorem dJ2_charAt_3b067_0 : decode cJ2_charAt_3b067 0 = .ok (.iload_n 1, 1) := by decide +kernel
theorem dJ2_charAt_3b067_1 : decode cJ2_charAt_3b067 1 = .ok (.aload_n 0, 1) := by decide +kernel
theorem dJ2_charAt_3b067_2 : decode cJ2_charAt_3b067 2 = .ok (.invokestatic 67, 3) := by decide +kernel
theorem dJ2_charAt_3b067_5 : decode cJ2_charAt_3b067 5 = .ok (.aload_n 0, 1) := by decide +kernel
theorem dJ2_charAt_3b067_6 : decode cJ2_charAt_3b067 6 = .ok (.iload_n 1, 1) := by decide +kernel
end
section
theorem dJ2_charAt_3b067_7 : decode cJ2_charAt_3b067 7 = .ok (.invokestatic 71, 3) := by decide +kernel
theorem dJ2_charAt_3b067_10 : decode cJ2_charAt_3b067 10 = .ok (.ireturn, 1) := by decide +kernel
theorem dJ2_checkIndex_2214a_0 : decode cJ2_checkIndex_2214a 0 = .ok (.iload_n 0, 1) := by decide +kernel
theorem dJ2_checkIndex_2214a_1 : decode cJ2_checkIndex_2214a 1 = .ok (.aload_n 1, 1) := by decide +kernel
theorem dJ2_checkIndex_2214a_2 : decode cJ2_checkIndex_2214a 2 = .ok (.invokestatic 48, 3) := by decide +kernel
theorem dJ2_checkIndex_2214a_5 : decode cJ2_checkIndex_2214a 5 = .ok (.invokestatic 414, 3) := by decide +kernel
theorem dJ2_checkIndex_2214a_8 : decode cJ2_checkIndex_2214a 8 = .ok (.return_, 1) := by decide +kernel
theorem dJ3_checkIndex_8e157_0 : decode cJ3_checkIndex_8e157 0 = .ok (.iload_n 0, 1) := by decide +kernel
theorem dJ3_checkIndex_8e157_1 : decode cJ3_checkIndex_8e157 1 = .ok (.ifCond .lt 8, 3) := by decide +kernel
theorem dJ3_checkIndex_8e157_4 : decode cJ3_checkIndex_8e157 4 = .ok (.iload_n 0, 1) := by decide +kernel
theorem dJ3_checkIndex_8e157_5 : decode cJ3_checkIndex_8e157 5 = .ok (.iload_n 1, 1) := by decide +kernel
theorem dJ3_checkIndex_8e157_6 : decode cJ3_checkIndex_8e157 6 = .ok (.if_icmp .lt 10, 3) := by decide +kernel
theorem dJ3_checkIndex_8e157_9 : decode cJ3_checkIndex_8e157 9 = .ok (.aload_n 2, 1) := by decide +kernel
theorem dJ3_checkIndex_8e157_10 : decode cJ3_checkIndex_8e157 10 = .ok (.iload_n 0, 1) := by decide +kernel
theorem dJ3_checkIndex_8e157_11 : decode cJ3_checkIndex_8e157 11 = .ok (.iload_n 1, 1) := by decide +kernel
theorem dJ3_checkIndex_8e157_12 : decode cJ3_checkIndex_8e157 12 = .ok (.invokestatic 95, 3) := by decide +kernel
theorem dJ3_checkIndex_8e157_15 : decode cJ3_checkIndex_8e157 15 = .ok (.athrow, 1) := by decide +kernel
theorem dJ3_checkIndex_8e157_16 : decode cJ3_checkIndex_8e157 16 = .ok (.iload_n 0, 1) := by decide +kernel
theorem dJ3_checkIndex_8e157_17 : decode cJ3_checkIndex_8e157 17 = .ok (.ireturn, 1) := by decide +kernel
end
section
theorem mm_bm {z : Int} (h1 : -2147483648 ≤ z) (h2 : z < 2147483648) : z.bmod (2 ^ 32) = z := by
  rw [Int.bmod_eq_of_le (by omega) (by omega)]
theorem mm_add {x y : Int32} {X Y : Int} (hx : x.toInt = X) (hy : y.toInt = Y) (h : -2147483648 ≤ X + Y ∧ X + Y < 2147483648) : (x + y).toInt = X + Y := by
  rw [Int32.toInt_add, hx, hy, mm_bm h.1 h.2]
theorem mm_sub {x y : Int32} {X Y : Int} (hx : x.toInt = X) (hy : y.toInt = Y) (h : -2147483648 ≤ X - Y ∧ X - Y < 2147483648) : (x - y).toInt = X - Y := by
  rw [Int32.toInt_sub, hx, hy, mm_bm h.1 h.2]
theorem mm_mul {x y : Int32} {X Y : Int} (hx : x.toInt = X) (hy : y.toInt = Y) (h : -2147483648 ≤ X * Y ∧ X * Y < 2147483648) : (x * y).toInt = X * Y := by
  rw [Int32.toInt_mul, hx, hy, mm_bm h.1 h.2]
theorem mm_lt {x y : Int32} {X Y : Int} (hx : x.toInt = X) (hy : y.toInt = Y) : x < y ↔ X < Y := by rw [Int32.lt_iff_toInt_lt, hx, hy]
theorem mm_le {x y : Int32} {X Y : Int} (hx : x.toInt = X) (hy : y.toInt = Y) : x ≤ y ↔ X ≤ Y := by rw [Int32.le_iff_toInt_le, hx, hy]
theorem mm_eq {x y : Int32} {X Y : Int} (hx : x.toInt = X) (hy : y.toInt = Y) : x = y ↔ X = Y := by rw [← Int32.toInt_inj, hx, hy]
theorem mm_z0 : (0 : Int32).toInt = 0 := by decide
theorem mm_cl {x : Int32} {n : Nat} (h : 0 ≤ x.toInt ∧ x.toInt < n) : x.toNatClampNeg < n := by
  have e : x.toNatClampNeg = x.toInt.toNat := rfl
  omega
theorem mm_nat (x : Int32) : x.toNatClampNeg = x.toInt.toNat := rfl
theorem mm_rng (x : Int32) : -2147483648 ≤ x.toInt ∧ x.toInt < 2147483648 := ⟨Int32.le_toInt x, Int32.toInt_lt x⟩
theorem mm_at {α : Type} {l : List α} (i : Nat) {w : α} (h : l[i]? = some w) : w ∈ l := List.mem_of_getElem? h
section MM
variable {p : Program} {l : Launch} {e : Env} {R : Room} {s : State} {m : MethodId} {args : Array Value} {below : List Frame} {meth : Method} {c : Code} {H : Heap} {locs : List Loc} {cells slots : Nat} {Q : State → Prop}
variable {cc : ByteArray} {pc : Nat} {ls : Array Slot} {rest : List Value}
theorem mm_iadd (hexec : p.tables.exec = Jvm.exec) (hb : c.code = cc) {x y : Int32} {X Y : Int} (hdg : decode cc pc = .ok (.iadd, 1)) (hx : x.toInt = X) (hy : y.toInt = Y) (h : -2147483648 ≤ X + Y ∧ X + Y < 2147483648)
    (k : ∀ z : Int32, z.toInt = X + Y → W p l e R s m args below meth c H locs cells slots Q (F0 m (pc + 1) ls (.int z :: rest))) : W p l e R s m args below meth c H locs cells slots Q (F0 m pc ls (.int y :: .int x :: rest)) := lv_iadd hexec hb hdg (k _ (mm_add hx hy h))
theorem mm_iaddU (hexec : p.tables.exec = Jvm.exec) (hb : c.code = cc) {x y : Int32} (hdg : decode cc pc = .ok (.iadd, 1))
    (k : ∀ z : Int32, W p l e R s m args below meth c H locs cells slots Q (F0 m (pc + 1) ls (.int z :: rest))) : W p l e R s m args below meth c H locs cells slots Q (F0 m pc ls (.int y :: .int x :: rest)) := lv_iadd hexec hb hdg (k _)
theorem mm_isub (hexec : p.tables.exec = Jvm.exec) (hb : c.code = cc) {x y : Int32} {X Y : Int} (hdg : decode cc pc = .ok (.isub, 1)) (hx : x.toInt = X) (hy : y.toInt = Y) (h : -2147483648 ≤ X - Y ∧ X - Y < 2147483648)
    (k : ∀ z : Int32, z.toInt = X - Y → W p l e R s m args below meth c H locs cells slots Q (F0 m (pc + 1) ls (.int z :: rest))) : W p l e R s m args below meth c H locs cells slots Q (F0 m pc ls (.int y :: .int x :: rest)) := lv_isub hexec hb hdg (k _ (mm_sub hx hy h))
theorem mm_isubU (hexec : p.tables.exec = Jvm.exec) (hb : c.code = cc) {x y : Int32} (hdg : decode cc pc = .ok (.isub, 1))
    (k : ∀ z : Int32, W p l e R s m args below meth c H locs cells slots Q (F0 m (pc + 1) ls (.int z :: rest))) : W p l e R s m args below meth c H locs cells slots Q (F0 m pc ls (.int y :: .int x :: rest)) := lv_isub hexec hb hdg (k _)
theorem mm_imul (hexec : p.tables.exec = Jvm.exec) (hb : c.code = cc) {x y : Int32} {X Y : Int} (hdg : decode cc pc = .ok (.imul, 1)) (hx : x.toInt = X) (hy : y.toInt = Y) (h : -2147483648 ≤ X * Y ∧ X * Y < 2147483648)
    (k : ∀ z : Int32, z.toInt = X * Y → W p l e R s m args below meth c H locs cells slots Q (F0 m (pc + 1) ls (.int z :: rest))) : W p l e R s m args below meth c H locs cells slots Q (F0 m pc ls (.int y :: .int x :: rest)) := lv_imul hexec hb hdg (k _ (mm_mul hx hy h))
theorem mm_imulU (hexec : p.tables.exec = Jvm.exec) (hb : c.code = cc) {x y : Int32} (hdg : decode cc pc = .ok (.imul, 1))
    (k : ∀ z : Int32, W p l e R s m args below meth c H locs cells slots Q (F0 m (pc + 1) ls (.int z :: rest))) : W p l e R s m args below meth c H locs cells slots Q (F0 m pc ls (.int y :: .int x :: rest)) := lv_imul hexec hb hdg (k _)
theorem mm_iandU (hexec : p.tables.exec = Jvm.exec) (hb : c.code = cc) {x y : Int32} (hdg : decode cc pc = .ok (.iand, 1))
    (k : ∀ z : Int32, W p l e R s m args below meth c H locs cells slots Q (F0 m (pc + 1) ls (.int z :: rest))) : W p l e R s m args below meth c H locs cells slots Q (F0 m pc ls (.int y :: .int x :: rest)) := lv_iand hexec hb hdg (k _)
theorem mm_ishrU (hexec : p.tables.exec = Jvm.exec) (hb : c.code = cc) {x y : Int32} (hdg : decode cc pc = .ok (.ishr, 1))
    (k : ∀ z : Int32, W p l e R s m args below meth c H locs cells slots Q (F0 m (pc + 1) ls (.int z :: rest))) : W p l e R s m args below meth c H locs cells slots Q (F0 m pc ls (.int y :: .int x :: rest)) := lv_ishr hexec hb hdg (k _)
theorem mm_ishlU (hexec : p.tables.exec = Jvm.exec) (hb : c.code = cc) {x y : Int32} (hdg : decode cc pc = .ok (.ishl, 1))
    (k : ∀ z : Int32, W p l e R s m args below meth c H locs cells slots Q (F0 m (pc + 1) ls (.int z :: rest))) : W p l e R s m args below meth c H locs cells slots Q (F0 m pc ls (.int y :: .int x :: rest)) := lv_ishl hexec hb hdg (k _)
theorem mm_iorU (hexec : p.tables.exec = Jvm.exec) (hb : c.code = cc) {x y : Int32} (hdg : decode cc pc = .ok (.ior, 1))
    (k : ∀ z : Int32, W p l e R s m args below meth c H locs cells slots Q (F0 m (pc + 1) ls (.int z :: rest))) : W p l e R s m args below meth c H locs cells slots Q (F0 m pc ls (.int y :: .int x :: rest)) := lv_ior hexec hb hdg (k _)
theorem mm_ixorU (hexec : p.tables.exec = Jvm.exec) (hb : c.code = cc) {x y : Int32} (hdg : decode cc pc = .ok (.ixor, 1))
    (k : ∀ z : Int32, W p l e R s m args below meth c H locs cells slots Q (F0 m (pc + 1) ls (.int z :: rest))) : W p l e R s m args below meth c H locs cells slots Q (F0 m pc ls (.int y :: .int x :: rest)) := lv_ixor hexec hb hdg (k _)
theorem mm_idivU (hexec : p.tables.exec = Jvm.exec) (hb : c.code = cc) {x y : Int32} {Y : Int} (hdg : decode cc pc = .ok (.idiv, 1)) (hy : y.toInt = Y) (hn : ¬ Y = 0)
    (k : ∀ z : Int32, W p l e R s m args below meth c H locs cells slots Q (F0 m (pc + 1) ls (.int z :: rest))) : W p l e R s m args below meth c H locs cells slots Q (F0 m pc ls (.int y :: .int x :: rest)) := lv_idiv hexec hb hdg (fun q => hn ((mm_eq hy mm_z0).mp q)) (k _)
theorem mm_iremU (hexec : p.tables.exec = Jvm.exec) (hb : c.code = cc) {x y : Int32} {Y : Int} (hdg : decode cc pc = .ok (.irem, 1)) (hy : y.toInt = Y) (hn : ¬ Y = 0)
    (k : ∀ z : Int32, W p l e R s m args below meth c H locs cells slots Q (F0 m (pc + 1) ls (.int z :: rest))) : W p l e R s m args below meth c H locs cells slots Q (F0 m pc ls (.int y :: .int x :: rest)) := lv_irem hexec hb hdg (fun q => hn ((mm_eq hy mm_z0).mp q)) (k _)
theorem mm_i2bU (hexec : p.tables.exec = Jvm.exec) (hb : c.code = cc) {x : Int32} (hdg : decode cc pc = .ok (.i2b, 1))
    (k : ∀ z : Int32, W p l e R s m args below meth c H locs cells slots Q (F0 m (pc + 1) ls (.int z :: rest))) : W p l e R s m args below meth c H locs cells slots Q (F0 m pc ls (.int x :: rest)) := lv_i2b hexec hb hdg rfl (k _)
theorem mm_i2cU (hexec : p.tables.exec = Jvm.exec) (hb : c.code = cc) {x : Int32} (hdg : decode cc pc = .ok (.i2c, 1))
    (k : ∀ z : Int32, W p l e R s m args below meth c H locs cells slots Q (F0 m (pc + 1) ls (.int z :: rest))) : W p l e R s m args below meth c H locs cells slots Q (F0 m pc ls (.int x :: rest)) := lv_i2c hexec hb hdg rfl (k _)
theorem mm_i2sU (hexec : p.tables.exec = Jvm.exec) (hb : c.code = cc) {x : Int32} (hdg : decode cc pc = .ok (.i2s, 1))
    (k : ∀ z : Int32, W p l e R s m args below meth c H locs cells slots Q (F0 m (pc + 1) ls (.int z :: rest))) : W p l e R s m args below meth c H locs cells slots Q (F0 m pc ls (.int x :: rest)) := lv_i2s hexec hb hdg rfl (k _)
theorem mm_iinc (hexec : p.tables.exec = Jvm.exec) (hb : c.code = cc) {i nL k : Nat} {n : Int} {x : Int32} {X : Int} {lv : List (Nat × Value)} {lv2 : Int32 → List (Nat × Value)} (hdg : decode cc pc = .ok (.iinc i n, 3)) (h : lv_has ls nL lv) (hk : lv[k]? = some (i, .int x)) (hx : x.toInt = X) {v : Int32} (hv : Int32.ofInt n = v) (hv2 : v.toInt = n) (hr : -2147483648 ≤ X + n ∧ X + n < 2147483648) (hn : i < nL) (hl : ∀ z : Int32, (i, Value.int z) :: lv.filter (fun q => !(q.1 == i) && !(q.1 + 1 == i && q.2.category == 2)) = lv2 z)
    (kk : ∀ (z : Int32) (ls' : Array Slot), z.toInt = X + n → lv_has ls' nL (lv2 z) → W p l e R s m args below meth c H locs cells slots Q (F0 m (pc + 3) ls' rest)) : W p l e R s m args below meth c H locs cells slots Q (F0 m pc ls rest) := lv_iinc hexec hb hdg h hk rfl hn (hl _) (fun ls' h2 => kk _ ls' (by rw [hv]; exact mm_add hx hv2 hr) h2)
theorem mm_icmp_eq (hexec : p.tables.exec = Jvm.exec) (hb : c.code = cc) {x y : Int32} {X Y : Int} {off : Int} {tgt : Nat} (hdg : decode cc pc = .ok (.if_icmp .eq off, 3)) (ht : (pc : Int) + off = (tgt : Int)) (hx : x.toInt = X) (hy : y.toInt = Y)
    (kt : X = Y → W p l e R s m args below meth c H locs cells slots Q (F0 m tgt ls rest)) (kf : ¬ X = Y → W p l e R s m args below meth c H locs cells slots Q (F0 m (pc + 3) ls rest)) : W p l e R s m args below meth c H locs cells slots Q (F0 m pc ls (.int y :: .int x :: rest)) := lv_icmp_eq hexec hb hdg ht (fun q => kt ((mm_eq hx hy).mp q)) (fun q => kf (fun z => q ((mm_eq hx hy).mpr z)))
theorem mm_if_eq (hexec : p.tables.exec = Jvm.exec) (hb : c.code = cc) {x : Int32} {X : Int} {off : Int} {tgt : Nat} (hdg : decode cc pc = .ok (.ifCond .eq off, 3)) (ht : (pc : Int) + off = (tgt : Int)) (hx : x.toInt = X) 
    (kt : X = 0 → W p l e R s m args below meth c H locs cells slots Q (F0 m tgt ls rest)) (kf : ¬ X = 0 → W p l e R s m args below meth c H locs cells slots Q (F0 m (pc + 3) ls rest)) : W p l e R s m args below meth c H locs cells slots Q (F0 m pc ls (.int x :: rest)) := lv_if_eq hexec hb hdg ht (fun q => kt ((mm_eq hx mm_z0).mp q)) (fun q => kf (fun z => q ((mm_eq hx mm_z0).mpr z)))
theorem mm_icmp_ne (hexec : p.tables.exec = Jvm.exec) (hb : c.code = cc) {x y : Int32} {X Y : Int} {off : Int} {tgt : Nat} (hdg : decode cc pc = .ok (.if_icmp .ne off, 3)) (ht : (pc : Int) + off = (tgt : Int)) (hx : x.toInt = X) (hy : y.toInt = Y)
    (kt : ¬ X = Y → W p l e R s m args below meth c H locs cells slots Q (F0 m tgt ls rest)) (kf : X = Y → W p l e R s m args below meth c H locs cells slots Q (F0 m (pc + 3) ls rest)) : W p l e R s m args below meth c H locs cells slots Q (F0 m pc ls (.int y :: .int x :: rest)) := lv_icmp_ne hexec hb hdg ht (fun q => kt (fun z => q ((mm_eq hx hy).mpr z))) (fun q => kf ((mm_eq hx hy).mp q))
theorem mm_if_ne (hexec : p.tables.exec = Jvm.exec) (hb : c.code = cc) {x : Int32} {X : Int} {off : Int} {tgt : Nat} (hdg : decode cc pc = .ok (.ifCond .ne off, 3)) (ht : (pc : Int) + off = (tgt : Int)) (hx : x.toInt = X) 
    (kt : ¬ X = 0 → W p l e R s m args below meth c H locs cells slots Q (F0 m tgt ls rest)) (kf : X = 0 → W p l e R s m args below meth c H locs cells slots Q (F0 m (pc + 3) ls rest)) : W p l e R s m args below meth c H locs cells slots Q (F0 m pc ls (.int x :: rest)) := lv_if_ne hexec hb hdg ht (fun q => kt (fun z => q ((mm_eq hx mm_z0).mpr z))) (fun q => kf ((mm_eq hx mm_z0).mp q))
theorem mm_icmp_lt (hexec : p.tables.exec = Jvm.exec) (hb : c.code = cc) {x y : Int32} {X Y : Int} {off : Int} {tgt : Nat} (hdg : decode cc pc = .ok (.if_icmp .lt off, 3)) (ht : (pc : Int) + off = (tgt : Int)) (hx : x.toInt = X) (hy : y.toInt = Y)
    (kt : X < Y → W p l e R s m args below meth c H locs cells slots Q (F0 m tgt ls rest)) (kf : ¬ X < Y → W p l e R s m args below meth c H locs cells slots Q (F0 m (pc + 3) ls rest)) : W p l e R s m args below meth c H locs cells slots Q (F0 m pc ls (.int y :: .int x :: rest)) := lv_icmp_lt hexec hb hdg ht (fun q => kt ((mm_lt hx hy).mp q)) (fun q => kf (fun z => q ((mm_lt hx hy).mpr z)))
theorem mm_if_lt (hexec : p.tables.exec = Jvm.exec) (hb : c.code = cc) {x : Int32} {X : Int} {off : Int} {tgt : Nat} (hdg : decode cc pc = .ok (.ifCond .lt off, 3)) (ht : (pc : Int) + off = (tgt : Int)) (hx : x.toInt = X) 
    (kt : X < 0 → W p l e R s m args below meth c H locs cells slots Q (F0 m tgt ls rest)) (kf : ¬ X < 0 → W p l e R s m args below meth c H locs cells slots Q (F0 m (pc + 3) ls rest)) : W p l e R s m args below meth c H locs cells slots Q (F0 m pc ls (.int x :: rest)) := lv_if_lt hexec hb hdg ht (fun q => kt ((mm_lt hx mm_z0).mp q)) (fun q => kf (fun z => q ((mm_lt hx mm_z0).mpr z)))
theorem mm_icmp_ge (hexec : p.tables.exec = Jvm.exec) (hb : c.code = cc) {x y : Int32} {X Y : Int} {off : Int} {tgt : Nat} (hdg : decode cc pc = .ok (.if_icmp .ge off, 3)) (ht : (pc : Int) + off = (tgt : Int)) (hx : x.toInt = X) (hy : y.toInt = Y)
    (kt : Y ≤ X → W p l e R s m args below meth c H locs cells slots Q (F0 m tgt ls rest)) (kf : ¬ Y ≤ X → W p l e R s m args below meth c H locs cells slots Q (F0 m (pc + 3) ls rest)) : W p l e R s m args below meth c H locs cells slots Q (F0 m pc ls (.int y :: .int x :: rest)) := lv_icmp_ge hexec hb hdg ht (fun q => kt ((mm_le hy hx).mp q)) (fun q => kf (fun z => q ((mm_le hy hx).mpr z)))
theorem mm_if_ge (hexec : p.tables.exec = Jvm.exec) (hb : c.code = cc) {x : Int32} {X : Int} {off : Int} {tgt : Nat} (hdg : decode cc pc = .ok (.ifCond .ge off, 3)) (ht : (pc : Int) + off = (tgt : Int)) (hx : x.toInt = X) 
    (kt : 0 ≤ X → W p l e R s m args below meth c H locs cells slots Q (F0 m tgt ls rest)) (kf : ¬ 0 ≤ X → W p l e R s m args below meth c H locs cells slots Q (F0 m (pc + 3) ls rest)) : W p l e R s m args below meth c H locs cells slots Q (F0 m pc ls (.int x :: rest)) := lv_if_ge hexec hb hdg ht (fun q => kt ((mm_le mm_z0 hx).mp q)) (fun q => kf (fun z => q ((mm_le mm_z0 hx).mpr z)))
theorem mm_icmp_gt (hexec : p.tables.exec = Jvm.exec) (hb : c.code = cc) {x y : Int32} {X Y : Int} {off : Int} {tgt : Nat} (hdg : decode cc pc = .ok (.if_icmp .gt off, 3)) (ht : (pc : Int) + off = (tgt : Int)) (hx : x.toInt = X) (hy : y.toInt = Y)
    (kt : Y < X → W p l e R s m args below meth c H locs cells slots Q (F0 m tgt ls rest)) (kf : ¬ Y < X → W p l e R s m args below meth c H locs cells slots Q (F0 m (pc + 3) ls rest)) : W p l e R s m args below meth c H locs cells slots Q (F0 m pc ls (.int y :: .int x :: rest)) := lv_icmp_gt hexec hb hdg ht (fun q => kt ((mm_lt hy hx).mp q)) (fun q => kf (fun z => q ((mm_lt hy hx).mpr z)))
theorem mm_if_gt (hexec : p.tables.exec = Jvm.exec) (hb : c.code = cc) {x : Int32} {X : Int} {off : Int} {tgt : Nat} (hdg : decode cc pc = .ok (.ifCond .gt off, 3)) (ht : (pc : Int) + off = (tgt : Int)) (hx : x.toInt = X) 
    (kt : 0 < X → W p l e R s m args below meth c H locs cells slots Q (F0 m tgt ls rest)) (kf : ¬ 0 < X → W p l e R s m args below meth c H locs cells slots Q (F0 m (pc + 3) ls rest)) : W p l e R s m args below meth c H locs cells slots Q (F0 m pc ls (.int x :: rest)) := lv_if_gt hexec hb hdg ht (fun q => kt ((mm_lt mm_z0 hx).mp q)) (fun q => kf (fun z => q ((mm_lt mm_z0 hx).mpr z)))
theorem mm_icmp_le (hexec : p.tables.exec = Jvm.exec) (hb : c.code = cc) {x y : Int32} {X Y : Int} {off : Int} {tgt : Nat} (hdg : decode cc pc = .ok (.if_icmp .le off, 3)) (ht : (pc : Int) + off = (tgt : Int)) (hx : x.toInt = X) (hy : y.toInt = Y)
    (kt : X ≤ Y → W p l e R s m args below meth c H locs cells slots Q (F0 m tgt ls rest)) (kf : ¬ X ≤ Y → W p l e R s m args below meth c H locs cells slots Q (F0 m (pc + 3) ls rest)) : W p l e R s m args below meth c H locs cells slots Q (F0 m pc ls (.int y :: .int x :: rest)) := lv_icmp_le hexec hb hdg ht (fun q => kt ((mm_le hx hy).mp q)) (fun q => kf (fun z => q ((mm_le hx hy).mpr z)))
theorem mm_if_le (hexec : p.tables.exec = Jvm.exec) (hb : c.code = cc) {x : Int32} {X : Int} {off : Int} {tgt : Nat} (hdg : decode cc pc = .ok (.ifCond .le off, 3)) (ht : (pc : Int) + off = (tgt : Int)) (hx : x.toInt = X) 
    (kt : X ≤ 0 → W p l e R s m args below meth c H locs cells slots Q (F0 m tgt ls rest)) (kf : ¬ X ≤ 0 → W p l e R s m args below meth c H locs cells slots Q (F0 m (pc + 3) ls rest)) : W p l e R s m args below meth c H locs cells slots Q (F0 m pc ls (.int x :: rest)) := lv_if_le hexec hb hdg ht (fun q => kt ((mm_le hx mm_z0).mp q)) (fun q => kf (fun z => q ((mm_le hx mm_z0).mpr z)))
end MM
end
section
def mFs (q : Nat → Nat) (F : Nat → Int32) : List Value := [.ref (q 0), .int (F 1), .int (F 2), .int (F 3), .int (F 4), .ref (q 5), .ref (q 6), .ref (q 7), .ref (q 8), .ref (q 9), .ref (q 10), .ref (q 11), .ref (q 12), .int (F 13), .int (F 14), .int (F 15), .ref (q 16), .int (F 17), .ref (q 18), .ref (q 19), .ref (q 20), .ref (q 21), .ref (q 22), .ref (q 23), .ref (q 24), .ref (q 25), .ref (q 26), .ref (q 27), .ref (q 28), .ref (q 29), .ref (q 30), .int (F 31), .ref (q 32), .ref (q 33), .ref (q 34), .ref (q 35), .ref (q 36), .ref (q 37), .ref (q 38), .int (F 39), .int (F 40), .int (F 41), .int (F 42), .int (F 43), .int (F 44), .ref (q 45), .ref (q 46), .ref (q 47), .ref (q 48), .ref (q 49), .ref (q 50), .ref (q 51)]
def mW (h0 : Nat) (q : Nat → Nat) (cq : Nat → ClassId) (F : Nat → Int32) (G : Nat → Nat → Int32) : va_W := [(h0, .inr (6, mFs q F)), (q 0, .inl (cq 0, 1000, .inl (G 0))), (q 5, .inl (cq 5, 16, .inl (G 5))), (q 6, .inl (cq 6, 16, .inl (G 6))), (q 7, .inl (cq 7, 64, .inl (G 7))), (q 8, .inl (cq 8, 16, .inl (G 8))), (q 9, .inl (cq 9, 16, .inl (G 9))), (q 10, .inl (cq 10, 16, .inl (G 10))), (q 11, .inl (cq 11, 16, .inl (G 11))), (q 12, .inl (cq 12, 16, .inl (G 12))), (q 16, .inl (cq 16, 16, .inl (G 16))), (q 18, .inl (cq 18, 8, .inl (G 18))), (q 19, .inl (cq 19, 8, .inl (G 19))), (q 20, .inl (cq 20, 8, .inl (G 20))), (q 21, .inl (cq 21, 8, .inl (G 21))), (q 22, .inl (cq 22, 8, .inl (G 22))), (q 23, .inl (cq 23, 8, .inl (G 23))), (q 24, .inl (cq 24, 8, .inl (G 24))), (q 25, .inl (cq 25, 8, .inl (G 25))), (q 26, .inl (cq 26, 8, .inl (G 26))), (q 27, .inl (cq 27, 8, .inl (G 27))), (q 28, .inl (cq 28, 8, .inl (G 28))), (q 29, .inl (cq 29, 128, .inl (G 29))), (q 30, .inl (cq 30, 128, .inl (G 30))), (q 32, .inl (cq 32, 400, .inl (G 32))), (q 33, .inl (cq 33, 400, .inl (G 33))), (q 34, .inl (cq 34, 400, .inl (G 34))), (q 35, .inl (cq 35, 400, .inl (G 35))), (q 36, .inl (cq 36, 400, .inl (G 36))), (q 37, .inl (cq 37, 400, .inl (G 37))), (q 38, .inl (cq 38, 62, .inl (G 38))), (q 45, .inl (cq 45, 128, .inl (G 45))), (q 46, .inl (cq 46, 128, .inl (G 46))), (q 47, .inl (cq 47, 128, .inl (G 47))), (q 48, .inl (cq 48, 128, .inl (G 48))), (q 49, .inl (cq 49, 128, .inl (G 49))), (q 50, .inl (cq 50, 16, .inl (G 50))), (q 51, .inl (cq 51, 16, .inl (G 51)))]
def mT (cq : Nat → ClassId) : List (ClassId × FieldType) := [(cq 0, .int), (cq 5, .int), (cq 6, .int), (cq 7, .int), (cq 8, .int), (cq 9, .boolean), (cq 10, .int), (cq 11, .int), (cq 12, .int), (cq 16, .int), (cq 18, .int), (cq 19, .int), (cq 20, .int), (cq 21, .int), (cq 22, .boolean), (cq 23, .int), (cq 24, .int), (cq 25, .int), (cq 26, .int), (cq 27, .int), (cq 28, .int), (cq 29, .int), (cq 30, .int), (cq 32, .int), (cq 33, .int), (cq 34, .int), (cq 35, .int), (cq 36, .int), (cq 37, .int), (cq 38, .int), (cq 45, .int), (cq 46, .int), (cq 47, .int), (cq 48, .int), (cq 49, .int), (cq 50, .int), (cq 51, .int)]
def mUp (G : Nat → Nat → Int32) (k : Nat) (g : Nat → Int32) : Nat → Nat → Int32 := fun j => if j = k then g else G j
def mfb : Nat → Option (Int × Int) := fun k => if k = 1 then some (0, 1000) else if k = 3 then some (0, 200) else if k = 15 then some (0, 16) else if k = 17 then some (0, 8) else if k = 31 then some (0, 400) else if k = 39 then some (0, 1000) else if k = 40 then some (0, 1000) else if k = 41 then some (0, 5) else if k = 43 then some (0, 1000) else  none
def mab : Nat → Option (Int × Int) := fun k => if k = 6 then some (0, 4) else if k = 27 then some (0, 16) else if k = 29 then some (0, 15) else if k = 50 then some (0, 15) else if k = 26 then some (-1, 7) else if k = 30 then some (-1, 15) else  none
def mwl : List Int32 := [102, 111, 114, 109, 97, 116, 32, 108, 97, 112, 115, 32, 115, 104, 111, 111, 116, 32, 115, 112, 97, 114, 101, 115, 32, 109, 105, 115, 115, 32, 108, 111, 111, 112, 32, 97, 100, 100, 32, 115, 116, 97, 114, 116, 32, 109, 97, 115, 115, 32, 101, 118, 101, 114, 121, 32, 99, 104, 97, 115, 101, 32]
def mI (F : Nat → Int32) (G : Nat → Nat → Int32) : Prop := (∀ (k : Nat) (b : Int × Int), mfb k = some b → b.1 ≤ (F k).toInt ∧ (F k).toInt ≤ b.2) ∧ (∀ (k : Nat) (b : Int × Int), mab k = some b → ∀ j : Nat, b.1 ≤ (G k j).toInt ∧ (G k j).toInt ≤ b.2) ∧ ∀ j : Nat, G 38 j = mwl.getD j 0
def mFr (WF WG : List Nat) (F : Nat → Int32) (G : Nat → Nat → Int32) (F' : Nat → Int32) (G' : Nat → Nat → Int32) : Prop := (∀ k, k ∉ WF → F' k = F k) ∧ ∀ k, k ∉ WG → G' k = G k
def mQ (D : va_G) (h0 : Nat) (q : Nat → Nat) (cq : Nat → ClassId) (A : Nat → Prop) (H0 : Heap) (WF WG : List Nat) (Fi : Nat → Int32) (Gi : Nat → Nat → Int32) (H : Heap) (locs : List Loc) (F : Nat → Int32) (G : Nat → Nat → Int32) : Prop := va_P D vwCl (mW h0 q cq F G) H ∧ va_D A (mW h0 q cq F G) ∧ va_S A H0 H locs ∧ mI F G ∧ mFr WF WG Fi Gi F G
def mX (p : Program) (c : Code) (cc : ByteArray) (s : State) (m : MethodId) (args : Array Value) (Ts : List Cond) (D : va_G) (cq : Nat → ClassId) : Prop := p.tables.exec = Jvm.exec ∧ c.code = cc ∧ (∀ w ∈ Ts, w.before args s = true) ∧ (∀ w ∈ wsX60, w ∈ Ts) ∧ s.vm.findClass RX6 = some m.cls ∧ va_K D vwCl (mT cq) s
def mPre (D : va_G) (h0 : Nat) (q : Nat → Nat) (cq : Nat → ClassId) (F : Nat → Int32) (G : Nat → Nat → Int32) (sz : Nat) (av : List Value) : Array Value → State → Prop := va_Pc av (fun U => U.heap.size = sz ∧ va_P D vwCl (mW h0 q cq F G) U.heap ∧ va_K D vwCl (mT cq) U ∧ va_D (fun _ => True) (mW h0 q cq F G))
def mB (D : va_G) (h0 : Nat) (q : Nat → Nat) (cq : Nat → ClassId) (A : Nat → Prop) (F : Nat → Int32) (G : Nat → Nat → Int32) (t : State) : Prop := va_P D vwCl (mW h0 q cq F G) t.heap ∧ va_K D vwCl (mT cq) t ∧ va_D A (mW h0 q cq F G)
def mQi (D : va_G) (h0 : Nat) (q : Nat → Nat) (cq : Nat → ClassId) (F : Nat → Int32) (G : Nat → Nat → Int32) (sz : Nat) (WF WG : List Nat) (post : Int32 → (Nat → Int32) → (Nat → Nat → Int32) → Prop) : Array Value → State → Outcome → State → Prop := va_Qi (fun r (u : (Nat → Int32) × (Nat → Nat → Int32)) => mI u.1 u.2 ∧ mFr WF WG F G u.1 u.2 ∧ post r u.1 u.2) (fun u t => mB D h0 q cq (va_A (mW h0 q cq F G) sz) u.1 u.2 t) (va_A (mW h0 q cq F G) sz)
def mQv (D : va_G) (h0 : Nat) (q : Nat → Nat) (cq : Nat → ClassId) (F : Nat → Int32) (G : Nat → Nat → Int32) (sz : Nat) (WF WG : List Nat) (post : (Nat → Int32) → (Nat → Nat → Int32) → Prop) : Array Value → State → Outcome → State → Prop := va_Qv (fun (u : (Nat → Int32) × (Nat → Nat → Int32)) => mI u.1 u.2 ∧ mFr WF WG F G u.1 u.2 ∧ post u.1 u.2) (fun u t => mB D h0 q cq (va_A (mW h0 q cq F G) sz) u.1 u.2 t) (va_A (mW h0 q cq F G) sz)
theorem mI_upd {F : Nat → Int32} {G : Nat → Nat → Int32} {k : Nat} {v : Int32} (h : mI F G) (hb : ∀ b, mfb k = some b → b.1 ≤ v.toInt ∧ v.toInt ≤ b.2) : mI (upd F k v) G := by
  refine ⟨fun j b hj => ?_, h.2⟩
  by_cases e : j = k
  · subst e; simp only [upd, if_true]; exact hb b hj
  · simp only [upd, if_neg e]; exact h.1 j b hj
theorem mI_up {F : Nat → Int32} {G : Nat → Nat → Int32} {k i : Nat} {x : Int32} (h : mI F G) (hk : k ≠ 38) (hb : ∀ b, mab k = some b → b.1 ≤ x.toInt ∧ x.toInt ≤ b.2) : mI F (mUp G k (upd (G k) i x)) := by
  refine ⟨h.1, fun j b hj n => ?_, fun j => ?_⟩
  · by_cases e : j = k
    · subst e
      simp only [mUp, if_true, upd]
      by_cases e2 : n = i
      · simp only [e2, if_true]; exact hb b hj
      · simp only [if_neg e2]; exact h.2.1 j b hj n
    · simp only [mUp, if_neg e]; exact h.2.1 j b hj n
  · simp only [mUp, if_neg (Ne.symm hk)]; exact h.2.2 j
theorem mFr.rf {WF WG : List Nat} {F : Nat → Int32} {G : Nat → Nat → Int32} : mFr WF WG F G F G := ⟨fun _ _ => rfl, fun _ _ => rfl⟩
theorem mFr.put {WF WG : List Nat} {Fi F : Nat → Int32} {Gi G : Nat → Nat → Int32} {k : Nat} {v : Int32} (h : mFr WF WG Fi Gi F G) (hk : k ∈ WF) : mFr WF WG Fi Gi (upd F k v) G := ⟨fun j hj => by
  have e : j ≠ k := fun q => hj (q ▸ hk)
  simp only [upd, if_neg e]; exact h.1 j hj, h.2⟩
theorem mFr.ast {WF WG : List Nat} {Fi F : Nat → Int32} {Gi G : Nat → Nat → Int32} {k : Nat} {g : Nat → Int32} (h : mFr WF WG Fi Gi F G) (hk : k ∈ WG) : mFr WF WG Fi Gi F (mUp G k g) := ⟨h.1, fun j hj => by
  have e : j ≠ k := fun q => hj (q ▸ hk)
  simp only [mUp, if_neg e]; exact h.2 j hj⟩
theorem mFr.tr {WF WG WF1 WG1 : List Nat} {Fi F F' : Nat → Int32} {Gi G G' : Nat → Nat → Int32} (h : mFr WF WG Fi Gi F G) (h1 : mFr WF1 WG1 F G F' G') (a : ∀ k ∈ WF1, k ∈ WF) (b : ∀ k ∈ WG1, k ∈ WG) : mFr WF WG Fi Gi F' G' :=
  ⟨fun k hk => (h1.1 k (fun q => hk (a k q))).trans (h.1 k hk), fun k hk => (h1.2 k (fun q => hk (b k q))).trans (h.2 k hk)⟩
theorem mQ.fb {D : va_G} {h0 : Nat} {q : Nat → Nat} {cq : Nat → ClassId} {A : Nat → Prop} {H0 : Heap} {WF WG : List Nat} {Fi : Nat → Int32} {Gi : Nat → Nat → Int32} {H : Heap} {locs : List Loc} {F : Nat → Int32} {G : Nat → Nat → Int32} (h : mQ D h0 q cq A H0 WF WG Fi Gi H locs F G) (k : Nat) {a b : Int} (hb : mfb k = some (a, b)) : a ≤ (F k).toInt ∧ (F k).toInt ≤ b := h.2.2.2.1.1 k _ hb
theorem mQ.ab {D : va_G} {h0 : Nat} {q : Nat → Nat} {cq : Nat → ClassId} {A : Nat → Prop} {H0 : Heap} {WF WG : List Nat} {Fi : Nat → Int32} {Gi : Nat → Nat → Int32} {H : Heap} {locs : List Loc} {F : Nat → Int32} {G : Nat → Nat → Int32} (h : mQ D h0 q cq A H0 WF WG Fi Gi H locs F G) (k : Nat) {a b : Int} (hb : mab k = some (a, b)) (j : Nat) : a ≤ (G k j).toInt ∧ (G k j).toInt ≤ b := h.2.2.2.1.2.1 k _ hb j
theorem mQ.wd {D : va_G} {h0 : Nat} {q : Nat → Nat} {cq : Nat → ClassId} {A : Nat → Prop} {H0 : Heap} {WF WG : List Nat} {Fi : Nat → Int32} {Gi : Nat → Nat → Int32} {H : Heap} {locs : List Loc} {F : Nat → Int32} {G : Nat → Nat → Int32} (h : mQ D h0 q cq A H0 WF WG Fi Gi H locs F G) (j : Nat) : G 38 j = mwl.getD j 0 := h.2.2.2.1.2.2 j
theorem mQ.fr {D : va_G} {h0 : Nat} {q : Nat → Nat} {cq : Nat → ClassId} {A : Nat → Prop} {H0 : Heap} {WF WG : List Nat} {Fi : Nat → Int32} {Gi : Nat → Nat → Int32} {H : Heap} {locs : List Loc} {F : Nat → Int32} {G : Nat → Nat → Int32} (h : mQ D h0 q cq A H0 WF WG Fi Gi H locs F G) : mFr WF WG Fi Gi F G := h.2.2.2.2
theorem ms_1 (q : Nat → Nat) (F : Nat → Int32) (v : Int32) : (mFs q F).set 1 (.int v) = mFs q (upd F 1 v) := rfl
theorem ms_2 (q : Nat → Nat) (F : Nat → Int32) (v : Int32) : (mFs q F).set 2 (.int v) = mFs q (upd F 2 v) := rfl
theorem ms_3 (q : Nat → Nat) (F : Nat → Int32) (v : Int32) : (mFs q F).set 3 (.int v) = mFs q (upd F 3 v) := rfl
theorem ms_4 (q : Nat → Nat) (F : Nat → Int32) (v : Int32) : (mFs q F).set 4 (.int v) = mFs q (upd F 4 v) := rfl
theorem ms_13 (q : Nat → Nat) (F : Nat → Int32) (v : Int32) : (mFs q F).set 13 (.int v) = mFs q (upd F 13 v) := rfl
theorem ms_14 (q : Nat → Nat) (F : Nat → Int32) (v : Int32) : (mFs q F).set 14 (.int v) = mFs q (upd F 14 v) := rfl
theorem ms_15 (q : Nat → Nat) (F : Nat → Int32) (v : Int32) : (mFs q F).set 15 (.int v) = mFs q (upd F 15 v) := rfl
theorem ms_17 (q : Nat → Nat) (F : Nat → Int32) (v : Int32) : (mFs q F).set 17 (.int v) = mFs q (upd F 17 v) := rfl
theorem ms_31 (q : Nat → Nat) (F : Nat → Int32) (v : Int32) : (mFs q F).set 31 (.int v) = mFs q (upd F 31 v) := rfl
theorem ms_39 (q : Nat → Nat) (F : Nat → Int32) (v : Int32) : (mFs q F).set 39 (.int v) = mFs q (upd F 39 v) := rfl
theorem ms_40 (q : Nat → Nat) (F : Nat → Int32) (v : Int32) : (mFs q F).set 40 (.int v) = mFs q (upd F 40 v) := rfl
theorem ms_41 (q : Nat → Nat) (F : Nat → Int32) (v : Int32) : (mFs q F).set 41 (.int v) = mFs q (upd F 41 v) := rfl
theorem ms_42 (q : Nat → Nat) (F : Nat → Int32) (v : Int32) : (mFs q F).set 42 (.int v) = mFs q (upd F 42 v) := rfl
theorem ms_43 (q : Nat → Nat) (F : Nat → Int32) (v : Int32) : (mFs q F).set 43 (.int v) = mFs q (upd F 43 v) := rfl
theorem ms_44 (q : Nat → Nat) (F : Nat → Int32) (v : Int32) : (mFs q F).set 44 (.int v) = mFs q (upd F 44 v) := rfl
theorem mg_0 (h0 : Nat) (q : Nat → Nat) (cq : Nat → ClassId) (F : Nat → Int32) (G : Nat → Nat → Int32) (g : Nat → Int32) : (mW h0 q cq F G).set 1 (q 0, .inl (cq 0, 1000, .inl g)) = mW h0 q cq F (mUp G 0 g) := rfl
theorem mg_5 (h0 : Nat) (q : Nat → Nat) (cq : Nat → ClassId) (F : Nat → Int32) (G : Nat → Nat → Int32) (g : Nat → Int32) : (mW h0 q cq F G).set 2 (q 5, .inl (cq 5, 16, .inl g)) = mW h0 q cq F (mUp G 5 g) := rfl
theorem mg_6 (h0 : Nat) (q : Nat → Nat) (cq : Nat → ClassId) (F : Nat → Int32) (G : Nat → Nat → Int32) (g : Nat → Int32) : (mW h0 q cq F G).set 3 (q 6, .inl (cq 6, 16, .inl g)) = mW h0 q cq F (mUp G 6 g) := rfl
theorem mg_7 (h0 : Nat) (q : Nat → Nat) (cq : Nat → ClassId) (F : Nat → Int32) (G : Nat → Nat → Int32) (g : Nat → Int32) : (mW h0 q cq F G).set 4 (q 7, .inl (cq 7, 64, .inl g)) = mW h0 q cq F (mUp G 7 g) := rfl
theorem mg_8 (h0 : Nat) (q : Nat → Nat) (cq : Nat → ClassId) (F : Nat → Int32) (G : Nat → Nat → Int32) (g : Nat → Int32) : (mW h0 q cq F G).set 5 (q 8, .inl (cq 8, 16, .inl g)) = mW h0 q cq F (mUp G 8 g) := rfl
theorem mg_9 (h0 : Nat) (q : Nat → Nat) (cq : Nat → ClassId) (F : Nat → Int32) (G : Nat → Nat → Int32) (g : Nat → Int32) : (mW h0 q cq F G).set 6 (q 9, .inl (cq 9, 16, .inl g)) = mW h0 q cq F (mUp G 9 g) := rfl
theorem mg_10 (h0 : Nat) (q : Nat → Nat) (cq : Nat → ClassId) (F : Nat → Int32) (G : Nat → Nat → Int32) (g : Nat → Int32) : (mW h0 q cq F G).set 7 (q 10, .inl (cq 10, 16, .inl g)) = mW h0 q cq F (mUp G 10 g) := rfl
theorem mg_11 (h0 : Nat) (q : Nat → Nat) (cq : Nat → ClassId) (F : Nat → Int32) (G : Nat → Nat → Int32) (g : Nat → Int32) : (mW h0 q cq F G).set 8 (q 11, .inl (cq 11, 16, .inl g)) = mW h0 q cq F (mUp G 11 g) := rfl
theorem mg_12 (h0 : Nat) (q : Nat → Nat) (cq : Nat → ClassId) (F : Nat → Int32) (G : Nat → Nat → Int32) (g : Nat → Int32) : (mW h0 q cq F G).set 9 (q 12, .inl (cq 12, 16, .inl g)) = mW h0 q cq F (mUp G 12 g) := rfl
theorem mg_16 (h0 : Nat) (q : Nat → Nat) (cq : Nat → ClassId) (F : Nat → Int32) (G : Nat → Nat → Int32) (g : Nat → Int32) : (mW h0 q cq F G).set 10 (q 16, .inl (cq 16, 16, .inl g)) = mW h0 q cq F (mUp G 16 g) := rfl
theorem mg_18 (h0 : Nat) (q : Nat → Nat) (cq : Nat → ClassId) (F : Nat → Int32) (G : Nat → Nat → Int32) (g : Nat → Int32) : (mW h0 q cq F G).set 11 (q 18, .inl (cq 18, 8, .inl g)) = mW h0 q cq F (mUp G 18 g) := rfl
theorem mg_19 (h0 : Nat) (q : Nat → Nat) (cq : Nat → ClassId) (F : Nat → Int32) (G : Nat → Nat → Int32) (g : Nat → Int32) : (mW h0 q cq F G).set 12 (q 19, .inl (cq 19, 8, .inl g)) = mW h0 q cq F (mUp G 19 g) := rfl
theorem mg_20 (h0 : Nat) (q : Nat → Nat) (cq : Nat → ClassId) (F : Nat → Int32) (G : Nat → Nat → Int32) (g : Nat → Int32) : (mW h0 q cq F G).set 13 (q 20, .inl (cq 20, 8, .inl g)) = mW h0 q cq F (mUp G 20 g) := rfl
theorem mg_21 (h0 : Nat) (q : Nat → Nat) (cq : Nat → ClassId) (F : Nat → Int32) (G : Nat → Nat → Int32) (g : Nat → Int32) : (mW h0 q cq F G).set 14 (q 21, .inl (cq 21, 8, .inl g)) = mW h0 q cq F (mUp G 21 g) := rfl
theorem mg_22 (h0 : Nat) (q : Nat → Nat) (cq : Nat → ClassId) (F : Nat → Int32) (G : Nat → Nat → Int32) (g : Nat → Int32) : (mW h0 q cq F G).set 15 (q 22, .inl (cq 22, 8, .inl g)) = mW h0 q cq F (mUp G 22 g) := rfl
theorem mg_23 (h0 : Nat) (q : Nat → Nat) (cq : Nat → ClassId) (F : Nat → Int32) (G : Nat → Nat → Int32) (g : Nat → Int32) : (mW h0 q cq F G).set 16 (q 23, .inl (cq 23, 8, .inl g)) = mW h0 q cq F (mUp G 23 g) := rfl
theorem mg_24 (h0 : Nat) (q : Nat → Nat) (cq : Nat → ClassId) (F : Nat → Int32) (G : Nat → Nat → Int32) (g : Nat → Int32) : (mW h0 q cq F G).set 17 (q 24, .inl (cq 24, 8, .inl g)) = mW h0 q cq F (mUp G 24 g) := rfl
theorem mg_25 (h0 : Nat) (q : Nat → Nat) (cq : Nat → ClassId) (F : Nat → Int32) (G : Nat → Nat → Int32) (g : Nat → Int32) : (mW h0 q cq F G).set 18 (q 25, .inl (cq 25, 8, .inl g)) = mW h0 q cq F (mUp G 25 g) := rfl
theorem mg_26 (h0 : Nat) (q : Nat → Nat) (cq : Nat → ClassId) (F : Nat → Int32) (G : Nat → Nat → Int32) (g : Nat → Int32) : (mW h0 q cq F G).set 19 (q 26, .inl (cq 26, 8, .inl g)) = mW h0 q cq F (mUp G 26 g) := rfl
theorem mg_27 (h0 : Nat) (q : Nat → Nat) (cq : Nat → ClassId) (F : Nat → Int32) (G : Nat → Nat → Int32) (g : Nat → Int32) : (mW h0 q cq F G).set 20 (q 27, .inl (cq 27, 8, .inl g)) = mW h0 q cq F (mUp G 27 g) := rfl
theorem mg_28 (h0 : Nat) (q : Nat → Nat) (cq : Nat → ClassId) (F : Nat → Int32) (G : Nat → Nat → Int32) (g : Nat → Int32) : (mW h0 q cq F G).set 21 (q 28, .inl (cq 28, 8, .inl g)) = mW h0 q cq F (mUp G 28 g) := rfl
theorem mg_29 (h0 : Nat) (q : Nat → Nat) (cq : Nat → ClassId) (F : Nat → Int32) (G : Nat → Nat → Int32) (g : Nat → Int32) : (mW h0 q cq F G).set 22 (q 29, .inl (cq 29, 128, .inl g)) = mW h0 q cq F (mUp G 29 g) := rfl
theorem mg_30 (h0 : Nat) (q : Nat → Nat) (cq : Nat → ClassId) (F : Nat → Int32) (G : Nat → Nat → Int32) (g : Nat → Int32) : (mW h0 q cq F G).set 23 (q 30, .inl (cq 30, 128, .inl g)) = mW h0 q cq F (mUp G 30 g) := rfl
theorem mg_32 (h0 : Nat) (q : Nat → Nat) (cq : Nat → ClassId) (F : Nat → Int32) (G : Nat → Nat → Int32) (g : Nat → Int32) : (mW h0 q cq F G).set 24 (q 32, .inl (cq 32, 400, .inl g)) = mW h0 q cq F (mUp G 32 g) := rfl
theorem mg_33 (h0 : Nat) (q : Nat → Nat) (cq : Nat → ClassId) (F : Nat → Int32) (G : Nat → Nat → Int32) (g : Nat → Int32) : (mW h0 q cq F G).set 25 (q 33, .inl (cq 33, 400, .inl g)) = mW h0 q cq F (mUp G 33 g) := rfl
theorem mg_34 (h0 : Nat) (q : Nat → Nat) (cq : Nat → ClassId) (F : Nat → Int32) (G : Nat → Nat → Int32) (g : Nat → Int32) : (mW h0 q cq F G).set 26 (q 34, .inl (cq 34, 400, .inl g)) = mW h0 q cq F (mUp G 34 g) := rfl
theorem mg_35 (h0 : Nat) (q : Nat → Nat) (cq : Nat → ClassId) (F : Nat → Int32) (G : Nat → Nat → Int32) (g : Nat → Int32) : (mW h0 q cq F G).set 27 (q 35, .inl (cq 35, 400, .inl g)) = mW h0 q cq F (mUp G 35 g) := rfl
theorem mg_36 (h0 : Nat) (q : Nat → Nat) (cq : Nat → ClassId) (F : Nat → Int32) (G : Nat → Nat → Int32) (g : Nat → Int32) : (mW h0 q cq F G).set 28 (q 36, .inl (cq 36, 400, .inl g)) = mW h0 q cq F (mUp G 36 g) := rfl
theorem mg_37 (h0 : Nat) (q : Nat → Nat) (cq : Nat → ClassId) (F : Nat → Int32) (G : Nat → Nat → Int32) (g : Nat → Int32) : (mW h0 q cq F G).set 29 (q 37, .inl (cq 37, 400, .inl g)) = mW h0 q cq F (mUp G 37 g) := rfl
theorem mg_38 (h0 : Nat) (q : Nat → Nat) (cq : Nat → ClassId) (F : Nat → Int32) (G : Nat → Nat → Int32) (g : Nat → Int32) : (mW h0 q cq F G).set 30 (q 38, .inl (cq 38, 62, .inl g)) = mW h0 q cq F (mUp G 38 g) := rfl
theorem mg_45 (h0 : Nat) (q : Nat → Nat) (cq : Nat → ClassId) (F : Nat → Int32) (G : Nat → Nat → Int32) (g : Nat → Int32) : (mW h0 q cq F G).set 31 (q 45, .inl (cq 45, 128, .inl g)) = mW h0 q cq F (mUp G 45 g) := rfl
theorem mg_46 (h0 : Nat) (q : Nat → Nat) (cq : Nat → ClassId) (F : Nat → Int32) (G : Nat → Nat → Int32) (g : Nat → Int32) : (mW h0 q cq F G).set 32 (q 46, .inl (cq 46, 128, .inl g)) = mW h0 q cq F (mUp G 46 g) := rfl
theorem mg_47 (h0 : Nat) (q : Nat → Nat) (cq : Nat → ClassId) (F : Nat → Int32) (G : Nat → Nat → Int32) (g : Nat → Int32) : (mW h0 q cq F G).set 33 (q 47, .inl (cq 47, 128, .inl g)) = mW h0 q cq F (mUp G 47 g) := rfl
theorem mg_48 (h0 : Nat) (q : Nat → Nat) (cq : Nat → ClassId) (F : Nat → Int32) (G : Nat → Nat → Int32) (g : Nat → Int32) : (mW h0 q cq F G).set 34 (q 48, .inl (cq 48, 128, .inl g)) = mW h0 q cq F (mUp G 48 g) := rfl
theorem mg_49 (h0 : Nat) (q : Nat → Nat) (cq : Nat → ClassId) (F : Nat → Int32) (G : Nat → Nat → Int32) (g : Nat → Int32) : (mW h0 q cq F G).set 35 (q 49, .inl (cq 49, 128, .inl g)) = mW h0 q cq F (mUp G 49 g) := rfl
theorem mg_50 (h0 : Nat) (q : Nat → Nat) (cq : Nat → ClassId) (F : Nat → Int32) (G : Nat → Nat → Int32) (g : Nat → Int32) : (mW h0 q cq F G).set 36 (q 50, .inl (cq 50, 16, .inl g)) = mW h0 q cq F (mUp G 50 g) := rfl
theorem mg_51 (h0 : Nat) (q : Nat → Nat) (cq : Nat → ClassId) (F : Nat → Int32) (G : Nat → Nat → Int32) (g : Nat → Int32) : (mW h0 q cq F G).set 37 (q 51, .inl (cq 51, 16, .inl g)) = mW h0 q cq F (mUp G 51 g) := rfl
section MR
variable {p : Program} {l : Launch} {e : Env} {R : Room} {s : State} {m : MethodId} {args : Array Value} {below : List Frame} {meth : Method} {c : Code} {H : Heap} {locs : List Loc} {cells slots : Nat} {Q : State → Prop}
variable {cc : ByteArray} {pc : Nat} {ls : Array Slot} {rest : List Value}
variable {Ts : List Cond} {D : va_G} {h0 : Nat} {q : Nat → Nat} {cq : Nat → ClassId} {A : Nat → Prop} {H0 : Heap} {WF WG : List Nat} {Fi : Nat → Int32} {Gi : Nat → Nat → Int32} {F : Nat → Int32} {G : Nat → Nat → Int32}
theorem mr_get (E : mX p c cc s m args Ts D cq) (hM : mQ D h0 q cq A H0 WF WG Fi Gi H locs F G) (k : Nat) (hk : k < 52) {index : Nat} (hlink : Cond.fieldLink RX6 index "SkiShotsModel" (TX6 k).2.1 (TX6 k).2.2.1 ∈ Ts) (hs : (TX6 k).1 = "SkiShotsModel") {v : Value} (hv : (mFs q F)[k]? = some v) (hdg : decode cc pc = .ok (.getfield index, 3))
    (kk : W p l e R s m args below meth c H locs cells slots Q (F0 m (pc + 3) ls (v :: rest))) : W p l e R s m args below meth c H locs cells slots Q (F0 m pc ls (.ref h0 :: rest)) :=
  va_get (D := D) (cl := vwCl) (ci := 6) (C := RX6) (T := TX6) (N := 52) E.1 E.2.1 E.2.2.1 E.2.2.2.1 E.2.2.2.2.1 E.2.2.2.2.2 hM.1 0 rfl rfl k hk (E.2.2.1 _ hlink) (fun x hx => by rw [hs] at hx; exact hx) hv hdg kk
theorem mr_put (E : mX p c cc s m args Ts D cq) (hM : mQ D h0 q cq A H0 WF WG Fi Gi H locs F G) (k : Nat) (hk : k < 52) {index : Nat} (hlink : Cond.fieldLink RX6 index "SkiShotsModel" (TX6 k).2.1 (TX6 k).2.2.1 ∈ Ts) (hs : (TX6 k).1 = "SkiShotsModel") (hfin : (TX6 k).2.2.2 = false) (hty : parseFieldDescriptor (TX6 k).2.2.1 = some .int) {v : Int32} (hset : ∀ (q : Nat → Nat) (F : Nat → Int32) (v : Int32), (mFs q F).set k (.int v) = mFs q (upd F k v)) (hbd : ∀ b, mfb k = some b → b.1 ≤ v.toInt ∧ v.toInt ≤ b.2) (hWF : k ∈ WF) (hdg : decode cc pc = .ok (.putfield index, 3))
    (kk : ∀ (H : Heap) (locs : List Loc), mQ D h0 q cq A H0 WF WG Fi Gi H locs (upd F k v) G → W p l e R s m args below meth c H locs cells slots Q (F0 m (pc + 3) ls rest)) : W p l e R s m args below meth c H locs cells slots Q (F0 m pc ls (.int v :: .ref h0 :: rest)) :=
  va_put (D := D) (cl := vwCl) (ci := 6) (C := RX6) (T := TX6) (N := 52) (ty := .int) E.1 E.2.1 E.2.2.1 E.2.2.2.1 tyX6 tyX6_ok nmX6 E.2.2.2.2.1 E.2.2.2.2.2 hM.1 hM.2.1 hM.2.2.1 0 rfl rfl k hk (E.2.2.1 _ hlink) (fun x hx => by rw [hs] at hx; exact hx) hfin hty rfl rfl hk hdg
    (fun H1 locs1 h1 h2 h3 => kk H1 locs1 ⟨by rw [hset] at h1; exact h1, by rw [hset] at h2; exact h2, h3, mI_upd hM.2.2.2.1 hbd, hM.2.2.2.2.put hWF⟩)
theorem mr_ald (E : mX p c cc s m args Ts D cq) (hM : mQ D h0 q cq A H0 WF WG Fi Gi H locs F G) (q0 t0 : Nat) {a : Nat} {cA : ClassId} {n : Nat} {f : Nat → Int32} (ha : (mW h0 q cq F G)[q0]? = some (a, .inl (cA, n, .inl f))) (ht : (mT cq)[t0]? = some (cA, .int)) {i : Int32} {X : Int} (hi : i.toInt = X) (hin : 0 ≤ X ∧ X < n) (hdg : decode cc pc = .ok (.iaload, 1))
    (kk : W p l e R s m args below meth c H locs cells slots Q (F0 m (pc + 1) ls (.int (f i.toNatClampNeg) :: rest))) : W p l e R s m args below meth c H locs cells slots Q (F0 m pc ls (.int i :: .ref a :: rest)) := va_iald E.1 E.2.1 E.2.2.2.2.2 hM.1 q0 t0 ha ht (by rw [vp_in_iff, hi]; exact hin) hdg kk
theorem mr_zld (E : mX p c cc s m args Ts D cq) (hM : mQ D h0 q cq A H0 WF WG Fi Gi H locs F G) (q0 t0 : Nat) {a : Nat} {cA : ClassId} {n : Nat} {f : Nat → Int32} (ha : (mW h0 q cq F G)[q0]? = some (a, .inl (cA, n, .inl f))) (ht : (mT cq)[t0]? = some (cA, .boolean)) {i : Int32} {X : Int} (hi : i.toInt = X) (hin : 0 ≤ X ∧ X < n) (hdg : decode cc pc = .ok (.baload, 1))
    (kk : W p l e R s m args below meth c H locs cells slots Q (F0 m (pc + 1) ls (.int (f i.toNatClampNeg) :: rest))) : W p l e R s m args below meth c H locs cells slots Q (F0 m pc ls (.int i :: .ref a :: rest)) := va_zald E.1 E.2.1 E.2.2.2.2.2 hM.1 q0 t0 ha ht (by rw [vp_in_iff, hi]; exact hin) hdg kk
theorem mr_ast (E : mX p c cc s m args Ts D cq) (hM : mQ D h0 q cq A H0 WF WG Fi Gi H locs F G) (k q0 t0 : Nat) {n : Nat} (ha : (mW h0 q cq F G)[q0]? = some (q k, .inl (cq k, n, .inl (G k)))) (ht : (mT cq)[t0]? = some (cq k, .int)) {i x : Int32} {X : Int} (hi : i.toInt = X) (hin : 0 ≤ X ∧ X < n) (hset : ∀ (h0 : Nat) (q : Nat → Nat) (cq : Nat → ClassId) (F : Nat → Int32) (G : Nat → Nat → Int32) (g : Nat → Int32), (mW h0 q cq F G).set q0 (q k, .inl (cq k, n, .inl g)) = mW h0 q cq F (mUp G k g)) (hk : k ≠ 38) (hbd : ∀ b, mab k = some b → b.1 ≤ x.toInt ∧ x.toInt ≤ b.2) (hWG : k ∈ WG) (hdg : decode cc pc = .ok (.iastore, 1))
    (kk : ∀ (H : Heap) (locs : List Loc) (G1 : Nat → Nat → Int32), G1 = mUp G k (upd (G k) i.toNatClampNeg x) → mQ D h0 q cq A H0 WF WG Fi Gi H locs F G1 → W p l e R s m args below meth c H locs cells slots Q (F0 m (pc + 1) ls rest)) : W p l e R s m args below meth c H locs cells slots Q (F0 m pc ls (.int x :: .int i :: .ref (q k) :: rest)) :=
  va_iast E.1 E.2.1 E.2.2.2.2.2 hM.1 hM.2.1 hM.2.2.1 q0 t0 ha ht (by rw [vp_in_iff, hi]; exact hin) hdg
    (fun H1 locs1 h1 h2 h3 => kk H1 locs1 _ rfl ⟨by rw [hset] at h1; exact h1, by rw [hset] at h2; exact h2, h3, mI_up hM.2.2.2.1 hk hbd, hM.2.2.2.2.ast hWG⟩)
theorem mr_zst (E : mX p c cc s m args Ts D cq) (hM : mQ D h0 q cq A H0 WF WG Fi Gi H locs F G) (k q0 t0 : Nat) {n : Nat} (ha : (mW h0 q cq F G)[q0]? = some (q k, .inl (cq k, n, .inl (G k)))) (ht : (mT cq)[t0]? = some (cq k, .boolean)) {i x : Int32} {X : Int} (hi : i.toInt = X) (hin : 0 ≤ X ∧ X < n) (hset : ∀ (h0 : Nat) (q : Nat → Nat) (cq : Nat → ClassId) (F : Nat → Int32) (G : Nat → Nat → Int32) (g : Nat → Int32), (mW h0 q cq F G).set q0 (q k, .inl (cq k, n, .inl g)) = mW h0 q cq F (mUp G k g)) (hk : k ≠ 38) (hbd : mab k = none) (hWG : k ∈ WG) (hdg : decode cc pc = .ok (.bastore, 1))
    (kk : ∀ (H : Heap) (locs : List Loc) (G1 : Nat → Nat → Int32), G1 = mUp G k (upd (G k) i.toNatClampNeg (vp_nar .boolean x)) → mQ D h0 q cq A H0 WF WG Fi Gi H locs F G1 → W p l e R s m args below meth c H locs cells slots Q (F0 m (pc + 1) ls rest)) : W p l e R s m args below meth c H locs cells slots Q (F0 m pc ls (.int x :: .int i :: .ref (q k) :: rest)) :=
  va_zast E.1 E.2.1 E.2.2.2.2.2 hM.1 hM.2.1 hM.2.2.1 q0 t0 ha ht (by rw [vp_in_iff, hi]; exact hin) hdg
    (fun H1 locs1 h1 h2 h3 => kk H1 locs1 _ rfl ⟨by rw [hset] at h1; exact h1, by rw [hset] at h2; exact h2, h3, mI_up hM.2.2.2.1 hk (fun b hb => by rw [hbd] at hb; cases hb), hM.2.2.2.2.ast hWG⟩)
theorem mr_alen (E : mX p c cc s m args Ts D cq) (hM : mQ D h0 q cq A H0 WF WG Fi Gi H locs F G) (q0 t0 : Nat) {a : Nat} {cA : ClassId} {n : Nat} {f : Nat → Int32} (ha : (mW h0 q cq F G)[q0]? = some (a, .inl (cA, n, .inl f))) (ht : (mT cq)[t0]? = some (cA, .int)) {v : Int32} (hv : Int32.ofNat n = v) (hdg : decode cc pc = .ok (.arraylength, 1))
    (kk : W p l e R s m args below meth c H locs cells slots Q (F0 m (pc + 1) ls (.int v :: rest))) : W p l e R s m args below meth c H locs cells slots Q (F0 m pc ls (.ref a :: rest)) := va_alen (v := v) E.1 E.2.1 E.2.2.2.2.2 hM.1 q0 t0 ha ht hv hdg kk
/-- a call of a method of the reference -/
theorem mr_calli {y : MethodName} {w : List Cond} {rm : Room} {bytes : ByteArray} {maxL nL n index : Nat} {ret : Option FieldType} {av st0 : List Value} {WF1 WG1 : List Nat} {post : Int32 → (Nat → Int32) → (Nat → Nat → Int32) → Prop} (E : mX p c cc s m args Ts D cq) (hA : ∀ x, H0.size ≤ x → A x) (hml : c.maxLocals = nL) (hM : mQ D h0 q cq A H0 WF WG Fi Gi H locs F G)
    (hC : Met l y w rm (mPre D h0 q cq F G H.size (.ref h0 :: av)) (mQi D h0 q cq F G H.size WF1 WG1 post) 0 0 (va_A (mW h0 q cq F G) H.size)) (cw : CallW R s args RX6 RX6 index y bytes maxL ret w rm 0 0 n) (hn : av.length = n) (hsz : ls.size = nL) (hst : st0 = av.reverse ++ .ref h0 :: rest) (hro : (rest.map fun v => v.category).sum ≤ 8) (hdg : decode cc pc = .ok (.invokevirtual index, 3)) (hf : cells ≤ R.cells ∧ slots ≤ R.slots) (a1 : ∀ k ∈ WF1, k ∈ WF) (a2 : ∀ k ∈ WG1, k ∈ WG)
    (kk : ∀ (r : Int32) (F1 : Nat → Int32) (G1 : Nat → Nat → Int32) (H : Heap) (locs : List Loc), mFr WF1 WG1 F G F1 G1 → post r F1 G1 → mQ D h0 q cq A H0 WF WG Fi Gi H locs F1 G1 → W p l e R s m args below meth c H locs cells slots Q (F0 m (pc + 3) ls (.int r :: rest))) : W p l e R s m args below meth c H locs cells slots Q (F0 m pc ls st0) := by
  obtain ⟨hP, hD, hS, hI, hF⟩ := hM
  have hFc : ∀ x, va_A (mW h0 q cq F G) H.size x → A x := fun x hx => by
    rcases hx with ⟨k, e, hx⟩ | hx
    · exact hD.2 k _ hx
    · exact hA x (Nat.le_trans hS.1 hx)
  refine va_calli (va_runV (As := av) (rest := rest) (b := h0) ⟨E.1, E.2.1, hml, E.2.2.2.2.1, E.2.2.1⟩ hC cw ⟨fun a U g mk z => ?_, va_recv E.2.2.2.2.2 hP (ci := 6) (q0 := 0) rfl rfl, fun U hU hW => ?_⟩ rfl hn hsz hst (lv_room hro) hdg hf) hS (fun x _ h => hFc x h) hFc (fun r u t H1 locs1 ht hvm hw hB hz1 hk1 hS1 => ?_)
  · obtain ⟨z0, z1, zP, zK, zD⟩ := z
    exact ⟨z0, z1, zP, va_K.moved (u := U) (U := U.calling g mk a) (Vm.Alike.refl U.vm) zK, zD⟩
  · exact ⟨rfl, by rw [hU], by rw [hU]; exact hP, va_K.moved hW.alike E.2.2.2.2.2, hD.weaken (fun _ _ _ _ => trivial)⟩
  · obtain ⟨hI1, hF1, hp⟩ := hw
    obtain ⟨hP1, -, hD1⟩ := hB
    rw [ht] at hP1
    exact kk r u.1 u.2 H1 locs1 hF1 hp ⟨hP1, hD1.weaken (fun k x _ h => hFc x.1 h), hS1, hI1, hF.tr hF1 a1 a2⟩
theorem mr_callv {y : MethodName} {w : List Cond} {rm : Room} {bytes : ByteArray} {maxL nL n index : Nat} {ret : Option FieldType} {av st0 : List Value} {WF1 WG1 : List Nat} {post : (Nat → Int32) → (Nat → Nat → Int32) → Prop} (E : mX p c cc s m args Ts D cq) (hA : ∀ x, H0.size ≤ x → A x) (hml : c.maxLocals = nL) (hM : mQ D h0 q cq A H0 WF WG Fi Gi H locs F G)
    (hC : Met l y w rm (mPre D h0 q cq F G H.size (.ref h0 :: av)) (mQv D h0 q cq F G H.size WF1 WG1 post) 0 0 (va_A (mW h0 q cq F G) H.size)) (cw : CallW R s args RX6 RX6 index y bytes maxL ret w rm 0 0 n) (hn : av.length = n) (hsz : ls.size = nL) (hst : st0 = av.reverse ++ .ref h0 :: rest) (hro : (rest.map fun v => v.category).sum ≤ 8) (hdg : decode cc pc = .ok (.invokevirtual index, 3)) (hf : cells ≤ R.cells ∧ slots ≤ R.slots) (a1 : ∀ k ∈ WF1, k ∈ WF) (a2 : ∀ k ∈ WG1, k ∈ WG)
    (kk : ∀ (F1 : Nat → Int32) (G1 : Nat → Nat → Int32) (H : Heap) (locs : List Loc), mFr WF1 WG1 F G F1 G1 → post F1 G1 → mQ D h0 q cq A H0 WF WG Fi Gi H locs F1 G1 → W p l e R s m args below meth c H locs cells slots Q (F0 m (pc + 3) ls rest)) : W p l e R s m args below meth c H locs cells slots Q (F0 m pc ls st0) := by
  obtain ⟨hP, hD, hS, hI, hF⟩ := hM
  have hFc : ∀ x, va_A (mW h0 q cq F G) H.size x → A x := fun x hx => by
    rcases hx with ⟨k, e, hx⟩ | hx
    · exact hD.2 k _ hx
    · exact hA x (Nat.le_trans hS.1 hx)
  refine va_callv (va_runV (As := av) (rest := rest) (b := h0) ⟨E.1, E.2.1, hml, E.2.2.2.2.1, E.2.2.1⟩ hC cw ⟨fun a U g mk z => ?_, va_recv E.2.2.2.2.2 hP (ci := 6) (q0 := 0) rfl rfl, fun U hU hW => ?_⟩ rfl hn hsz hst (lv_room hro) hdg hf) hS (fun x _ h => hFc x h) hFc (fun u t H1 locs1 ht hvm hw hB hz1 hk1 hS1 => ?_)
  · obtain ⟨z0, z1, zP, zK, zD⟩ := z
    exact ⟨z0, z1, zP, va_K.moved (u := U) (U := U.calling g mk a) (Vm.Alike.refl U.vm) zK, zD⟩
  · exact ⟨rfl, by rw [hU], by rw [hU]; exact hP, va_K.moved hW.alike E.2.2.2.2.2, hD.weaken (fun _ _ _ _ => trivial)⟩
  · obtain ⟨hI1, hF1, hp⟩ := hw
    obtain ⟨hP1, -, hD1⟩ := hB
    rw [ht] at hP1
    exact kk u.1 u.2 H1 locs1 hF1 hp ⟨hP1, hD1.weaken (fun k x _ h => hFc x.1 h), hS1, hI1, hF.tr hF1 a1 a2⟩
/-- a call of a method that changes nothing -/
theorem mr_callp {y : MethodName} {w : List Cond} {rm : Room} {bytes : ByteArray} {maxL nL n index : Nat} {ret : Option FieldType} {av st0 : List Value} {post : Int32 → (Nat → Int32) → (Nat → Nat → Int32) → Prop} (E : mX p c cc s m args Ts D cq) (hA : ∀ x, H0.size ≤ x → A x) (hml : c.maxLocals = nL) (hM : mQ D h0 q cq A H0 WF WG Fi Gi H locs F G)
    (hC : Met l y w rm (mPre D h0 q cq F G H.size (.ref h0 :: av)) (mQi D h0 q cq F G H.size [] [] post) 0 0 (va_A (mW h0 q cq F G) H.size)) (cw : CallW R s args RX6 RX6 index y bytes maxL ret w rm 0 0 n) (hn : av.length = n) (hsz : ls.size = nL) (hst : st0 = av.reverse ++ .ref h0 :: rest) (hro : (rest.map fun v => v.category).sum ≤ 8) (hdg : decode cc pc = .ok (.invokevirtual index, 3)) (hf : cells ≤ R.cells ∧ slots ≤ R.slots)
    (kk : ∀ (r : Int32) (H : Heap) (locs : List Loc), post r F G → mQ D h0 q cq A H0 WF WG Fi Gi H locs F G → W p l e R s m args below meth c H locs cells slots Q (F0 m (pc + 3) ls (.int r :: rest))) : W p l e R s m args below meth c H locs cells slots Q (F0 m pc ls st0) := by
  refine mr_calli E hA hml hM hC cw hn hsz hst hro hdg hf (fun _ h => by cases h) (fun _ h => by cases h) (fun r F1 G1 H locs h1 h2 h3 => ?_)
  have e1 : F1 = F := funext fun k => h1.1 k (by simp)
  have e2 : G1 = G := funext fun k => h1.2 k (by simp)
  subst e1; subst e2
  exact kk r H locs h2 h3
theorem mr_ri {post : Int32 → (Nat → Int32) → (Nat → Nat → Int32) → Prop} {sz : Nat} {v : Int32} (E : mX p c cc s m args Ts D cq) (hr : meth.sig.returnType = some .int) (hlocks : meth.locks = false) (hsz : s.heap.size = sz) (hM : mQ D h0 q cq (va_A (mW h0 q cq Fi Gi) sz) s.heap WF WG Fi Gi H locs F G) (hp : post v F G) (hdg : decode cc pc = .ok (.ireturn, 1)) : W p l e R s m args below meth c H locs cells slots (MQ below (mQi D h0 q cq Fi Gi sz WF WG post) args s cells slots (va_A (mW h0 q cq Fi Gi) sz)) (F0 m pc ls [.int v]) := by
  obtain ⟨hP, hD, hS, hI, hF⟩ := hM
  exact W.iret (v := v) E.1 E.2.1 hr (fun t ht hW => ⟨⟨v, (F, G), rfl, ⟨hI, hF, hp⟩, by rw [ht]; exact hP, va_K.moved hW.alike E.2.2.2.2.2, hD⟩, hS.F ht⟩) hS.2.2 hdg
theorem mr_rz {post : Int32 → (Nat → Int32) → (Nat → Nat → Int32) → Prop} {sz : Nat} {v : Int32} {X : Int} (E : mX p c cc s m args Ts D cq) (hr : meth.sig.returnType = some .boolean) (hlocks : meth.locks = false) (hsz : s.heap.size = sz) (hM : mQ D h0 q cq (va_A (mW h0 q cq Fi Gi) sz) s.heap WF WG Fi Gi H locs F G) (hv : v.toInt = X) (hv2 : X = 0 ∨ X = 1) (hp : post v F G) (hdg : decode cc pc = .ok (.ireturn, 1)) : W p l e R s m args below meth c H locs cells slots (MQ below (mQi D h0 q cq Fi Gi sz WF WG post) args s cells slots (va_A (mW h0 q cq Fi Gi) sz)) (F0 m pc ls [.int v]) := by
  obtain ⟨hP, hD, hS, hI, hF⟩ := hM
  have hn : narrow .boolean (.int v) = .int v := by
    rcases hv2 with h | h
    · have e : v = 0 := Int32.toInt_inj.mp (by rw [hv, h]; decide)
      subst e; rfl
    · have e : v = 1 := Int32.toInt_inj.mp (by rw [hv, h]; decide)
      subst e; rfl
  exact W.zret (v := v) (ty := .boolean) E.1 E.2.1 hr hn (fun t ht hW => ⟨⟨v, (F, G), rfl, ⟨hI, hF, hp⟩, by rw [ht]; exact hP, va_K.moved hW.alike E.2.2.2.2.2, hD⟩, hS.F ht⟩) hS.2.2 hdg
theorem mr_rv {post : (Nat → Int32) → (Nat → Nat → Int32) → Prop} {sz : Nat} (E : mX p c cc s m args Ts D cq) (hr : meth.sig.returnType = none) (hlocks : meth.locks = false) (hsz : s.heap.size = sz) (hM : mQ D h0 q cq (va_A (mW h0 q cq Fi Gi) sz) s.heap WF WG Fi Gi H locs F G) (hp : post F G) (hdg : decode cc pc = .ok (.return_, 1)) : W p l e R s m args below meth c H locs cells slots (MQ below (mQv D h0 q cq Fi Gi sz WF WG post) args s cells slots (va_A (mW h0 q cq Fi Gi) sz)) (F0 m pc ls []) := by
  obtain ⟨hP, hD, hS, hI, hF⟩ := hM
  exact W.vret E.1 E.2.1 hr (fun t ht hW => ⟨⟨(F, G), rfl, ⟨hI, hF, hp⟩, by rw [ht]; exact hP, va_K.moved hW.alike E.2.2.2.2.2, hD⟩, hS.F ht⟩) hS.2.2 hdg
/-- a method of the reference from its start -/
theorem mr_met {y : MethodName} {w w' : List Cond} {rm : Room} {maxL sz : Nat} {ret : Option FieldType} {av : List Value} {Qc : Array Value → State → Outcome → State → Prop} (hy : plainName y.cls = true) (hw : w = Cond.code y cc maxL ret :: w') (hc : y.cls = RX6) (hin : ∀ x ∈ wsX60, x ∈ w) (hlen : (lg_sl av).length ≤ maxL) (hI : mI F G)
    (body : ∀ (p : Program) (e : Env) (s : State) (m : MethodId) (args : Array Value) (below : List Frame) (meth : Method) (c : Code) (ls : Array Slot), mX p c cc s m args w D cq → c.maxLocals = maxL → meth.sig.returnType = ret → meth.locks = false → s.heap.size = sz → (∀ x, s.heap.size ≤ x → va_A (mW h0 q cq F G) sz x) → mQ D h0 q cq (va_A (mW h0 q cq F G) sz) s.heap WF WG F G s.heap [] F G → lv_has ls maxL (lv_args 0 av) → W p l e rm s m args below meth c s.heap [] 0 0 (MQ below Qc args s 0 0 (va_A (mW h0 q cq F G) sz)) (F0 m 0 ls [])) :
    Met l y w rm (mPre D h0 q cq F G sz av) Qc 0 0 (va_A (mW h0 q cq F G) sz) := by
  refine Met.ofW (cc := cc) (maxL := maxL) (ret := ret) hy hw ?_
  intro p e s m args below meth c s₁ B hml hv
  obtain ⟨rfl, hsz, hP, hK, hD0⟩ := hv
  have hown : s.vm.findClass RX6 = some m.cls := by rw [← hc]; exact findClass_of_methodNamed B.named
  have hl := lv_entry av (n := maxL) hlen
  rw [lg_entry_eq]
  exact body p e s m _ below meth c _ ⟨B.exec, B.bytes, atoms_spec (ws := w) B.pre, hin, hown, hK⟩ hml B.returns B.notSynchronized hsz (fun x hx => Or.inr (by rw [← hsz]; exact hx)) ⟨hP, hD0.self, va_S.rf, hI, mFr.rf⟩ hl
end MR
end
section
theorem mm_nb {k : Nat} {v : Int32} (h : mfb k = none) : ∀ b, mfb k = some b → b.1 ≤ v.toInt ∧ v.toInt ≤ b.2 := fun b hb => by rw [h] at hb; cases hb
theorem mm_nbA {k : Nat} {v : Int32} (h : mab k = none) : ∀ b, mab k = some b → b.1 ≤ v.toInt ∧ v.toInt ≤ b.2 := fun b hb => by rw [h] at hb; cases hb
theorem mm_bd {k : Nat} {v : Int32} {X a b : Int} (h : mfb k = some (a, b)) (hv : v.toInt = X) (h2 : a ≤ X ∧ X ≤ b) : ∀ b, mfb k = some b → b.1 ≤ v.toInt ∧ v.toInt ≤ b.2 := fun b hb => by rw [h] at hb; cases hb; rw [hv]; exact h2
theorem mm_bdA {k : Nat} {v : Int32} {X a b : Int} (h : mab k = some (a, b)) (hv : v.toInt = X) (h2 : a ≤ X ∧ X ≤ b) : ∀ b, mab k = some b → b.1 ≤ v.toInt ∧ v.toInt ≤ b.2 := fun b hb => by rw [h] at hb; cases hb; rw [hv]; exact h2
theorem mr_calls {p : Program} {l : Launch} {e : Env} {R : Room} {s : State} {m : MethodId} {args : Array Value} {below : List Frame} {meth : Method} {c : Code} {H : Heap} {locs : List Loc} {cells slots : Nat} {Q : State → Prop} {cc : ByteArray} {pc : Nat} {ls : Array Slot} {rest : List Value} {Ts : List Cond} {D : va_G} {h0 : Nat} {q : Nat → Nat} {cq : Nat → ClassId} {A : Nat → Prop} {H0 : Heap} {WF WG : List Nat} {Fi : Nat → Int32} {Gi : Nat → Nat → Int32} {F : Nat → Int32} {G : Nat → Nat → Int32}
    {y : MethodName} {w : List Cond} {rm : Room} {bytes : ByteArray} {maxL nL n index : Nat} {ret : Option FieldType} {av st0 : List Value} {post : Int32 → (Nat → Int32) → (Nat → Nat → Int32) → Prop} (E : mX p c cc s m args Ts D cq) (hA : ∀ x, H0.size ≤ x → A x) (hml : c.maxLocals = nL) (hM : mQ D h0 q cq A H0 WF WG Fi Gi H locs F G)
    (hC : Met l y w rm (mPre D h0 q cq F G H.size av) (mQi D h0 q cq F G H.size [] [] post) 0 0 (va_A (mW h0 q cq F G) H.size)) (cw : CallB R s args RX6 index y bytes maxL ret w rm 0 0 n ∧ (Cond.static y).before args s = true) (hn : av.length = n) (hsz : ls.size = nL) (hst : st0 = av.reverse ++ rest) (hro : (rest.map fun v => v.category).sum ≤ 8) (hdg : decode cc pc = .ok (.invokestatic index, 3)) (hf : cells ≤ R.cells ∧ slots ≤ R.slots)
    (kk : ∀ (r : Int32) (H : Heap) (locs : List Loc), post r F G → mQ D h0 q cq A H0 WF WG Fi Gi H locs F G → W p l e R s m args below meth c H locs cells slots Q (F0 m (pc + 3) ls (.int r :: rest))) : W p l e R s m args below meth c H locs cells slots Q (F0 m pc ls st0) := by
  obtain ⟨hP, hD, hS, hI, hF⟩ := hM
  have hFc : ∀ x, va_A (mW h0 q cq F G) H.size x → A x := fun x hx => by
    rcases hx with ⟨k, e, hx⟩ | hx
    · exact hD.2 k _ hx
    · exact hA x (Nat.le_trans hS.1 hx)
  refine va_calli (va_runS (As := av) (rest := rest) ⟨E.1, E.2.1, hml, E.2.2.2.2.1, E.2.2.1⟩ hC cw ⟨fun a U g mk z => ?_, fun U hU hW => ?_⟩ rfl hn hsz hst (lv_room hro) hdg hf) hS (fun x _ h => hFc x h) hFc (fun r u t H1 locs1 ht hvm hw hB hz1 hk1 hS1 => ?_)
  · obtain ⟨z0, z1, zP, zK, zD⟩ := z
    exact ⟨z0, z1, zP, va_K.moved (u := U) (U := U.calling g mk a) (Vm.Alike.refl U.vm) zK, zD⟩
  · exact ⟨rfl, by rw [hU], by rw [hU]; exact hP, va_K.moved hW.alike E.2.2.2.2.2, hD.weaken (fun _ _ _ _ => trivial)⟩
  · obtain ⟨hI1, hF1, hp⟩ := hw
    obtain ⟨hP1, -, hD1⟩ := hB
    rw [ht] at hP1
    have e1 : u.1 = F := funext fun k => hF1.1 k (by simp)
    have e2 : u.2 = G := funext fun k => hF1.2 k (by simp)
    rw [e1, e2] at hP1 hI1 hp
    rw [e1, e2] at hD1
    exact kk r H1 locs1 hp ⟨hP1, hD1.weaken (fun k x _ h => hFc x.1 h), hS1, hI1, hF⟩
theorem num_m1 : ((-1) : Int32).toInt = -1 := by decide
theorem num_0 : (0 : Int32).toInt = 0 := by decide
theorem num_1 : (1 : Int32).toInt = 1 := by decide
theorem num_7 : (7 : Int32).toInt = 7 := by decide
theorem num_16 : (16 : Int32).toInt = 16 := by decide
theorem num_200 : (200 : Int32).toInt = 200 := by decide
def w3X6_isRace : List Cond := .code yX6_isRace cX6_isRace 2 (some .boolean) :: ([.fieldLink RX6 200 "SkiShotsModel" "races" "I"] ++ wsX60)
set_option maxHeartbeats 4000000 in
set_option maxRecDepth 100000 in
theorem g3_X6_isRace (l : Launch) (D : va_G) (h0 : Nat) (q : Nat → Nat) (cq : Nat → ClassId) (F : Nat → Int32) (G : Nat → Nat → Int32) (sz : Nat) (p0 : Int32) (hI : mI F G)  : Met l yX6_isRace w3X6_isRace ({ frames := 0, cells := 0, slots := 0, locals := 0 }) (mPre D h0 q cq F G sz [.ref h0, .int p0]) (mQi D h0 q cq F G sz [] [] (fun r F' G' => (r.toInt = 1 ∧ 0 ≤ p0.toInt ∧ p0.toInt < (F 17).toInt) ∨ (r.toInt = 0 ∧ ¬ (0 ≤ p0.toInt ∧ p0.toInt < (F 17).toInt)))) 0 0 (va_A (mW h0 q cq F G) sz) := by
  refine mr_met (WF := []) (WG := []) (cc := cX6_isRace) (maxL := 2) (ret := (some .boolean)) (by decide) rfl rfl (by decide +kernel) (Nat.le_of_ble_eq_true rfl) hI ?_
  intro p e s m args below meth c ls E hml hr hlk hsz hA hM hl
  have hx := E.1
  have hb := E.2.1
  have hts := E.2.2.1
  have hown := E.2.2.2.2.1
  have hl : lv_has ls 2 [(0, .ref h0), (1, .int p0)] := hl
  refine lv_iload_n hx hb dX6_isRace_0 rfl (lv_at hl 1 rfl) ?_
  refine mm_if_lt (X := p0.toInt) (tgt := 16) hx hb dX6_isRace_1 (by decide) rfl (fun c_1 => ?_) (fun c_1 => ?_)
  · refine lv_iconst (v := 0) hx hb dX6_isRace_16 (by decide) ?_
    exact mr_rz (X := 0) E hr hlk hsz hM num_0 (by omega) (show ((0 : Int32).toInt = 1 ∧ 0 ≤ p0.toInt ∧ p0.toInt < (F 17).toInt) ∨ ((0 : Int32).toInt = 0 ∧ ¬ (0 ≤ p0.toInt ∧ p0.toInt < (F 17).toInt)) from by have n9 := num_0; omega) dX6_isRace_17
  · refine lv_iload_n hx hb dX6_isRace_4 rfl (lv_at hl 1 rfl) ?_
    refine lv_aload_n hx hb dX6_isRace_5 rfl (lv_at hl 0 rfl) ?_
    have b_2 : 0 ≤ (F 17).toInt ∧ (F 17).toInt ≤ 8 := hM.fb 17 rfl
    refine mr_get (v := .int (F 17)) E hM 17 (by decide) (index := 200) (mm_at 1 rfl) rfl rfl dX6_isRace_6 ?_
    refine mm_icmp_ge (X := p0.toInt) (Y := (F 17).toInt) (tgt := 16) hx hb dX6_isRace_9 (by decide) rfl rfl (fun c_3 => ?_) (fun c_3 => ?_)
    · refine lv_iconst (v := 0) hx hb dX6_isRace_16 (by decide) ?_
      exact mr_rz (X := 0) E hr hlk hsz hM num_0 (by omega) (show ((0 : Int32).toInt = 1 ∧ 0 ≤ p0.toInt ∧ p0.toInt < (F 17).toInt) ∨ ((0 : Int32).toInt = 0 ∧ ¬ (0 ≤ p0.toInt ∧ p0.toInt < (F 17).toInt)) from by have n9 := num_0; omega) dX6_isRace_17
    · refine lv_iconst (v := 1) hx hb dX6_isRace_12 (by decide) ?_
      refine lv_goto (tgt := 17) hx hb dX6_isRace_13 (by decide) ?_
      exact mr_rz (X := 1) E hr hlk hsz hM num_1 (by omega) (show ((1 : Int32).toInt = 1 ∧ 0 ≤ p0.toInt ∧ p0.toInt < (F 17).toInt) ∨ ((1 : Int32).toInt = 0 ∧ ¬ (0 ≤ p0.toInt ∧ p0.toInt < (F 17).toInt)) from by have n9 := num_1; omega) dX6_isRace_17
def w3X6_isRacer : List Cond := .code yX6_isRacer cX6_isRacer 2 (some .boolean) :: ([.fieldLink RX6 197 "SkiShotsModel" "racers" "I"] ++ wsX60)
set_option maxHeartbeats 4000000 in
set_option maxRecDepth 100000 in
theorem g3_X6_isRacer (l : Launch) (D : va_G) (h0 : Nat) (q : Nat → Nat) (cq : Nat → ClassId) (F : Nat → Int32) (G : Nat → Nat → Int32) (sz : Nat) (p0 : Int32) (hI : mI F G)  : Met l yX6_isRacer w3X6_isRacer ({ frames := 0, cells := 0, slots := 0, locals := 0 }) (mPre D h0 q cq F G sz [.ref h0, .int p0]) (mQi D h0 q cq F G sz [] [] (fun r F' G' => (r.toInt = 1 ∧ 0 ≤ p0.toInt ∧ p0.toInt < (F 15).toInt) ∨ (r.toInt = 0 ∧ ¬ (0 ≤ p0.toInt ∧ p0.toInt < (F 15).toInt)))) 0 0 (va_A (mW h0 q cq F G) sz) := by
  refine mr_met (WF := []) (WG := []) (cc := cX6_isRacer) (maxL := 2) (ret := (some .boolean)) (by decide) rfl rfl (by decide +kernel) (Nat.le_of_ble_eq_true rfl) hI ?_
  intro p e s m args below meth c ls E hml hr hlk hsz hA hM hl
  have hx := E.1
  have hb := E.2.1
  have hts := E.2.2.1
  have hown := E.2.2.2.2.1
  have hl : lv_has ls 2 [(0, .ref h0), (1, .int p0)] := hl
  refine lv_iload_n hx hb dX6_isRacer_0 rfl (lv_at hl 1 rfl) ?_
  refine mm_if_lt (X := p0.toInt) (tgt := 16) hx hb dX6_isRacer_1 (by decide) rfl (fun c_1 => ?_) (fun c_1 => ?_)
  · refine lv_iconst (v := 0) hx hb dX6_isRacer_16 (by decide) ?_
    exact mr_rz (X := 0) E hr hlk hsz hM num_0 (by omega) (show ((0 : Int32).toInt = 1 ∧ 0 ≤ p0.toInt ∧ p0.toInt < (F 15).toInt) ∨ ((0 : Int32).toInt = 0 ∧ ¬ (0 ≤ p0.toInt ∧ p0.toInt < (F 15).toInt)) from by have n9 := num_0; omega) dX6_isRacer_17
  · refine lv_iload_n hx hb dX6_isRacer_4 rfl (lv_at hl 1 rfl) ?_
    refine lv_aload_n hx hb dX6_isRacer_5 rfl (lv_at hl 0 rfl) ?_
    have b_2 : 0 ≤ (F 15).toInt ∧ (F 15).toInt ≤ 16 := hM.fb 15 rfl
    refine mr_get (v := .int (F 15)) E hM 15 (by decide) (index := 197) (mm_at 1 rfl) rfl rfl dX6_isRacer_6 ?_
    refine mm_icmp_ge (X := p0.toInt) (Y := (F 15).toInt) (tgt := 16) hx hb dX6_isRacer_9 (by decide) rfl rfl (fun c_3 => ?_) (fun c_3 => ?_)
    · refine lv_iconst (v := 0) hx hb dX6_isRacer_16 (by decide) ?_
      exact mr_rz (X := 0) E hr hlk hsz hM num_0 (by omega) (show ((0 : Int32).toInt = 1 ∧ 0 ≤ p0.toInt ∧ p0.toInt < (F 15).toInt) ∨ ((0 : Int32).toInt = 0 ∧ ¬ (0 ≤ p0.toInt ∧ p0.toInt < (F 15).toInt)) from by have n9 := num_0; omega) dX6_isRacer_17
    · refine lv_iconst (v := 1) hx hb dX6_isRacer_12 (by decide) ?_
      refine lv_goto (tgt := 17) hx hb dX6_isRacer_13 (by decide) ?_
      exact mr_rz (X := 1) E hr hlk hsz hM num_1 (by omega) (show ((1 : Int32).toInt = 1 ∧ 0 ≤ p0.toInt ∧ p0.toInt < (F 15).toInt) ∨ ((1 : Int32).toInt = 0 ∧ ¬ (0 ≤ p0.toInt ∧ p0.toInt < (F 15).toInt)) from by have n9 := num_1; omega) dX6_isRacer_17
def w3X6_isDay : List Cond := .code yX6_isDay cX6_isDay 2 (some .boolean) :: ([.fieldLink RX6 194 "SkiShotsModel" "today" "I"] ++ wsX60)
set_option maxHeartbeats 4000000 in
set_option maxRecDepth 100000 in
theorem g3_X6_isDay (l : Launch) (D : va_G) (h0 : Nat) (q : Nat → Nat) (cq : Nat → ClassId) (F : Nat → Int32) (G : Nat → Nat → Int32) (sz : Nat) (p0 : Int32) (hI : mI F G)  : Met l yX6_isDay w3X6_isDay ({ frames := 0, cells := 0, slots := 0, locals := 0 }) (mPre D h0 q cq F G sz [.ref h0, .int p0]) (mQi D h0 q cq F G sz [] [] (fun r F' G' => (r.toInt = 1 ∧ 0 ≤ p0.toInt ∧ p0.toInt ≤ (F 3).toInt) ∨ (r.toInt = 0 ∧ ¬ (0 ≤ p0.toInt ∧ p0.toInt ≤ (F 3).toInt)))) 0 0 (va_A (mW h0 q cq F G) sz) := by
  refine mr_met (WF := []) (WG := []) (cc := cX6_isDay) (maxL := 2) (ret := (some .boolean)) (by decide) rfl rfl (by decide +kernel) (Nat.le_of_ble_eq_true rfl) hI ?_
  intro p e s m args below meth c ls E hml hr hlk hsz hA hM hl
  have hx := E.1
  have hb := E.2.1
  have hts := E.2.2.1
  have hown := E.2.2.2.2.1
  have hl : lv_has ls 2 [(0, .ref h0), (1, .int p0)] := hl
  refine lv_iload_n hx hb dX6_isDay_0 rfl (lv_at hl 1 rfl) ?_
  refine mm_if_lt (X := p0.toInt) (tgt := 16) hx hb dX6_isDay_1 (by decide) rfl (fun c_1 => ?_) (fun c_1 => ?_)
  · refine lv_iconst (v := 0) hx hb dX6_isDay_16 (by decide) ?_
    exact mr_rz (X := 0) E hr hlk hsz hM num_0 (by omega) (show ((0 : Int32).toInt = 1 ∧ 0 ≤ p0.toInt ∧ p0.toInt ≤ (F 3).toInt) ∨ ((0 : Int32).toInt = 0 ∧ ¬ (0 ≤ p0.toInt ∧ p0.toInt ≤ (F 3).toInt)) from by have n9 := num_0; omega) dX6_isDay_17
  · refine lv_iload_n hx hb dX6_isDay_4 rfl (lv_at hl 1 rfl) ?_
    refine lv_aload_n hx hb dX6_isDay_5 rfl (lv_at hl 0 rfl) ?_
    have b_2 : 0 ≤ (F 3).toInt ∧ (F 3).toInt ≤ 200 := hM.fb 3 rfl
    refine mr_get (v := .int (F 3)) E hM 3 (by decide) (index := 194) (mm_at 1 rfl) rfl rfl dX6_isDay_6 ?_
    refine mm_icmp_gt (X := p0.toInt) (Y := (F 3).toInt) (tgt := 16) hx hb dX6_isDay_9 (by decide) rfl rfl (fun c_3 => ?_) (fun c_3 => ?_)
    · refine lv_iconst (v := 0) hx hb dX6_isDay_16 (by decide) ?_
      exact mr_rz (X := 0) E hr hlk hsz hM num_0 (by omega) (show ((0 : Int32).toInt = 1 ∧ 0 ≤ p0.toInt ∧ p0.toInt ≤ (F 3).toInt) ∨ ((0 : Int32).toInt = 0 ∧ ¬ (0 ≤ p0.toInt ∧ p0.toInt ≤ (F 3).toInt)) from by have n9 := num_0; omega) dX6_isDay_17
    · refine lv_iconst (v := 1) hx hb dX6_isDay_12 (by decide) ?_
      refine lv_goto (tgt := 17) hx hb dX6_isDay_13 (by decide) ?_
      exact mr_rz (X := 1) E hr hlk hsz hM num_1 (by omega) (show ((1 : Int32).toInt = 1 ∧ 0 ≤ p0.toInt ∧ p0.toInt ≤ (F 3).toInt) ∨ ((1 : Int32).toInt = 0 ∧ ¬ (0 ≤ p0.toInt ∧ p0.toInt ≤ (F 3).toInt)) from by have n9 := num_1; omega) dX6_isDay_17
def w3X6_wrong : List Cond := .code yX6_wrong cX6_wrong 3 (some .boolean) :: ([.fieldLink RX6 132 "SkiShotsModel" "fault" "I", .fieldLink RX6 38 "SkiShotsModel" "faultPlace" "I"] ++ wsX60)
set_option maxHeartbeats 4000000 in
set_option maxRecDepth 100000 in
theorem g3_X6_wrong (l : Launch) (D : va_G) (h0 : Nat) (q : Nat → Nat) (cq : Nat → ClassId) (F : Nat → Int32) (G : Nat → Nat → Int32) (sz : Nat) (p0 : Int32) (p1 : Int32) (hI : mI F G)  : Met l yX6_wrong w3X6_wrong ({ frames := 0, cells := 0, slots := 0, locals := 0 }) (mPre D h0 q cq F G sz [.ref h0, .int p0, .int p1]) (mQi D h0 q cq F G sz [13, 14] [] (fun r F' G' => r.toInt = 0)) 0 0 (va_A (mW h0 q cq F G) sz) := by
  refine mr_met (WF := [13, 14]) (WG := []) (cc := cX6_wrong) (maxL := 3) (ret := (some .boolean)) (by decide) rfl rfl (by decide +kernel) (Nat.le_of_ble_eq_true rfl) hI ?_
  intro p e s m args below meth c ls E hml hr hlk hsz hA hM hl
  have hx := E.1
  have hb := E.2.1
  have hts := E.2.2.1
  have hown := E.2.2.2.2.1
  have hl : lv_has ls 3 [(0, .ref h0), (1, .int p0), (2, .int p1)] := hl
  refine lv_aload_n hx hb dX6_wrong_0 rfl (lv_at hl 0 rfl) ?_
  refine lv_iload_n hx hb dX6_wrong_1 rfl (lv_at hl 1 rfl) ?_
  refine mr_put (v := p0) E hM 13 (by decide) (index := 132) (mm_at 1 rfl) rfl rfl (by decide +kernel) ms_13 (mm_nb rfl) (by decide) dX6_wrong_2 (fun H locs hM => ?_)
  refine lv_aload_n hx hb dX6_wrong_5 rfl (lv_at hl 0 rfl) ?_
  refine lv_iload_n hx hb dX6_wrong_6 rfl (lv_at hl 2 rfl) ?_
  refine mr_put (v := p1) E hM 14 (by decide) (index := 38) (mm_at 2 rfl) rfl rfl (by decide +kernel) ms_14 (mm_nb rfl) (by decide) dX6_wrong_7 (fun H locs hM => ?_)
  refine lv_iconst (v := 0) hx hb dX6_wrong_10 (by decide) ?_
  exact mr_rz (X := 0) E hr hlk hsz hM num_0 (by omega) (show (0 : Int32).toInt = 0 from by have n9 := num_0; omega) dX6_wrong_11
def w3X6_fails : List Cond := .code yX6_fails cX6_fails 2 (some .int) :: ([.fieldLink RX6 126 "SkiShotsModel" "thrown" "I"] ++ wsX60)
set_option maxHeartbeats 4000000 in
set_option maxRecDepth 100000 in
theorem g3_X6_fails (l : Launch) (D : va_G) (h0 : Nat) (q : Nat → Nat) (cq : Nat → ClassId) (F : Nat → Int32) (G : Nat → Nat → Int32) (sz : Nat) (p0 : Int32) (hI : mI F G)  : Met l yX6_fails w3X6_fails ({ frames := 0, cells := 0, slots := 0, locals := 0 }) (mPre D h0 q cq F G sz [.ref h0, .int p0]) (mQi D h0 q cq F G sz [2] [] (fun r F' G' => True)) 0 0 (va_A (mW h0 q cq F G) sz) := by
  refine mr_met (WF := [2]) (WG := []) (cc := cX6_fails) (maxL := 2) (ret := (some .int)) (by decide) rfl rfl (by decide +kernel) (Nat.le_of_ble_eq_true rfl) hI ?_
  intro p e s m args below meth c ls E hml hr hlk hsz hA hM hl
  have hx := E.1
  have hb := E.2.1
  have hts := E.2.2.1
  have hown := E.2.2.2.2.1
  have hl : lv_has ls 2 [(0, .ref h0), (1, .int p0)] := hl
  refine lv_aload_n hx hb dX6_fails_0 rfl (lv_at hl 0 rfl) ?_
  refine lv_iload_n hx hb dX6_fails_1 rfl (lv_at hl 1 rfl) ?_
  refine mr_put (v := p0) E hM 2 (by decide) (index := 126) (mm_at 1 rfl) rfl rfl (by decide +kernel) ms_2 (mm_nb rfl) (by decide) dX6_fails_2 (fun H locs hM => ?_)
  refine lv_iconst (v := 0) hx hb dX6_fails_5 (by decide) ?_
  exact mr_ri E hr hlk hsz hM trivial dX6_fails_6
def w3X6_fault : List Cond := .code yX6_fault cX6_fault 2 (some .int) :: ([.fieldLink RX6 126 "SkiShotsModel" "thrown" "I", .fieldLink RX6 38 "SkiShotsModel" "faultPlace" "I", .fieldLink RX6 132 "SkiShotsModel" "fault" "I"] ++ wsX60)
set_option maxHeartbeats 4000000 in
set_option maxRecDepth 100000 in
theorem g3_X6_fault (l : Launch) (D : va_G) (h0 : Nat) (q : Nat → Nat) (cq : Nat → ClassId) (F : Nat → Int32) (G : Nat → Nat → Int32) (sz : Nat) (p0 : Int32) (hI : mI F G)  : Met l yX6_fault w3X6_fault ({ frames := 0, cells := 0, slots := 0, locals := 0 }) (mPre D h0 q cq F G sz [.ref h0, .int p0]) (mQi D h0 q cq F G sz [2] [] (fun r F' G' => True)) 0 0 (va_A (mW h0 q cq F G) sz) := by
  refine mr_met (WF := [2]) (WG := []) (cc := cX6_fault) (maxL := 2) (ret := (some .int)) (by decide) rfl rfl (by decide +kernel) (Nat.le_of_ble_eq_true rfl) hI ?_
  intro p e s m args below meth c ls E hml hr hlk hsz hA hM hl
  have hx := E.1
  have hb := E.2.1
  have hts := E.2.2.1
  have hown := E.2.2.2.2.1
  have hl : lv_has ls 2 [(0, .ref h0), (1, .int p0)] := hl
  refine lv_aload_n hx hb dX6_fault_0 rfl (lv_at hl 0 rfl) ?_
  refine lv_iconst (v := 0) hx hb dX6_fault_1 (by decide) ?_
  refine mr_put (v := 0) E hM 2 (by decide) (index := 126) (mm_at 1 rfl) rfl rfl (by decide +kernel) ms_2 (mm_nb rfl) (by decide) dX6_fault_2 (fun H locs hM => ?_)
  refine lv_iload_n hx hb dX6_fault_5 rfl (lv_at hl 1 rfl) ?_
  refine mm_if_ne (X := p0.toInt) (tgt := 16) hx hb dX6_fault_6 (by decide) rfl (fun c_1 => ?_) (fun c_1 => ?_)
  · refine lv_iload_n hx hb dX6_fault_16 rfl (lv_at hl 1 rfl) ?_
    refine lv_iconst (v := 1) hx hb dX6_fault_17 (by decide) ?_
    refine mm_icmp_ne (X := p0.toInt) (Y := 1) (tgt := 28) hx hb dX6_fault_18 (by decide) rfl num_1 (fun c_2 => ?_) (fun c_2 => ?_)
    · refine lv_iconst (v := (-1)) hx hb dX6_fault_28 (by decide) ?_
      exact mr_ri E hr hlk hsz hM trivial dX6_fault_29
    · refine lv_aload_n hx hb dX6_fault_21 rfl (lv_at hl 0 rfl) ?_
      refine mr_get (v := .int (F 14)) E hM 14 (by decide) (index := 38) (mm_at 2 rfl) rfl rfl dX6_fault_22 ?_
      refine lv_goto (tgt := 29) hx hb dX6_fault_25 (by decide) ?_
      exact mr_ri E hr hlk hsz hM trivial dX6_fault_29
  · refine lv_aload_n hx hb dX6_fault_9 rfl (lv_at hl 0 rfl) ?_
    refine mr_get (v := .int (F 13)) E hM 13 (by decide) (index := 132) (mm_at 3 rfl) rfl rfl dX6_fault_10 ?_
    refine lv_goto (tgt := 29) hx hb dX6_fault_13 (by decide) ?_
    exact mr_ri E hr hlk hsz hM trivial dX6_fault_29
def w3X6_pass : List Cond := .code yX6_pass cX6_pass 2 (some .int) :: ([.fieldLink RX6 126 "SkiShotsModel" "thrown" "I", .fieldLink RX6 194 "SkiShotsModel" "today" "I"] ++ wsX60)
set_option maxHeartbeats 4000000 in
set_option maxRecDepth 100000 in
theorem g3_X6_pass (l : Launch) (D : va_G) (h0 : Nat) (q : Nat → Nat) (cq : Nat → ClassId) (F : Nat → Int32) (G : Nat → Nat → Int32) (sz : Nat) (p0 : Int32) (hI : mI F G)  : Met l yX6_pass w3X6_pass ({ frames := 0, cells := 0, slots := 0, locals := 0 }) (mPre D h0 q cq F G sz [.ref h0, .int p0]) (mQi D h0 q cq F G sz [2, 3] [] (fun r F' G' => (0 ≤ p0.toInt ∧ p0.toInt + (F 3).toInt ≤ 200 ∧ r.toInt = (F 3).toInt + p0.toInt ∧ (F' 3).toInt = (F 3).toInt + p0.toInt) ∨ (¬ (0 ≤ p0.toInt ∧ p0.toInt + (F 3).toInt ≤ 200) ∧ r.toInt = -1 ∧ (F' 3).toInt = (F 3).toInt))) 0 0 (va_A (mW h0 q cq F G) sz) := by
  refine mr_met (WF := [2, 3]) (WG := []) (cc := cX6_pass) (maxL := 2) (ret := (some .int)) (by decide) rfl rfl (by decide +kernel) (Nat.le_of_ble_eq_true rfl) hI ?_
  intro p e s m args below meth c ls E hml hr hlk hsz hA hM hl
  have hx := E.1
  have hb := E.2.1
  have hts := E.2.2.1
  have hown := E.2.2.2.2.1
  have hl : lv_has ls 2 [(0, .ref h0), (1, .int p0)] := hl
  refine lv_aload_n hx hb dX6_pass_0 rfl (lv_at hl 0 rfl) ?_
  refine lv_iconst (v := 0) hx hb dX6_pass_1 (by decide) ?_
  refine mr_put (v := 0) E hM 2 (by decide) (index := 126) (mm_at 1 rfl) rfl rfl (by decide +kernel) ms_2 (mm_nb rfl) (by decide) dX6_pass_2 (fun H locs hM => ?_)
  refine lv_iload_n hx hb dX6_pass_5 rfl (lv_at hl 1 rfl) ?_
  refine mm_if_lt (X := p0.toInt) (tgt := 28) hx hb dX6_pass_6 (by decide) rfl (fun c_1 => ?_) (fun c_1 => ?_)
  · refine lv_iconst (v := (-1)) hx hb dX6_pass_28 (by decide) ?_
    have b_2 : 0 ≤ (F 3).toInt ∧ (F 3).toInt ≤ 200 := hM.fb 3 rfl
    exact mr_ri E hr hlk hsz hM (show (0 ≤ p0.toInt ∧ p0.toInt + (F 3).toInt ≤ 200 ∧ ((-1) : Int32).toInt = (F 3).toInt + p0.toInt ∧ (F 3).toInt = (F 3).toInt + p0.toInt) ∨ (¬ (0 ≤ p0.toInt ∧ p0.toInt + (F 3).toInt ≤ 200) ∧ ((-1) : Int32).toInt = -1 ∧ (F 3).toInt = (F 3).toInt) from by have n9 := num_m1; have n9_2 := num_0; omega) dX6_pass_29
  · refine lv_iload_n hx hb dX6_pass_9 rfl (lv_at hl 1 rfl) ?_
    refine lv_sipush (v := 200) hx hb dX6_pass_10 (by decide) ?_
    refine mm_icmp_gt (X := p0.toInt) (Y := 200) (tgt := 28) hx hb dX6_pass_13 (by decide) rfl num_200 (fun c_3 => ?_) (fun c_3 => ?_)
    · refine lv_iconst (v := (-1)) hx hb dX6_pass_28 (by decide) ?_
      have b_4 : 0 ≤ (F 3).toInt ∧ (F 3).toInt ≤ 200 := hM.fb 3 rfl
      exact mr_ri E hr hlk hsz hM (show (0 ≤ p0.toInt ∧ p0.toInt + (F 3).toInt ≤ 200 ∧ ((-1) : Int32).toInt = (F 3).toInt + p0.toInt ∧ (F 3).toInt = (F 3).toInt + p0.toInt) ∨ (¬ (0 ≤ p0.toInt ∧ p0.toInt + (F 3).toInt ≤ 200) ∧ ((-1) : Int32).toInt = -1 ∧ (F 3).toInt = (F 3).toInt) from by have n9 := num_m1; have n9_2 := num_0; omega) dX6_pass_29
    · refine lv_aload_n hx hb dX6_pass_16 rfl (lv_at hl 0 rfl) ?_
      have b_5 : 0 ≤ (F 3).toInt ∧ (F 3).toInt ≤ 200 := hM.fb 3 rfl
      refine mr_get (v := .int (F 3)) E hM 3 (by decide) (index := 194) (mm_at 2 rfl) rfl rfl dX6_pass_17 ?_
      refine lv_iload_n hx hb dX6_pass_20 rfl (lv_at hl 1 rfl) ?_
      refine mm_iadd (X := (F 3).toInt) (Y := p0.toInt) hx hb dX6_pass_21 rfl rfl (by omega) (fun z_6 hz_6 => ?_)
      refine lv_sipush (v := 200) hx hb dX6_pass_22 (by decide) ?_
      refine mm_icmp_le (X := z_6.toInt) (Y := 200) (tgt := 30) hx hb dX6_pass_25 (by decide) rfl num_200 (fun c_7 => ?_) (fun c_7 => ?_)
      · refine lv_aload_n hx hb dX6_pass_30 rfl (lv_at hl 0 rfl) ?_
        refine lv_dup hx hb dX6_pass_31 rfl ?_
        refine mr_get (v := .int (F 3)) E hM 3 (by decide) (index := 194) (mm_at 2 rfl) rfl rfl dX6_pass_32 ?_
        refine lv_iload_n hx hb dX6_pass_35 rfl (lv_at hl 1 rfl) ?_
        refine mm_iadd (X := (F 3).toInt) (Y := p0.toInt) hx hb dX6_pass_36 rfl rfl (by omega) (fun z_8 hz_8 => ?_)
        refine mr_put (v := z_8) E hM 3 (by decide) (index := 194) (mm_at 2 rfl) rfl rfl (by decide +kernel) ms_3 (mm_bd (X := z_8.toInt) (a := 0) (b := 200) rfl rfl (by omega)) (by decide) dX6_pass_37 (fun H locs hM => ?_)
        refine lv_aload_n hx hb dX6_pass_40 rfl (lv_at hl 0 rfl) ?_
        refine mr_get (v := .int z_8) E hM 3 (by decide) (index := 194) (mm_at 2 rfl) rfl rfl dX6_pass_41 ?_
        exact mr_ri E hr hlk hsz hM (show (0 ≤ p0.toInt ∧ p0.toInt + (F 3).toInt ≤ 200 ∧ z_8.toInt = (F 3).toInt + p0.toInt ∧ z_8.toInt = (F 3).toInt + p0.toInt) ∨ (¬ (0 ≤ p0.toInt ∧ p0.toInt + (F 3).toInt ≤ 200) ∧ z_8.toInt = -1 ∧ z_8.toInt = (F 3).toInt) from by have n9_2 := num_0; omega) dX6_pass_44
      · refine lv_iconst (v := (-1)) hx hb dX6_pass_28 (by decide) ?_
        exact mr_ri E hr hlk hsz hM (show (0 ≤ p0.toInt ∧ p0.toInt + (F 3).toInt ≤ 200 ∧ ((-1) : Int32).toInt = (F 3).toInt + p0.toInt ∧ (F 3).toInt = (F 3).toInt + p0.toInt) ∨ (¬ (0 ≤ p0.toInt ∧ p0.toInt + (F 3).toInt ≤ 200) ∧ ((-1) : Int32).toInt = -1 ∧ (F 3).toInt = (F 3).toInt) from by have n9 := num_m1; have n9_2 := num_0; omega) dX6_pass_29
def w3X6_count : List Cond := .code yX6_count cX6_count 2 (some .int) :: ([.fieldLink RX6 126 "SkiShotsModel" "thrown" "I", .fieldLink RX6 194 "SkiShotsModel" "today" "I", .fieldLink RX6 191 "SkiShotsModel" "formatMany" "I", .fieldLink RX6 197 "SkiShotsModel" "racers" "I", .fieldLink RX6 200 "SkiShotsModel" "races" "I", .fieldLink RX6 217 "SkiShotsModel" "told" "I"] ++ wsX60)
set_option maxHeartbeats 4000000 in
set_option maxRecDepth 100000 in
theorem g3_X6_count (l : Launch) (D : va_G) (h0 : Nat) (q : Nat → Nat) (cq : Nat → ClassId) (F : Nat → Int32) (G : Nat → Nat → Int32) (sz : Nat) (p0 : Int32) (hI : mI F G)  : Met l yX6_count w3X6_count ({ frames := 0, cells := 0, slots := 0, locals := 0 }) (mPre D h0 q cq F G sz [.ref h0, .int p0]) (mQi D h0 q cq F G sz [2] [] (fun r F' G' => True)) 0 0 (va_A (mW h0 q cq F G) sz) := by
  refine mr_met (WF := [2]) (WG := []) (cc := cX6_count) (maxL := 2) (ret := (some .int)) (by decide) rfl rfl (by decide +kernel) (Nat.le_of_ble_eq_true rfl) hI ?_
  intro p e s m args below meth c ls E hml hr hlk hsz hA hM hl
  have hx := E.1
  have hb := E.2.1
  have hts := E.2.2.1
  have hown := E.2.2.2.2.1
  have hl : lv_has ls 2 [(0, .ref h0), (1, .int p0)] := hl
  refine lv_aload_n hx hb dX6_count_0 rfl (lv_at hl 0 rfl) ?_
  refine lv_iconst (v := 0) hx hb dX6_count_1 (by decide) ?_
  refine mr_put (v := 0) E hM 2 (by decide) (index := 126) (mm_at 1 rfl) rfl rfl (by decide +kernel) ms_2 (mm_nb rfl) (by decide) dX6_count_2 (fun H locs hM => ?_)
  refine lv_iload_n hx hb dX6_count_5 rfl (lv_at hl 1 rfl) ?_
  by_cases s_1 : p0.toInt = 0
  · refine lv_tableIn (tgt := 40) (off := 34) hx hb dX6_count_6 (by omega) (by omega) (by rw [s_1]; rfl) (by decide) ?_
    refine lv_aload_n hx hb dX6_count_40 rfl (lv_at hl 0 rfl) ?_
    have b_2 : 0 ≤ (F 3).toInt ∧ (F 3).toInt ≤ 200 := hM.fb 3 rfl
    refine mr_get (v := .int (F 3)) E hM 3 (by decide) (index := 194) (mm_at 2 rfl) rfl rfl dX6_count_41 ?_
    exact mr_ri E hr hlk hsz hM trivial dX6_count_44
  by_cases s_3 : p0.toInt = 1
  · refine lv_tableIn (tgt := 45) (off := 39) hx hb dX6_count_6 (by omega) (by omega) (by rw [s_3]; rfl) (by decide) ?_
    refine lv_aload_n hx hb dX6_count_45 rfl (lv_at hl 0 rfl) ?_
    refine mr_get (v := .int (F 4)) E hM 4 (by decide) (index := 191) (mm_at 3 rfl) rfl rfl dX6_count_46 ?_
    exact mr_ri E hr hlk hsz hM trivial dX6_count_49
  by_cases s_4 : p0.toInt = 2
  · refine lv_tableIn (tgt := 50) (off := 44) hx hb dX6_count_6 (by omega) (by omega) (by rw [s_4]; rfl) (by decide) ?_
    refine lv_aload_n hx hb dX6_count_50 rfl (lv_at hl 0 rfl) ?_
    have b_5 : 0 ≤ (F 15).toInt ∧ (F 15).toInt ≤ 16 := hM.fb 15 rfl
    refine mr_get (v := .int (F 15)) E hM 15 (by decide) (index := 197) (mm_at 4 rfl) rfl rfl dX6_count_51 ?_
    exact mr_ri E hr hlk hsz hM trivial dX6_count_54
  by_cases s_6 : p0.toInt = 3
  · refine lv_tableIn (tgt := 55) (off := 49) hx hb dX6_count_6 (by omega) (by omega) (by rw [s_6]; rfl) (by decide) ?_
    refine lv_aload_n hx hb dX6_count_55 rfl (lv_at hl 0 rfl) ?_
    have b_7 : 0 ≤ (F 17).toInt ∧ (F 17).toInt ≤ 8 := hM.fb 17 rfl
    refine mr_get (v := .int (F 17)) E hM 17 (by decide) (index := 200) (mm_at 5 rfl) rfl rfl dX6_count_56 ?_
    exact mr_ri E hr hlk hsz hM trivial dX6_count_59
  by_cases s_8 : p0.toInt = 4
  · refine lv_tableIn (tgt := 60) (off := 54) hx hb dX6_count_6 (by omega) (by omega) (by rw [s_8]; rfl) (by decide) ?_
    refine lv_aload_n hx hb dX6_count_60 rfl (lv_at hl 0 rfl) ?_
    have b_9 : 0 ≤ (F 31).toInt ∧ (F 31).toInt ≤ 400 := hM.fb 31 rfl
    refine mr_get (v := .int (F 31)) E hM 31 (by decide) (index := 217) (mm_at 6 rfl) rfl rfl dX6_count_61 ?_
    exact mr_ri E hr hlk hsz hM trivial dX6_count_64
  · refine lv_tableOut (tgt := 65) hx hb dX6_count_6 (by omega) (by decide) ?_
    refine lv_iconst (v := (-1)) hx hb dX6_count_65 (by decide) ?_
    exact mr_ri E hr hlk hsz hM trivial dX6_count_66
def w3X6_racer : List Cond := .code yX6_racer cX6_racer 2 (some .int) :: ([.fieldLink RX6 126 "SkiShotsModel" "thrown" "I", .fieldLink RX6 197 "SkiShotsModel" "racers" "I", .fieldLink RX6 42 "SkiShotsModel" "nation" "[I"] ++ wsX60)
set_option maxHeartbeats 4000000 in
set_option maxRecDepth 100000 in
theorem g3_X6_racer (l : Launch) (D : va_G) (h0 : Nat) (q : Nat → Nat) (cq : Nat → ClassId) (F : Nat → Int32) (G : Nat → Nat → Int32) (sz : Nat) (p0 : Int32) (hI : mI F G)  : Met l yX6_racer w3X6_racer ({ frames := 0, cells := 0, slots := 0, locals := 0 }) (mPre D h0 q cq F G sz [.ref h0, .int p0]) (mQi D h0 q cq F G sz [2, 15] [16] (fun r F' G' => (0 ≤ p0.toInt ∧ p0.toInt ≤ 7 ∧ (F 15).toInt < 16 ∧ r.toInt = (F 15).toInt ∧ (F' 15).toInt = (F 15).toInt + 1) ∨ (¬ (0 ≤ p0.toInt ∧ p0.toInt ≤ 7 ∧ (F 15).toInt < 16) ∧ r.toInt = -1 ∧ (F' 15).toInt = (F 15).toInt))) 0 0 (va_A (mW h0 q cq F G) sz) := by
  refine mr_met (WF := [2, 15]) (WG := [16]) (cc := cX6_racer) (maxL := 2) (ret := (some .int)) (by decide) rfl rfl (by decide +kernel) (Nat.le_of_ble_eq_true rfl) hI ?_
  intro p e s m args below meth c ls E hml hr hlk hsz hA hM hl
  have hx := E.1
  have hb := E.2.1
  have hts := E.2.2.1
  have hown := E.2.2.2.2.1
  have hl : lv_has ls 2 [(0, .ref h0), (1, .int p0)] := hl
  refine lv_aload_n hx hb dX6_racer_0 rfl (lv_at hl 0 rfl) ?_
  refine lv_iconst (v := 0) hx hb dX6_racer_1 (by decide) ?_
  refine mr_put (v := 0) E hM 2 (by decide) (index := 126) (mm_at 1 rfl) rfl rfl (by decide +kernel) ms_2 (mm_nb rfl) (by decide) dX6_racer_2 (fun H locs hM => ?_)
  refine lv_iload_n hx hb dX6_racer_5 rfl (lv_at hl 1 rfl) ?_
  refine mm_if_lt (X := p0.toInt) (tgt := 24) hx hb dX6_racer_6 (by decide) rfl (fun c_1 => ?_) (fun c_1 => ?_)
  · refine lv_iconst (v := (-1)) hx hb dX6_racer_24 (by decide) ?_
    have b_2 : 0 ≤ (F 15).toInt ∧ (F 15).toInt ≤ 16 := hM.fb 15 rfl
    exact mr_ri E hr hlk hsz hM (show (0 ≤ p0.toInt ∧ p0.toInt ≤ 7 ∧ (F 15).toInt < 16 ∧ ((-1) : Int32).toInt = (F 15).toInt ∧ (F 15).toInt = (F 15).toInt + 1) ∨ (¬ (0 ≤ p0.toInt ∧ p0.toInt ≤ 7 ∧ (F 15).toInt < 16) ∧ ((-1) : Int32).toInt = -1 ∧ (F 15).toInt = (F 15).toInt) from by have n9 := num_m1; have n9_2 := num_0; omega) dX6_racer_25
  · refine lv_iload_n hx hb dX6_racer_9 rfl (lv_at hl 1 rfl) ?_
    refine lv_bipush (v := 7) hx hb dX6_racer_10 (by decide) ?_
    refine mm_icmp_gt (X := p0.toInt) (Y := 7) (tgt := 24) hx hb dX6_racer_12 (by decide) rfl num_7 (fun c_3 => ?_) (fun c_3 => ?_)
    · refine lv_iconst (v := (-1)) hx hb dX6_racer_24 (by decide) ?_
      have b_4 : 0 ≤ (F 15).toInt ∧ (F 15).toInt ≤ 16 := hM.fb 15 rfl
      exact mr_ri E hr hlk hsz hM (show (0 ≤ p0.toInt ∧ p0.toInt ≤ 7 ∧ (F 15).toInt < 16 ∧ ((-1) : Int32).toInt = (F 15).toInt ∧ (F 15).toInt = (F 15).toInt + 1) ∨ (¬ (0 ≤ p0.toInt ∧ p0.toInt ≤ 7 ∧ (F 15).toInt < 16) ∧ ((-1) : Int32).toInt = -1 ∧ (F 15).toInt = (F 15).toInt) from by have n9 := num_m1; have n9_2 := num_0; omega) dX6_racer_25
    · refine lv_aload_n hx hb dX6_racer_15 rfl (lv_at hl 0 rfl) ?_
      have b_5 : 0 ≤ (F 15).toInt ∧ (F 15).toInt ≤ 16 := hM.fb 15 rfl
      refine mr_get (v := .int (F 15)) E hM 15 (by decide) (index := 197) (mm_at 2 rfl) rfl rfl dX6_racer_16 ?_
      refine lv_bipush (v := 16) hx hb dX6_racer_19 (by decide) ?_
      refine mm_icmp_ne (X := (F 15).toInt) (Y := 16) (tgt := 26) hx hb dX6_racer_21 (by decide) rfl num_16 (fun c_6 => ?_) (fun c_6 => ?_)
      · refine lv_aload_n hx hb dX6_racer_26 rfl (lv_at hl 0 rfl) ?_
        refine mr_get (v := .ref (q 16)) E hM 16 (by decide) (index := 42) (mm_at 3 rfl) rfl rfl dX6_racer_27 ?_
        refine lv_aload_n hx hb dX6_racer_30 rfl (lv_at hl 0 rfl) ?_
        refine mr_get (v := .int (F 15)) E hM 15 (by decide) (index := 197) (mm_at 2 rfl) rfl rfl dX6_racer_31 ?_
        refine lv_iload_n hx hb dX6_racer_34 rfl (lv_at hl 1 rfl) ?_
        refine mr_ast (X := (F 15).toInt) E hM 16 10 9 rfl rfl rfl (by omega) mg_16 (by decide) (mm_nbA rfl) (by decide) dX6_racer_35 (fun H locs G_7 eG_7 hM => ?_)
        refine lv_aload_n hx hb dX6_racer_36 rfl (lv_at hl 0 rfl) ?_
        refine lv_dup hx hb dX6_racer_37 rfl ?_
        refine mr_get (v := .int (F 15)) E hM 15 (by decide) (index := 197) (mm_at 2 rfl) rfl rfl dX6_racer_38 ?_
        refine lv_iconst (v := 1) hx hb dX6_racer_41 (by decide) ?_
        refine mm_iadd (X := (F 15).toInt) (Y := 1) hx hb dX6_racer_42 rfl num_1 (by omega) (fun z_8 hz_8 => ?_)
        refine mr_put (v := z_8) E hM 15 (by decide) (index := 197) (mm_at 2 rfl) rfl rfl (by decide +kernel) ms_15 (mm_bd (X := z_8.toInt) (a := 0) (b := 16) rfl rfl (by omega)) (by decide) dX6_racer_43 (fun H locs hM => ?_)
        refine lv_aload_n hx hb dX6_racer_46 rfl (lv_at hl 0 rfl) ?_
        refine mr_get (v := .int z_8) E hM 15 (by decide) (index := 197) (mm_at 2 rfl) rfl rfl dX6_racer_47 ?_
        refine lv_iconst (v := 1) hx hb dX6_racer_50 (by decide) ?_
        refine mm_isub (X := z_8.toInt) (Y := 1) hx hb dX6_racer_51 rfl num_1 (by omega) (fun z_9 hz_9 => ?_)
        exact mr_ri E hr hlk hsz hM (show (0 ≤ p0.toInt ∧ p0.toInt ≤ 7 ∧ (F 15).toInt < 16 ∧ z_9.toInt = (F 15).toInt ∧ z_8.toInt = (F 15).toInt + 1) ∨ (¬ (0 ≤ p0.toInt ∧ p0.toInt ≤ 7 ∧ (F 15).toInt < 16) ∧ z_9.toInt = -1 ∧ z_8.toInt = (F 15).toInt) from by have n9_2 := num_0; omega) dX6_racer_52
      · refine lv_iconst (v := (-1)) hx hb dX6_racer_24 (by decide) ?_
        exact mr_ri E hr hlk hsz hM (show (0 ≤ p0.toInt ∧ p0.toInt ≤ 7 ∧ (F 15).toInt < 16 ∧ ((-1) : Int32).toInt = (F 15).toInt ∧ (F 15).toInt = (F 15).toInt + 1) ∨ (¬ (0 ≤ p0.toInt ∧ p0.toInt ≤ 7 ∧ (F 15).toInt < 16) ∧ ((-1) : Int32).toInt = -1 ∧ (F 15).toInt = (F 15).toInt) from by have n9 := num_m1; have n9_2 := num_0; omega) dX6_racer_25
end
section
theorem num_2 : (2 : Int32).toInt = 2 := by decide
theorem num_9 : (9 : Int32).toInt = 9 := by decide
theorem num_31 : (31 : Int32).toInt = 31 := by decide
theorem num_400 : (400 : Int32).toInt = 400 := by decide
theorem num_200000 : (200000 : Int32).toInt = 200000 := by decide
def w3X6_isIn : List Cond := .code yX6_isIn cX6_isIn 3 (some .boolean) :: ([.methodLink RX6 203 yX6_isRace, .instanceMethod yX6_isRace, .selects RX6 yX6_isRace yX6_isRace, .initialized RX6, .code yX6_isRace cX6_isRace 2 (some .boolean), .fieldLink RX6 200 "SkiShotsModel" "races" "I", .methodLink RX6 206 yX6_isRacer, .instanceMethod yX6_isRacer, .selects RX6 yX6_isRacer yX6_isRacer, .code yX6_isRacer cX6_isRacer 2 (some .boolean), .fieldLink RX6 197 "SkiShotsModel" "racers" "I", .fieldLink RX6 81 "SkiShotsModel" "entryOf" "[I"] ++ wsX60)
set_option maxRecDepth 20000 in
theorem gc_X6_isIn_X6_isRace_1 : GoodIn w3X6_isIn (wsV RX6 203 RX6 yX6_isRace w3X6_isRace) := goodIn_p _ [5] rfl (by decide +kernel)
set_option maxRecDepth 20000 in
theorem gc_X6_isIn_X6_isRacer_6 : GoodIn w3X6_isIn (wsV RX6 206 RX6 yX6_isRacer w3X6_isRacer) := goodIn_p _ [10] rfl (by decide +kernel)
set_option maxHeartbeats 4000000 in
set_option maxRecDepth 100000 in
theorem g3_X6_isIn (l : Launch) (D : va_G) (h0 : Nat) (q : Nat → Nat) (cq : Nat → ClassId) (F : Nat → Int32) (G : Nat → Nat → Int32) (sz : Nat) (p0 : Int32) (p1 : Int32) (hI : mI F G)  : Met l yX6_isIn w3X6_isIn ({ frames := 1, cells := 0, slots := 0, locals := 21 }) (mPre D h0 q cq F G sz [.ref h0, .int p0, .int p1]) (mQi D h0 q cq F G sz [] [] (fun r F' G' => (r.toInt = 1 ∧ 0 ≤ p0.toInt ∧ p0.toInt < (F 17).toInt ∧ 0 ≤ p1.toInt ∧ p1.toInt < (F 15).toInt) ∨ r.toInt = 0)) 0 0 (va_A (mW h0 q cq F G) sz) := by
  refine mr_met (WF := []) (WG := []) (cc := cX6_isIn) (maxL := 3) (ret := (some .boolean)) (by decide) rfl rfl (by decide +kernel) (Nat.le_of_ble_eq_true rfl) hI ?_
  intro p e s m args below meth c ls E hml hr hlk hsz hA hM hl
  have hx := E.1
  have hb := E.2.1
  have hts := E.2.2.1
  have hown := E.2.2.2.2.1
  have hl : lv_has ls 3 [(0, .ref h0), (1, .int p0), (2, .int p1)] := hl
  refine lv_aload_n hx hb dX6_isIn_0 rfl (lv_at hl 0 rfl) ?_
  refine lv_iload_n hx hb dX6_isIn_1 rfl (lv_at hl 1 rfl) ?_
  have b_2 : 0 ≤ (F 17).toInt ∧ (F 17).toInt ≤ 8 := hM.fb 17 rfl
  refine mr_callp (av := [.int p0]) (rest := []) E hA hml hM (g3_X6_isRace l D h0 q cq F G _ p0 hM.2.2.2.1 ) (cwV 1 hts gc_X6_isIn_X6_isRace_1 rfl rfl rfl (by decide +kernel) ⟨Nat.le_of_ble_eq_true rfl, Nat.le_of_ble_eq_true rfl⟩) rfl hl.1 rfl (Nat.le_of_ble_eq_true rfl) dX6_isIn_2 ⟨Nat.le_of_ble_eq_true rfl, Nat.le_of_ble_eq_true rfl⟩ (fun r_3 H locs p_4 hM => ?_)
  replace p_4 : (r_3.toInt = 1 ∧ 0 ≤ p0.toInt ∧ p0.toInt < (F 17).toInt) ∨ (r_3.toInt = 0 ∧ ¬ (0 ≤ p0.toInt ∧ p0.toInt < (F 17).toInt)) := p_4
  refine mm_if_eq (X := r_3.toInt) (tgt := 34) hx hb dX6_isIn_5 (by decide) rfl (fun c_5 => ?_) (fun c_5 => ?_)
  · refine lv_iconst (v := 0) hx hb dX6_isIn_34 (by decide) ?_
    exact mr_rz (X := 0) E hr hlk hsz hM num_0 (by omega) (show ((0 : Int32).toInt = 1 ∧ 0 ≤ p0.toInt ∧ p0.toInt < (F 17).toInt ∧ 0 ≤ p1.toInt ∧ p1.toInt < (F 15).toInt) ∨ (0 : Int32).toInt = 0 from by have n9 := num_0; omega) dX6_isIn_35
  · refine lv_aload_n hx hb dX6_isIn_8 rfl (lv_at hl 0 rfl) ?_
    refine lv_iload_n hx hb dX6_isIn_9 rfl (lv_at hl 2 rfl) ?_
    have b_7 : 0 ≤ (F 15).toInt ∧ (F 15).toInt ≤ 16 := hM.fb 15 rfl
    refine mr_callp (av := [.int p1]) (rest := []) E hA hml hM (g3_X6_isRacer l D h0 q cq F G _ p1 hM.2.2.2.1 ) (cwV 1 hts gc_X6_isIn_X6_isRacer_6 rfl rfl rfl (by decide +kernel) ⟨Nat.le_of_ble_eq_true rfl, Nat.le_of_ble_eq_true rfl⟩) rfl hl.1 rfl (Nat.le_of_ble_eq_true rfl) dX6_isIn_10 ⟨Nat.le_of_ble_eq_true rfl, Nat.le_of_ble_eq_true rfl⟩ (fun r_8 H locs p_9 hM => ?_)
    replace p_9 : (r_8.toInt = 1 ∧ 0 ≤ p1.toInt ∧ p1.toInt < (F 15).toInt) ∨ (r_8.toInt = 0 ∧ ¬ (0 ≤ p1.toInt ∧ p1.toInt < (F 15).toInt)) := p_9
    refine mm_if_eq (X := r_8.toInt) (tgt := 34) hx hb dX6_isIn_13 (by decide) rfl (fun c_10 => ?_) (fun c_10 => ?_)
    · refine lv_iconst (v := 0) hx hb dX6_isIn_34 (by decide) ?_
      exact mr_rz (X := 0) E hr hlk hsz hM num_0 (by omega) (show ((0 : Int32).toInt = 1 ∧ 0 ≤ p0.toInt ∧ p0.toInt < (F 17).toInt ∧ 0 ≤ p1.toInt ∧ p1.toInt < (F 15).toInt) ∨ (0 : Int32).toInt = 0 from by have n9 := num_0; omega) dX6_isIn_35
    · refine lv_aload_n hx hb dX6_isIn_16 rfl (lv_at hl 0 rfl) ?_
      refine mr_get (v := .ref (q 30)) E hM 30 (by decide) (index := 81) (mm_at 12 rfl) rfl rfl dX6_isIn_17 ?_
      refine lv_bipush (v := 16) hx hb dX6_isIn_20 (by decide) ?_
      refine lv_iload_n hx hb dX6_isIn_22 rfl (lv_at hl 1 rfl) ?_
      refine mm_imul (X := 16) (Y := p0.toInt) hx hb dX6_isIn_23 num_16 rfl (by omega) (fun z_11 hz_11 => ?_)
      refine lv_iload_n hx hb dX6_isIn_24 rfl (lv_at hl 2 rfl) ?_
      refine mm_iadd (X := z_11.toInt) (Y := p1.toInt) hx hb dX6_isIn_25 rfl rfl (by omega) (fun z_12 hz_12 => ?_)
      refine mr_ald (X := z_12.toInt) E hM 23 22 rfl rfl rfl (by omega) dX6_isIn_26 ?_
      have b_13 : -1 ≤ (G 30 (Int32.toNatClampNeg z_12)).toInt ∧ (G 30 (Int32.toNatClampNeg z_12)).toInt ≤ 15 := hM.ab 30 rfl _
      refine mm_if_lt (X := (G 30 (Int32.toNatClampNeg z_12)).toInt) (tgt := 34) hx hb dX6_isIn_27 (by decide) rfl (fun c_14 => ?_) (fun c_14 => ?_)
      · refine lv_iconst (v := 0) hx hb dX6_isIn_34 (by decide) ?_
        exact mr_rz (X := 0) E hr hlk hsz hM num_0 (by omega) (show ((0 : Int32).toInt = 1 ∧ 0 ≤ p0.toInt ∧ p0.toInt < (F 17).toInt ∧ 0 ≤ p1.toInt ∧ p1.toInt < (F 15).toInt) ∨ (0 : Int32).toInt = 0 from by have n9 := num_0; omega) dX6_isIn_35
      · refine lv_iconst (v := 1) hx hb dX6_isIn_30 (by decide) ?_
        refine lv_goto (tgt := 35) hx hb dX6_isIn_31 (by decide) ?_
        exact mr_rz (X := 1) E hr hlk hsz hM num_1 (by omega) (show ((1 : Int32).toInt = 1 ∧ 0 ≤ p0.toInt ∧ p0.toInt < (F 17).toInt ∧ 0 ≤ p1.toInt ∧ p1.toInt < (F 15).toInt) ∨ (1 : Int32).toInt = 0 from by have n9 := num_1; omega) dX6_isIn_35
def w3X6_can : List Cond := .code yX6_can cX6_can 5 (some .boolean) :: ([.fieldLink RX6 48 "SkiShotsModel" "rLaps" "[I", .constant RX6 209 (200000), .fieldLink RX6 51 "SkiShotsModel" "rShoots" "[I"] ++ wsX60)
set_option maxHeartbeats 4000000 in
set_option maxRecDepth 100000 in
theorem g3_X6_can (l : Launch) (D : va_G) (h0 : Nat) (q : Nat → Nat) (cq : Nat → ClassId) (F : Nat → Int32) (G : Nat → Nat → Int32) (sz : Nat) (p0 : Int32) (p1 : Int32) (p2 : Int32) (p3 : Int32) (hI : mI F G) (k0 : 0 ≤ p0.toInt ∧ p0.toInt < 8) : Met l yX6_can w3X6_can ({ frames := 0, cells := 0, slots := 0, locals := 0 }) (mPre D h0 q cq F G sz [.ref h0, .int p0, .int p1, .int p2, .int p3]) (mQi D h0 q cq F G sz [] [] (fun r F' G' => True)) 0 0 (va_A (mW h0 q cq F G) sz) := by
  refine mr_met (WF := []) (WG := []) (cc := cX6_can) (maxL := 5) (ret := (some .boolean)) (by decide) rfl rfl (by decide +kernel) (Nat.le_of_ble_eq_true rfl) hI ?_
  intro p e s m args below meth c ls E hml hr hlk hsz hA hM hl
  have hx := E.1
  have hb := E.2.1
  have hts := E.2.2.1
  have hown := E.2.2.2.2.1
  have hl : lv_has ls 5 [(0, .ref h0), (1, .int p0), (2, .int p1), (3, .int p2), (4, .int p3)] := hl
  refine lv_iload_n hx hb dX6_can_0 rfl (lv_at hl 2 rfl) ?_
  by_cases s_1 : p1.toInt = 0
  · refine lv_tableIn (tgt := 32) (off := 31) hx hb dX6_can_1 (by omega) (by omega) (by rw [s_1]; rfl) (by decide) ?_
    refine lv_iload_n hx hb dX6_can_32 rfl (lv_at hl 3 rfl) ?_
    refine lv_iconst (v := 1) hx hb dX6_can_33 (by decide) ?_
    refine mm_icmp_lt (X := p2.toInt) (Y := 1) (tgt := 64) hx hb dX6_can_34 (by decide) rfl num_1 (fun c_2 => ?_) (fun c_2 => ?_)
    · refine lv_iconst (v := 0) hx hb dX6_can_64 (by decide) ?_
      exact mr_rz (X := 0) E hr hlk hsz hM num_0 (by omega) trivial dX6_can_65
    · refine lv_iload_n hx hb dX6_can_37 rfl (lv_at hl 3 rfl) ?_
      refine lv_aload_n hx hb dX6_can_38 rfl (lv_at hl 0 rfl) ?_
      refine mr_get (v := .ref (q 19)) E hM 19 (by decide) (index := 48) (mm_at 1 rfl) rfl rfl dX6_can_39 ?_
      refine lv_iload_n hx hb dX6_can_42 rfl (lv_at hl 1 rfl) ?_
      refine mr_ald (X := p0.toInt) E hM 12 11 rfl rfl rfl (by omega) dX6_can_43 ?_
      refine mm_icmp_gt (X := p2.toInt) (Y := (G 19 (Int32.toNatClampNeg p0)).toInt) (tgt := 64) hx hb dX6_can_44 (by decide) rfl rfl (fun c_3 => ?_) (fun c_3 => ?_)
      · refine lv_iconst (v := 0) hx hb dX6_can_64 (by decide) ?_
        exact mr_rz (X := 0) E hr hlk hsz hM num_0 (by omega) trivial dX6_can_65
      · refine lv_iload hx hb dX6_can_47 (lv_at hl 4 rfl) ?_
        refine lv_iconst (v := (-1)) hx hb dX6_can_49 (by decide) ?_
        refine mm_icmp_lt (X := p3.toInt) (Y := (-1)) (tgt := 64) hx hb dX6_can_50 (by decide) rfl num_m1 (fun c_4 => ?_) (fun c_4 => ?_)
        · refine lv_iconst (v := 0) hx hb dX6_can_64 (by decide) ?_
          exact mr_rz (X := 0) E hr hlk hsz hM num_0 (by omega) trivial dX6_can_65
        · refine lv_iload hx hb dX6_can_53 (lv_at hl 4 rfl) ?_
          refine lv_ldc (v := 200000) hx hb hown (hts _ (mm_at 2 rfl)) dX6_can_55 ?_
          refine mm_icmp_gt (X := p3.toInt) (Y := 200000) (tgt := 64) hx hb dX6_can_57 (by decide) rfl num_200000 (fun c_5 => ?_) (fun c_5 => ?_)
          · refine lv_iconst (v := 0) hx hb dX6_can_64 (by decide) ?_
            exact mr_rz (X := 0) E hr hlk hsz hM num_0 (by omega) trivial dX6_can_65
          · refine lv_iconst (v := 1) hx hb dX6_can_60 (by decide) ?_
            refine lv_goto (tgt := 65) hx hb dX6_can_61 (by decide) ?_
            exact mr_rz (X := 1) E hr hlk hsz hM num_1 (by omega) trivial dX6_can_65
  by_cases s_6 : p1.toInt = 1
  · refine lv_tableIn (tgt := 66) (off := 65) hx hb dX6_can_1 (by omega) (by omega) (by rw [s_6]; rfl) (by decide) ?_
    refine lv_iload_n hx hb dX6_can_66 rfl (lv_at hl 3 rfl) ?_
    refine mm_if_lt (X := p2.toInt) (tgt := 97) hx hb dX6_can_67 (by decide) rfl (fun c_7 => ?_) (fun c_7 => ?_)
    · refine lv_iconst (v := 0) hx hb dX6_can_97 (by decide) ?_
      exact mr_rz (X := 0) E hr hlk hsz hM num_0 (by omega) trivial dX6_can_98
    · refine lv_iload_n hx hb dX6_can_70 rfl (lv_at hl 3 rfl) ?_
      refine lv_aload_n hx hb dX6_can_71 rfl (lv_at hl 0 rfl) ?_
      refine mr_get (v := .ref (q 20)) E hM 20 (by decide) (index := 51) (mm_at 3 rfl) rfl rfl dX6_can_72 ?_
      refine lv_iload_n hx hb dX6_can_75 rfl (lv_at hl 1 rfl) ?_
      refine mr_ald (X := p0.toInt) E hM 13 12 rfl rfl rfl (by omega) dX6_can_76 ?_
      refine mm_icmp_ge (X := p2.toInt) (Y := (G 20 (Int32.toNatClampNeg p0)).toInt) (tgt := 97) hx hb dX6_can_77 (by decide) rfl rfl (fun c_8 => ?_) (fun c_8 => ?_)
      · refine lv_iconst (v := 0) hx hb dX6_can_97 (by decide) ?_
        exact mr_rz (X := 0) E hr hlk hsz hM num_0 (by omega) trivial dX6_can_98
      · refine lv_iload hx hb dX6_can_80 (lv_at hl 4 rfl) ?_
        refine lv_iconst (v := (-1)) hx hb dX6_can_82 (by decide) ?_
        refine mm_icmp_lt (X := p3.toInt) (Y := (-1)) (tgt := 97) hx hb dX6_can_83 (by decide) rfl num_m1 (fun c_9 => ?_) (fun c_9 => ?_)
        · refine lv_iconst (v := 0) hx hb dX6_can_97 (by decide) ?_
          exact mr_rz (X := 0) E hr hlk hsz hM num_0 (by omega) trivial dX6_can_98
        · refine lv_iload hx hb dX6_can_86 (lv_at hl 4 rfl) ?_
          refine lv_bipush (v := 31) hx hb dX6_can_88 (by decide) ?_
          refine mm_icmp_gt (X := p3.toInt) (Y := 31) (tgt := 97) hx hb dX6_can_90 (by decide) rfl num_31 (fun c_10 => ?_) (fun c_10 => ?_)
          · refine lv_iconst (v := 0) hx hb dX6_can_97 (by decide) ?_
            exact mr_rz (X := 0) E hr hlk hsz hM num_0 (by omega) trivial dX6_can_98
          · refine lv_iconst (v := 1) hx hb dX6_can_93 (by decide) ?_
            refine lv_goto (tgt := 98) hx hb dX6_can_94 (by decide) ?_
            exact mr_rz (X := 1) E hr hlk hsz hM num_1 (by omega) trivial dX6_can_98
  by_cases s_11 : p1.toInt = 2
  · refine lv_tableIn (tgt := 99) (off := 98) hx hb dX6_can_1 (by omega) (by omega) (by rw [s_11]; rfl) (by decide) ?_
    refine lv_iload_n hx hb dX6_can_99 rfl (lv_at hl 3 rfl) ?_
    refine mm_if_lt (X := p2.toInt) (tgt := 130) hx hb dX6_can_100 (by decide) rfl (fun c_12 => ?_) (fun c_12 => ?_)
    · refine lv_iconst (v := 0) hx hb dX6_can_130 (by decide) ?_
      exact mr_rz (X := 0) E hr hlk hsz hM num_0 (by omega) trivial dX6_can_131
    · refine lv_iload_n hx hb dX6_can_103 rfl (lv_at hl 3 rfl) ?_
      refine lv_aload_n hx hb dX6_can_104 rfl (lv_at hl 0 rfl) ?_
      refine mr_get (v := .ref (q 20)) E hM 20 (by decide) (index := 51) (mm_at 3 rfl) rfl rfl dX6_can_105 ?_
      refine lv_iload_n hx hb dX6_can_108 rfl (lv_at hl 1 rfl) ?_
      refine mr_ald (X := p0.toInt) E hM 13 12 rfl rfl rfl (by omega) dX6_can_109 ?_
      refine mm_icmp_ge (X := p2.toInt) (Y := (G 20 (Int32.toNatClampNeg p0)).toInt) (tgt := 130) hx hb dX6_can_110 (by decide) rfl rfl (fun c_13 => ?_) (fun c_13 => ?_)
      · refine lv_iconst (v := 0) hx hb dX6_can_130 (by decide) ?_
        exact mr_rz (X := 0) E hr hlk hsz hM num_0 (by omega) trivial dX6_can_131
      · refine lv_iload hx hb dX6_can_113 (lv_at hl 4 rfl) ?_
        refine lv_iconst (v := (-1)) hx hb dX6_can_115 (by decide) ?_
        refine mm_icmp_lt (X := p3.toInt) (Y := (-1)) (tgt := 130) hx hb dX6_can_116 (by decide) rfl num_m1 (fun c_14 => ?_) (fun c_14 => ?_)
        · refine lv_iconst (v := 0) hx hb dX6_can_130 (by decide) ?_
          exact mr_rz (X := 0) E hr hlk hsz hM num_0 (by omega) trivial dX6_can_131
        · refine lv_iload hx hb dX6_can_119 (lv_at hl 4 rfl) ?_
          refine lv_bipush (v := 9) hx hb dX6_can_121 (by decide) ?_
          refine mm_icmp_gt (X := p3.toInt) (Y := 9) (tgt := 130) hx hb dX6_can_123 (by decide) rfl num_9 (fun c_15 => ?_) (fun c_15 => ?_)
          · refine lv_iconst (v := 0) hx hb dX6_can_130 (by decide) ?_
            exact mr_rz (X := 0) E hr hlk hsz hM num_0 (by omega) trivial dX6_can_131
          · refine lv_iconst (v := 1) hx hb dX6_can_126 (by decide) ?_
            refine lv_goto (tgt := 131) hx hb dX6_can_127 (by decide) ?_
            exact mr_rz (X := 1) E hr hlk hsz hM num_1 (by omega) trivial dX6_can_131
  by_cases s_16 : p1.toInt = 3
  · refine lv_tableIn (tgt := 132) (off := 131) hx hb dX6_can_1 (by omega) (by omega) (by rw [s_16]; rfl) (by decide) ?_
    refine lv_iload_n hx hb dX6_can_132 rfl (lv_at hl 3 rfl) ?_
    refine mm_if_ne (X := p2.toInt) (tgt := 152) hx hb dX6_can_133 (by decide) rfl (fun c_17 => ?_) (fun c_17 => ?_)
    · refine lv_iconst (v := 0) hx hb dX6_can_152 (by decide) ?_
      exact mr_rz (X := 0) E hr hlk hsz hM num_0 (by omega) trivial dX6_can_153
    · refine lv_iload hx hb dX6_can_136 (lv_at hl 4 rfl) ?_
      refine lv_iconst (v := (-1)) hx hb dX6_can_138 (by decide) ?_
      refine mm_icmp_lt (X := p3.toInt) (Y := (-1)) (tgt := 152) hx hb dX6_can_139 (by decide) rfl num_m1 (fun c_18 => ?_) (fun c_18 => ?_)
      · refine lv_iconst (v := 0) hx hb dX6_can_152 (by decide) ?_
        exact mr_rz (X := 0) E hr hlk hsz hM num_0 (by omega) trivial dX6_can_153
      · refine lv_iload hx hb dX6_can_142 (lv_at hl 4 rfl) ?_
        refine lv_iconst (v := 1) hx hb dX6_can_144 (by decide) ?_
        refine mm_icmp_gt (X := p3.toInt) (Y := 1) (tgt := 152) hx hb dX6_can_145 (by decide) rfl num_1 (fun c_19 => ?_) (fun c_19 => ?_)
        · refine lv_iconst (v := 0) hx hb dX6_can_152 (by decide) ?_
          exact mr_rz (X := 0) E hr hlk hsz hM num_0 (by omega) trivial dX6_can_153
        · refine lv_iconst (v := 1) hx hb dX6_can_148 (by decide) ?_
          refine lv_goto (tgt := 153) hx hb dX6_can_149 (by decide) ?_
          exact mr_rz (X := 1) E hr hlk hsz hM num_1 (by omega) trivial dX6_can_153
  · refine lv_tableOut (tgt := 154) hx hb dX6_can_1 (by omega) (by decide) ?_
    refine lv_iconst (v := 0) hx hb dX6_can_154 (by decide) ?_
    exact mr_rz (X := 0) E hr hlk hsz hM num_0 (by omega) trivial dX6_can_155
def w3X6_look : List Cond := .code yX6_look cX6_look 3 (some .int) :: ([.fieldLink RX6 126 "SkiShotsModel" "thrown" "I", .methodLink RX6 203 yX6_isRace, .instanceMethod yX6_isRace, .selects RX6 yX6_isRace yX6_isRace, .initialized RX6, .code yX6_isRace cX6_isRace 2 (some .boolean), .fieldLink RX6 200 "SkiShotsModel" "races" "I", .fieldLink RX6 45 "SkiShotsModel" "rName" "[I", .fieldLink RX6 48 "SkiShotsModel" "rLaps" "[I", .fieldLink RX6 51 "SkiShotsModel" "rShoots" "[I", .fieldLink RX6 54 "SkiShotsModel" "rSpares" "[I", .fieldLink RX6 69 "SkiShotsModel" "rBy" "[I", .fieldLink RX6 72 "SkiShotsModel" "rEntries" "[I", .fieldLink RX6 75 "SkiShotsModel" "rEvents" "[I", .methodLink RX6 220 yX6_fails, .instanceMethod yX6_fails, .selects RX6 yX6_fails yX6_fails, .code yX6_fails cX6_fails 2 (some .int)] ++ wsX60)
set_option maxRecDepth 20000 in
theorem gc_X6_look_X6_isRace_1 : GoodIn w3X6_look (wsV RX6 203 RX6 yX6_isRace w3X6_isRace) := goodIn_p _ [6] rfl (by decide +kernel)
set_option maxRecDepth 20000 in
theorem gc_X6_look_X6_fails_15 : GoodIn w3X6_look (wsV RX6 220 RX6 yX6_fails w3X6_fails) := goodIn_p _ [18] rfl (by decide +kernel)
set_option maxRecDepth 20000 in
theorem gc_X6_look_X6_fails_21 : GoodIn w3X6_look (wsV RX6 220 RX6 yX6_fails w3X6_fails) := goodIn_p _ [18] rfl (by decide +kernel)
set_option maxHeartbeats 4000000 in
set_option maxRecDepth 100000 in
theorem g3_X6_look (l : Launch) (D : va_G) (h0 : Nat) (q : Nat → Nat) (cq : Nat → ClassId) (F : Nat → Int32) (G : Nat → Nat → Int32) (sz : Nat) (p0 : Int32) (p1 : Int32) (hI : mI F G)  : Met l yX6_look w3X6_look ({ frames := 1, cells := 0, slots := 0, locals := 21 }) (mPre D h0 q cq F G sz [.ref h0, .int p0, .int p1]) (mQi D h0 q cq F G sz [2] [] (fun r F' G' => True)) 0 0 (va_A (mW h0 q cq F G) sz) := by
  refine mr_met (WF := [2]) (WG := []) (cc := cX6_look) (maxL := 3) (ret := (some .int)) (by decide) rfl rfl (by decide +kernel) (Nat.le_of_ble_eq_true rfl) hI ?_
  intro p e s m args below meth c ls E hml hr hlk hsz hA hM hl
  have hx := E.1
  have hb := E.2.1
  have hts := E.2.2.1
  have hown := E.2.2.2.2.1
  have hl : lv_has ls 3 [(0, .ref h0), (1, .int p0), (2, .int p1)] := hl
  refine lv_aload_n hx hb dX6_look_0 rfl (lv_at hl 0 rfl) ?_
  refine lv_iconst (v := 0) hx hb dX6_look_1 (by decide) ?_
  refine mr_put (v := 0) E hM 2 (by decide) (index := 126) (mm_at 1 rfl) rfl rfl (by decide +kernel) ms_2 (mm_nb rfl) (by decide) dX6_look_2 (fun H locs hM => ?_)
  refine lv_aload_n hx hb dX6_look_5 rfl (lv_at hl 0 rfl) ?_
  refine lv_iload_n hx hb dX6_look_6 rfl (lv_at hl 1 rfl) ?_
  have b_2 : 0 ≤ (F 17).toInt ∧ (F 17).toInt ≤ 8 := hM.fb 17 rfl
  refine mr_callp (av := [.int p0]) (rest := []) E hA hml hM (g3_X6_isRace l D h0 q cq (upd F 2 0) G _ p0 hM.2.2.2.1 ) (cwV 1 hts gc_X6_look_X6_isRace_1 rfl rfl rfl (by decide +kernel) ⟨Nat.le_of_ble_eq_true rfl, Nat.le_of_ble_eq_true rfl⟩) rfl hl.1 rfl (Nat.le_of_ble_eq_true rfl) dX6_look_7 ⟨Nat.le_of_ble_eq_true rfl, Nat.le_of_ble_eq_true rfl⟩ (fun r_3 H locs p_4 hM => ?_)
  replace p_4 : (r_3.toInt = 1 ∧ 0 ≤ p0.toInt ∧ p0.toInt < (F 17).toInt) ∨ (r_3.toInt = 0 ∧ ¬ (0 ≤ p0.toInt ∧ p0.toInt < (F 17).toInt)) := p_4
  refine mm_if_ne (X := r_3.toInt) (tgt := 19) hx hb dX6_look_10 (by decide) rfl (fun c_5 => ?_) (fun c_5 => ?_)
  · refine lv_iload_n hx hb dX6_look_19 rfl (lv_at hl 2 rfl) ?_
    by_cases s_6 : p1.toInt = 0
    · refine lv_tableIn (tgt := 64) (off := 44) hx hb dX6_look_20 (by omega) (by omega) (by rw [s_6]; rfl) (by decide) ?_
      refine lv_aload_n hx hb dX6_look_64 rfl (lv_at hl 0 rfl) ?_
      refine mr_get (v := .ref (q 18)) E hM 18 (by decide) (index := 45) (mm_at 8 rfl) rfl rfl dX6_look_65 ?_
      refine lv_iload_n hx hb dX6_look_68 rfl (lv_at hl 1 rfl) ?_
      refine mr_ald (X := p0.toInt) E hM 11 10 rfl rfl rfl (by omega) dX6_look_69 ?_
      exact mr_ri E hr hlk hsz hM trivial dX6_look_70
    by_cases s_7 : p1.toInt = 1
    · refine lv_tableIn (tgt := 71) (off := 51) hx hb dX6_look_20 (by omega) (by omega) (by rw [s_7]; rfl) (by decide) ?_
      refine lv_aload_n hx hb dX6_look_71 rfl (lv_at hl 0 rfl) ?_
      refine mr_get (v := .ref (q 19)) E hM 19 (by decide) (index := 48) (mm_at 9 rfl) rfl rfl dX6_look_72 ?_
      refine lv_iload_n hx hb dX6_look_75 rfl (lv_at hl 1 rfl) ?_
      refine mr_ald (X := p0.toInt) E hM 12 11 rfl rfl rfl (by omega) dX6_look_76 ?_
      exact mr_ri E hr hlk hsz hM trivial dX6_look_77
    by_cases s_8 : p1.toInt = 2
    · refine lv_tableIn (tgt := 78) (off := 58) hx hb dX6_look_20 (by omega) (by omega) (by rw [s_8]; rfl) (by decide) ?_
      refine lv_aload_n hx hb dX6_look_78 rfl (lv_at hl 0 rfl) ?_
      refine mr_get (v := .ref (q 20)) E hM 20 (by decide) (index := 51) (mm_at 10 rfl) rfl rfl dX6_look_79 ?_
      refine lv_iload_n hx hb dX6_look_82 rfl (lv_at hl 1 rfl) ?_
      refine mr_ald (X := p0.toInt) E hM 13 12 rfl rfl rfl (by omega) dX6_look_83 ?_
      exact mr_ri E hr hlk hsz hM trivial dX6_look_84
    by_cases s_9 : p1.toInt = 3
    · refine lv_tableIn (tgt := 85) (off := 65) hx hb dX6_look_20 (by omega) (by omega) (by rw [s_9]; rfl) (by decide) ?_
      refine lv_aload_n hx hb dX6_look_85 rfl (lv_at hl 0 rfl) ?_
      refine mr_get (v := .ref (q 21)) E hM 21 (by decide) (index := 54) (mm_at 11 rfl) rfl rfl dX6_look_86 ?_
      refine lv_iload_n hx hb dX6_look_89 rfl (lv_at hl 1 rfl) ?_
      refine mr_ald (X := p0.toInt) E hM 14 13 rfl rfl rfl (by omega) dX6_look_90 ?_
      exact mr_ri E hr hlk hsz hM trivial dX6_look_91
    by_cases s_10 : p1.toInt = 4
    · refine lv_tableIn (tgt := 92) (off := 72) hx hb dX6_look_20 (by omega) (by omega) (by rw [s_10]; rfl) (by decide) ?_
      refine lv_aload_n hx hb dX6_look_92 rfl (lv_at hl 0 rfl) ?_
      refine mr_get (v := .ref (q 26)) E hM 26 (by decide) (index := 69) (mm_at 12 rfl) rfl rfl dX6_look_93 ?_
      refine lv_iload_n hx hb dX6_look_96 rfl (lv_at hl 1 rfl) ?_
      refine mr_ald (X := p0.toInt) E hM 19 18 rfl rfl rfl (by omega) dX6_look_97 ?_
      have b_11 : -1 ≤ (G 26 (Int32.toNatClampNeg p0)).toInt ∧ (G 26 (Int32.toNatClampNeg p0)).toInt ≤ 7 := hM.ab 26 rfl _
      exact mr_ri E hr hlk hsz hM trivial dX6_look_98
    by_cases s_12 : p1.toInt = 5
    · refine lv_tableIn (tgt := 99) (off := 79) hx hb dX6_look_20 (by omega) (by omega) (by rw [s_12]; rfl) (by decide) ?_
      refine lv_aload_n hx hb dX6_look_99 rfl (lv_at hl 0 rfl) ?_
      refine mr_get (v := .ref (q 27)) E hM 27 (by decide) (index := 72) (mm_at 13 rfl) rfl rfl dX6_look_100 ?_
      refine lv_iload_n hx hb dX6_look_103 rfl (lv_at hl 1 rfl) ?_
      refine mr_ald (X := p0.toInt) E hM 20 19 rfl rfl rfl (by omega) dX6_look_104 ?_
      have b_13 : 0 ≤ (G 27 (Int32.toNatClampNeg p0)).toInt ∧ (G 27 (Int32.toNatClampNeg p0)).toInt ≤ 16 := hM.ab 27 rfl _
      exact mr_ri E hr hlk hsz hM trivial dX6_look_105
    by_cases s_14 : p1.toInt = 6
    · refine lv_tableIn (tgt := 106) (off := 86) hx hb dX6_look_20 (by omega) (by omega) (by rw [s_14]; rfl) (by decide) ?_
      refine lv_aload_n hx hb dX6_look_106 rfl (lv_at hl 0 rfl) ?_
      refine mr_get (v := .ref (q 28)) E hM 28 (by decide) (index := 75) (mm_at 14 rfl) rfl rfl dX6_look_107 ?_
      refine lv_iload_n hx hb dX6_look_110 rfl (lv_at hl 1 rfl) ?_
      refine mr_ald (X := p0.toInt) E hM 21 20 rfl rfl rfl (by omega) dX6_look_111 ?_
      exact mr_ri E hr hlk hsz hM trivial dX6_look_112
    · refine lv_tableOut (tgt := 113) hx hb dX6_look_20 (by omega) (by decide) ?_
      refine lv_aload_n hx hb dX6_look_113 rfl (lv_at hl 0 rfl) ?_
      refine lv_iconst (v := 2) hx hb dX6_look_114 (by decide) ?_
      refine mr_calli (av := [.int 2]) (rest := []) E hA hml hM (g3_X6_fails l D h0 q cq (upd F 2 0) G _ 2 hM.2.2.2.1 ) (cwV 1 hts gc_X6_look_X6_fails_15 rfl rfl rfl (by decide +kernel) ⟨Nat.le_of_ble_eq_true rfl, Nat.le_of_ble_eq_true rfl⟩) rfl hl.1 rfl (Nat.le_of_ble_eq_true rfl) dX6_look_115 ⟨Nat.le_of_ble_eq_true rfl, Nat.le_of_ble_eq_true rfl⟩ (by decide) (by decide) (fun r_16 F_18 G_19 H locs fr_20 p_17 hM => ?_)
      exact mr_ri E hr hlk hsz hM trivial dX6_look_118
  · refine lv_aload_n hx hb dX6_look_13 rfl (lv_at hl 0 rfl) ?_
    refine lv_iconst (v := 1) hx hb dX6_look_14 (by decide) ?_
    refine mr_calli (av := [.int 1]) (rest := []) E hA hml hM (g3_X6_fails l D h0 q cq (upd F 2 0) G _ 1 hM.2.2.2.1 ) (cwV 1 hts gc_X6_look_X6_fails_21 rfl rfl rfl (by decide +kernel) ⟨Nat.le_of_ble_eq_true rfl, Nat.le_of_ble_eq_true rfl⟩) rfl hl.1 rfl (Nat.le_of_ble_eq_true rfl) dX6_look_15 ⟨Nat.le_of_ble_eq_true rfl, Nat.le_of_ble_eq_true rfl⟩ (by decide) (by decide) (fun r_22 F_24 G_25 H locs fr_26 p_23 hM => ?_)
    exact mr_ri E hr hlk hsz hM trivial dX6_look_18
def w3X6_entry : List Cond := .code yX6_entry cX6_entry 3 (some .int) :: ([.fieldLink RX6 126 "SkiShotsModel" "thrown" "I", .methodLink RX6 203 yX6_isRace, .instanceMethod yX6_isRace, .selects RX6 yX6_isRace yX6_isRace, .initialized RX6, .code yX6_isRace cX6_isRace 2 (some .boolean), .fieldLink RX6 200 "SkiShotsModel" "races" "I", .fieldLink RX6 72 "SkiShotsModel" "rEntries" "[I", .fieldLink RX6 78 "SkiShotsModel" "entries" "[I"] ++ wsX60)
set_option maxRecDepth 20000 in
theorem gc_X6_entry_X6_isRace_1 : GoodIn w3X6_entry (wsV RX6 203 RX6 yX6_isRace w3X6_isRace) := goodIn_p _ [6] rfl (by decide +kernel)
set_option maxHeartbeats 4000000 in
set_option maxRecDepth 100000 in
theorem g3_X6_entry (l : Launch) (D : va_G) (h0 : Nat) (q : Nat → Nat) (cq : Nat → ClassId) (F : Nat → Int32) (G : Nat → Nat → Int32) (sz : Nat) (p0 : Int32) (p1 : Int32) (hI : mI F G)  : Met l yX6_entry w3X6_entry ({ frames := 1, cells := 0, slots := 0, locals := 21 }) (mPre D h0 q cq F G sz [.ref h0, .int p0, .int p1]) (mQi D h0 q cq F G sz [2] [] (fun r F' G' => True)) 0 0 (va_A (mW h0 q cq F G) sz) := by
  refine mr_met (WF := [2]) (WG := []) (cc := cX6_entry) (maxL := 3) (ret := (some .int)) (by decide) rfl rfl (by decide +kernel) (Nat.le_of_ble_eq_true rfl) hI ?_
  intro p e s m args below meth c ls E hml hr hlk hsz hA hM hl
  have hx := E.1
  have hb := E.2.1
  have hts := E.2.2.1
  have hown := E.2.2.2.2.1
  have hl : lv_has ls 3 [(0, .ref h0), (1, .int p0), (2, .int p1)] := hl
  refine lv_aload_n hx hb dX6_entry_0 rfl (lv_at hl 0 rfl) ?_
  refine lv_iconst (v := 0) hx hb dX6_entry_1 (by decide) ?_
  refine mr_put (v := 0) E hM 2 (by decide) (index := 126) (mm_at 1 rfl) rfl rfl (by decide +kernel) ms_2 (mm_nb rfl) (by decide) dX6_entry_2 (fun H locs hM => ?_)
  refine lv_aload_n hx hb dX6_entry_5 rfl (lv_at hl 0 rfl) ?_
  refine lv_iload_n hx hb dX6_entry_6 rfl (lv_at hl 1 rfl) ?_
  have b_2 : 0 ≤ (F 17).toInt ∧ (F 17).toInt ≤ 8 := hM.fb 17 rfl
  refine mr_callp (av := [.int p0]) (rest := []) E hA hml hM (g3_X6_isRace l D h0 q cq (upd F 2 0) G _ p0 hM.2.2.2.1 ) (cwV 1 hts gc_X6_entry_X6_isRace_1 rfl rfl rfl (by decide +kernel) ⟨Nat.le_of_ble_eq_true rfl, Nat.le_of_ble_eq_true rfl⟩) rfl hl.1 rfl (Nat.le_of_ble_eq_true rfl) dX6_entry_7 ⟨Nat.le_of_ble_eq_true rfl, Nat.le_of_ble_eq_true rfl⟩ (fun r_3 H locs p_4 hM => ?_)
  replace p_4 : (r_3.toInt = 1 ∧ 0 ≤ p0.toInt ∧ p0.toInt < (F 17).toInt) ∨ (r_3.toInt = 0 ∧ ¬ (0 ≤ p0.toInt ∧ p0.toInt < (F 17).toInt)) := p_4
  refine mm_if_eq (X := r_3.toInt) (tgt := 27) hx hb dX6_entry_10 (by decide) rfl (fun c_5 => ?_) (fun c_5 => ?_)
  · refine lv_iconst (v := (-1)) hx hb dX6_entry_27 (by decide) ?_
    refine lv_goto (tgt := 42) hx hb dX6_entry_28 (by decide) ?_
    exact mr_ri E hr hlk hsz hM trivial dX6_entry_42
  · refine lv_iload_n hx hb dX6_entry_13 rfl (lv_at hl 2 rfl) ?_
    refine mm_if_lt (X := p1.toInt) (tgt := 27) hx hb dX6_entry_14 (by decide) rfl (fun c_6 => ?_) (fun c_6 => ?_)
    · refine lv_iconst (v := (-1)) hx hb dX6_entry_27 (by decide) ?_
      refine lv_goto (tgt := 42) hx hb dX6_entry_28 (by decide) ?_
      exact mr_ri E hr hlk hsz hM trivial dX6_entry_42
    · refine lv_iload_n hx hb dX6_entry_17 rfl (lv_at hl 2 rfl) ?_
      refine lv_aload_n hx hb dX6_entry_18 rfl (lv_at hl 0 rfl) ?_
      refine mr_get (v := .ref (q 27)) E hM 27 (by decide) (index := 72) (mm_at 8 rfl) rfl rfl dX6_entry_19 ?_
      refine lv_iload_n hx hb dX6_entry_22 rfl (lv_at hl 1 rfl) ?_
      refine mr_ald (X := p0.toInt) E hM 20 19 rfl rfl rfl (by omega) dX6_entry_23 ?_
      have b_7 : 0 ≤ (G 27 (Int32.toNatClampNeg p0)).toInt ∧ (G 27 (Int32.toNatClampNeg p0)).toInt ≤ 16 := hM.ab 27 rfl _
      refine mm_icmp_lt (X := p1.toInt) (Y := (G 27 (Int32.toNatClampNeg p0)).toInt) (tgt := 31) hx hb dX6_entry_24 (by decide) rfl rfl (fun c_8 => ?_) (fun c_8 => ?_)
      · refine lv_aload_n hx hb dX6_entry_31 rfl (lv_at hl 0 rfl) ?_
        refine mr_get (v := .ref (q 29)) E hM 29 (by decide) (index := 78) (mm_at 9 rfl) rfl rfl dX6_entry_32 ?_
        refine lv_bipush (v := 16) hx hb dX6_entry_35 (by decide) ?_
        refine lv_iload_n hx hb dX6_entry_37 rfl (lv_at hl 1 rfl) ?_
        refine mm_imul (X := 16) (Y := p0.toInt) hx hb dX6_entry_38 num_16 rfl (by omega) (fun z_9 hz_9 => ?_)
        refine lv_iload_n hx hb dX6_entry_39 rfl (lv_at hl 2 rfl) ?_
        refine mm_iadd (X := z_9.toInt) (Y := p1.toInt) hx hb dX6_entry_40 rfl rfl (by omega) (fun z_10 hz_10 => ?_)
        refine mr_ald (X := z_10.toInt) E hM 22 21 rfl rfl rfl (by omega) dX6_entry_41 ?_
        have b_11 : 0 ≤ (G 29 (Int32.toNatClampNeg z_10)).toInt ∧ (G 29 (Int32.toNatClampNeg z_10)).toInt ≤ 15 := hM.ab 29 rfl _
        exact mr_ri E hr hlk hsz hM trivial dX6_entry_42
      · refine lv_iconst (v := (-1)) hx hb dX6_entry_27 (by decide) ?_
        refine lv_goto (tgt := 42) hx hb dX6_entry_28 (by decide) ?_
        exact mr_ri E hr hlk hsz hM trivial dX6_entry_42
def w3X6_tell : List Cond := .code yX6_tell cX6_tell 6 (some .int) :: ([.fieldLink RX6 126 "SkiShotsModel" "thrown" "I", .methodLink RX6 210 yX6_isIn, .instanceMethod yX6_isIn, .selects RX6 yX6_isIn yX6_isIn, .initialized RX6, .code yX6_isIn cX6_isIn 3 (some .boolean), .methodLink RX6 203 yX6_isRace, .instanceMethod yX6_isRace, .selects RX6 yX6_isRace yX6_isRace, .code yX6_isRace cX6_isRace 2 (some .boolean), .fieldLink RX6 200 "SkiShotsModel" "races" "I", .methodLink RX6 206 yX6_isRacer, .instanceMethod yX6_isRacer, .selects RX6 yX6_isRacer yX6_isRacer, .code yX6_isRacer cX6_isRacer 2 (some .boolean), .fieldLink RX6 197 "SkiShotsModel" "racers" "I", .fieldLink RX6 81 "SkiShotsModel" "entryOf" "[I", .methodLink RX6 213 yX6_can, .instanceMethod yX6_can, .selects RX6 yX6_can yX6_can, .code yX6_can cX6_can 5 (some .boolean), .fieldLink RX6 48 "SkiShotsModel" "rLaps" "[I", .constant RX6 209 (200000), .fieldLink RX6 51 "SkiShotsModel" "rShoots" "[I", .fieldLink RX6 217 "SkiShotsModel" "told" "I", .fieldLink RX6 84 "SkiShotsModel" "tRace" "[I", .fieldLink RX6 87 "SkiShotsModel" "tRacer" "[I", .fieldLink RX6 90 "SkiShotsModel" "tSort" "[I", .fieldLink RX6 93 "SkiShotsModel" "tK" "[I", .fieldLink RX6 96 "SkiShotsModel" "tV" "[I", .fieldLink RX6 99 "SkiShotsModel" "tDay" "[I", .fieldLink RX6 194 "SkiShotsModel" "today" "I", .fieldLink RX6 75 "SkiShotsModel" "rEvents" "[I"] ++ wsX60)
set_option maxRecDepth 20000 in
theorem gc_X6_tell_X6_isIn_1 : GoodIn w3X6_tell (wsV RX6 210 RX6 yX6_isIn w3X6_isIn) := goodIn_p _ [6, 10, 15] rfl (by decide +kernel)
set_option maxRecDepth 20000 in
theorem gc_X6_tell_X6_can_7 : GoodIn w3X6_tell (wsV RX6 213 RX6 yX6_can w3X6_can) := goodIn_p _ [21] rfl (by decide +kernel)
set_option maxHeartbeats 4000000 in
set_option maxRecDepth 100000 in
theorem g3_X6_tell (l : Launch) (D : va_G) (h0 : Nat) (q : Nat → Nat) (cq : Nat → ClassId) (F : Nat → Int32) (G : Nat → Nat → Int32) (sz : Nat) (p0 : Int32) (p1 : Int32) (p2 : Int32) (p3 : Int32) (p4 : Int32) (hI : mI F G)  : Met l yX6_tell w3X6_tell ({ frames := 2, cells := 0, slots := 0, locals := 43 }) (mPre D h0 q cq F G sz [.ref h0, .int p0, .int p1, .int p2, .int p3, .int p4]) (mQi D h0 q cq F G sz [2, 31] [28, 32, 33, 34, 35, 36, 37] (fun r F' G' => True)) 0 0 (va_A (mW h0 q cq F G) sz) := by
  refine mr_met (WF := [2, 31]) (WG := [28, 32, 33, 34, 35, 36, 37]) (cc := cX6_tell) (maxL := 6) (ret := (some .int)) (by decide) rfl rfl (by decide +kernel) (Nat.le_of_ble_eq_true rfl) hI ?_
  intro p e s m args below meth c ls E hml hr hlk hsz hA hM hl
  have hx := E.1
  have hb := E.2.1
  have hts := E.2.2.1
  have hown := E.2.2.2.2.1
  have hl : lv_has ls 6 [(0, .ref h0), (1, .int p0), (2, .int p1), (3, .int p2), (4, .int p3), (5, .int p4)] := hl
  refine lv_aload_n hx hb dX6_tell_0 rfl (lv_at hl 0 rfl) ?_
  refine lv_iconst (v := 0) hx hb dX6_tell_1 (by decide) ?_
  refine mr_put (v := 0) E hM 2 (by decide) (index := 126) (mm_at 1 rfl) rfl rfl (by decide +kernel) ms_2 (mm_nb rfl) (by decide) dX6_tell_2 (fun H locs hM => ?_)
  refine lv_aload_n hx hb dX6_tell_5 rfl (lv_at hl 0 rfl) ?_
  refine lv_iload_n hx hb dX6_tell_6 rfl (lv_at hl 1 rfl) ?_
  refine lv_iload_n hx hb dX6_tell_7 rfl (lv_at hl 2 rfl) ?_
  have b_2 : 0 ≤ (F 17).toInt ∧ (F 17).toInt ≤ 8 := hM.fb 17 rfl
  have b_3 : 0 ≤ (F 15).toInt ∧ (F 15).toInt ≤ 16 := hM.fb 15 rfl
  refine mr_callp (av := [.int p0, .int p1]) (rest := []) E hA hml hM (g3_X6_isIn l D h0 q cq (upd F 2 0) G _ p0 p1 hM.2.2.2.1 ) (cwV 2 hts gc_X6_tell_X6_isIn_1 rfl rfl rfl (by decide +kernel) ⟨Nat.le_of_ble_eq_true rfl, Nat.le_of_ble_eq_true rfl⟩) rfl hl.1 rfl (Nat.le_of_ble_eq_true rfl) dX6_tell_8 ⟨Nat.le_of_ble_eq_true rfl, Nat.le_of_ble_eq_true rfl⟩ (fun r_4 H locs p_5 hM => ?_)
  replace p_5 : (r_4.toInt = 1 ∧ 0 ≤ p0.toInt ∧ p0.toInt < (F 17).toInt ∧ 0 ≤ p1.toInt ∧ p1.toInt < (F 15).toInt) ∨ r_4.toInt = 0 := p_5
  refine mm_if_eq (X := r_4.toInt) (tgt := 37) hx hb dX6_tell_11 (by decide) rfl (fun c_6 => ?_) (fun c_6 => ?_)
  · refine lv_iconst (v := (-1)) hx hb dX6_tell_37 (by decide) ?_
    exact mr_ri E hr hlk hsz hM trivial dX6_tell_38
  · refine lv_aload_n hx hb dX6_tell_14 rfl (lv_at hl 0 rfl) ?_
    refine lv_iload_n hx hb dX6_tell_15 rfl (lv_at hl 1 rfl) ?_
    refine lv_iload_n hx hb dX6_tell_16 rfl (lv_at hl 3 rfl) ?_
    refine lv_iload hx hb dX6_tell_17 (lv_at hl 4 rfl) ?_
    refine lv_iload hx hb dX6_tell_19 (lv_at hl 5 rfl) ?_
    refine mr_callp (av := [.int p0, .int p2, .int p3, .int p4]) (rest := []) E hA hml hM (g3_X6_can l D h0 q cq (upd F 2 0) G _ p0 p2 p3 p4 hM.2.2.2.1 (show 0 ≤ p0.toInt ∧ p0.toInt < 8 from by have n9_0 := num_0; omega)) (cwV 4 hts gc_X6_tell_X6_can_7 rfl rfl rfl (by decide +kernel) ⟨Nat.le_of_ble_eq_true rfl, Nat.le_of_ble_eq_true rfl⟩) rfl hl.1 rfl (Nat.le_of_ble_eq_true rfl) dX6_tell_21 ⟨Nat.le_of_ble_eq_true rfl, Nat.le_of_ble_eq_true rfl⟩ (fun r_8 H locs p_9 hM => ?_)
    refine mm_if_eq (X := r_8.toInt) (tgt := 37) hx hb dX6_tell_24 (by decide) rfl (fun c_10 => ?_) (fun c_10 => ?_)
    · refine lv_iconst (v := (-1)) hx hb dX6_tell_37 (by decide) ?_
      exact mr_ri E hr hlk hsz hM trivial dX6_tell_38
    · refine lv_aload_n hx hb dX6_tell_27 rfl (lv_at hl 0 rfl) ?_
      have b_11 : 0 ≤ (F 31).toInt ∧ (F 31).toInt ≤ 400 := hM.fb 31 rfl
      refine mr_get (v := .int (F 31)) E hM 31 (by decide) (index := 217) (mm_at 25 rfl) rfl rfl dX6_tell_28 ?_
      refine lv_sipush (v := 400) hx hb dX6_tell_31 (by decide) ?_
      refine mm_icmp_ne (X := (F 31).toInt) (Y := 400) (tgt := 39) hx hb dX6_tell_34 (by decide) rfl num_400 (fun c_12 => ?_) (fun c_12 => ?_)
      · refine lv_aload_n hx hb dX6_tell_39 rfl (lv_at hl 0 rfl) ?_
        refine mr_get (v := .ref (q 32)) E hM 32 (by decide) (index := 84) (mm_at 26 rfl) rfl rfl dX6_tell_40 ?_
        refine lv_aload_n hx hb dX6_tell_43 rfl (lv_at hl 0 rfl) ?_
        refine mr_get (v := .int (F 31)) E hM 31 (by decide) (index := 217) (mm_at 25 rfl) rfl rfl dX6_tell_44 ?_
        refine lv_iload_n hx hb dX6_tell_47 rfl (lv_at hl 1 rfl) ?_
        refine mr_ast (X := (F 31).toInt) E hM 32 24 23 rfl rfl rfl (by omega) mg_32 (by decide) (mm_nbA rfl) (by decide) dX6_tell_48 (fun H locs G_13 eG_13 hM => ?_)
        refine lv_aload_n hx hb dX6_tell_49 rfl (lv_at hl 0 rfl) ?_
        refine mr_get (v := .ref (q 33)) E hM 33 (by decide) (index := 87) (mm_at 27 rfl) rfl rfl dX6_tell_50 ?_
        refine lv_aload_n hx hb dX6_tell_53 rfl (lv_at hl 0 rfl) ?_
        refine mr_get (v := .int (F 31)) E hM 31 (by decide) (index := 217) (mm_at 25 rfl) rfl rfl dX6_tell_54 ?_
        refine lv_iload_n hx hb dX6_tell_57 rfl (lv_at hl 2 rfl) ?_
        refine mr_ast (X := (F 31).toInt) E hM 33 25 24 rfl rfl rfl (by omega) mg_33 (by decide) (mm_nbA rfl) (by decide) dX6_tell_58 (fun H locs G_14 eG_14 hM => ?_)
        refine lv_aload_n hx hb dX6_tell_59 rfl (lv_at hl 0 rfl) ?_
        refine mr_get (v := .ref (q 34)) E hM 34 (by decide) (index := 90) (mm_at 28 rfl) rfl rfl dX6_tell_60 ?_
        refine lv_aload_n hx hb dX6_tell_63 rfl (lv_at hl 0 rfl) ?_
        refine mr_get (v := .int (F 31)) E hM 31 (by decide) (index := 217) (mm_at 25 rfl) rfl rfl dX6_tell_64 ?_
        refine lv_iload_n hx hb dX6_tell_67 rfl (lv_at hl 3 rfl) ?_
        refine mr_ast (X := (F 31).toInt) E hM 34 26 25 rfl rfl rfl (by omega) mg_34 (by decide) (mm_nbA rfl) (by decide) dX6_tell_68 (fun H locs G_15 eG_15 hM => ?_)
        refine lv_aload_n hx hb dX6_tell_69 rfl (lv_at hl 0 rfl) ?_
        refine mr_get (v := .ref (q 35)) E hM 35 (by decide) (index := 93) (mm_at 29 rfl) rfl rfl dX6_tell_70 ?_
        refine lv_aload_n hx hb dX6_tell_73 rfl (lv_at hl 0 rfl) ?_
        refine mr_get (v := .int (F 31)) E hM 31 (by decide) (index := 217) (mm_at 25 rfl) rfl rfl dX6_tell_74 ?_
        refine lv_iload hx hb dX6_tell_77 (lv_at hl 4 rfl) ?_
        refine mr_ast (X := (F 31).toInt) E hM 35 27 26 rfl rfl rfl (by omega) mg_35 (by decide) (mm_nbA rfl) (by decide) dX6_tell_79 (fun H locs G_16 eG_16 hM => ?_)
        refine lv_aload_n hx hb dX6_tell_80 rfl (lv_at hl 0 rfl) ?_
        refine mr_get (v := .ref (q 36)) E hM 36 (by decide) (index := 96) (mm_at 30 rfl) rfl rfl dX6_tell_81 ?_
        refine lv_aload_n hx hb dX6_tell_84 rfl (lv_at hl 0 rfl) ?_
        refine mr_get (v := .int (F 31)) E hM 31 (by decide) (index := 217) (mm_at 25 rfl) rfl rfl dX6_tell_85 ?_
        refine lv_iload hx hb dX6_tell_88 (lv_at hl 5 rfl) ?_
        refine mr_ast (X := (F 31).toInt) E hM 36 28 27 rfl rfl rfl (by omega) mg_36 (by decide) (mm_nbA rfl) (by decide) dX6_tell_90 (fun H locs G_17 eG_17 hM => ?_)
        refine lv_aload_n hx hb dX6_tell_91 rfl (lv_at hl 0 rfl) ?_
        refine mr_get (v := .ref (q 37)) E hM 37 (by decide) (index := 99) (mm_at 31 rfl) rfl rfl dX6_tell_92 ?_
        refine lv_aload_n hx hb dX6_tell_95 rfl (lv_at hl 0 rfl) ?_
        refine mr_get (v := .int (F 31)) E hM 31 (by decide) (index := 217) (mm_at 25 rfl) rfl rfl dX6_tell_96 ?_
        refine lv_aload_n hx hb dX6_tell_99 rfl (lv_at hl 0 rfl) ?_
        have b_18 : 0 ≤ (F 3).toInt ∧ (F 3).toInt ≤ 200 := hM.fb 3 rfl
        refine mr_get (v := .int (F 3)) E hM 3 (by decide) (index := 194) (mm_at 32 rfl) rfl rfl dX6_tell_100 ?_
        refine mr_ast (X := (F 31).toInt) E hM 37 29 28 rfl rfl rfl (by omega) mg_37 (by decide) (mm_nbA rfl) (by decide) dX6_tell_103 (fun H locs G_19 eG_19 hM => ?_)
        refine lv_aload_n hx hb dX6_tell_104 rfl (lv_at hl 0 rfl) ?_
        refine lv_dup hx hb dX6_tell_105 rfl ?_
        refine mr_get (v := .int (F 31)) E hM 31 (by decide) (index := 217) (mm_at 25 rfl) rfl rfl dX6_tell_106 ?_
        refine lv_iconst (v := 1) hx hb dX6_tell_109 (by decide) ?_
        refine mm_iadd (X := (F 31).toInt) (Y := 1) hx hb dX6_tell_110 rfl num_1 (by omega) (fun z_20 hz_20 => ?_)
        refine mr_put (v := z_20) E hM 31 (by decide) (index := 217) (mm_at 25 rfl) rfl rfl (by decide +kernel) ms_31 (mm_bd (X := z_20.toInt) (a := 0) (b := 400) rfl rfl (by omega)) (by decide) dX6_tell_111 (fun H locs hM => ?_)
        refine lv_aload_n hx hb dX6_tell_114 rfl (lv_at hl 0 rfl) ?_
        refine mr_get (v := .ref (q 28)) E hM 28 (by decide) (index := 75) (mm_at 33 rfl) rfl rfl dX6_tell_115 ?_
        refine lv_iload_n hx hb dX6_tell_118 rfl (lv_at hl 1 rfl) ?_
        refine lv_dup2_11 hx hb dX6_tell_119 rfl rfl ?_
        refine mr_ald (X := p0.toInt) E hM 21 20 rfl rfl rfl (by omega) dX6_tell_120 ?_
        refine lv_iconst (v := 1) hx hb dX6_tell_121 (by decide) ?_
        refine mm_iaddU hx hb dX6_tell_122 (fun z_21 => ?_)
        refine mr_ast (X := p0.toInt) E hM 28 21 20 rfl rfl rfl (by omega) mg_28 (by decide) (mm_nbA rfl) (by decide) dX6_tell_123 (fun H locs G_22 eG_22 hM => ?_)
        refine lv_aload_n hx hb dX6_tell_124 rfl (lv_at hl 0 rfl) ?_
        refine mr_get (v := .int z_20) E hM 31 (by decide) (index := 217) (mm_at 25 rfl) rfl rfl dX6_tell_125 ?_
        exact mr_ri E hr hlk hsz hM trivial dX6_tell_128
      · refine lv_iconst (v := (-1)) hx hb dX6_tell_37 (by decide) ?_
        exact mr_ri E hr hlk hsz hM trivial dX6_tell_38
end
section
theorem num_4 : (4 : Int32).toInt = 4 := by decide
theorem num_5 : (5 : Int32).toInt = 5 := by decide
theorem num_8 : (8 : Int32).toInt = 8 := by decide
theorem num_12 : (12 : Int32).toInt = 12 := by decide
theorem num_20 : (20 : Int32).toInt = 20 := by decide
theorem num_24 : (24 : Int32).toInt = 24 := by decide
theorem num_255 : (255 : Int32).toInt = 255 := by decide
theorem num_1000 : (1000 : Int32).toInt = 1000 := by decide
def w3X6_known : List Cond := .code yX6_known cX6_known 7 (some .int) :: ([.fieldLink RX6 99 "SkiShotsModel" "tDay" "[I", .fieldLink RX6 84 "SkiShotsModel" "tRace" "[I", .fieldLink RX6 87 "SkiShotsModel" "tRacer" "[I", .fieldLink RX6 90 "SkiShotsModel" "tSort" "[I", .fieldLink RX6 93 "SkiShotsModel" "tK" "[I", .fieldLink RX6 96 "SkiShotsModel" "tV" "[I", .fieldLink RX6 217 "SkiShotsModel" "told" "I"] ++ wsX60)
set_option maxHeartbeats 4000000 in
set_option maxRecDepth 100000 in
theorem g3_X6_known (l : Launch) (D : va_G) (h0 : Nat) (q : Nat → Nat) (cq : Nat → ClassId) (F : Nat → Int32) (G : Nat → Nat → Int32) (sz : Nat) (p0 : Int32) (p1 : Int32) (p2 : Int32) (p3 : Int32) (p4 : Int32) (hI : mI F G)  : Met l yX6_known w3X6_known ({ frames := 0, cells := 0, slots := 0, locals := 0 }) (mPre D h0 q cq F G sz [.ref h0, .int p0, .int p1, .int p2, .int p3, .int p4]) (mQi D h0 q cq F G sz [] [] (fun r F' G' => True)) 0 0 (va_A (mW h0 q cq F G) sz) := by
  refine mr_met (WF := []) (WG := []) (cc := cX6_known) (maxL := 7) (ret := (some .int)) (by decide) rfl rfl (by decide +kernel) (Nat.le_of_ble_eq_true rfl) hI ?_
  intro p e s m args below meth c ls E hml hr hlk hsz hA hM hl
  have hx := E.1
  have hb := E.2.1
  have hts := E.2.2.1
  have hown := E.2.2.2.2.1
  have hl : lv_has ls 7 [(0, .ref h0), (1, .int p0), (2, .int p1), (3, .int p2), (4, .int p3), (5, .int p4)] := hl
  have B_8 : ∀ n_8 : Nat, ∀ (H : Heap) (locs : List Loc) (ls : Array Slot) (F_8 : Nat → Int32) (G_8 : Nat → Nat → Int32) (i : Int32), ((-1) ≤ i.toInt ∧ i.toInt ≤ 399) → (i.toInt + 1) < (n_8 : Int) → mQ D h0 q cq (va_A (mW h0 q cq F G) sz) s.heap [] [] F G H locs F_8 G_8 → lv_has ls 7 [(0, .ref h0), (1, .int p0), (2, .int p1), (3, .int p2), (4, .int p3), (5, .int p4), (6, .int i)] → W p l e ({ frames := 0, cells := 0, slots := 0, locals := 0 }) s m args below meth c H locs 0 0 (MQ below (mQi D h0 q cq F G sz [] [] (fun r F' G' => True)) args s 0 0 (va_A (mW h0 q cq F G) sz)) (F0 m 8 ls []) := by
    intro n_8
    induction n_8 with
    | zero => intro H locs ls F_8 G_8 i f8_0 hn hM hl; exact False.elim (by have hfr_8 := hM.fr; omega)
    | succ n_8 ih_8 =>
      intro H locs ls F_8 G_8 i f8_0 hn hM hl
      have hfr_8 := hM.fr
      refine lv_iload hx hb dX6_known_8 (lv_at hl 6 rfl) ?_
      refine mm_if_lt (X := i.toInt) (tgt := 84) hx hb dX6_known_10 (by decide) rfl (fun c_1 => ?_) (fun c_1 => ?_)
      · refine lv_iconst (v := (-1)) hx hb dX6_known_84 (by decide) ?_
        exact mr_ri E hr hlk hsz hM trivial dX6_known_85
      · refine lv_aload_n hx hb dX6_known_13 rfl (lv_at hl 0 rfl) ?_
        refine mr_get (v := .ref (q 37)) E hM 37 (by decide) (index := 99) (mm_at 1 rfl) rfl rfl dX6_known_14 ?_
        refine lv_iload hx hb dX6_known_17 (lv_at hl 6 rfl) ?_
        refine mr_ald (X := i.toInt) E hM 29 28 rfl rfl rfl (by omega) dX6_known_19 ?_
        refine lv_iload hx hb dX6_known_20 (lv_at hl 5 rfl) ?_
        refine mm_icmp_gt (X := (G_8 37 (Int32.toNatClampNeg i)).toInt) (Y := p4.toInt) (tgt := 78) hx hb dX6_known_22 (by decide) rfl rfl (fun c_2 => ?_) (fun c_2 => ?_)
        · refine mm_iinc (X := i.toInt) (v := (-1)) (lv2 := fun z => [(6, .int z), (0, .ref h0), (1, .int p0), (2, .int p1), (3, .int p2), (4, .int p3), (5, .int p4)]) hx hb dX6_known_78 hl (k := 6) rfl rfl (by decide) num_m1 (by omega) (by decide) (fun _ => rfl) (fun z_3 ls hz_3 hl => ?_)
          have hl : lv_has ls 7 [(6, .int z_3), (0, .ref h0), (1, .int p0), (2, .int p1), (3, .int p2), (4, .int p3), (5, .int p4)] := hl
          refine lv_goto (tgt := 8) hx hb dX6_known_81 (by decide) ?_
          exact ih_8 _ _ _ F_8 G_8 z_3 (show ((-1) ≤ z_3.toInt ∧ z_3.toInt ≤ 399) from by omega) (show (z_3.toInt + 1) < ((n_8 : Nat) : Int) from by omega) hM (lv_sub hl [1, 2, 3, 4, 5, 6, 0] rfl)
        · refine lv_aload_n hx hb dX6_known_25 rfl (lv_at hl 0 rfl) ?_
          refine mr_get (v := .ref (q 32)) E hM 32 (by decide) (index := 84) (mm_at 2 rfl) rfl rfl dX6_known_26 ?_
          refine lv_iload hx hb dX6_known_29 (lv_at hl 6 rfl) ?_
          refine mr_ald (X := i.toInt) E hM 24 23 rfl rfl rfl (by omega) dX6_known_31 ?_
          refine lv_iload_n hx hb dX6_known_32 rfl (lv_at hl 1 rfl) ?_
          refine mm_icmp_ne (X := (G_8 32 (Int32.toNatClampNeg i)).toInt) (Y := p0.toInt) (tgt := 78) hx hb dX6_known_33 (by decide) rfl rfl (fun c_4 => ?_) (fun c_4 => ?_)
          · refine mm_iinc (X := i.toInt) (v := (-1)) (lv2 := fun z => [(6, .int z), (0, .ref h0), (1, .int p0), (2, .int p1), (3, .int p2), (4, .int p3), (5, .int p4)]) hx hb dX6_known_78 hl (k := 6) rfl rfl (by decide) num_m1 (by omega) (by decide) (fun _ => rfl) (fun z_5 ls hz_5 hl => ?_)
            have hl : lv_has ls 7 [(6, .int z_5), (0, .ref h0), (1, .int p0), (2, .int p1), (3, .int p2), (4, .int p3), (5, .int p4)] := hl
            refine lv_goto (tgt := 8) hx hb dX6_known_81 (by decide) ?_
            exact ih_8 _ _ _ F_8 G_8 z_5 (show ((-1) ≤ z_5.toInt ∧ z_5.toInt ≤ 399) from by omega) (show (z_5.toInt + 1) < ((n_8 : Nat) : Int) from by omega) hM (lv_sub hl [1, 2, 3, 4, 5, 6, 0] rfl)
          · refine lv_aload_n hx hb dX6_known_36 rfl (lv_at hl 0 rfl) ?_
            refine mr_get (v := .ref (q 33)) E hM 33 (by decide) (index := 87) (mm_at 3 rfl) rfl rfl dX6_known_37 ?_
            refine lv_iload hx hb dX6_known_40 (lv_at hl 6 rfl) ?_
            refine mr_ald (X := i.toInt) E hM 25 24 rfl rfl rfl (by omega) dX6_known_42 ?_
            refine lv_iload_n hx hb dX6_known_43 rfl (lv_at hl 2 rfl) ?_
            refine mm_icmp_ne (X := (G_8 33 (Int32.toNatClampNeg i)).toInt) (Y := p1.toInt) (tgt := 78) hx hb dX6_known_44 (by decide) rfl rfl (fun c_6 => ?_) (fun c_6 => ?_)
            · refine mm_iinc (X := i.toInt) (v := (-1)) (lv2 := fun z => [(6, .int z), (0, .ref h0), (1, .int p0), (2, .int p1), (3, .int p2), (4, .int p3), (5, .int p4)]) hx hb dX6_known_78 hl (k := 6) rfl rfl (by decide) num_m1 (by omega) (by decide) (fun _ => rfl) (fun z_7 ls hz_7 hl => ?_)
              have hl : lv_has ls 7 [(6, .int z_7), (0, .ref h0), (1, .int p0), (2, .int p1), (3, .int p2), (4, .int p3), (5, .int p4)] := hl
              refine lv_goto (tgt := 8) hx hb dX6_known_81 (by decide) ?_
              exact ih_8 _ _ _ F_8 G_8 z_7 (show ((-1) ≤ z_7.toInt ∧ z_7.toInt ≤ 399) from by omega) (show (z_7.toInt + 1) < ((n_8 : Nat) : Int) from by omega) hM (lv_sub hl [1, 2, 3, 4, 5, 6, 0] rfl)
            · refine lv_aload_n hx hb dX6_known_47 rfl (lv_at hl 0 rfl) ?_
              refine mr_get (v := .ref (q 34)) E hM 34 (by decide) (index := 90) (mm_at 4 rfl) rfl rfl dX6_known_48 ?_
              refine lv_iload hx hb dX6_known_51 (lv_at hl 6 rfl) ?_
              refine mr_ald (X := i.toInt) E hM 26 25 rfl rfl rfl (by omega) dX6_known_53 ?_
              refine lv_iload_n hx hb dX6_known_54 rfl (lv_at hl 3 rfl) ?_
              refine mm_icmp_ne (X := (G_8 34 (Int32.toNatClampNeg i)).toInt) (Y := p2.toInt) (tgt := 78) hx hb dX6_known_55 (by decide) rfl rfl (fun c_8 => ?_) (fun c_8 => ?_)
              · refine mm_iinc (X := i.toInt) (v := (-1)) (lv2 := fun z => [(6, .int z), (0, .ref h0), (1, .int p0), (2, .int p1), (3, .int p2), (4, .int p3), (5, .int p4)]) hx hb dX6_known_78 hl (k := 6) rfl rfl (by decide) num_m1 (by omega) (by decide) (fun _ => rfl) (fun z_9 ls hz_9 hl => ?_)
                have hl : lv_has ls 7 [(6, .int z_9), (0, .ref h0), (1, .int p0), (2, .int p1), (3, .int p2), (4, .int p3), (5, .int p4)] := hl
                refine lv_goto (tgt := 8) hx hb dX6_known_81 (by decide) ?_
                exact ih_8 _ _ _ F_8 G_8 z_9 (show ((-1) ≤ z_9.toInt ∧ z_9.toInt ≤ 399) from by omega) (show (z_9.toInt + 1) < ((n_8 : Nat) : Int) from by omega) hM (lv_sub hl [1, 2, 3, 4, 5, 6, 0] rfl)
              · refine lv_aload_n hx hb dX6_known_58 rfl (lv_at hl 0 rfl) ?_
                refine mr_get (v := .ref (q 35)) E hM 35 (by decide) (index := 93) (mm_at 5 rfl) rfl rfl dX6_known_59 ?_
                refine lv_iload hx hb dX6_known_62 (lv_at hl 6 rfl) ?_
                refine mr_ald (X := i.toInt) E hM 27 26 rfl rfl rfl (by omega) dX6_known_64 ?_
                refine lv_iload hx hb dX6_known_65 (lv_at hl 4 rfl) ?_
                refine mm_icmp_ne (X := (G_8 35 (Int32.toNatClampNeg i)).toInt) (Y := p3.toInt) (tgt := 78) hx hb dX6_known_67 (by decide) rfl rfl (fun c_10 => ?_) (fun c_10 => ?_)
                · refine mm_iinc (X := i.toInt) (v := (-1)) (lv2 := fun z => [(6, .int z), (0, .ref h0), (1, .int p0), (2, .int p1), (3, .int p2), (4, .int p3), (5, .int p4)]) hx hb dX6_known_78 hl (k := 6) rfl rfl (by decide) num_m1 (by omega) (by decide) (fun _ => rfl) (fun z_11 ls hz_11 hl => ?_)
                  have hl : lv_has ls 7 [(6, .int z_11), (0, .ref h0), (1, .int p0), (2, .int p1), (3, .int p2), (4, .int p3), (5, .int p4)] := hl
                  refine lv_goto (tgt := 8) hx hb dX6_known_81 (by decide) ?_
                  exact ih_8 _ _ _ F_8 G_8 z_11 (show ((-1) ≤ z_11.toInt ∧ z_11.toInt ≤ 399) from by omega) (show (z_11.toInt + 1) < ((n_8 : Nat) : Int) from by omega) hM (lv_sub hl [1, 2, 3, 4, 5, 6, 0] rfl)
                · refine lv_aload_n hx hb dX6_known_70 rfl (lv_at hl 0 rfl) ?_
                  refine mr_get (v := .ref (q 36)) E hM 36 (by decide) (index := 96) (mm_at 6 rfl) rfl rfl dX6_known_71 ?_
                  refine lv_iload hx hb dX6_known_74 (lv_at hl 6 rfl) ?_
                  refine mr_ald (X := i.toInt) E hM 28 27 rfl rfl rfl (by omega) dX6_known_76 ?_
                  exact mr_ri E hr hlk hsz hM trivial dX6_known_77
  refine lv_aload_n hx hb dX6_known_0 rfl (lv_at hl 0 rfl) ?_
  have b_12 : 0 ≤ (F 31).toInt ∧ (F 31).toInt ≤ 400 := hM.fb 31 rfl
  refine mr_get (v := .int (F 31)) E hM 31 (by decide) (index := 217) (mm_at 7 rfl) rfl rfl dX6_known_1 ?_
  refine lv_iconst (v := 1) hx hb dX6_known_4 (by decide) ?_
  refine mm_isub (X := (F 31).toInt) (Y := 1) hx hb dX6_known_5 rfl num_1 (by omega) (fun z_13 hz_13 => ?_)
  refine lv_istore (lv' := [(6, .int z_13), (0, .ref h0), (1, .int p0), (2, .int p1), (3, .int p2), (4, .int p3), (5, .int p4)]) hx hb dX6_known_6 hl (by decide) rfl (fun ls hl => ?_)
  exact B_8 4294967296 _ _ _ F G z_13 (show ((-1) ≤ z_13.toInt ∧ z_13.toInt ≤ 399) from by omega) (show (z_13.toInt + 1) < ((4294967296 : Nat) : Int) from by omega) hM (lv_sub hl [1, 2, 3, 4, 5, 6, 0] rfl)
def w3X6_hits : List Cond := .code yX6_hits cX6_hits 3 (some .int) :: ([] ++ wsX60)
set_option maxHeartbeats 4000000 in
set_option maxRecDepth 100000 in
theorem g3_X6_hits (l : Launch) (D : va_G) (h0 : Nat) (q : Nat → Nat) (cq : Nat → ClassId) (F : Nat → Int32) (G : Nat → Nat → Int32) (sz : Nat) (p0 : Int32) (hI : mI F G)  : Met l yX6_hits w3X6_hits ({ frames := 0, cells := 0, slots := 0, locals := 0 }) (mPre D h0 q cq F G sz [.int p0]) (mQi D h0 q cq F G sz [] [] (fun r F' G' => True)) 0 0 (va_A (mW h0 q cq F G) sz) := by
  refine mr_met (WF := []) (WG := []) (cc := cX6_hits) (maxL := 3) (ret := (some .int)) (by decide) rfl rfl (by decide +kernel) (Nat.le_of_ble_eq_true rfl) hI ?_
  intro p e s m args below meth c ls E hml hr hlk hsz hA hM hl
  have hx := E.1
  have hb := E.2.1
  have hts := E.2.2.1
  have hown := E.2.2.2.2.1
  have hl : lv_has ls 3 [(0, .int p0)] := hl
  have B_4 : ∀ n_4 : Nat, ∀ (H : Heap) (locs : List Loc) (ls : Array Slot) (F_4 : Nat → Int32) (G_4 : Nat → Nat → Int32) (a k : Int32), (0 ≤ k.toInt ∧ k.toInt ≤ 5) → (5 - k.toInt) < (n_4 : Int) → mQ D h0 q cq (va_A (mW h0 q cq F G) sz) s.heap [] [] F G H locs F_4 G_4 → lv_has ls 3 [(0, .int p0), (1, .int a), (2, .int k)] → W p l e ({ frames := 0, cells := 0, slots := 0, locals := 0 }) s m args below meth c H locs 0 0 (MQ below (mQi D h0 q cq F G sz [] [] (fun r F' G' => True)) args s 0 0 (va_A (mW h0 q cq F G) sz)) (F0 m 4 ls []) := by
    intro n_4
    induction n_4 with
    | zero => intro H locs ls F_4 G_4 a k f4_0 hn hM hl; exact False.elim (by have hfr_4 := hM.fr; omega)
    | succ n_4 ih_4 =>
      intro H locs ls F_4 G_4 a k f4_0 hn hM hl
      have hfr_4 := hM.fr
      refine lv_iload_n hx hb dX6_hits_4 rfl (lv_at hl 2 rfl) ?_
      refine lv_iconst (v := 5) hx hb dX6_hits_5 (by decide) ?_
      refine mm_icmp_ge (X := k.toInt) (Y := 5) (tgt := 23) hx hb dX6_hits_6 (by decide) rfl num_5 (fun c_1 => ?_) (fun c_1 => ?_)
      · refine lv_iload_n hx hb dX6_hits_23 rfl (lv_at hl 1 rfl) ?_
        exact mr_ri E hr hlk hsz hM trivial dX6_hits_24
      · refine lv_iload_n hx hb dX6_hits_9 rfl (lv_at hl 1 rfl) ?_
        refine lv_iload_n hx hb dX6_hits_10 rfl (lv_at hl 0 rfl) ?_
        refine lv_iload_n hx hb dX6_hits_11 rfl (lv_at hl 2 rfl) ?_
        refine mm_ishrU hx hb dX6_hits_12 (fun z_2 => ?_)
        refine lv_iconst (v := 1) hx hb dX6_hits_13 (by decide) ?_
        refine mm_iandU hx hb dX6_hits_14 (fun z_3 => ?_)
        refine mm_iaddU hx hb dX6_hits_15 (fun z_4 => ?_)
        refine lv_istore_n (lv' := [(1, .int z_4), (0, .int p0), (2, .int k)]) hx hb dX6_hits_16 rfl hl (by decide) rfl (fun ls hl => ?_)
        refine mm_iinc (X := k.toInt) (v := 1) (lv2 := fun z => [(2, .int z), (1, .int z_4), (0, .int p0)]) hx hb dX6_hits_17 hl (k := 2) rfl rfl (by decide) num_1 (by omega) (by decide) (fun _ => rfl) (fun z_5 ls hz_5 hl => ?_)
        have hl : lv_has ls 3 [(2, .int z_5), (1, .int z_4), (0, .int p0)] := hl
        refine lv_goto (tgt := 4) hx hb dX6_hits_20 (by decide) ?_
        exact ih_4 _ _ _ F_4 G_4 z_4 z_5 (show (0 ≤ z_5.toInt ∧ z_5.toInt ≤ 5) from by omega) (show (5 - z_5.toInt) < ((n_4 : Nat) : Int) from by omega) hM (lv_sub hl [2, 1, 0] rfl)
  refine lv_iconst (v := 0) hx hb dX6_hits_0 (by decide) ?_
  refine lv_istore_n (lv' := [(1, .int 0), (0, .int p0)]) hx hb dX6_hits_1 rfl hl (by decide) rfl (fun ls hl => ?_)
  refine lv_iconst (v := 0) hx hb dX6_hits_2 (by decide) ?_
  refine lv_istore_n (lv' := [(2, .int 0), (1, .int 0), (0, .int p0)]) hx hb dX6_hits_3 rfl hl (by decide) rfl (fun ls hl => ?_)
  exact B_4 4294967296 _ _ _ F G 0 0 (show (0 ≤ (0 : Int32).toInt ∧ (0 : Int32).toInt ≤ 5) from by have n_0 := num_0; have n_1 := num_0; omega) (show (5 - (0 : Int32).toInt) < ((4294967296 : Nat) : Int) from by have n_0 := num_0; have n_1 := num_0; omega) hM (lv_sub hl [2, 1, 0] rfl)
def w3X6_least : List Cond := .code yX6_least cX6_least 4 (some .int) :: ([.fieldLink RX6 197 "SkiShotsModel" "racers" "I", .fieldLink RX6 81 "SkiShotsModel" "entryOf" "[I", .fieldLink RX6 108 "SkiShotsModel" "low" "[I"] ++ wsX60)
set_option maxHeartbeats 4000000 in
set_option maxRecDepth 100000 in
theorem g3_X6_least (l : Launch) (D : va_G) (h0 : Nat) (q : Nat → Nat) (cq : Nat → ClassId) (F : Nat → Int32) (G : Nat → Nat → Int32) (sz : Nat) (p0 : Int32) (hI : mI F G) (k0 : 0 ≤ p0.toInt ∧ p0.toInt < 8) : Met l yX6_least w3X6_least ({ frames := 0, cells := 0, slots := 0, locals := 0 }) (mPre D h0 q cq F G sz [.ref h0, .int p0]) (mQi D h0 q cq F G sz [] [] (fun r F' G' => True)) 0 0 (va_A (mW h0 q cq F G) sz) := by
  refine mr_met (WF := []) (WG := []) (cc := cX6_least) (maxL := 4) (ret := (some .int)) (by decide) rfl rfl (by decide +kernel) (Nat.le_of_ble_eq_true rfl) hI ?_
  intro p e s m args below meth c ls E hml hr hlk hsz hA hM hl
  have hx := E.1
  have hb := E.2.1
  have hts := E.2.2.1
  have hown := E.2.2.2.2.1
  have hl : lv_has ls 4 [(0, .ref h0), (1, .int p0)] := hl
  have B_4 : ∀ n_4 : Nat, ∀ (H : Heap) (locs : List Loc) (ls : Array Slot) (F_4 : Nat → Int32) (G_4 : Nat → Nat → Int32) (b w : Int32), (0 ≤ w.toInt ∧ w.toInt ≤ 16) → (16 - w.toInt) < (n_4 : Int) → mQ D h0 q cq (va_A (mW h0 q cq F G) sz) s.heap [] [] F G H locs F_4 G_4 → lv_has ls 4 [(0, .ref h0), (1, .int p0), (2, .int b), (3, .int w)] → W p l e ({ frames := 0, cells := 0, slots := 0, locals := 0 }) s m args below meth c H locs 0 0 (MQ below (mQi D h0 q cq F G sz [] [] (fun r F' G' => True)) args s 0 0 (va_A (mW h0 q cq F G) sz)) (F0 m 4 ls []) := by
    intro n_4
    induction n_4 with
    | zero => intro H locs ls F_4 G_4 b w f4_0 hn hM hl; exact False.elim (by have hfr_4 := hM.fr; omega)
    | succ n_4 ih_4 =>
      intro H locs ls F_4 G_4 b w f4_0 hn hM hl
      have hfr_4 := hM.fr
      refine lv_iload_n hx hb dX6_least_4 rfl (lv_at hl 3 rfl) ?_
      refine lv_aload_n hx hb dX6_least_5 rfl (lv_at hl 0 rfl) ?_
      have b_1 : 0 ≤ (F_4 15).toInt ∧ (F_4 15).toInt ≤ 16 := hM.fb 15 rfl
      have e_2 : (F_4 15).toInt = (F 15).toInt := (congrArg Int32.toInt (hfr_4.1 15 (by decide))).trans rfl
      refine mr_get (v := .int (F_4 15)) E hM 15 (by decide) (index := 197) (mm_at 1 rfl) rfl rfl dX6_least_6 ?_
      refine mm_icmp_ge (X := w.toInt) (Y := (F_4 15).toInt) (tgt := 77) hx hb dX6_least_9 (by decide) rfl rfl (fun c_3 => ?_) (fun c_3 => ?_)
      · refine lv_iload_n hx hb dX6_least_77 rfl (lv_at hl 2 rfl) ?_
        exact mr_ri E hr hlk hsz hM trivial dX6_least_78
      · refine lv_aload_n hx hb dX6_least_12 rfl (lv_at hl 0 rfl) ?_
        refine mr_get (v := .ref (q 30)) E hM 30 (by decide) (index := 81) (mm_at 2 rfl) rfl rfl dX6_least_13 ?_
        refine lv_bipush (v := 16) hx hb dX6_least_16 (by decide) ?_
        refine lv_iload_n hx hb dX6_least_18 rfl (lv_at hl 1 rfl) ?_
        refine mm_imul (X := 16) (Y := p0.toInt) hx hb dX6_least_19 num_16 rfl (by omega) (fun z_4 hz_4 => ?_)
        refine lv_iload_n hx hb dX6_least_20 rfl (lv_at hl 3 rfl) ?_
        refine mm_iadd (X := z_4.toInt) (Y := w.toInt) hx hb dX6_least_21 rfl rfl (by omega) (fun z_5 hz_5 => ?_)
        refine mr_ald (X := z_5.toInt) E hM 23 22 rfl rfl rfl (by omega) dX6_least_22 ?_
        have b_6 : -1 ≤ (G_4 30 (Int32.toNatClampNeg z_5)).toInt ∧ (G_4 30 (Int32.toNatClampNeg z_5)).toInt ≤ 15 := hM.ab 30 rfl _
        refine mm_if_lt (X := (G_4 30 (Int32.toNatClampNeg z_5)).toInt) (tgt := 71) hx hb dX6_least_23 (by decide) rfl (fun c_7 => ?_) (fun c_7 => ?_)
        · refine mm_iinc (X := w.toInt) (v := 1) (lv2 := fun z => [(3, .int z), (0, .ref h0), (1, .int p0), (2, .int b)]) hx hb dX6_least_71 hl (k := 3) rfl rfl (by decide) num_1 (by omega) (by decide) (fun _ => rfl) (fun z_8 ls hz_8 hl => ?_)
          have hl : lv_has ls 4 [(3, .int z_8), (0, .ref h0), (1, .int p0), (2, .int b)] := hl
          refine lv_goto (tgt := 4) hx hb dX6_least_74 (by decide) ?_
          exact ih_4 _ _ _ F_4 G_4 b z_8 (show (0 ≤ z_8.toInt ∧ z_8.toInt ≤ 16) from by omega) (show (16 - z_8.toInt) < ((n_4 : Nat) : Int) from by omega) hM (lv_sub hl [1, 2, 3, 0] rfl)
        · refine lv_aload_n hx hb dX6_least_26 rfl (lv_at hl 0 rfl) ?_
          refine mr_get (v := .ref (q 46)) E hM 46 (by decide) (index := 108) (mm_at 3 rfl) rfl rfl dX6_least_27 ?_
          refine lv_bipush (v := 16) hx hb dX6_least_30 (by decide) ?_
          refine lv_iload_n hx hb dX6_least_32 rfl (lv_at hl 1 rfl) ?_
          refine mm_imul (X := 16) (Y := p0.toInt) hx hb dX6_least_33 num_16 rfl (by omega) (fun z_9 hz_9 => ?_)
          refine lv_iload_n hx hb dX6_least_34 rfl (lv_at hl 3 rfl) ?_
          refine mm_iadd (X := z_9.toInt) (Y := w.toInt) hx hb dX6_least_35 rfl rfl (by omega) (fun z_10 hz_10 => ?_)
          refine mr_ald (X := z_10.toInt) E hM 32 31 rfl rfl rfl (by omega) dX6_least_36 ?_
          refine mm_if_lt (X := (G_4 46 (Int32.toNatClampNeg z_10)).toInt) (tgt := 71) hx hb dX6_least_37 (by decide) rfl (fun c_11 => ?_) (fun c_11 => ?_)
          · refine mm_iinc (X := w.toInt) (v := 1) (lv2 := fun z => [(3, .int z), (0, .ref h0), (1, .int p0), (2, .int b)]) hx hb dX6_least_71 hl (k := 3) rfl rfl (by decide) num_1 (by omega) (by decide) (fun _ => rfl) (fun z_12 ls hz_12 hl => ?_)
            have hl : lv_has ls 4 [(3, .int z_12), (0, .ref h0), (1, .int p0), (2, .int b)] := hl
            refine lv_goto (tgt := 4) hx hb dX6_least_74 (by decide) ?_
            exact ih_4 _ _ _ F_4 G_4 b z_12 (show (0 ≤ z_12.toInt ∧ z_12.toInt ≤ 16) from by omega) (show (16 - z_12.toInt) < ((n_4 : Nat) : Int) from by omega) hM (lv_sub hl [1, 2, 3, 0] rfl)
          · refine lv_iload_n hx hb dX6_least_40 rfl (lv_at hl 2 rfl) ?_
            refine mm_if_lt (X := b.toInt) (tgt := 59) hx hb dX6_least_41 (by decide) rfl (fun c_13 => ?_) (fun c_13 => ?_)
            · refine lv_aload_n hx hb dX6_least_59 rfl (lv_at hl 0 rfl) ?_
              refine mr_get (v := .ref (q 46)) E hM 46 (by decide) (index := 108) (mm_at 3 rfl) rfl rfl dX6_least_60 ?_
              refine lv_bipush (v := 16) hx hb dX6_least_63 (by decide) ?_
              refine lv_iload_n hx hb dX6_least_65 rfl (lv_at hl 1 rfl) ?_
              refine mm_imul (X := 16) (Y := p0.toInt) hx hb dX6_least_66 num_16 rfl (by omega) (fun z_14 hz_14 => ?_)
              refine lv_iload_n hx hb dX6_least_67 rfl (lv_at hl 3 rfl) ?_
              refine mm_iadd (X := z_14.toInt) (Y := w.toInt) hx hb dX6_least_68 rfl rfl (by omega) (fun z_15 hz_15 => ?_)
              refine mr_ald (X := z_15.toInt) E hM 32 31 rfl rfl rfl (by omega) dX6_least_69 ?_
              refine lv_istore_n (lv' := [(2, .int (G_4 46 (Int32.toNatClampNeg z_15))), (0, .ref h0), (1, .int p0), (3, .int w)]) hx hb dX6_least_70 rfl hl (by decide) rfl (fun ls hl => ?_)
              refine mm_iinc (X := w.toInt) (v := 1) (lv2 := fun z => [(3, .int z), (2, .int (G_4 46 (Int32.toNatClampNeg z_15))), (0, .ref h0), (1, .int p0)]) hx hb dX6_least_71 hl (k := 3) rfl rfl (by decide) num_1 (by omega) (by decide) (fun _ => rfl) (fun z_16 ls hz_16 hl => ?_)
              have hl : lv_has ls 4 [(3, .int z_16), (2, .int (G_4 46 (Int32.toNatClampNeg z_15))), (0, .ref h0), (1, .int p0)] := hl
              refine lv_goto (tgt := 4) hx hb dX6_least_74 (by decide) ?_
              exact ih_4 _ _ _ F_4 G_4 (G_4 46 (Int32.toNatClampNeg z_15)) z_16 (show (0 ≤ z_16.toInt ∧ z_16.toInt ≤ 16) from by omega) (show (16 - z_16.toInt) < ((n_4 : Nat) : Int) from by omega) hM (lv_sub hl [2, 3, 1, 0] rfl)
            · refine lv_aload_n hx hb dX6_least_44 rfl (lv_at hl 0 rfl) ?_
              refine mr_get (v := .ref (q 46)) E hM 46 (by decide) (index := 108) (mm_at 3 rfl) rfl rfl dX6_least_45 ?_
              refine lv_bipush (v := 16) hx hb dX6_least_48 (by decide) ?_
              refine lv_iload_n hx hb dX6_least_50 rfl (lv_at hl 1 rfl) ?_
              refine mm_imul (X := 16) (Y := p0.toInt) hx hb dX6_least_51 num_16 rfl (by omega) (fun z_17 hz_17 => ?_)
              refine lv_iload_n hx hb dX6_least_52 rfl (lv_at hl 3 rfl) ?_
              refine mm_iadd (X := z_17.toInt) (Y := w.toInt) hx hb dX6_least_53 rfl rfl (by omega) (fun z_18 hz_18 => ?_)
              refine mr_ald (X := z_18.toInt) E hM 32 31 rfl rfl rfl (by omega) dX6_least_54 ?_
              refine lv_iload_n hx hb dX6_least_55 rfl (lv_at hl 2 rfl) ?_
              refine mm_icmp_ge (X := (G_4 46 (Int32.toNatClampNeg z_18)).toInt) (Y := b.toInt) (tgt := 71) hx hb dX6_least_56 (by decide) rfl rfl (fun c_19 => ?_) (fun c_19 => ?_)
              · refine mm_iinc (X := w.toInt) (v := 1) (lv2 := fun z => [(3, .int z), (0, .ref h0), (1, .int p0), (2, .int b)]) hx hb dX6_least_71 hl (k := 3) rfl rfl (by decide) num_1 (by omega) (by decide) (fun _ => rfl) (fun z_20 ls hz_20 hl => ?_)
                have hl : lv_has ls 4 [(3, .int z_20), (0, .ref h0), (1, .int p0), (2, .int b)] := hl
                refine lv_goto (tgt := 4) hx hb dX6_least_74 (by decide) ?_
                exact ih_4 _ _ _ F_4 G_4 b z_20 (show (0 ≤ z_20.toInt ∧ z_20.toInt ≤ 16) from by omega) (show (16 - z_20.toInt) < ((n_4 : Nat) : Int) from by omega) hM (lv_sub hl [1, 2, 3, 0] rfl)
              · refine lv_aload_n hx hb dX6_least_59 rfl (lv_at hl 0 rfl) ?_
                refine mr_get (v := .ref (q 46)) E hM 46 (by decide) (index := 108) (mm_at 3 rfl) rfl rfl dX6_least_60 ?_
                refine lv_bipush (v := 16) hx hb dX6_least_63 (by decide) ?_
                refine lv_iload_n hx hb dX6_least_65 rfl (lv_at hl 1 rfl) ?_
                refine mm_imul (X := 16) (Y := p0.toInt) hx hb dX6_least_66 num_16 rfl (by omega) (fun z_21 hz_21 => ?_)
                refine lv_iload_n hx hb dX6_least_67 rfl (lv_at hl 3 rfl) ?_
                refine mm_iadd (X := z_21.toInt) (Y := w.toInt) hx hb dX6_least_68 rfl rfl (by omega) (fun z_22 hz_22 => ?_)
                refine mr_ald (X := z_22.toInt) E hM 32 31 rfl rfl rfl (by omega) dX6_least_69 ?_
                refine lv_istore_n (lv' := [(2, .int (G_4 46 (Int32.toNatClampNeg z_22))), (0, .ref h0), (1, .int p0), (3, .int w)]) hx hb dX6_least_70 rfl hl (by decide) rfl (fun ls hl => ?_)
                refine mm_iinc (X := w.toInt) (v := 1) (lv2 := fun z => [(3, .int z), (2, .int (G_4 46 (Int32.toNatClampNeg z_22))), (0, .ref h0), (1, .int p0)]) hx hb dX6_least_71 hl (k := 3) rfl rfl (by decide) num_1 (by omega) (by decide) (fun _ => rfl) (fun z_23 ls hz_23 hl => ?_)
                have hl : lv_has ls 4 [(3, .int z_23), (2, .int (G_4 46 (Int32.toNatClampNeg z_22))), (0, .ref h0), (1, .int p0)] := hl
                refine lv_goto (tgt := 4) hx hb dX6_least_74 (by decide) ?_
                exact ih_4 _ _ _ F_4 G_4 (G_4 46 (Int32.toNatClampNeg z_22)) z_23 (show (0 ≤ z_23.toInt ∧ z_23.toInt ≤ 16) from by omega) (show (16 - z_23.toInt) < ((n_4 : Nat) : Int) from by omega) hM (lv_sub hl [2, 3, 1, 0] rfl)
  refine lv_iconst (v := (-1)) hx hb dX6_least_0 (by decide) ?_
  refine lv_istore_n (lv' := [(2, .int (-1)), (0, .ref h0), (1, .int p0)]) hx hb dX6_least_1 rfl hl (by decide) rfl (fun ls hl => ?_)
  refine lv_iconst (v := 0) hx hb dX6_least_2 (by decide) ?_
  refine lv_istore_n (lv' := [(3, .int 0), (2, .int (-1)), (0, .ref h0), (1, .int p0)]) hx hb dX6_least_3 rfl hl (by decide) rfl (fun ls hl => ?_)
  exact B_4 4294967296 _ _ _ F G (-1) 0 (show (0 ≤ (0 : Int32).toInt ∧ (0 : Int32).toInt ≤ 16) from by have n_0 := num_m1; have n_1 := num_0; omega) (show (16 - (0 : Int32).toInt) < ((4294967296 : Nat) : Int) from by have n_0 := num_m1; have n_1 := num_0; omega) hM (lv_sub hl [2, 3, 1, 0] rfl)
def w3X6_stands : List Cond := .code yX6_stands cX6_stands 4 (some .int) :: ([.fieldLink RX6 197 "SkiShotsModel" "racers" "I", .fieldLink RX6 123 "SkiShotsModel" "sums" "[I"] ++ wsX60)
set_option maxHeartbeats 4000000 in
set_option maxRecDepth 100000 in
theorem g3_X6_stands (l : Launch) (D : va_G) (h0 : Nat) (q : Nat → Nat) (cq : Nat → ClassId) (F : Nat → Int32) (G : Nat → Nat → Int32) (sz : Nat) (p0 : Int32) (hI : mI F G) (k0 : 0 ≤ p0.toInt ∧ p0.toInt < 16) : Met l yX6_stands w3X6_stands ({ frames := 0, cells := 0, slots := 0, locals := 0 }) (mPre D h0 q cq F G sz [.ref h0, .int p0]) (mQi D h0 q cq F G sz [] [] (fun r F' G' => True)) 0 0 (va_A (mW h0 q cq F G) sz) := by
  refine mr_met (WF := []) (WG := []) (cc := cX6_stands) (maxL := 4) (ret := (some .int)) (by decide) rfl rfl (by decide +kernel) (Nat.le_of_ble_eq_true rfl) hI ?_
  intro p e s m args below meth c ls E hml hr hlk hsz hA hM hl
  have hx := E.1
  have hb := E.2.1
  have hts := E.2.2.1
  have hown := E.2.2.2.2.1
  have hl : lv_has ls 4 [(0, .ref h0), (1, .int p0)] := hl
  have B_4 : ∀ n_4 : Nat, ∀ (H : Heap) (locs : List Loc) (ls : Array Slot) (F_4 : Nat → Int32) (G_4 : Nat → Nat → Int32) (n w : Int32), (0 ≤ w.toInt ∧ w.toInt ≤ 16) → (16 - w.toInt) < (n_4 : Int) → mQ D h0 q cq (va_A (mW h0 q cq F G) sz) s.heap [] [] F G H locs F_4 G_4 → lv_has ls 4 [(0, .ref h0), (1, .int p0), (2, .int n), (3, .int w)] → W p l e ({ frames := 0, cells := 0, slots := 0, locals := 0 }) s m args below meth c H locs 0 0 (MQ below (mQi D h0 q cq F G sz [] [] (fun r F' G' => True)) args s 0 0 (va_A (mW h0 q cq F G) sz)) (F0 m 4 ls []) := by
    intro n_4
    induction n_4 with
    | zero => intro H locs ls F_4 G_4 n w f4_0 hn hM hl; exact False.elim (by have hfr_4 := hM.fr; omega)
    | succ n_4 ih_4 =>
      intro H locs ls F_4 G_4 n w f4_0 hn hM hl
      have hfr_4 := hM.fr
      refine lv_iload_n hx hb dX6_stands_4 rfl (lv_at hl 3 rfl) ?_
      refine lv_aload_n hx hb dX6_stands_5 rfl (lv_at hl 0 rfl) ?_
      have b_1 : 0 ≤ (F_4 15).toInt ∧ (F_4 15).toInt ≤ 16 := hM.fb 15 rfl
      have e_2 : (F_4 15).toInt = (F 15).toInt := (congrArg Int32.toInt (hfr_4.1 15 (by decide))).trans rfl
      refine mr_get (v := .int (F_4 15)) E hM 15 (by decide) (index := 197) (mm_at 1 rfl) rfl rfl dX6_stands_6 ?_
      refine mm_icmp_ge (X := w.toInt) (Y := (F_4 15).toInt) (tgt := 41) hx hb dX6_stands_9 (by decide) rfl rfl (fun c_3 => ?_) (fun c_3 => ?_)
      · refine lv_iload_n hx hb dX6_stands_41 rfl (lv_at hl 2 rfl) ?_
        exact mr_ri E hr hlk hsz hM trivial dX6_stands_42
      · refine lv_iload_n hx hb dX6_stands_12 rfl (lv_at hl 2 rfl) ?_
        refine lv_aload_n hx hb dX6_stands_13 rfl (lv_at hl 0 rfl) ?_
        refine mr_get (v := .ref (q 51)) E hM 51 (by decide) (index := 123) (mm_at 2 rfl) rfl rfl dX6_stands_14 ?_
        refine lv_iload_n hx hb dX6_stands_17 rfl (lv_at hl 3 rfl) ?_
        refine mr_ald (X := w.toInt) E hM 37 36 rfl rfl rfl (by omega) dX6_stands_18 ?_
        refine lv_aload_n hx hb dX6_stands_19 rfl (lv_at hl 0 rfl) ?_
        refine mr_get (v := .ref (q 51)) E hM 51 (by decide) (index := 123) (mm_at 2 rfl) rfl rfl dX6_stands_20 ?_
        refine lv_iload_n hx hb dX6_stands_23 rfl (lv_at hl 1 rfl) ?_
        refine mr_ald (X := p0.toInt) E hM 37 36 rfl rfl rfl (by omega) dX6_stands_24 ?_
        refine mm_icmp_le (X := (G_4 51 (Int32.toNatClampNeg w)).toInt) (Y := (G_4 51 (Int32.toNatClampNeg p0)).toInt) (tgt := 32) hx hb dX6_stands_25 (by decide) rfl rfl (fun c_4 => ?_) (fun c_4 => ?_)
        · refine lv_iconst (v := 0) hx hb dX6_stands_32 (by decide) ?_
          refine mm_iaddU hx hb dX6_stands_33 (fun z_5 => ?_)
          refine lv_istore_n (lv' := [(2, .int z_5), (0, .ref h0), (1, .int p0), (3, .int w)]) hx hb dX6_stands_34 rfl hl (by decide) rfl (fun ls hl => ?_)
          refine mm_iinc (X := w.toInt) (v := 1) (lv2 := fun z => [(3, .int z), (2, .int z_5), (0, .ref h0), (1, .int p0)]) hx hb dX6_stands_35 hl (k := 3) rfl rfl (by decide) num_1 (by omega) (by decide) (fun _ => rfl) (fun z_6 ls hz_6 hl => ?_)
          have hl : lv_has ls 4 [(3, .int z_6), (2, .int z_5), (0, .ref h0), (1, .int p0)] := hl
          refine lv_goto (tgt := 4) hx hb dX6_stands_38 (by decide) ?_
          exact ih_4 _ _ _ F_4 G_4 z_5 z_6 (show (0 ≤ z_6.toInt ∧ z_6.toInt ≤ 16) from by omega) (show (16 - z_6.toInt) < ((n_4 : Nat) : Int) from by omega) hM (lv_sub hl [2, 3, 1, 0] rfl)
        · refine lv_iconst (v := 1) hx hb dX6_stands_28 (by decide) ?_
          refine lv_goto (tgt := 33) hx hb dX6_stands_29 (by decide) ?_
          refine mm_iaddU hx hb dX6_stands_33 (fun z_7 => ?_)
          refine lv_istore_n (lv' := [(2, .int z_7), (0, .ref h0), (1, .int p0), (3, .int w)]) hx hb dX6_stands_34 rfl hl (by decide) rfl (fun ls hl => ?_)
          refine mm_iinc (X := w.toInt) (v := 1) (lv2 := fun z => [(3, .int z), (2, .int z_7), (0, .ref h0), (1, .int p0)]) hx hb dX6_stands_35 hl (k := 3) rfl rfl (by decide) num_1 (by omega) (by decide) (fun _ => rfl) (fun z_8 ls hz_8 hl => ?_)
          have hl : lv_has ls 4 [(3, .int z_8), (2, .int z_7), (0, .ref h0), (1, .int p0)] := hl
          refine lv_goto (tgt := 4) hx hb dX6_stands_38 (by decide) ?_
          exact ih_4 _ _ _ F_4 G_4 z_7 z_8 (show (0 ≤ z_8.toInt ∧ z_8.toInt ≤ 16) from by omega) (show (16 - z_8.toInt) < ((n_4 : Nat) : Int) from by omega) hM (lv_sub hl [2, 3, 1, 0] rfl)
  refine lv_iconst (v := 1) hx hb dX6_stands_0 (by decide) ?_
  refine lv_istore_n (lv' := [(2, .int 1), (0, .ref h0), (1, .int p0)]) hx hb dX6_stands_1 rfl hl (by decide) rfl (fun ls hl => ?_)
  refine lv_iconst (v := 0) hx hb dX6_stands_2 (by decide) ?_
  refine lv_istore_n (lv' := [(3, .int 0), (2, .int 1), (0, .ref h0), (1, .int p0)]) hx hb dX6_stands_3 rfl hl (by decide) rfl (fun ls hl => ?_)
  exact B_4 4294967296 _ _ _ F G 1 0 (show (0 ≤ (0 : Int32).toInt ∧ (0 : Int32).toInt ≤ 16) from by have n_0 := num_1; have n_1 := num_0; omega) (show (16 - (0 : Int32).toInt) < ((4294967296 : Nat) : Int) from by have n_0 := num_1; have n_1 := num_0; omega) hM (lv_sub hl [2, 3, 1, 0] rfl)
def w3X6_placed : List Cond := .code yX6_placed cX6_placed 8 (some .int) :: ([.fieldLink RX6 72 "SkiShotsModel" "rEntries" "[I", .fieldLink RX6 78 "SkiShotsModel" "entries" "[I", .fieldLink RX6 108 "SkiShotsModel" "low" "[I", .fieldLink RX6 111 "SkiShotsModel" "high" "[I"] ++ wsX60)
set_option maxHeartbeats 4000000 in
set_option maxRecDepth 100000 in
theorem g3_X6_placed (l : Launch) (D : va_G) (h0 : Nat) (q : Nat → Nat) (cq : Nat → ClassId) (F : Nat → Int32) (G : Nat → Nat → Int32) (sz : Nat) (p0 : Int32) (p1 : Int32) (p2 : Int32) (hI : mI F G) (k0 : 0 ≤ p0.toInt ∧ p0.toInt < 8) (k1 : 0 ≤ p1.toInt ∧ p1.toInt < 16) : Met l yX6_placed w3X6_placed ({ frames := 0, cells := 0, slots := 0, locals := 0 }) (mPre D h0 q cq F G sz [.ref h0, .int p0, .int p1, .int p2]) (mQi D h0 q cq F G sz [] [] (fun r F' G' => True)) 0 0 (va_A (mW h0 q cq F G) sz) := by
  refine mr_met (WF := []) (WG := []) (cc := cX6_placed) (maxL := 8) (ret := (some .int)) (by decide) rfl rfl (by decide +kernel) (Nat.le_of_ble_eq_true rfl) hI ?_
  intro p e s m args below meth c ls E hml hr hlk hsz hA hM hl
  have hx := E.1
  have hb := E.2.1
  have hts := E.2.2.1
  have hown := E.2.2.2.2.1
  have hl : lv_has ls 8 [(0, .ref h0), (1, .int p0), (2, .int p1), (3, .int p2)] := hl
  have B_12 : ∀ n_12 : Nat, ∀ (H : Heap) (locs : List Loc) (ls : Array Slot) (F_12 : Nat → Int32) (G_12 : Nat → Nat → Int32) (a n i : Int32), (0 ≤ i.toInt ∧ i.toInt ≤ 16) → a.toInt = 16 * p0.toInt → (16 - i.toInt) < (n_12 : Int) → mQ D h0 q cq (va_A (mW h0 q cq F G) sz) s.heap [] [] F G H locs F_12 G_12 → lv_has ls 8 [(0, .ref h0), (1, .int p0), (2, .int p1), (3, .int p2), (4, .int a), (5, .int n), (6, .int i)] → W p l e ({ frames := 0, cells := 0, slots := 0, locals := 0 }) s m args below meth c H locs 0 0 (MQ below (mQi D h0 q cq F G sz [] [] (fun r F' G' => True)) args s 0 0 (va_A (mW h0 q cq F G) sz)) (F0 m 12 ls []) := by
    intro n_12
    induction n_12 with
    | zero => intro H locs ls F_12 G_12 a n i f12_0 f12_1 hn hM hl; exact False.elim (by have hfr_12 := hM.fr; omega)
    | succ n_12 ih_12 =>
      intro H locs ls F_12 G_12 a n i f12_0 f12_1 hn hM hl
      have hfr_12 := hM.fr
      refine lv_iload hx hb dX6_placed_12 (lv_at hl 6 rfl) ?_
      refine lv_aload_n hx hb dX6_placed_14 rfl (lv_at hl 0 rfl) ?_
      refine mr_get (v := .ref (q 27)) E hM 27 (by decide) (index := 72) (mm_at 1 rfl) rfl rfl dX6_placed_15 ?_
      refine lv_iload_n hx hb dX6_placed_18 rfl (lv_at hl 1 rfl) ?_
      refine mr_ald (X := p0.toInt) E hM 20 19 rfl rfl rfl (by omega) dX6_placed_19 ?_
      have b_1 : 0 ≤ (G_12 27 (Int32.toNatClampNeg p0)).toInt ∧ (G_12 27 (Int32.toNatClampNeg p0)).toInt ≤ 16 := hM.ab 27 rfl _
      refine mm_icmp_ge (X := i.toInt) (Y := (G_12 27 (Int32.toNatClampNeg p0)).toInt) (tgt := 124) hx hb dX6_placed_20 (by decide) rfl rfl (fun c_2 => ?_) (fun c_2 => ?_)
      · refine lv_iload hx hb dX6_placed_124 (lv_at hl 5 rfl) ?_
        exact mr_ri E hr hlk hsz hM trivial dX6_placed_126
      · refine lv_aload_n hx hb dX6_placed_23 rfl (lv_at hl 0 rfl) ?_
        refine mr_get (v := .ref (q 29)) E hM 29 (by decide) (index := 78) (mm_at 2 rfl) rfl rfl dX6_placed_24 ?_
        refine lv_iload hx hb dX6_placed_27 (lv_at hl 4 rfl) ?_
        refine lv_iload hx hb dX6_placed_29 (lv_at hl 6 rfl) ?_
        refine mm_iadd (X := a.toInt) (Y := i.toInt) hx hb dX6_placed_31 rfl rfl (by omega) (fun z_3 hz_3 => ?_)
        refine mr_ald (X := z_3.toInt) E hM 22 21 rfl rfl rfl (by omega) dX6_placed_32 ?_
        have b_4 : 0 ≤ (G_12 29 (Int32.toNatClampNeg z_3)).toInt ∧ (G_12 29 (Int32.toNatClampNeg z_3)).toInt ≤ 15 := hM.ab 29 rfl _
        refine lv_istore (lv' := [(7, .int (G_12 29 (Int32.toNatClampNeg z_3))), (0, .ref h0), (1, .int p0), (2, .int p1), (3, .int p2), (4, .int a), (5, .int n), (6, .int i)]) hx hb dX6_placed_33 hl (by decide) rfl (fun ls hl => ?_)
        refine lv_iload hx hb dX6_placed_35 (lv_at hl 0 rfl) ?_
        refine lv_iload_n hx hb dX6_placed_37 rfl (lv_at hl 3 rfl) ?_
        refine mm_icmp_eq (X := (G_12 29 (Int32.toNatClampNeg z_3)).toInt) (Y := p1.toInt) (tgt := 118) hx hb dX6_placed_38 (by decide) rfl rfl (fun c_5 => ?_) (fun c_5 => ?_)
        · refine mm_iinc (X := i.toInt) (v := 1) (lv2 := fun z => [(6, .int z), (7, .int (G_12 29 (Int32.toNatClampNeg z_3))), (0, .ref h0), (1, .int p0), (2, .int p1), (3, .int p2), (4, .int a), (5, .int n)]) hx hb dX6_placed_118 hl (k := 7) rfl rfl (by decide) num_1 (by omega) (by decide) (fun _ => rfl) (fun z_6 ls hz_6 hl => ?_)
          have hl : lv_has ls 8 [(6, .int z_6), (7, .int (G_12 29 (Int32.toNatClampNeg z_3))), (0, .ref h0), (1, .int p0), (2, .int p1), (3, .int p2), (4, .int a), (5, .int n)] := hl
          refine lv_goto (tgt := 12) hx hb dX6_placed_121 (by decide) ?_
          exact ih_12 _ _ _ F_12 G_12 a n z_6 (show (0 ≤ z_6.toInt ∧ z_6.toInt ≤ 16) from by omega) (show a.toInt = 16 * p0.toInt from by omega) (show (16 - z_6.toInt) < ((n_12 : Nat) : Int) from by omega) hM (lv_sub hl [2, 3, 4, 5, 6, 7, 0] rfl)
        · refine lv_aload_n hx hb dX6_placed_41 rfl (lv_at hl 1 rfl) ?_
          refine mr_get (v := .ref (q 46)) E hM 46 (by decide) (index := 108) (mm_at 3 rfl) rfl rfl dX6_placed_42 ?_
          refine lv_iload hx hb dX6_placed_45 (lv_at hl 5 rfl) ?_
          refine lv_iload hx hb dX6_placed_47 (lv_at hl 0 rfl) ?_
          refine mm_iadd (X := a.toInt) (Y := (G_12 29 (Int32.toNatClampNeg z_3)).toInt) hx hb dX6_placed_49 rfl rfl (by omega) (fun z_7 hz_7 => ?_)
          refine mr_ald (X := z_7.toInt) E hM 32 31 rfl rfl rfl (by omega) dX6_placed_50 ?_
          refine mm_if_ge (X := (G_12 46 (Int32.toNatClampNeg z_7)).toInt) (tgt := 57) hx hb dX6_placed_51 (by decide) rfl (fun c_8 => ?_) (fun c_8 => ?_)
          · refine lv_iload hx hb dX6_placed_57 (lv_at hl 6 rfl) ?_
            refine lv_iload_n hx hb dX6_placed_59 rfl (lv_at hl 4 rfl) ?_
            refine mm_if_eq (X := p2.toInt) (tgt := 88) hx hb dX6_placed_60 (by decide) rfl (fun c_9 => ?_) (fun c_9 => ?_)
            · refine lv_aload_n hx hb dX6_placed_88 rfl (lv_at hl 1 rfl) ?_
              refine mr_get (v := .ref (q 46)) E hM 46 (by decide) (index := 108) (mm_at 3 rfl) rfl rfl dX6_placed_89 ?_
              refine lv_iload hx hb dX6_placed_92 (lv_at hl 5 rfl) ?_
              refine lv_iload hx hb dX6_placed_94 (lv_at hl 0 rfl) ?_
              refine mm_iadd (X := a.toInt) (Y := (G_12 29 (Int32.toNatClampNeg z_3)).toInt) hx hb dX6_placed_96 rfl rfl (by omega) (fun z_10 hz_10 => ?_)
              refine mr_ald (X := z_10.toInt) E hM 32 31 rfl rfl rfl (by omega) dX6_placed_97 ?_
              refine lv_aload_n hx hb dX6_placed_98 rfl (lv_at hl 1 rfl) ?_
              refine mr_get (v := .ref (q 47)) E hM 47 (by decide) (index := 111) (mm_at 4 rfl) rfl rfl dX6_placed_99 ?_
              refine lv_iload hx hb dX6_placed_102 (lv_at hl 5 rfl) ?_
              refine lv_iload_n hx hb dX6_placed_104 rfl (lv_at hl 3 rfl) ?_
              refine mm_iadd (X := a.toInt) (Y := p1.toInt) hx hb dX6_placed_105 rfl rfl (by omega) (fun z_11 hz_11 => ?_)
              refine mr_ald (X := z_11.toInt) E hM 33 32 rfl rfl rfl (by omega) dX6_placed_106 ?_
              refine mm_icmp_ge (X := (G_12 46 (Int32.toNatClampNeg z_10)).toInt) (Y := (G_12 47 (Int32.toNatClampNeg z_11)).toInt) (tgt := 114) hx hb dX6_placed_107 (by decide) rfl rfl (fun c_12 => ?_) (fun c_12 => ?_)
              · refine lv_iconst (v := 0) hx hb dX6_placed_114 (by decide) ?_
                refine mm_iaddU hx hb dX6_placed_115 (fun z_13 => ?_)
                refine lv_istore (lv' := [(5, .int z_13), (7, .int (G_12 29 (Int32.toNatClampNeg z_3))), (0, .ref h0), (1, .int p0), (2, .int p1), (3, .int p2), (4, .int a), (6, .int i)]) hx hb dX6_placed_116 hl (by decide) rfl (fun ls hl => ?_)
                refine mm_iinc (X := i.toInt) (v := 1) (lv2 := fun z => [(6, .int z), (5, .int z_13), (7, .int (G_12 29 (Int32.toNatClampNeg z_3))), (0, .ref h0), (1, .int p0), (2, .int p1), (3, .int p2), (4, .int a)]) hx hb dX6_placed_118 hl (k := 7) rfl rfl (by decide) num_1 (by omega) (by decide) (fun _ => rfl) (fun z_14 ls hz_14 hl => ?_)
                have hl : lv_has ls 8 [(6, .int z_14), (5, .int z_13), (7, .int (G_12 29 (Int32.toNatClampNeg z_3))), (0, .ref h0), (1, .int p0), (2, .int p1), (3, .int p2), (4, .int a)] := hl
                refine lv_goto (tgt := 12) hx hb dX6_placed_121 (by decide) ?_
                exact ih_12 _ _ _ F_12 G_12 a z_13 z_14 (show (0 ≤ z_14.toInt ∧ z_14.toInt ≤ 16) from by omega) (show a.toInt = 16 * p0.toInt from by omega) (show (16 - z_14.toInt) < ((n_12 : Nat) : Int) from by omega) hM (lv_sub hl [3, 4, 5, 6, 7, 1, 0] rfl)
              · refine lv_iconst (v := 1) hx hb dX6_placed_110 (by decide) ?_
                refine lv_goto (tgt := 115) hx hb dX6_placed_111 (by decide) ?_
                refine mm_iaddU hx hb dX6_placed_115 (fun z_15 => ?_)
                refine lv_istore (lv' := [(5, .int z_15), (7, .int (G_12 29 (Int32.toNatClampNeg z_3))), (0, .ref h0), (1, .int p0), (2, .int p1), (3, .int p2), (4, .int a), (6, .int i)]) hx hb dX6_placed_116 hl (by decide) rfl (fun ls hl => ?_)
                refine mm_iinc (X := i.toInt) (v := 1) (lv2 := fun z => [(6, .int z), (5, .int z_15), (7, .int (G_12 29 (Int32.toNatClampNeg z_3))), (0, .ref h0), (1, .int p0), (2, .int p1), (3, .int p2), (4, .int a)]) hx hb dX6_placed_118 hl (k := 7) rfl rfl (by decide) num_1 (by omega) (by decide) (fun _ => rfl) (fun z_16 ls hz_16 hl => ?_)
                have hl : lv_has ls 8 [(6, .int z_16), (5, .int z_15), (7, .int (G_12 29 (Int32.toNatClampNeg z_3))), (0, .ref h0), (1, .int p0), (2, .int p1), (3, .int p2), (4, .int a)] := hl
                refine lv_goto (tgt := 12) hx hb dX6_placed_121 (by decide) ?_
                exact ih_12 _ _ _ F_12 G_12 a z_15 z_16 (show (0 ≤ z_16.toInt ∧ z_16.toInt ≤ 16) from by omega) (show a.toInt = 16 * p0.toInt from by omega) (show (16 - z_16.toInt) < ((n_12 : Nat) : Int) from by omega) hM (lv_sub hl [3, 4, 5, 6, 7, 1, 0] rfl)
            · refine lv_aload_n hx hb dX6_placed_63 rfl (lv_at hl 1 rfl) ?_
              refine mr_get (v := .ref (q 47)) E hM 47 (by decide) (index := 111) (mm_at 4 rfl) rfl rfl dX6_placed_64 ?_
              refine lv_iload hx hb dX6_placed_67 (lv_at hl 5 rfl) ?_
              refine lv_iload hx hb dX6_placed_69 (lv_at hl 0 rfl) ?_
              refine mm_iadd (X := a.toInt) (Y := (G_12 29 (Int32.toNatClampNeg z_3)).toInt) hx hb dX6_placed_71 rfl rfl (by omega) (fun z_17 hz_17 => ?_)
              refine mr_ald (X := z_17.toInt) E hM 33 32 rfl rfl rfl (by omega) dX6_placed_72 ?_
              refine lv_aload_n hx hb dX6_placed_73 rfl (lv_at hl 1 rfl) ?_
              refine mr_get (v := .ref (q 46)) E hM 46 (by decide) (index := 108) (mm_at 3 rfl) rfl rfl dX6_placed_74 ?_
              refine lv_iload hx hb dX6_placed_77 (lv_at hl 5 rfl) ?_
              refine lv_iload_n hx hb dX6_placed_79 rfl (lv_at hl 3 rfl) ?_
              refine mm_iadd (X := a.toInt) (Y := p1.toInt) hx hb dX6_placed_80 rfl rfl (by omega) (fun z_18 hz_18 => ?_)
              refine mr_ald (X := z_18.toInt) E hM 32 31 rfl rfl rfl (by omega) dX6_placed_81 ?_
              refine mm_icmp_ge (X := (G_12 47 (Int32.toNatClampNeg z_17)).toInt) (Y := (G_12 46 (Int32.toNatClampNeg z_18)).toInt) (tgt := 114) hx hb dX6_placed_82 (by decide) rfl rfl (fun c_19 => ?_) (fun c_19 => ?_)
              · refine lv_iconst (v := 0) hx hb dX6_placed_114 (by decide) ?_
                refine mm_iaddU hx hb dX6_placed_115 (fun z_20 => ?_)
                refine lv_istore (lv' := [(5, .int z_20), (7, .int (G_12 29 (Int32.toNatClampNeg z_3))), (0, .ref h0), (1, .int p0), (2, .int p1), (3, .int p2), (4, .int a), (6, .int i)]) hx hb dX6_placed_116 hl (by decide) rfl (fun ls hl => ?_)
                refine mm_iinc (X := i.toInt) (v := 1) (lv2 := fun z => [(6, .int z), (5, .int z_20), (7, .int (G_12 29 (Int32.toNatClampNeg z_3))), (0, .ref h0), (1, .int p0), (2, .int p1), (3, .int p2), (4, .int a)]) hx hb dX6_placed_118 hl (k := 7) rfl rfl (by decide) num_1 (by omega) (by decide) (fun _ => rfl) (fun z_21 ls hz_21 hl => ?_)
                have hl : lv_has ls 8 [(6, .int z_21), (5, .int z_20), (7, .int (G_12 29 (Int32.toNatClampNeg z_3))), (0, .ref h0), (1, .int p0), (2, .int p1), (3, .int p2), (4, .int a)] := hl
                refine lv_goto (tgt := 12) hx hb dX6_placed_121 (by decide) ?_
                exact ih_12 _ _ _ F_12 G_12 a z_20 z_21 (show (0 ≤ z_21.toInt ∧ z_21.toInt ≤ 16) from by omega) (show a.toInt = 16 * p0.toInt from by omega) (show (16 - z_21.toInt) < ((n_12 : Nat) : Int) from by omega) hM (lv_sub hl [3, 4, 5, 6, 7, 1, 0] rfl)
              · refine lv_goto (tgt := 110) hx hb dX6_placed_85 (by decide) ?_
                refine lv_iconst (v := 1) hx hb dX6_placed_110 (by decide) ?_
                refine lv_goto (tgt := 115) hx hb dX6_placed_111 (by decide) ?_
                refine mm_iaddU hx hb dX6_placed_115 (fun z_22 => ?_)
                refine lv_istore (lv' := [(5, .int z_22), (7, .int (G_12 29 (Int32.toNatClampNeg z_3))), (0, .ref h0), (1, .int p0), (2, .int p1), (3, .int p2), (4, .int a), (6, .int i)]) hx hb dX6_placed_116 hl (by decide) rfl (fun ls hl => ?_)
                refine mm_iinc (X := i.toInt) (v := 1) (lv2 := fun z => [(6, .int z), (5, .int z_22), (7, .int (G_12 29 (Int32.toNatClampNeg z_3))), (0, .ref h0), (1, .int p0), (2, .int p1), (3, .int p2), (4, .int a)]) hx hb dX6_placed_118 hl (k := 7) rfl rfl (by decide) num_1 (by omega) (by decide) (fun _ => rfl) (fun z_23 ls hz_23 hl => ?_)
                have hl : lv_has ls 8 [(6, .int z_23), (5, .int z_22), (7, .int (G_12 29 (Int32.toNatClampNeg z_3))), (0, .ref h0), (1, .int p0), (2, .int p1), (3, .int p2), (4, .int a)] := hl
                refine lv_goto (tgt := 12) hx hb dX6_placed_121 (by decide) ?_
                exact ih_12 _ _ _ F_12 G_12 a z_22 z_23 (show (0 ≤ z_23.toInt ∧ z_23.toInt ≤ 16) from by omega) (show a.toInt = 16 * p0.toInt from by omega) (show (16 - z_23.toInt) < ((n_12 : Nat) : Int) from by omega) hM (lv_sub hl [3, 4, 5, 6, 7, 1, 0] rfl)
          · refine lv_goto (tgt := 118) hx hb dX6_placed_54 (by decide) ?_
            refine mm_iinc (X := i.toInt) (v := 1) (lv2 := fun z => [(6, .int z), (7, .int (G_12 29 (Int32.toNatClampNeg z_3))), (0, .ref h0), (1, .int p0), (2, .int p1), (3, .int p2), (4, .int a), (5, .int n)]) hx hb dX6_placed_118 hl (k := 7) rfl rfl (by decide) num_1 (by omega) (by decide) (fun _ => rfl) (fun z_24 ls hz_24 hl => ?_)
            have hl : lv_has ls 8 [(6, .int z_24), (7, .int (G_12 29 (Int32.toNatClampNeg z_3))), (0, .ref h0), (1, .int p0), (2, .int p1), (3, .int p2), (4, .int a), (5, .int n)] := hl
            refine lv_goto (tgt := 12) hx hb dX6_placed_121 (by decide) ?_
            exact ih_12 _ _ _ F_12 G_12 a n z_24 (show (0 ≤ z_24.toInt ∧ z_24.toInt ≤ 16) from by omega) (show a.toInt = 16 * p0.toInt from by omega) (show (16 - z_24.toInt) < ((n_12 : Nat) : Int) from by omega) hM (lv_sub hl [2, 3, 4, 5, 6, 7, 0] rfl)
  refine lv_bipush (v := 16) hx hb dX6_placed_0 (by decide) ?_
  refine lv_iload_n hx hb dX6_placed_2 rfl (lv_at hl 1 rfl) ?_
  refine mm_imul (X := 16) (Y := p0.toInt) hx hb dX6_placed_3 num_16 rfl (by omega) (fun z_25 hz_25 => ?_)
  refine lv_istore (lv' := [(4, .int z_25), (0, .ref h0), (1, .int p0), (2, .int p1), (3, .int p2)]) hx hb dX6_placed_4 hl (by decide) rfl (fun ls hl => ?_)
  refine lv_iconst (v := 1) hx hb dX6_placed_6 (by decide) ?_
  refine lv_istore (lv' := [(5, .int 1), (4, .int z_25), (0, .ref h0), (1, .int p0), (2, .int p1), (3, .int p2)]) hx hb dX6_placed_7 hl (by decide) rfl (fun ls hl => ?_)
  refine lv_iconst (v := 0) hx hb dX6_placed_9 (by decide) ?_
  refine lv_istore (lv' := [(6, .int 0), (5, .int 1), (4, .int z_25), (0, .ref h0), (1, .int p0), (2, .int p1), (3, .int p2)]) hx hb dX6_placed_10 hl (by decide) rfl (fun ls hl => ?_)
  exact B_12 4294967296 _ _ _ F G z_25 1 0 (show (0 ≤ (0 : Int32).toInt ∧ (0 : Int32).toInt ≤ 16) from by have n_1 := num_1; have n_2 := num_0; omega) (show z_25.toInt = 16 * p0.toInt from by have n_1 := num_1; have n_2 := num_0; omega) (show (16 - (0 : Int32).toInt) < ((4294967296 : Nat) : Int) from by have n_1 := num_1; have n_2 := num_0; omega) hM (lv_sub hl [3, 4, 5, 6, 2, 1, 0] rfl)
def w3X6_feed : List Cond := .code yX6_feed cX6_feed 8 (some .int) :: ([.fieldLink RX6 129 "SkiShotsModel" "tapeSize" "I", .fieldLink RX6 7 "SkiShotsModel" "tape" "[I", .fieldLink RX6 126 "SkiShotsModel" "thrown" "I"] ++ wsX60)
set_option maxHeartbeats 4000000 in
set_option maxRecDepth 100000 in
theorem g3_X6_feed (l : Launch) (D : va_G) (h0 : Nat) (q : Nat → Nat) (cq : Nat → ClassId) (F : Nat → Int32) (G : Nat → Nat → Int32) (sz : Nat) (p0 : Int32) (p1 : Int32) (p2 : Int32) (p3 : Int32) (p4 : Int32) (hI : mI F G)  : Met l yX6_feed w3X6_feed ({ frames := 0, cells := 0, slots := 0, locals := 0 }) (mPre D h0 q cq F G sz [.ref h0, .int p0, .int p1, .int p2, .int p3, .int p4]) (mQi D h0 q cq F G sz [1, 2] [0] (fun r F' G' => ((F 1).toInt ≤ 980 ∧ r.toInt = (F 1).toInt + 20 ∧ (F' 1).toInt = (F 1).toInt + 20) ∨ (980 < (F 1).toInt ∧ r.toInt = -1 ∧ (F' 1).toInt = (F 1).toInt))) 0 0 (va_A (mW h0 q cq F G) sz) := by
  refine mr_met (WF := [1, 2]) (WG := [0]) (cc := cX6_feed) (maxL := 8) (ret := (some .int)) (by decide) rfl rfl (by decide +kernel) (Nat.le_of_ble_eq_true rfl) hI ?_
  intro p e s m args below meth c ls E hml hr hlk hsz hA hM hl
  have hx := E.1
  have hb := E.2.1
  have hts := E.2.2.1
  have hown := E.2.2.2.2.1
  have hl : lv_has ls 8 [(0, .ref h0), (1, .int p0), (2, .int p1), (3, .int p2), (4, .int p3), (5, .int p4)] := hl
  have B_23 : ∀ n_23 : Nat, ∀ (H : Heap) (locs : List Loc) (ls : Array Slot) (F_23 : Nat → Int32) (G_23 : Nat → Nat → Int32) (k : Int32), (0 ≤ k.toInt ∧ k.toInt ≤ 20) → (F_23 1).toInt = (F 1).toInt → (F 1).toInt ≤ 980 → (20 - k.toInt) < (n_23 : Int) → mQ D h0 q cq (va_A (mW h0 q cq F G) sz) s.heap [1, 2] [0] F G H locs F_23 G_23 → lv_has ls 8 [(0, .ref h0), (1, .int p0), (2, .int p1), (3, .int p2), (4, .int p3), (5, .int p4), (6, .int k)] → W p l e ({ frames := 0, cells := 0, slots := 0, locals := 0 }) s m args below meth c H locs 0 0 (MQ below (mQi D h0 q cq F G sz [1, 2] [0] (fun r F' G' => ((F 1).toInt ≤ 980 ∧ r.toInt = (F 1).toInt + 20 ∧ (F' 1).toInt = (F 1).toInt + 20) ∨ (980 < (F 1).toInt ∧ r.toInt = -1 ∧ (F' 1).toInt = (F 1).toInt))) args s 0 0 (va_A (mW h0 q cq F G) sz)) (F0 m 23 ls []) := by
    intro n_23
    induction n_23 with
    | zero => intro H locs ls F_23 G_23 k f23_0 f23_1 f23_2 hn hM hl; exact False.elim (by have hfr_23 := hM.fr; omega)
    | succ n_23 ih_23 =>
      intro H locs ls F_23 G_23 k f23_0 f23_1 f23_2 hn hM hl
      have hfr_23 := hM.fr
      refine lv_iload hx hb dX6_feed_23 (lv_at hl 6 rfl) ?_
      refine lv_bipush (v := 20) hx hb dX6_feed_25 (by decide) ?_
      refine mm_icmp_ge (X := k.toInt) (Y := 20) (tgt := 113) hx hb dX6_feed_27 (by decide) rfl num_20 (fun c_1 => ?_) (fun c_1 => ?_)
      · refine lv_aload_n hx hb dX6_feed_113 rfl (lv_at hl 0 rfl) ?_
        refine lv_dup hx hb dX6_feed_114 rfl ?_
        have b_2 : 0 ≤ (F_23 1).toInt ∧ (F_23 1).toInt ≤ 1000 := hM.fb 1 rfl
        refine mr_get (v := .int (F_23 1)) E hM 1 (by decide) (index := 129) (mm_at 1 rfl) rfl rfl dX6_feed_115 ?_
        refine lv_bipush (v := 20) hx hb dX6_feed_118 (by decide) ?_
        refine mm_iadd (X := (F_23 1).toInt) (Y := 20) hx hb dX6_feed_120 rfl num_20 (by omega) (fun z_3 hz_3 => ?_)
        refine mr_put (v := z_3) E hM 1 (by decide) (index := 129) (mm_at 1 rfl) rfl rfl (by decide +kernel) ms_1 (mm_bd (X := z_3.toInt) (a := 0) (b := 1000) rfl rfl (by omega)) (by decide) dX6_feed_121 (fun H locs hM => ?_)
        refine lv_aload_n hx hb dX6_feed_124 rfl (lv_at hl 0 rfl) ?_
        refine mr_get (v := .int z_3) E hM 1 (by decide) (index := 129) (mm_at 1 rfl) rfl rfl dX6_feed_125 ?_
        exact mr_ri E hr hlk hsz hM (show ((F 1).toInt ≤ 980 ∧ z_3.toInt = (F 1).toInt + 20 ∧ z_3.toInt = (F 1).toInt + 20) ∨ (980 < (F 1).toInt ∧ z_3.toInt = -1 ∧ z_3.toInt = (F 1).toInt) from by omega) dX6_feed_128
      · refine lv_iload hx hb dX6_feed_30 (lv_at hl 6 rfl) ?_
        refine lv_iconst (v := 4) hx hb dX6_feed_32 (by decide) ?_
        refine mm_icmp_ge (X := k.toInt) (Y := 4) (tgt := 40) hx hb dX6_feed_33 (by decide) rfl num_4 (fun c_4 => ?_) (fun c_4 => ?_)
        · refine lv_iload hx hb dX6_feed_40 (lv_at hl 6 rfl) ?_
          refine lv_bipush (v := 8) hx hb dX6_feed_42 (by decide) ?_
          refine mm_icmp_ge (X := k.toInt) (Y := 8) (tgt := 51) hx hb dX6_feed_44 (by decide) rfl num_8 (fun c_5 => ?_) (fun c_5 => ?_)
          · refine lv_iload hx hb dX6_feed_51 (lv_at hl 6 rfl) ?_
            refine lv_bipush (v := 12) hx hb dX6_feed_53 (by decide) ?_
            refine mm_icmp_ge (X := k.toInt) (Y := 12) (tgt := 62) hx hb dX6_feed_55 (by decide) rfl num_12 (fun c_6 => ?_) (fun c_6 => ?_)
            · refine lv_iload hx hb dX6_feed_62 (lv_at hl 6 rfl) ?_
              refine lv_bipush (v := 16) hx hb dX6_feed_64 (by decide) ?_
              refine mm_icmp_ge (X := k.toInt) (Y := 16) (tgt := 74) hx hb dX6_feed_66 (by decide) rfl num_16 (fun c_7 => ?_) (fun c_7 => ?_)
              · refine lv_iload hx hb dX6_feed_74 (lv_at hl 5 rfl) ?_
                refine lv_istore (lv' := [(7, .int p4), (0, .ref h0), (1, .int p0), (2, .int p1), (3, .int p2), (4, .int p3), (5, .int p4), (6, .int k)]) hx hb dX6_feed_76 hl (by decide) rfl (fun ls hl => ?_)
                refine lv_aload_n hx hb dX6_feed_78 rfl (lv_at hl 1 rfl) ?_
                refine mr_get (v := .ref (q 0)) E hM 0 (by decide) (index := 7) (mm_at 2 rfl) rfl rfl dX6_feed_79 ?_
                refine lv_aload_n hx hb dX6_feed_82 rfl (lv_at hl 1 rfl) ?_
                have b_8 : 0 ≤ (F_23 1).toInt ∧ (F_23 1).toInt ≤ 1000 := hM.fb 1 rfl
                refine mr_get (v := .int (F_23 1)) E hM 1 (by decide) (index := 129) (mm_at 1 rfl) rfl rfl dX6_feed_83 ?_
                refine lv_iload hx hb dX6_feed_86 (lv_at hl 7 rfl) ?_
                refine mm_iadd (X := (F_23 1).toInt) (Y := k.toInt) hx hb dX6_feed_88 rfl rfl (by omega) (fun z_9 hz_9 => ?_)
                refine lv_iload hx hb dX6_feed_89 (lv_at hl 0 rfl) ?_
                refine lv_bipush (v := 24) hx hb dX6_feed_91 (by decide) ?_
                refine lv_bipush (v := 8) hx hb dX6_feed_93 (by decide) ?_
                refine lv_iload hx hb dX6_feed_95 (lv_at hl 7 rfl) ?_
                refine lv_iconst (v := 4) hx hb dX6_feed_97 (by decide) ?_
                refine mm_iremU (Y := 4) hx hb dX6_feed_98 num_4 (by omega) (fun z_10 => ?_)
                refine mm_imulU hx hb dX6_feed_99 (fun z_11 => ?_)
                refine mm_isubU hx hb dX6_feed_100 (fun z_12 => ?_)
                refine mm_ishrU hx hb dX6_feed_101 (fun z_13 => ?_)
                refine lv_sipush (v := 255) hx hb dX6_feed_102 (by decide) ?_
                refine mm_iandU hx hb dX6_feed_105 (fun z_14 => ?_)
                refine mr_ast (X := z_9.toInt) E hM 0 1 0 rfl rfl rfl (by omega) mg_0 (by decide) (mm_nbA rfl) (by decide) dX6_feed_106 (fun H locs G_15 eG_15 hM => ?_)
                refine mm_iinc (X := k.toInt) (v := 1) (lv2 := fun z => [(6, .int z), (7, .int p4), (0, .ref h0), (1, .int p0), (2, .int p1), (3, .int p2), (4, .int p3), (5, .int p4)]) hx hb dX6_feed_107 hl (k := 7) rfl rfl (by decide) num_1 (by omega) (by decide) (fun _ => rfl) (fun z_16 ls hz_16 hl => ?_)
                have hl : lv_has ls 8 [(6, .int z_16), (7, .int p4), (0, .ref h0), (1, .int p0), (2, .int p1), (3, .int p2), (4, .int p3), (5, .int p4)] := hl
                refine lv_goto (tgt := 23) hx hb dX6_feed_110 (by decide) ?_
                exact ih_23 _ _ _ F_23 G_15 z_16 (show (0 ≤ z_16.toInt ∧ z_16.toInt ≤ 20) from by omega) (show (F_23 1).toInt = (F 1).toInt from by omega) (show (F 1).toInt ≤ 980 from by omega) (show (20 - z_16.toInt) < ((n_23 : Nat) : Int) from by omega) hM (lv_sub hl [2, 3, 4, 5, 6, 7, 0] rfl)
              · refine lv_iload hx hb dX6_feed_69 (lv_at hl 4 rfl) ?_
                refine lv_goto (tgt := 76) hx hb dX6_feed_71 (by decide) ?_
                refine lv_istore (lv' := [(7, .int p3), (0, .ref h0), (1, .int p0), (2, .int p1), (3, .int p2), (4, .int p3), (5, .int p4), (6, .int k)]) hx hb dX6_feed_76 hl (by decide) rfl (fun ls hl => ?_)
                refine lv_aload_n hx hb dX6_feed_78 rfl (lv_at hl 1 rfl) ?_
                refine mr_get (v := .ref (q 0)) E hM 0 (by decide) (index := 7) (mm_at 2 rfl) rfl rfl dX6_feed_79 ?_
                refine lv_aload_n hx hb dX6_feed_82 rfl (lv_at hl 1 rfl) ?_
                have b_17 : 0 ≤ (F_23 1).toInt ∧ (F_23 1).toInt ≤ 1000 := hM.fb 1 rfl
                refine mr_get (v := .int (F_23 1)) E hM 1 (by decide) (index := 129) (mm_at 1 rfl) rfl rfl dX6_feed_83 ?_
                refine lv_iload hx hb dX6_feed_86 (lv_at hl 7 rfl) ?_
                refine mm_iadd (X := (F_23 1).toInt) (Y := k.toInt) hx hb dX6_feed_88 rfl rfl (by omega) (fun z_18 hz_18 => ?_)
                refine lv_iload hx hb dX6_feed_89 (lv_at hl 0 rfl) ?_
                refine lv_bipush (v := 24) hx hb dX6_feed_91 (by decide) ?_
                refine lv_bipush (v := 8) hx hb dX6_feed_93 (by decide) ?_
                refine lv_iload hx hb dX6_feed_95 (lv_at hl 7 rfl) ?_
                refine lv_iconst (v := 4) hx hb dX6_feed_97 (by decide) ?_
                refine mm_iremU (Y := 4) hx hb dX6_feed_98 num_4 (by omega) (fun z_19 => ?_)
                refine mm_imulU hx hb dX6_feed_99 (fun z_20 => ?_)
                refine mm_isubU hx hb dX6_feed_100 (fun z_21 => ?_)
                refine mm_ishrU hx hb dX6_feed_101 (fun z_22 => ?_)
                refine lv_sipush (v := 255) hx hb dX6_feed_102 (by decide) ?_
                refine mm_iandU hx hb dX6_feed_105 (fun z_23 => ?_)
                refine mr_ast (X := z_18.toInt) E hM 0 1 0 rfl rfl rfl (by omega) mg_0 (by decide) (mm_nbA rfl) (by decide) dX6_feed_106 (fun H locs G_24 eG_24 hM => ?_)
                refine mm_iinc (X := k.toInt) (v := 1) (lv2 := fun z => [(6, .int z), (7, .int p3), (0, .ref h0), (1, .int p0), (2, .int p1), (3, .int p2), (4, .int p3), (5, .int p4)]) hx hb dX6_feed_107 hl (k := 7) rfl rfl (by decide) num_1 (by omega) (by decide) (fun _ => rfl) (fun z_25 ls hz_25 hl => ?_)
                have hl : lv_has ls 8 [(6, .int z_25), (7, .int p3), (0, .ref h0), (1, .int p0), (2, .int p1), (3, .int p2), (4, .int p3), (5, .int p4)] := hl
                refine lv_goto (tgt := 23) hx hb dX6_feed_110 (by decide) ?_
                exact ih_23 _ _ _ F_23 G_24 z_25 (show (0 ≤ z_25.toInt ∧ z_25.toInt ≤ 20) from by omega) (show (F_23 1).toInt = (F 1).toInt from by omega) (show (F 1).toInt ≤ 980 from by omega) (show (20 - z_25.toInt) < ((n_23 : Nat) : Int) from by omega) hM (lv_sub hl [2, 3, 4, 5, 6, 7, 0] rfl)
            · refine lv_iload_n hx hb dX6_feed_58 rfl (lv_at hl 3 rfl) ?_
              refine lv_goto (tgt := 76) hx hb dX6_feed_59 (by decide) ?_
              refine lv_istore (lv' := [(7, .int p2), (0, .ref h0), (1, .int p0), (2, .int p1), (3, .int p2), (4, .int p3), (5, .int p4), (6, .int k)]) hx hb dX6_feed_76 hl (by decide) rfl (fun ls hl => ?_)
              refine lv_aload_n hx hb dX6_feed_78 rfl (lv_at hl 1 rfl) ?_
              refine mr_get (v := .ref (q 0)) E hM 0 (by decide) (index := 7) (mm_at 2 rfl) rfl rfl dX6_feed_79 ?_
              refine lv_aload_n hx hb dX6_feed_82 rfl (lv_at hl 1 rfl) ?_
              have b_26 : 0 ≤ (F_23 1).toInt ∧ (F_23 1).toInt ≤ 1000 := hM.fb 1 rfl
              refine mr_get (v := .int (F_23 1)) E hM 1 (by decide) (index := 129) (mm_at 1 rfl) rfl rfl dX6_feed_83 ?_
              refine lv_iload hx hb dX6_feed_86 (lv_at hl 7 rfl) ?_
              refine mm_iadd (X := (F_23 1).toInt) (Y := k.toInt) hx hb dX6_feed_88 rfl rfl (by omega) (fun z_27 hz_27 => ?_)
              refine lv_iload hx hb dX6_feed_89 (lv_at hl 0 rfl) ?_
              refine lv_bipush (v := 24) hx hb dX6_feed_91 (by decide) ?_
              refine lv_bipush (v := 8) hx hb dX6_feed_93 (by decide) ?_
              refine lv_iload hx hb dX6_feed_95 (lv_at hl 7 rfl) ?_
              refine lv_iconst (v := 4) hx hb dX6_feed_97 (by decide) ?_
              refine mm_iremU (Y := 4) hx hb dX6_feed_98 num_4 (by omega) (fun z_28 => ?_)
              refine mm_imulU hx hb dX6_feed_99 (fun z_29 => ?_)
              refine mm_isubU hx hb dX6_feed_100 (fun z_30 => ?_)
              refine mm_ishrU hx hb dX6_feed_101 (fun z_31 => ?_)
              refine lv_sipush (v := 255) hx hb dX6_feed_102 (by decide) ?_
              refine mm_iandU hx hb dX6_feed_105 (fun z_32 => ?_)
              refine mr_ast (X := z_27.toInt) E hM 0 1 0 rfl rfl rfl (by omega) mg_0 (by decide) (mm_nbA rfl) (by decide) dX6_feed_106 (fun H locs G_33 eG_33 hM => ?_)
              refine mm_iinc (X := k.toInt) (v := 1) (lv2 := fun z => [(6, .int z), (7, .int p2), (0, .ref h0), (1, .int p0), (2, .int p1), (3, .int p2), (4, .int p3), (5, .int p4)]) hx hb dX6_feed_107 hl (k := 7) rfl rfl (by decide) num_1 (by omega) (by decide) (fun _ => rfl) (fun z_34 ls hz_34 hl => ?_)
              have hl : lv_has ls 8 [(6, .int z_34), (7, .int p2), (0, .ref h0), (1, .int p0), (2, .int p1), (3, .int p2), (4, .int p3), (5, .int p4)] := hl
              refine lv_goto (tgt := 23) hx hb dX6_feed_110 (by decide) ?_
              exact ih_23 _ _ _ F_23 G_33 z_34 (show (0 ≤ z_34.toInt ∧ z_34.toInt ≤ 20) from by omega) (show (F_23 1).toInt = (F 1).toInt from by omega) (show (F 1).toInt ≤ 980 from by omega) (show (20 - z_34.toInt) < ((n_23 : Nat) : Int) from by omega) hM (lv_sub hl [2, 3, 4, 5, 6, 7, 0] rfl)
          · refine lv_iload_n hx hb dX6_feed_47 rfl (lv_at hl 2 rfl) ?_
            refine lv_goto (tgt := 76) hx hb dX6_feed_48 (by decide) ?_
            refine lv_istore (lv' := [(7, .int p1), (0, .ref h0), (1, .int p0), (2, .int p1), (3, .int p2), (4, .int p3), (5, .int p4), (6, .int k)]) hx hb dX6_feed_76 hl (by decide) rfl (fun ls hl => ?_)
            refine lv_aload_n hx hb dX6_feed_78 rfl (lv_at hl 1 rfl) ?_
            refine mr_get (v := .ref (q 0)) E hM 0 (by decide) (index := 7) (mm_at 2 rfl) rfl rfl dX6_feed_79 ?_
            refine lv_aload_n hx hb dX6_feed_82 rfl (lv_at hl 1 rfl) ?_
            have b_35 : 0 ≤ (F_23 1).toInt ∧ (F_23 1).toInt ≤ 1000 := hM.fb 1 rfl
            refine mr_get (v := .int (F_23 1)) E hM 1 (by decide) (index := 129) (mm_at 1 rfl) rfl rfl dX6_feed_83 ?_
            refine lv_iload hx hb dX6_feed_86 (lv_at hl 7 rfl) ?_
            refine mm_iadd (X := (F_23 1).toInt) (Y := k.toInt) hx hb dX6_feed_88 rfl rfl (by omega) (fun z_36 hz_36 => ?_)
            refine lv_iload hx hb dX6_feed_89 (lv_at hl 0 rfl) ?_
            refine lv_bipush (v := 24) hx hb dX6_feed_91 (by decide) ?_
            refine lv_bipush (v := 8) hx hb dX6_feed_93 (by decide) ?_
            refine lv_iload hx hb dX6_feed_95 (lv_at hl 7 rfl) ?_
            refine lv_iconst (v := 4) hx hb dX6_feed_97 (by decide) ?_
            refine mm_iremU (Y := 4) hx hb dX6_feed_98 num_4 (by omega) (fun z_37 => ?_)
            refine mm_imulU hx hb dX6_feed_99 (fun z_38 => ?_)
            refine mm_isubU hx hb dX6_feed_100 (fun z_39 => ?_)
            refine mm_ishrU hx hb dX6_feed_101 (fun z_40 => ?_)
            refine lv_sipush (v := 255) hx hb dX6_feed_102 (by decide) ?_
            refine mm_iandU hx hb dX6_feed_105 (fun z_41 => ?_)
            refine mr_ast (X := z_36.toInt) E hM 0 1 0 rfl rfl rfl (by omega) mg_0 (by decide) (mm_nbA rfl) (by decide) dX6_feed_106 (fun H locs G_42 eG_42 hM => ?_)
            refine mm_iinc (X := k.toInt) (v := 1) (lv2 := fun z => [(6, .int z), (7, .int p1), (0, .ref h0), (1, .int p0), (2, .int p1), (3, .int p2), (4, .int p3), (5, .int p4)]) hx hb dX6_feed_107 hl (k := 7) rfl rfl (by decide) num_1 (by omega) (by decide) (fun _ => rfl) (fun z_43 ls hz_43 hl => ?_)
            have hl : lv_has ls 8 [(6, .int z_43), (7, .int p1), (0, .ref h0), (1, .int p0), (2, .int p1), (3, .int p2), (4, .int p3), (5, .int p4)] := hl
            refine lv_goto (tgt := 23) hx hb dX6_feed_110 (by decide) ?_
            exact ih_23 _ _ _ F_23 G_42 z_43 (show (0 ≤ z_43.toInt ∧ z_43.toInt ≤ 20) from by omega) (show (F_23 1).toInt = (F 1).toInt from by omega) (show (F 1).toInt ≤ 980 from by omega) (show (20 - z_43.toInt) < ((n_23 : Nat) : Int) from by omega) hM (lv_sub hl [2, 3, 4, 5, 6, 7, 0] rfl)
        · refine lv_iload_n hx hb dX6_feed_36 rfl (lv_at hl 1 rfl) ?_
          refine lv_goto (tgt := 76) hx hb dX6_feed_37 (by decide) ?_
          refine lv_istore (lv' := [(7, .int p0), (0, .ref h0), (1, .int p0), (2, .int p1), (3, .int p2), (4, .int p3), (5, .int p4), (6, .int k)]) hx hb dX6_feed_76 hl (by decide) rfl (fun ls hl => ?_)
          refine lv_aload_n hx hb dX6_feed_78 rfl (lv_at hl 1 rfl) ?_
          refine mr_get (v := .ref (q 0)) E hM 0 (by decide) (index := 7) (mm_at 2 rfl) rfl rfl dX6_feed_79 ?_
          refine lv_aload_n hx hb dX6_feed_82 rfl (lv_at hl 1 rfl) ?_
          have b_44 : 0 ≤ (F_23 1).toInt ∧ (F_23 1).toInt ≤ 1000 := hM.fb 1 rfl
          refine mr_get (v := .int (F_23 1)) E hM 1 (by decide) (index := 129) (mm_at 1 rfl) rfl rfl dX6_feed_83 ?_
          refine lv_iload hx hb dX6_feed_86 (lv_at hl 7 rfl) ?_
          refine mm_iadd (X := (F_23 1).toInt) (Y := k.toInt) hx hb dX6_feed_88 rfl rfl (by omega) (fun z_45 hz_45 => ?_)
          refine lv_iload hx hb dX6_feed_89 (lv_at hl 0 rfl) ?_
          refine lv_bipush (v := 24) hx hb dX6_feed_91 (by decide) ?_
          refine lv_bipush (v := 8) hx hb dX6_feed_93 (by decide) ?_
          refine lv_iload hx hb dX6_feed_95 (lv_at hl 7 rfl) ?_
          refine lv_iconst (v := 4) hx hb dX6_feed_97 (by decide) ?_
          refine mm_iremU (Y := 4) hx hb dX6_feed_98 num_4 (by omega) (fun z_46 => ?_)
          refine mm_imulU hx hb dX6_feed_99 (fun z_47 => ?_)
          refine mm_isubU hx hb dX6_feed_100 (fun z_48 => ?_)
          refine mm_ishrU hx hb dX6_feed_101 (fun z_49 => ?_)
          refine lv_sipush (v := 255) hx hb dX6_feed_102 (by decide) ?_
          refine mm_iandU hx hb dX6_feed_105 (fun z_50 => ?_)
          refine mr_ast (X := z_45.toInt) E hM 0 1 0 rfl rfl rfl (by omega) mg_0 (by decide) (mm_nbA rfl) (by decide) dX6_feed_106 (fun H locs G_51 eG_51 hM => ?_)
          refine mm_iinc (X := k.toInt) (v := 1) (lv2 := fun z => [(6, .int z), (7, .int p0), (0, .ref h0), (1, .int p0), (2, .int p1), (3, .int p2), (4, .int p3), (5, .int p4)]) hx hb dX6_feed_107 hl (k := 7) rfl rfl (by decide) num_1 (by omega) (by decide) (fun _ => rfl) (fun z_52 ls hz_52 hl => ?_)
          have hl : lv_has ls 8 [(6, .int z_52), (7, .int p0), (0, .ref h0), (1, .int p0), (2, .int p1), (3, .int p2), (4, .int p3), (5, .int p4)] := hl
          refine lv_goto (tgt := 23) hx hb dX6_feed_110 (by decide) ?_
          exact ih_23 _ _ _ F_23 G_51 z_52 (show (0 ≤ z_52.toInt ∧ z_52.toInt ≤ 20) from by omega) (show (F_23 1).toInt = (F 1).toInt from by omega) (show (F 1).toInt ≤ 980 from by omega) (show (20 - z_52.toInt) < ((n_23 : Nat) : Int) from by omega) hM (lv_sub hl [2, 3, 4, 5, 6, 7, 0] rfl)
  refine lv_aload_n hx hb dX6_feed_0 rfl (lv_at hl 0 rfl) ?_
  refine lv_iconst (v := 0) hx hb dX6_feed_1 (by decide) ?_
  refine mr_put (v := 0) E hM 2 (by decide) (index := 126) (mm_at 3 rfl) rfl rfl (by decide +kernel) ms_2 (mm_nb rfl) (by decide) dX6_feed_2 (fun H locs hM => ?_)
  refine lv_aload_n hx hb dX6_feed_5 rfl (lv_at hl 0 rfl) ?_
  have b_53 : 0 ≤ (F 1).toInt ∧ (F 1).toInt ≤ 1000 := hM.fb 1 rfl
  refine mr_get (v := .int (F 1)) E hM 1 (by decide) (index := 129) (mm_at 1 rfl) rfl rfl dX6_feed_6 ?_
  refine lv_bipush (v := 20) hx hb dX6_feed_9 (by decide) ?_
  refine mm_iadd (X := (F 1).toInt) (Y := 20) hx hb dX6_feed_11 rfl num_20 (by omega) (fun z_54 hz_54 => ?_)
  refine lv_sipush (v := 1000) hx hb dX6_feed_12 (by decide) ?_
  refine mm_icmp_le (X := z_54.toInt) (Y := 1000) (tgt := 20) hx hb dX6_feed_15 (by decide) rfl num_1000 (fun c_55 => ?_) (fun c_55 => ?_)
  · refine lv_iconst (v := 0) hx hb dX6_feed_20 (by decide) ?_
    refine lv_istore (lv' := [(6, .int 0), (0, .ref h0), (1, .int p0), (2, .int p1), (3, .int p2), (4, .int p3), (5, .int p4)]) hx hb dX6_feed_21 hl (by decide) rfl (fun ls hl => ?_)
    exact B_23 4294967296 _ _ _ (upd F 2 0) G 0 (show (0 ≤ (0 : Int32).toInt ∧ (0 : Int32).toInt ≤ 20) from by have n_0 := num_0; have n9_2 := num_0; omega) (show (F 1).toInt = (F 1).toInt from by have n_0 := num_0; have n9_2 := num_0; omega) (show (F 1).toInt ≤ 980 from by have n_0 := num_0; have n9_2 := num_0; omega) (show (20 - (0 : Int32).toInt) < ((4294967296 : Nat) : Int) from by have n_0 := num_0; have n9_2 := num_0; omega) hM (lv_sub hl [1, 2, 3, 4, 5, 6, 0] rfl)
  · refine lv_iconst (v := (-1)) hx hb dX6_feed_18 (by decide) ?_
    exact mr_ri E hr hlk hsz hM (show ((F 1).toInt ≤ 980 ∧ ((-1) : Int32).toInt = (F 1).toInt + 20 ∧ (F 1).toInt = (F 1).toInt + 20) ∨ (980 < (F 1).toInt ∧ ((-1) : Int32).toInt = -1 ∧ (F 1).toInt = (F 1).toInt) from by have n9 := num_m1; have n9_2 := num_0; omega) dX6_feed_19
end
